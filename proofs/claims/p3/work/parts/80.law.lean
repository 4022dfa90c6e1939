/-! THE LAW'S LOOP OVER PURE MEMORY (own work): X is any property of states that one instruction carries backwards; WL: from this place on it is good -/
def wlX (kt : Nat → Option mc_E) (CB SB : Nat) (X : mc_S → Prop) : Prop :=
  (∀ (F : Nat) (x : Instr) (n : Nat) (S0 S : mc_S), mc_lawcd S0.1 = some (x, n) → mc_step kt (mc_call kt F 11) 11 7 false (some .boolean) x n S0 = some (.inl S) → S.2.2.2.length ≤ CB ∧ mc_sz S.2.2.2 ≤ SB → X S → X S0) ∧
  (∀ (pc : Nat) (L L' : List (Nat × Value)) (st : List Value) (M : mc_M), (∀ q ∈ L, q ∈ L') → X (pc, L, st, M) → X (pc, L', st, M)) ∧
  ∀ (L : List (Nat × Value)) (M : mc_M), M.length ≤ CB → mc_sz M ≤ SB → X (1660, L, [.int 1], M)
theorem wmem_s {l : List (Nat × Nat)} {n j : Nat} (h : l.all (fun q => decide (q.1 < 1000)) = true) : wmem l (1000 + n) j = false := wmem_no (fun q hq hh => by
  have h1 := of_decide_eq_true (List.all_eq_true.mp h q hq)
  have h2 := hh.1
  omega)
def WL (kt : Nat → Option mc_E) (CB SB : Nat) (X : mc_S → Prop) (pc : Nat) (L : List (Nat × Value)) (st : List Value) (T : wq_T) (H : wq_H) : Prop := (T.2.1 ≤ CB ∧ T.2.2.1 ≤ SB) ∧ ∀ M, wq_R kt M T H → X (pc, L, st, M)
theorem wl_of {kt : Nat → Option mc_E} {CB SB : Nat} {X : mc_S → Prop} (hX : wlX kt CB SB X) {pc : Nat} {L : List (Nat × Value)} {st : List Value} {T : wq_T} {H : wq_H} (hb : T.2.1 ≤ CB ∧ T.2.2.1 ≤ SB) {x : Instr} {n : Nat} (hd : mc_lawcd pc = some (x, n)) (h : wq_s kt 11 (11, 7, false, some .boolean) x n pc L st T H (WL kt CB SB X)) : WL kt CB SB X pc L st T H := ⟨hb, fun M hM => by
  obtain ⟨F, pc', L', st', M', T', H', h1, h2, h3⟩ := h M hM
  have hl := h2.1
  have hz := h2.2.1
  have hb' := h3.1
  exact hX.1 F x n (pc, L, st, M) (pc', L', st', M') hd h1 ⟨by show M'.length ≤ CB; omega, by show mc_sz M' ≤ SB; omega⟩ (h3.2 M' h2)⟩
theorem WL.loc {kt : Nat → Option mc_E} {CB SB : Nat} {X : mc_S → Prop} (hX : wlX kt CB SB X) {pc : Nat} {L L' : List (Nat × Value)} {st : List Value} {T : wq_T} {H : wq_H} (hq : ∀ q ∈ L, q ∈ L') (h : WL kt CB SB X pc L st T H) : WL kt CB SB X pc L' st T H := ⟨h.1, fun M hM => hX.2.1 pc L L' st M hq (h.2 M hM)⟩
theorem WL.fin {kt : Nat → Option mc_E} {CB SB : Nat} {X : mc_S → Prop} (hX : wlX kt CB SB X) {L : List (Nat × Value)} {T : wq_T} {H : wq_H} (hb : T.2.1 ≤ CB ∧ T.2.2.1 ≤ SB) : WL kt CB SB X 1660 L [vI 1] T H := ⟨hb, fun M hM => hX.2.2 L M (by have := hM.1; omega) (by have := hM.2.1; omega)⟩
/-- what holds at the head of the law's loop -/
def wlI (Len x m o : Nat) (T : wq_T) (H : wq_H) : Prop := WT T H ∧ T.2.2.2 0 = some (1000 + Len) ∧ T.2.2.2 x = some 1 ∧ T.2.2.2 m = some 42 ∧ T.2.2.2 o = some 73 ∧ wKI H m = 1 ∧ H x 9 = H m 6
abbrev wlL (i : Int) (x m o : Nat) : List (Nat × Value) := [(4, vI i), (3, .ref o), (2, .ref m), (1, .ref x), (0, .ref 0)]
/-- and what the two have in common: THE TAPE; two PARISHES with six persons each -/
def wlJ (Len x m o : Nat) (T : wq_T) (H : wq_H) : Prop := wlI Len x m o T H ∧ XI T H x m

theorem cL_20 : mc_lawcd 20 = some (.iconst 0, 1) := by decide +kernel
theorem cL_21 : mc_lawcd 21 = some (.istore 4, 2) := by decide +kernel
theorem cL_23 : mc_lawcd 23 = some (.iload 4, 2) := by decide +kernel
theorem cL_25 : mc_lawcd 25 = some (.aload_n 0, 1) := by decide +kernel
theorem cL_26 : mc_lawcd 26 = some (.arraylength, 1) := by decide +kernel
theorem cL_27 : mc_lawcd 27 = some (.bipush 6, 2) := by decide +kernel
theorem cL_29 : mc_lawcd 29 = some (.isub, 1) := by decide +kernel
theorem cL_30 : mc_lawcd 30 = some (.if_icmp .gt 1629, 3) := by decide +kernel
theorem cL_33 : mc_lawcd 33 = some (.aload_n 0, 1) := by decide +kernel
theorem cL_34 : mc_lawcd 34 = some (.iload 4, 2) := by decide +kernel
theorem cL_36 : mc_lawcd 36 = some (.iaload, 1) := by decide +kernel
theorem cL_37 : mc_lawcd 37 = some (.bipush 63, 2) := by decide +kernel
theorem cL_39 : mc_lawcd 39 = some (.iand, 1) := by decide +kernel
theorem cL_40 : mc_lawcd 40 = some (.tableswitch 1613 0 49 #[216, 289, 314, 327, 340, 365, 414, 463, 476, 513, 538, 563, 576, 589, 602, 615, 628, 665, 678, 715, 752, 789, 842, 879, 904, 917, 954, 979, 1016, 1069, 1122, 1135, 1160, 1185, 1210, 1223, 1276, 1289, 1302, 1327, 1364, 1389, 1414, 1427, 1464, 1477, 1490, 1547, 1575, 1600], 216) := by decide +kernel
theorem cL_256 : mc_lawcd 256 = some (.aload_n 1, 1) := by decide +kernel
theorem cL_257 : mc_lawcd 257 = some (.aload_n 0, 1) := by decide +kernel
theorem cL_258 : mc_lawcd 258 = some (.iload 4, 2) := by decide +kernel
theorem cL_260 : mc_lawcd 260 = some (.iconst 1, 1) := by decide +kernel
theorem cL_261 : mc_lawcd 261 = some (.iadd, 1) := by decide +kernel
theorem cL_262 : mc_lawcd 262 = some (.iaload, 1) := by decide +kernel
theorem cL_263 : mc_lawcd 263 = some (.aload_n 0, 1) := by decide +kernel
theorem cL_264 : mc_lawcd 264 = some (.iload 4, 2) := by decide +kernel
theorem cL_266 : mc_lawcd 266 = some (.iconst 2, 1) := by decide +kernel
theorem cL_267 : mc_lawcd 267 = some (.iadd, 1) := by decide +kernel
theorem cL_268 : mc_lawcd 268 = some (.iaload, 1) := by decide +kernel
theorem cL_269 : mc_lawcd 269 = some (.aload_n 0, 1) := by decide +kernel
theorem cL_270 : mc_lawcd 270 = some (.iload 4, 2) := by decide +kernel
theorem cL_272 : mc_lawcd 272 = some (.iconst 3, 1) := by decide +kernel
theorem cL_273 : mc_lawcd 273 = some (.iadd, 1) := by decide +kernel
theorem cL_274 : mc_lawcd 274 = some (.iaload, 1) := by decide +kernel
theorem cL_275 : mc_lawcd 275 = some (.aload_n 0, 1) := by decide +kernel
theorem cL_276 : mc_lawcd 276 = some (.iload 4, 2) := by decide +kernel
theorem cL_278 : mc_lawcd 278 = some (.iconst 4, 1) := by decide +kernel
theorem cL_279 : mc_lawcd 279 = some (.iadd, 1) := by decide +kernel
theorem cL_280 : mc_lawcd 280 = some (.iaload, 1) := by decide +kernel
theorem cL_281 : mc_lawcd 281 = some (.aload_n 0, 1) := by decide +kernel
theorem cL_282 : mc_lawcd 282 = some (.iload 4, 2) := by decide +kernel
theorem cL_284 : mc_lawcd 284 = some (.iconst 5, 1) := by decide +kernel
theorem cL_285 : mc_lawcd 285 = some (.iadd, 1) := by decide +kernel
theorem cL_286 : mc_lawcd 286 = some (.iaload, 1) := by decide +kernel
theorem cL_287 : mc_lawcd 287 = some (.invokevirtual 19, 3) := by decide +kernel
theorem cL_290 : mc_lawcd 290 = some (.pop, 1) := by decide +kernel
theorem cL_291 : mc_lawcd 291 = some (.aload_n 2, 1) := by decide +kernel
theorem cL_292 : mc_lawcd 292 = some (.aload_n 0, 1) := by decide +kernel
theorem cL_293 : mc_lawcd 293 = some (.iload 4, 2) := by decide +kernel
theorem cL_295 : mc_lawcd 295 = some (.iconst 1, 1) := by decide +kernel
theorem cL_296 : mc_lawcd 296 = some (.iadd, 1) := by decide +kernel
theorem cL_297 : mc_lawcd 297 = some (.iaload, 1) := by decide +kernel
theorem cL_298 : mc_lawcd 298 = some (.aload_n 0, 1) := by decide +kernel
theorem cL_299 : mc_lawcd 299 = some (.iload 4, 2) := by decide +kernel
theorem cL_301 : mc_lawcd 301 = some (.iconst 2, 1) := by decide +kernel
theorem cL_302 : mc_lawcd 302 = some (.iadd, 1) := by decide +kernel
theorem cL_303 : mc_lawcd 303 = some (.iaload, 1) := by decide +kernel
theorem cL_304 : mc_lawcd 304 = some (.aload_n 0, 1) := by decide +kernel
theorem cL_305 : mc_lawcd 305 = some (.iload 4, 2) := by decide +kernel
theorem cL_307 : mc_lawcd 307 = some (.iconst 3, 1) := by decide +kernel
theorem cL_308 : mc_lawcd 308 = some (.iadd, 1) := by decide +kernel
theorem cL_309 : mc_lawcd 309 = some (.iaload, 1) := by decide +kernel
theorem cL_310 : mc_lawcd 310 = some (.aload_n 0, 1) := by decide +kernel
theorem cL_311 : mc_lawcd 311 = some (.iload 4, 2) := by decide +kernel
theorem cL_313 : mc_lawcd 313 = some (.iconst 4, 1) := by decide +kernel
theorem cL_314 : mc_lawcd 314 = some (.iadd, 1) := by decide +kernel
theorem cL_315 : mc_lawcd 315 = some (.iaload, 1) := by decide +kernel
theorem cL_316 : mc_lawcd 316 = some (.aload_n 0, 1) := by decide +kernel
theorem cL_317 : mc_lawcd 317 = some (.iload 4, 2) := by decide +kernel
theorem cL_319 : mc_lawcd 319 = some (.iconst 5, 1) := by decide +kernel
theorem cL_320 : mc_lawcd 320 = some (.iadd, 1) := by decide +kernel
theorem cL_321 : mc_lawcd 321 = some (.iaload, 1) := by decide +kernel
theorem cL_322 : mc_lawcd 322 = some (.invokevirtual 23, 3) := by decide +kernel
theorem cL_325 : mc_lawcd 325 = some (.pop, 1) := by decide +kernel
theorem cL_326 : mc_lawcd 326 = some (.goto 1327, 3) := by decide +kernel
theorem cL_329 : mc_lawcd 329 = some (.aload_n 1, 1) := by decide +kernel
theorem cL_330 : mc_lawcd 330 = some (.aload_n 0, 1) := by decide +kernel
theorem cL_331 : mc_lawcd 331 = some (.iload 4, 2) := by decide +kernel
theorem cL_333 : mc_lawcd 333 = some (.iconst 1, 1) := by decide +kernel
theorem cL_334 : mc_lawcd 334 = some (.iadd, 1) := by decide +kernel
theorem cL_335 : mc_lawcd 335 = some (.iaload, 1) := by decide +kernel
theorem cL_336 : mc_lawcd 336 = some (.invokevirtual 24, 3) := by decide +kernel
theorem cL_339 : mc_lawcd 339 = some (.aload_n 2, 1) := by decide +kernel
theorem cL_340 : mc_lawcd 340 = some (.aload_n 0, 1) := by decide +kernel
theorem cL_341 : mc_lawcd 341 = some (.iload 4, 2) := by decide +kernel
theorem cL_343 : mc_lawcd 343 = some (.iconst 1, 1) := by decide +kernel
theorem cL_344 : mc_lawcd 344 = some (.iadd, 1) := by decide +kernel
theorem cL_345 : mc_lawcd 345 = some (.iaload, 1) := by decide +kernel
theorem cL_346 : mc_lawcd 346 = some (.invokevirtual 27, 3) := by decide +kernel
theorem cL_349 : mc_lawcd 349 = some (.if_icmp .eq 1304, 3) := by decide +kernel
theorem cL_352 : mc_lawcd 352 = some (.iconst 0, 1) := by decide +kernel
theorem cL_353 : mc_lawcd 353 = some (.ireturn, 1) := by decide +kernel
theorem cL_354 : mc_lawcd 354 = some (.aload_n 1, 1) := by decide +kernel
theorem cL_355 : mc_lawcd 355 = some (.invokevirtual 28, 3) := by decide +kernel
theorem cL_358 : mc_lawcd 358 = some (.pop, 1) := by decide +kernel
theorem cL_359 : mc_lawcd 359 = some (.aload_n 2, 1) := by decide +kernel
theorem cL_360 : mc_lawcd 360 = some (.invokevirtual 32, 3) := by decide +kernel
theorem cL_363 : mc_lawcd 363 = some (.pop, 1) := by decide +kernel
theorem cL_364 : mc_lawcd 364 = some (.goto 1289, 3) := by decide +kernel
theorem cL_367 : mc_lawcd 367 = some (.aload_n 1, 1) := by decide +kernel
theorem cL_368 : mc_lawcd 368 = some (.invokevirtual 33, 3) := by decide +kernel
theorem cL_371 : mc_lawcd 371 = some (.pop, 1) := by decide +kernel
theorem cL_372 : mc_lawcd 372 = some (.aload_n 2, 1) := by decide +kernel
theorem cL_373 : mc_lawcd 373 = some (.invokevirtual 36, 3) := by decide +kernel
theorem cL_376 : mc_lawcd 376 = some (.pop, 1) := by decide +kernel
theorem cL_377 : mc_lawcd 377 = some (.goto 1276, 3) := by decide +kernel
theorem cL_380 : mc_lawcd 380 = some (.aload_n 1, 1) := by decide +kernel
theorem cL_381 : mc_lawcd 381 = some (.aload_n 0, 1) := by decide +kernel
theorem cL_382 : mc_lawcd 382 = some (.iload 4, 2) := by decide +kernel
theorem cL_384 : mc_lawcd 384 = some (.iconst 1, 1) := by decide +kernel
theorem cL_385 : mc_lawcd 385 = some (.iadd, 1) := by decide +kernel
theorem cL_386 : mc_lawcd 386 = some (.iaload, 1) := by decide +kernel
theorem cL_387 : mc_lawcd 387 = some (.invokevirtual 37, 3) := by decide +kernel
theorem cL_390 : mc_lawcd 390 = some (.pop, 1) := by decide +kernel
theorem cL_391 : mc_lawcd 391 = some (.aload_n 2, 1) := by decide +kernel
theorem cL_392 : mc_lawcd 392 = some (.aload_n 0, 1) := by decide +kernel
theorem cL_393 : mc_lawcd 393 = some (.iload 4, 2) := by decide +kernel
theorem cL_395 : mc_lawcd 395 = some (.iconst 1, 1) := by decide +kernel
theorem cL_396 : mc_lawcd 396 = some (.iadd, 1) := by decide +kernel
theorem cL_397 : mc_lawcd 397 = some (.iaload, 1) := by decide +kernel
theorem cL_398 : mc_lawcd 398 = some (.invokevirtual 40, 3) := by decide +kernel
theorem cL_401 : mc_lawcd 401 = some (.pop, 1) := by decide +kernel
theorem cL_402 : mc_lawcd 402 = some (.goto 1251, 3) := by decide +kernel
theorem cL_405 : mc_lawcd 405 = some (.aload_n 1, 1) := by decide +kernel
theorem cL_406 : mc_lawcd 406 = some (.aload_n 0, 1) := by decide +kernel
theorem cL_407 : mc_lawcd 407 = some (.iload 4, 2) := by decide +kernel
theorem cL_409 : mc_lawcd 409 = some (.iconst 1, 1) := by decide +kernel
theorem cL_410 : mc_lawcd 410 = some (.iadd, 1) := by decide +kernel
theorem cL_411 : mc_lawcd 411 = some (.iaload, 1) := by decide +kernel
theorem cL_412 : mc_lawcd 412 = some (.aload_n 0, 1) := by decide +kernel
theorem cL_413 : mc_lawcd 413 = some (.iload 4, 2) := by decide +kernel
theorem cL_415 : mc_lawcd 415 = some (.iconst 2, 1) := by decide +kernel
theorem cL_416 : mc_lawcd 416 = some (.iadd, 1) := by decide +kernel
theorem cL_417 : mc_lawcd 417 = some (.iaload, 1) := by decide +kernel
theorem cL_418 : mc_lawcd 418 = some (.aload_n 0, 1) := by decide +kernel
theorem cL_419 : mc_lawcd 419 = some (.iload 4, 2) := by decide +kernel
theorem cL_421 : mc_lawcd 421 = some (.iconst 3, 1) := by decide +kernel
theorem cL_422 : mc_lawcd 422 = some (.iadd, 1) := by decide +kernel
theorem cL_423 : mc_lawcd 423 = some (.iaload, 1) := by decide +kernel
theorem cL_424 : mc_lawcd 424 = some (.invokevirtual 41, 3) := by decide +kernel
theorem cL_427 : mc_lawcd 427 = some (.pop, 1) := by decide +kernel
theorem cL_428 : mc_lawcd 428 = some (.aload_n 2, 1) := by decide +kernel
theorem cL_429 : mc_lawcd 429 = some (.aload_n 0, 1) := by decide +kernel
theorem cL_430 : mc_lawcd 430 = some (.iload 4, 2) := by decide +kernel
theorem cL_432 : mc_lawcd 432 = some (.iconst 1, 1) := by decide +kernel
theorem cL_433 : mc_lawcd 433 = some (.iadd, 1) := by decide +kernel
theorem cL_434 : mc_lawcd 434 = some (.iaload, 1) := by decide +kernel
theorem cL_435 : mc_lawcd 435 = some (.aload_n 0, 1) := by decide +kernel
theorem cL_436 : mc_lawcd 436 = some (.iload 4, 2) := by decide +kernel
theorem cL_438 : mc_lawcd 438 = some (.iconst 2, 1) := by decide +kernel
theorem cL_439 : mc_lawcd 439 = some (.iadd, 1) := by decide +kernel
theorem cL_440 : mc_lawcd 440 = some (.iaload, 1) := by decide +kernel
theorem cL_441 : mc_lawcd 441 = some (.aload_n 0, 1) := by decide +kernel
theorem cL_442 : mc_lawcd 442 = some (.iload 4, 2) := by decide +kernel
theorem cL_444 : mc_lawcd 444 = some (.iconst 3, 1) := by decide +kernel
theorem cL_445 : mc_lawcd 445 = some (.iadd, 1) := by decide +kernel
theorem cL_446 : mc_lawcd 446 = some (.iaload, 1) := by decide +kernel
theorem cL_447 : mc_lawcd 447 = some (.invokevirtual 45, 3) := by decide +kernel
theorem cL_450 : mc_lawcd 450 = some (.pop, 1) := by decide +kernel
theorem cL_451 : mc_lawcd 451 = some (.goto 1202, 3) := by decide +kernel
theorem cL_454 : mc_lawcd 454 = some (.aload_n 1, 1) := by decide +kernel
theorem cL_455 : mc_lawcd 455 = some (.aload_n 0, 1) := by decide +kernel
theorem cL_456 : mc_lawcd 456 = some (.iload 4, 2) := by decide +kernel
theorem cL_458 : mc_lawcd 458 = some (.iconst 1, 1) := by decide +kernel
theorem cL_459 : mc_lawcd 459 = some (.iadd, 1) := by decide +kernel
theorem cL_460 : mc_lawcd 460 = some (.iaload, 1) := by decide +kernel
theorem cL_461 : mc_lawcd 461 = some (.aload_n 0, 1) := by decide +kernel
theorem cL_462 : mc_lawcd 462 = some (.iload 4, 2) := by decide +kernel
theorem cL_464 : mc_lawcd 464 = some (.iconst 2, 1) := by decide +kernel
theorem cL_465 : mc_lawcd 465 = some (.iadd, 1) := by decide +kernel
theorem cL_466 : mc_lawcd 466 = some (.iaload, 1) := by decide +kernel
theorem cL_467 : mc_lawcd 467 = some (.aload_n 0, 1) := by decide +kernel
theorem cL_468 : mc_lawcd 468 = some (.iload 4, 2) := by decide +kernel
theorem cL_470 : mc_lawcd 470 = some (.iconst 3, 1) := by decide +kernel
theorem cL_471 : mc_lawcd 471 = some (.iadd, 1) := by decide +kernel
theorem cL_472 : mc_lawcd 472 = some (.iaload, 1) := by decide +kernel
theorem cL_473 : mc_lawcd 473 = some (.invokevirtual 46, 3) := by decide +kernel
theorem cL_476 : mc_lawcd 476 = some (.pop, 1) := by decide +kernel
theorem cL_477 : mc_lawcd 477 = some (.aload_n 2, 1) := by decide +kernel
theorem cL_478 : mc_lawcd 478 = some (.aload_n 0, 1) := by decide +kernel
theorem cL_479 : mc_lawcd 479 = some (.iload 4, 2) := by decide +kernel
theorem cL_481 : mc_lawcd 481 = some (.iconst 1, 1) := by decide +kernel
theorem cL_482 : mc_lawcd 482 = some (.iadd, 1) := by decide +kernel
theorem cL_483 : mc_lawcd 483 = some (.iaload, 1) := by decide +kernel
theorem cL_484 : mc_lawcd 484 = some (.aload_n 0, 1) := by decide +kernel
theorem cL_485 : mc_lawcd 485 = some (.iload 4, 2) := by decide +kernel
theorem cL_487 : mc_lawcd 487 = some (.iconst 2, 1) := by decide +kernel
theorem cL_488 : mc_lawcd 488 = some (.iadd, 1) := by decide +kernel
theorem cL_489 : mc_lawcd 489 = some (.iaload, 1) := by decide +kernel
theorem cL_490 : mc_lawcd 490 = some (.aload_n 0, 1) := by decide +kernel
theorem cL_491 : mc_lawcd 491 = some (.iload 4, 2) := by decide +kernel
theorem cL_493 : mc_lawcd 493 = some (.iconst 3, 1) := by decide +kernel
theorem cL_494 : mc_lawcd 494 = some (.iadd, 1) := by decide +kernel
theorem cL_495 : mc_lawcd 495 = some (.iaload, 1) := by decide +kernel
theorem cL_496 : mc_lawcd 496 = some (.invokevirtual 49, 3) := by decide +kernel
theorem cL_499 : mc_lawcd 499 = some (.pop, 1) := by decide +kernel
theorem cL_500 : mc_lawcd 500 = some (.goto 1153, 3) := by decide +kernel
theorem cL_503 : mc_lawcd 503 = some (.aload_n 1, 1) := by decide +kernel
theorem cL_504 : mc_lawcd 504 = some (.invokevirtual 50, 3) := by decide +kernel
theorem cL_507 : mc_lawcd 507 = some (.pop2, 1) := by decide +kernel
theorem cL_508 : mc_lawcd 508 = some (.aload_n 2, 1) := by decide +kernel
theorem cL_509 : mc_lawcd 509 = some (.invokevirtual 54, 3) := by decide +kernel
theorem cL_512 : mc_lawcd 512 = some (.pop2, 1) := by decide +kernel
theorem cL_513 : mc_lawcd 513 = some (.goto 1140, 3) := by decide +kernel
theorem cL_516 : mc_lawcd 516 = some (.aload_n 1, 1) := by decide +kernel
theorem cL_517 : mc_lawcd 517 = some (.aload_n 0, 1) := by decide +kernel
theorem cL_518 : mc_lawcd 518 = some (.iload 4, 2) := by decide +kernel
theorem cL_520 : mc_lawcd 520 = some (.iconst 1, 1) := by decide +kernel
theorem cL_521 : mc_lawcd 521 = some (.iadd, 1) := by decide +kernel
theorem cL_522 : mc_lawcd 522 = some (.iaload, 1) := by decide +kernel
theorem cL_523 : mc_lawcd 523 = some (.aload_n 0, 1) := by decide +kernel
theorem cL_524 : mc_lawcd 524 = some (.iload 4, 2) := by decide +kernel
theorem cL_526 : mc_lawcd 526 = some (.iconst 2, 1) := by decide +kernel
theorem cL_527 : mc_lawcd 527 = some (.iadd, 1) := by decide +kernel
theorem cL_528 : mc_lawcd 528 = some (.iaload, 1) := by decide +kernel
theorem cL_529 : mc_lawcd 529 = some (.invokevirtual 55, 3) := by decide +kernel
theorem cL_532 : mc_lawcd 532 = some (.pop, 1) := by decide +kernel
theorem cL_533 : mc_lawcd 533 = some (.aload_n 2, 1) := by decide +kernel
theorem cL_534 : mc_lawcd 534 = some (.aload_n 0, 1) := by decide +kernel
theorem cL_535 : mc_lawcd 535 = some (.iload 4, 2) := by decide +kernel
theorem cL_537 : mc_lawcd 537 = some (.iconst 1, 1) := by decide +kernel
theorem cL_538 : mc_lawcd 538 = some (.iadd, 1) := by decide +kernel
theorem cL_539 : mc_lawcd 539 = some (.iaload, 1) := by decide +kernel
theorem cL_540 : mc_lawcd 540 = some (.aload_n 0, 1) := by decide +kernel
theorem cL_541 : mc_lawcd 541 = some (.iload 4, 2) := by decide +kernel
theorem cL_543 : mc_lawcd 543 = some (.iconst 2, 1) := by decide +kernel
theorem cL_544 : mc_lawcd 544 = some (.iadd, 1) := by decide +kernel
theorem cL_545 : mc_lawcd 545 = some (.iaload, 1) := by decide +kernel
theorem cL_546 : mc_lawcd 546 = some (.invokevirtual 59, 3) := by decide +kernel
theorem cL_549 : mc_lawcd 549 = some (.pop, 1) := by decide +kernel
theorem cL_550 : mc_lawcd 550 = some (.goto 1103, 3) := by decide +kernel
theorem cL_553 : mc_lawcd 553 = some (.aload_n 1, 1) := by decide +kernel
theorem cL_554 : mc_lawcd 554 = some (.aload_n 0, 1) := by decide +kernel
theorem cL_555 : mc_lawcd 555 = some (.iload 4, 2) := by decide +kernel
theorem cL_557 : mc_lawcd 557 = some (.iconst 1, 1) := by decide +kernel
theorem cL_558 : mc_lawcd 558 = some (.iadd, 1) := by decide +kernel
theorem cL_559 : mc_lawcd 559 = some (.iaload, 1) := by decide +kernel
theorem cL_560 : mc_lawcd 560 = some (.invokevirtual 60, 3) := by decide +kernel
theorem cL_563 : mc_lawcd 563 = some (.pop, 1) := by decide +kernel
theorem cL_564 : mc_lawcd 564 = some (.aload_n 2, 1) := by decide +kernel
theorem cL_565 : mc_lawcd 565 = some (.aload_n 0, 1) := by decide +kernel
theorem cL_566 : mc_lawcd 566 = some (.iload 4, 2) := by decide +kernel
theorem cL_568 : mc_lawcd 568 = some (.iconst 1, 1) := by decide +kernel
theorem cL_569 : mc_lawcd 569 = some (.iadd, 1) := by decide +kernel
theorem cL_570 : mc_lawcd 570 = some (.iaload, 1) := by decide +kernel
theorem cL_571 : mc_lawcd 571 = some (.invokevirtual 63, 3) := by decide +kernel
theorem cL_574 : mc_lawcd 574 = some (.pop, 1) := by decide +kernel
theorem cL_575 : mc_lawcd 575 = some (.goto 1078, 3) := by decide +kernel
theorem cL_578 : mc_lawcd 578 = some (.aload_n 1, 1) := by decide +kernel
theorem cL_579 : mc_lawcd 579 = some (.aload_n 0, 1) := by decide +kernel
theorem cL_580 : mc_lawcd 580 = some (.iload 4, 2) := by decide +kernel
theorem cL_582 : mc_lawcd 582 = some (.iconst 1, 1) := by decide +kernel
theorem cL_583 : mc_lawcd 583 = some (.iadd, 1) := by decide +kernel
theorem cL_584 : mc_lawcd 584 = some (.iaload, 1) := by decide +kernel
theorem cL_585 : mc_lawcd 585 = some (.invokevirtual 64, 3) := by decide +kernel
theorem cL_588 : mc_lawcd 588 = some (.pop, 1) := by decide +kernel
theorem cL_589 : mc_lawcd 589 = some (.aload_n 2, 1) := by decide +kernel
theorem cL_590 : mc_lawcd 590 = some (.aload_n 0, 1) := by decide +kernel
theorem cL_591 : mc_lawcd 591 = some (.iload 4, 2) := by decide +kernel
theorem cL_593 : mc_lawcd 593 = some (.iconst 1, 1) := by decide +kernel
theorem cL_594 : mc_lawcd 594 = some (.iadd, 1) := by decide +kernel
theorem cL_595 : mc_lawcd 595 = some (.iaload, 1) := by decide +kernel
theorem cL_596 : mc_lawcd 596 = some (.invokevirtual 67, 3) := by decide +kernel
theorem cL_599 : mc_lawcd 599 = some (.pop, 1) := by decide +kernel
theorem cL_600 : mc_lawcd 600 = some (.goto 1053, 3) := by decide +kernel
theorem cL_603 : mc_lawcd 603 = some (.aload_n 1, 1) := by decide +kernel
theorem cL_604 : mc_lawcd 604 = some (.invokevirtual 68, 3) := by decide +kernel
theorem cL_607 : mc_lawcd 607 = some (.pop, 1) := by decide +kernel
theorem cL_608 : mc_lawcd 608 = some (.aload_n 2, 1) := by decide +kernel
theorem cL_609 : mc_lawcd 609 = some (.invokevirtual 71, 3) := by decide +kernel
theorem cL_612 : mc_lawcd 612 = some (.pop, 1) := by decide +kernel
theorem cL_613 : mc_lawcd 613 = some (.goto 1040, 3) := by decide +kernel
theorem cL_616 : mc_lawcd 616 = some (.aload_n 1, 1) := by decide +kernel
theorem cL_617 : mc_lawcd 617 = some (.invokevirtual 72, 3) := by decide +kernel
theorem cL_620 : mc_lawcd 620 = some (.pop, 1) := by decide +kernel
theorem cL_621 : mc_lawcd 621 = some (.aload_n 2, 1) := by decide +kernel
theorem cL_622 : mc_lawcd 622 = some (.invokevirtual 75, 3) := by decide +kernel
theorem cL_625 : mc_lawcd 625 = some (.pop, 1) := by decide +kernel
theorem cL_626 : mc_lawcd 626 = some (.goto 1027, 3) := by decide +kernel
theorem cL_629 : mc_lawcd 629 = some (.aload_n 1, 1) := by decide +kernel
theorem cL_630 : mc_lawcd 630 = some (.invokevirtual 76, 3) := by decide +kernel
theorem cL_633 : mc_lawcd 633 = some (.pop, 1) := by decide +kernel
theorem cL_634 : mc_lawcd 634 = some (.aload_n 2, 1) := by decide +kernel
theorem cL_635 : mc_lawcd 635 = some (.invokevirtual 79, 3) := by decide +kernel
theorem cL_638 : mc_lawcd 638 = some (.pop, 1) := by decide +kernel
theorem cL_639 : mc_lawcd 639 = some (.goto 1014, 3) := by decide +kernel
theorem cL_642 : mc_lawcd 642 = some (.aload_n 1, 1) := by decide +kernel
theorem cL_643 : mc_lawcd 643 = some (.invokevirtual 80, 3) := by decide +kernel
theorem cL_646 : mc_lawcd 646 = some (.pop, 1) := by decide +kernel
theorem cL_647 : mc_lawcd 647 = some (.aload_n 2, 1) := by decide +kernel
theorem cL_648 : mc_lawcd 648 = some (.invokevirtual 83, 3) := by decide +kernel
theorem cL_651 : mc_lawcd 651 = some (.pop, 1) := by decide +kernel
theorem cL_652 : mc_lawcd 652 = some (.goto 1001, 3) := by decide +kernel
theorem cL_655 : mc_lawcd 655 = some (.aload_n 1, 1) := by decide +kernel
theorem cL_656 : mc_lawcd 656 = some (.invokevirtual 84, 3) := by decide +kernel
theorem cL_659 : mc_lawcd 659 = some (.pop, 1) := by decide +kernel
theorem cL_660 : mc_lawcd 660 = some (.aload_n 2, 1) := by decide +kernel
theorem cL_661 : mc_lawcd 661 = some (.invokevirtual 87, 3) := by decide +kernel
theorem cL_664 : mc_lawcd 664 = some (.pop, 1) := by decide +kernel
theorem cL_665 : mc_lawcd 665 = some (.goto 988, 3) := by decide +kernel
theorem cL_668 : mc_lawcd 668 = some (.aload_n 1, 1) := by decide +kernel
theorem cL_669 : mc_lawcd 669 = some (.aload_n 0, 1) := by decide +kernel
theorem cL_670 : mc_lawcd 670 = some (.iload 4, 2) := by decide +kernel
theorem cL_672 : mc_lawcd 672 = some (.iconst 1, 1) := by decide +kernel
theorem cL_673 : mc_lawcd 673 = some (.iadd, 1) := by decide +kernel
theorem cL_674 : mc_lawcd 674 = some (.iaload, 1) := by decide +kernel
theorem cL_675 : mc_lawcd 675 = some (.aload_n 0, 1) := by decide +kernel
theorem cL_676 : mc_lawcd 676 = some (.iload 4, 2) := by decide +kernel
theorem cL_678 : mc_lawcd 678 = some (.iconst 2, 1) := by decide +kernel
theorem cL_679 : mc_lawcd 679 = some (.iadd, 1) := by decide +kernel
theorem cL_680 : mc_lawcd 680 = some (.iaload, 1) := by decide +kernel
theorem cL_681 : mc_lawcd 681 = some (.invokevirtual 88, 3) := by decide +kernel
theorem cL_684 : mc_lawcd 684 = some (.pop, 1) := by decide +kernel
theorem cL_685 : mc_lawcd 685 = some (.aload_n 2, 1) := by decide +kernel
theorem cL_686 : mc_lawcd 686 = some (.aload_n 0, 1) := by decide +kernel
theorem cL_687 : mc_lawcd 687 = some (.iload 4, 2) := by decide +kernel
theorem cL_689 : mc_lawcd 689 = some (.iconst 1, 1) := by decide +kernel
theorem cL_690 : mc_lawcd 690 = some (.iadd, 1) := by decide +kernel
theorem cL_691 : mc_lawcd 691 = some (.iaload, 1) := by decide +kernel
theorem cL_692 : mc_lawcd 692 = some (.aload_n 0, 1) := by decide +kernel
theorem cL_693 : mc_lawcd 693 = some (.iload 4, 2) := by decide +kernel
theorem cL_695 : mc_lawcd 695 = some (.iconst 2, 1) := by decide +kernel
theorem cL_696 : mc_lawcd 696 = some (.iadd, 1) := by decide +kernel
theorem cL_697 : mc_lawcd 697 = some (.iaload, 1) := by decide +kernel
theorem cL_698 : mc_lawcd 698 = some (.invokevirtual 92, 3) := by decide +kernel
theorem cL_701 : mc_lawcd 701 = some (.pop, 1) := by decide +kernel
theorem cL_702 : mc_lawcd 702 = some (.goto 951, 3) := by decide +kernel
theorem cL_705 : mc_lawcd 705 = some (.aload_n 1, 1) := by decide +kernel
theorem cL_706 : mc_lawcd 706 = some (.invokevirtual 93, 3) := by decide +kernel
theorem cL_709 : mc_lawcd 709 = some (.pop2, 1) := by decide +kernel
theorem cL_710 : mc_lawcd 710 = some (.aload_n 2, 1) := by decide +kernel
theorem cL_711 : mc_lawcd 711 = some (.invokevirtual 96, 3) := by decide +kernel
theorem cL_714 : mc_lawcd 714 = some (.pop2, 1) := by decide +kernel
theorem cL_715 : mc_lawcd 715 = some (.goto 938, 3) := by decide +kernel
theorem cL_718 : mc_lawcd 718 = some (.aload_n 1, 1) := by decide +kernel
theorem cL_719 : mc_lawcd 719 = some (.aload_n 0, 1) := by decide +kernel
theorem cL_720 : mc_lawcd 720 = some (.iload 4, 2) := by decide +kernel
theorem cL_722 : mc_lawcd 722 = some (.iconst 1, 1) := by decide +kernel
theorem cL_723 : mc_lawcd 723 = some (.iadd, 1) := by decide +kernel
theorem cL_724 : mc_lawcd 724 = some (.iaload, 1) := by decide +kernel
theorem cL_725 : mc_lawcd 725 = some (.aload_n 0, 1) := by decide +kernel
theorem cL_726 : mc_lawcd 726 = some (.iload 4, 2) := by decide +kernel
theorem cL_728 : mc_lawcd 728 = some (.iconst 2, 1) := by decide +kernel
theorem cL_729 : mc_lawcd 729 = some (.iadd, 1) := by decide +kernel
theorem cL_730 : mc_lawcd 730 = some (.iaload, 1) := by decide +kernel
theorem cL_731 : mc_lawcd 731 = some (.invokevirtual 97, 3) := by decide +kernel
theorem cL_734 : mc_lawcd 734 = some (.pop, 1) := by decide +kernel
theorem cL_735 : mc_lawcd 735 = some (.aload_n 2, 1) := by decide +kernel
theorem cL_736 : mc_lawcd 736 = some (.aload_n 0, 1) := by decide +kernel
theorem cL_737 : mc_lawcd 737 = some (.iload 4, 2) := by decide +kernel
theorem cL_739 : mc_lawcd 739 = some (.iconst 1, 1) := by decide +kernel
theorem cL_740 : mc_lawcd 740 = some (.iadd, 1) := by decide +kernel
theorem cL_741 : mc_lawcd 741 = some (.iaload, 1) := by decide +kernel
theorem cL_742 : mc_lawcd 742 = some (.aload_n 0, 1) := by decide +kernel
theorem cL_743 : mc_lawcd 743 = some (.iload 4, 2) := by decide +kernel
theorem cL_745 : mc_lawcd 745 = some (.iconst 2, 1) := by decide +kernel
theorem cL_746 : mc_lawcd 746 = some (.iadd, 1) := by decide +kernel
theorem cL_747 : mc_lawcd 747 = some (.iaload, 1) := by decide +kernel
theorem cL_748 : mc_lawcd 748 = some (.invokevirtual 100, 3) := by decide +kernel
theorem cL_751 : mc_lawcd 751 = some (.pop, 1) := by decide +kernel
theorem cL_752 : mc_lawcd 752 = some (.goto 901, 3) := by decide +kernel
theorem cL_755 : mc_lawcd 755 = some (.aload_n 1, 1) := by decide +kernel
theorem cL_756 : mc_lawcd 756 = some (.aload_n 0, 1) := by decide +kernel
theorem cL_757 : mc_lawcd 757 = some (.iload 4, 2) := by decide +kernel
theorem cL_759 : mc_lawcd 759 = some (.iconst 1, 1) := by decide +kernel
theorem cL_760 : mc_lawcd 760 = some (.iadd, 1) := by decide +kernel
theorem cL_761 : mc_lawcd 761 = some (.iaload, 1) := by decide +kernel
theorem cL_762 : mc_lawcd 762 = some (.aload_n 0, 1) := by decide +kernel
theorem cL_763 : mc_lawcd 763 = some (.iload 4, 2) := by decide +kernel
theorem cL_765 : mc_lawcd 765 = some (.iconst 2, 1) := by decide +kernel
theorem cL_766 : mc_lawcd 766 = some (.iadd, 1) := by decide +kernel
theorem cL_767 : mc_lawcd 767 = some (.iaload, 1) := by decide +kernel
theorem cL_768 : mc_lawcd 768 = some (.invokevirtual 101, 3) := by decide +kernel
theorem cL_771 : mc_lawcd 771 = some (.pop, 1) := by decide +kernel
theorem cL_772 : mc_lawcd 772 = some (.aload_n 2, 1) := by decide +kernel
theorem cL_773 : mc_lawcd 773 = some (.aload_n 0, 1) := by decide +kernel
theorem cL_774 : mc_lawcd 774 = some (.iload 4, 2) := by decide +kernel
theorem cL_776 : mc_lawcd 776 = some (.iconst 1, 1) := by decide +kernel
theorem cL_777 : mc_lawcd 777 = some (.iadd, 1) := by decide +kernel
theorem cL_778 : mc_lawcd 778 = some (.iaload, 1) := by decide +kernel
theorem cL_779 : mc_lawcd 779 = some (.aload_n 0, 1) := by decide +kernel
theorem cL_780 : mc_lawcd 780 = some (.iload 4, 2) := by decide +kernel
theorem cL_782 : mc_lawcd 782 = some (.iconst 2, 1) := by decide +kernel
theorem cL_783 : mc_lawcd 783 = some (.iadd, 1) := by decide +kernel
theorem cL_784 : mc_lawcd 784 = some (.iaload, 1) := by decide +kernel
theorem cL_785 : mc_lawcd 785 = some (.invokevirtual 104, 3) := by decide +kernel
theorem cL_788 : mc_lawcd 788 = some (.pop, 1) := by decide +kernel
theorem cL_789 : mc_lawcd 789 = some (.goto 864, 3) := by decide +kernel
theorem cL_792 : mc_lawcd 792 = some (.aload_n 1, 1) := by decide +kernel
theorem cL_793 : mc_lawcd 793 = some (.aload_n 0, 1) := by decide +kernel
theorem cL_794 : mc_lawcd 794 = some (.iload 4, 2) := by decide +kernel
theorem cL_796 : mc_lawcd 796 = some (.iconst 1, 1) := by decide +kernel
theorem cL_797 : mc_lawcd 797 = some (.iadd, 1) := by decide +kernel
theorem cL_798 : mc_lawcd 798 = some (.iaload, 1) := by decide +kernel
theorem cL_799 : mc_lawcd 799 = some (.aload_n 0, 1) := by decide +kernel
theorem cL_800 : mc_lawcd 800 = some (.iload 4, 2) := by decide +kernel
theorem cL_802 : mc_lawcd 802 = some (.iconst 2, 1) := by decide +kernel
theorem cL_803 : mc_lawcd 803 = some (.iadd, 1) := by decide +kernel
theorem cL_804 : mc_lawcd 804 = some (.iaload, 1) := by decide +kernel
theorem cL_805 : mc_lawcd 805 = some (.invokevirtual 105, 3) := by decide +kernel
theorem cL_808 : mc_lawcd 808 = some (.pop, 1) := by decide +kernel
theorem cL_809 : mc_lawcd 809 = some (.aload_n 2, 1) := by decide +kernel
theorem cL_810 : mc_lawcd 810 = some (.aload_n 0, 1) := by decide +kernel
theorem cL_811 : mc_lawcd 811 = some (.iload 4, 2) := by decide +kernel
theorem cL_813 : mc_lawcd 813 = some (.iconst 1, 1) := by decide +kernel
theorem cL_814 : mc_lawcd 814 = some (.iadd, 1) := by decide +kernel
theorem cL_815 : mc_lawcd 815 = some (.iaload, 1) := by decide +kernel
theorem cL_816 : mc_lawcd 816 = some (.aload_n 0, 1) := by decide +kernel
theorem cL_817 : mc_lawcd 817 = some (.iload 4, 2) := by decide +kernel
theorem cL_819 : mc_lawcd 819 = some (.iconst 2, 1) := by decide +kernel
theorem cL_820 : mc_lawcd 820 = some (.iadd, 1) := by decide +kernel
theorem cL_821 : mc_lawcd 821 = some (.iaload, 1) := by decide +kernel
theorem cL_822 : mc_lawcd 822 = some (.invokevirtual 108, 3) := by decide +kernel
theorem cL_825 : mc_lawcd 825 = some (.pop, 1) := by decide +kernel
theorem cL_826 : mc_lawcd 826 = some (.goto 827, 3) := by decide +kernel
theorem cL_829 : mc_lawcd 829 = some (.aload_n 1, 1) := by decide +kernel
theorem cL_830 : mc_lawcd 830 = some (.aload_n 0, 1) := by decide +kernel
theorem cL_831 : mc_lawcd 831 = some (.iload 4, 2) := by decide +kernel
theorem cL_833 : mc_lawcd 833 = some (.iconst 1, 1) := by decide +kernel
theorem cL_834 : mc_lawcd 834 = some (.iadd, 1) := by decide +kernel
theorem cL_835 : mc_lawcd 835 = some (.iaload, 1) := by decide +kernel
theorem cL_836 : mc_lawcd 836 = some (.aload_n 0, 1) := by decide +kernel
theorem cL_837 : mc_lawcd 837 = some (.iload 4, 2) := by decide +kernel
theorem cL_839 : mc_lawcd 839 = some (.iconst 2, 1) := by decide +kernel
theorem cL_840 : mc_lawcd 840 = some (.iadd, 1) := by decide +kernel
theorem cL_841 : mc_lawcd 841 = some (.iaload, 1) := by decide +kernel
theorem cL_842 : mc_lawcd 842 = some (.ifCond .eq 7, 3) := by decide +kernel
theorem cL_845 : mc_lawcd 845 = some (.iconst 1, 1) := by decide +kernel
theorem cL_846 : mc_lawcd 846 = some (.goto 4, 3) := by decide +kernel
theorem cL_849 : mc_lawcd 849 = some (.iconst 0, 1) := by decide +kernel
theorem cL_850 : mc_lawcd 850 = some (.invokevirtual 109, 3) := by decide +kernel
theorem cL_853 : mc_lawcd 853 = some (.pop, 1) := by decide +kernel
theorem cL_854 : mc_lawcd 854 = some (.aload_n 2, 1) := by decide +kernel
theorem cL_855 : mc_lawcd 855 = some (.aload_n 0, 1) := by decide +kernel
theorem cL_856 : mc_lawcd 856 = some (.iload 4, 2) := by decide +kernel
theorem cL_858 : mc_lawcd 858 = some (.iconst 1, 1) := by decide +kernel
theorem cL_859 : mc_lawcd 859 = some (.iadd, 1) := by decide +kernel
theorem cL_860 : mc_lawcd 860 = some (.iaload, 1) := by decide +kernel
theorem cL_861 : mc_lawcd 861 = some (.aload_n 0, 1) := by decide +kernel
theorem cL_862 : mc_lawcd 862 = some (.iload 4, 2) := by decide +kernel
theorem cL_864 : mc_lawcd 864 = some (.iconst 2, 1) := by decide +kernel
theorem cL_865 : mc_lawcd 865 = some (.iadd, 1) := by decide +kernel
theorem cL_866 : mc_lawcd 866 = some (.iaload, 1) := by decide +kernel
theorem cL_867 : mc_lawcd 867 = some (.ifCond .eq 7, 3) := by decide +kernel
theorem cL_870 : mc_lawcd 870 = some (.iconst 1, 1) := by decide +kernel
theorem cL_871 : mc_lawcd 871 = some (.goto 4, 3) := by decide +kernel
theorem cL_874 : mc_lawcd 874 = some (.iconst 0, 1) := by decide +kernel
theorem cL_875 : mc_lawcd 875 = some (.invokevirtual 113, 3) := by decide +kernel
theorem cL_878 : mc_lawcd 878 = some (.pop, 1) := by decide +kernel
theorem cL_879 : mc_lawcd 879 = some (.goto 774, 3) := by decide +kernel
theorem cL_882 : mc_lawcd 882 = some (.aload_n 1, 1) := by decide +kernel
theorem cL_883 : mc_lawcd 883 = some (.aload_n 0, 1) := by decide +kernel
theorem cL_884 : mc_lawcd 884 = some (.iload 4, 2) := by decide +kernel
theorem cL_886 : mc_lawcd 886 = some (.iconst 1, 1) := by decide +kernel
theorem cL_887 : mc_lawcd 887 = some (.iadd, 1) := by decide +kernel
theorem cL_888 : mc_lawcd 888 = some (.iaload, 1) := by decide +kernel
theorem cL_889 : mc_lawcd 889 = some (.aload_n 0, 1) := by decide +kernel
theorem cL_890 : mc_lawcd 890 = some (.iload 4, 2) := by decide +kernel
theorem cL_892 : mc_lawcd 892 = some (.iconst 2, 1) := by decide +kernel
theorem cL_893 : mc_lawcd 893 = some (.iadd, 1) := by decide +kernel
theorem cL_894 : mc_lawcd 894 = some (.iaload, 1) := by decide +kernel
theorem cL_895 : mc_lawcd 895 = some (.invokevirtual 114, 3) := by decide +kernel
theorem cL_898 : mc_lawcd 898 = some (.pop, 1) := by decide +kernel
theorem cL_899 : mc_lawcd 899 = some (.aload_n 2, 1) := by decide +kernel
theorem cL_900 : mc_lawcd 900 = some (.aload_n 0, 1) := by decide +kernel
theorem cL_901 : mc_lawcd 901 = some (.iload 4, 2) := by decide +kernel
theorem cL_903 : mc_lawcd 903 = some (.iconst 1, 1) := by decide +kernel
theorem cL_904 : mc_lawcd 904 = some (.iadd, 1) := by decide +kernel
theorem cL_905 : mc_lawcd 905 = some (.iaload, 1) := by decide +kernel
theorem cL_906 : mc_lawcd 906 = some (.aload_n 0, 1) := by decide +kernel
theorem cL_907 : mc_lawcd 907 = some (.iload 4, 2) := by decide +kernel
theorem cL_909 : mc_lawcd 909 = some (.iconst 2, 1) := by decide +kernel
theorem cL_910 : mc_lawcd 910 = some (.iadd, 1) := by decide +kernel
theorem cL_911 : mc_lawcd 911 = some (.iaload, 1) := by decide +kernel
theorem cL_912 : mc_lawcd 912 = some (.invokevirtual 117, 3) := by decide +kernel
theorem cL_915 : mc_lawcd 915 = some (.pop, 1) := by decide +kernel
theorem cL_916 : mc_lawcd 916 = some (.goto 737, 3) := by decide +kernel
theorem cL_919 : mc_lawcd 919 = some (.aload_n 1, 1) := by decide +kernel
theorem cL_920 : mc_lawcd 920 = some (.aload_n 0, 1) := by decide +kernel
theorem cL_921 : mc_lawcd 921 = some (.iload 4, 2) := by decide +kernel
theorem cL_923 : mc_lawcd 923 = some (.iconst 1, 1) := by decide +kernel
theorem cL_924 : mc_lawcd 924 = some (.iadd, 1) := by decide +kernel
theorem cL_925 : mc_lawcd 925 = some (.iaload, 1) := by decide +kernel
theorem cL_926 : mc_lawcd 926 = some (.invokevirtual 118, 3) := by decide +kernel
theorem cL_929 : mc_lawcd 929 = some (.pop, 1) := by decide +kernel
theorem cL_930 : mc_lawcd 930 = some (.aload_n 2, 1) := by decide +kernel
theorem cL_931 : mc_lawcd 931 = some (.aload_n 0, 1) := by decide +kernel
theorem cL_932 : mc_lawcd 932 = some (.iload 4, 2) := by decide +kernel
theorem cL_934 : mc_lawcd 934 = some (.iconst 1, 1) := by decide +kernel
theorem cL_935 : mc_lawcd 935 = some (.iadd, 1) := by decide +kernel
theorem cL_936 : mc_lawcd 936 = some (.iaload, 1) := by decide +kernel
theorem cL_937 : mc_lawcd 937 = some (.invokevirtual 121, 3) := by decide +kernel
theorem cL_940 : mc_lawcd 940 = some (.pop, 1) := by decide +kernel
theorem cL_941 : mc_lawcd 941 = some (.goto 712, 3) := by decide +kernel
theorem cL_944 : mc_lawcd 944 = some (.aload_n 1, 1) := by decide +kernel
theorem cL_945 : mc_lawcd 945 = some (.invokevirtual 122, 3) := by decide +kernel
theorem cL_948 : mc_lawcd 948 = some (.pop2, 1) := by decide +kernel
theorem cL_949 : mc_lawcd 949 = some (.aload_n 2, 1) := by decide +kernel
theorem cL_950 : mc_lawcd 950 = some (.invokevirtual 125, 3) := by decide +kernel
theorem cL_953 : mc_lawcd 953 = some (.pop2, 1) := by decide +kernel
theorem cL_954 : mc_lawcd 954 = some (.goto 699, 3) := by decide +kernel
theorem cL_957 : mc_lawcd 957 = some (.aload_n 1, 1) := by decide +kernel
theorem cL_958 : mc_lawcd 958 = some (.aload_n 0, 1) := by decide +kernel
theorem cL_959 : mc_lawcd 959 = some (.iload 4, 2) := by decide +kernel
theorem cL_961 : mc_lawcd 961 = some (.iconst 1, 1) := by decide +kernel
theorem cL_962 : mc_lawcd 962 = some (.iadd, 1) := by decide +kernel
theorem cL_963 : mc_lawcd 963 = some (.iaload, 1) := by decide +kernel
theorem cL_964 : mc_lawcd 964 = some (.aload_n 0, 1) := by decide +kernel
theorem cL_965 : mc_lawcd 965 = some (.iload 4, 2) := by decide +kernel
theorem cL_967 : mc_lawcd 967 = some (.iconst 2, 1) := by decide +kernel
theorem cL_968 : mc_lawcd 968 = some (.iadd, 1) := by decide +kernel
theorem cL_969 : mc_lawcd 969 = some (.iaload, 1) := by decide +kernel
theorem cL_970 : mc_lawcd 970 = some (.invokevirtual 126, 3) := by decide +kernel
theorem cL_973 : mc_lawcd 973 = some (.pop, 1) := by decide +kernel
theorem cL_974 : mc_lawcd 974 = some (.aload_n 2, 1) := by decide +kernel
theorem cL_975 : mc_lawcd 975 = some (.aload_n 0, 1) := by decide +kernel
theorem cL_976 : mc_lawcd 976 = some (.iload 4, 2) := by decide +kernel
theorem cL_978 : mc_lawcd 978 = some (.iconst 1, 1) := by decide +kernel
theorem cL_979 : mc_lawcd 979 = some (.iadd, 1) := by decide +kernel
theorem cL_980 : mc_lawcd 980 = some (.iaload, 1) := by decide +kernel
theorem cL_981 : mc_lawcd 981 = some (.aload_n 0, 1) := by decide +kernel
theorem cL_982 : mc_lawcd 982 = some (.iload 4, 2) := by decide +kernel
theorem cL_984 : mc_lawcd 984 = some (.iconst 2, 1) := by decide +kernel
theorem cL_985 : mc_lawcd 985 = some (.iadd, 1) := by decide +kernel
theorem cL_986 : mc_lawcd 986 = some (.iaload, 1) := by decide +kernel
theorem cL_987 : mc_lawcd 987 = some (.invokevirtual 129, 3) := by decide +kernel
theorem cL_990 : mc_lawcd 990 = some (.pop, 1) := by decide +kernel
theorem cL_991 : mc_lawcd 991 = some (.goto 662, 3) := by decide +kernel
theorem cL_994 : mc_lawcd 994 = some (.aload_n 1, 1) := by decide +kernel
theorem cL_995 : mc_lawcd 995 = some (.aload_n 0, 1) := by decide +kernel
theorem cL_996 : mc_lawcd 996 = some (.iload 4, 2) := by decide +kernel
theorem cL_998 : mc_lawcd 998 = some (.iconst 1, 1) := by decide +kernel
theorem cL_999 : mc_lawcd 999 = some (.iadd, 1) := by decide +kernel
theorem cL_1000 : mc_lawcd 1000 = some (.iaload, 1) := by decide +kernel
theorem cL_1001 : mc_lawcd 1001 = some (.invokevirtual 130, 3) := by decide +kernel
theorem cL_1004 : mc_lawcd 1004 = some (.pop2, 1) := by decide +kernel
theorem cL_1005 : mc_lawcd 1005 = some (.aload_n 2, 1) := by decide +kernel
theorem cL_1006 : mc_lawcd 1006 = some (.aload_n 0, 1) := by decide +kernel
theorem cL_1007 : mc_lawcd 1007 = some (.iload 4, 2) := by decide +kernel
theorem cL_1009 : mc_lawcd 1009 = some (.iconst 1, 1) := by decide +kernel
theorem cL_1010 : mc_lawcd 1010 = some (.iadd, 1) := by decide +kernel
theorem cL_1011 : mc_lawcd 1011 = some (.iaload, 1) := by decide +kernel
theorem cL_1012 : mc_lawcd 1012 = some (.invokevirtual 134, 3) := by decide +kernel
theorem cL_1015 : mc_lawcd 1015 = some (.pop2, 1) := by decide +kernel
theorem cL_1016 : mc_lawcd 1016 = some (.goto 637, 3) := by decide +kernel
theorem cL_1019 : mc_lawcd 1019 = some (.aload_n 1, 1) := by decide +kernel
theorem cL_1020 : mc_lawcd 1020 = some (.aload_n 0, 1) := by decide +kernel
theorem cL_1021 : mc_lawcd 1021 = some (.iload 4, 2) := by decide +kernel
theorem cL_1023 : mc_lawcd 1023 = some (.iconst 1, 1) := by decide +kernel
theorem cL_1024 : mc_lawcd 1024 = some (.iadd, 1) := by decide +kernel
theorem cL_1025 : mc_lawcd 1025 = some (.iaload, 1) := by decide +kernel
theorem cL_1026 : mc_lawcd 1026 = some (.aload_n 0, 1) := by decide +kernel
theorem cL_1027 : mc_lawcd 1027 = some (.iload 4, 2) := by decide +kernel
theorem cL_1029 : mc_lawcd 1029 = some (.iconst 2, 1) := by decide +kernel
theorem cL_1030 : mc_lawcd 1030 = some (.iadd, 1) := by decide +kernel
theorem cL_1031 : mc_lawcd 1031 = some (.iaload, 1) := by decide +kernel
theorem cL_1032 : mc_lawcd 1032 = some (.invokevirtual 135, 3) := by decide +kernel
theorem cL_1035 : mc_lawcd 1035 = some (.pop, 1) := by decide +kernel
theorem cL_1036 : mc_lawcd 1036 = some (.aload_n 2, 1) := by decide +kernel
theorem cL_1037 : mc_lawcd 1037 = some (.aload_n 0, 1) := by decide +kernel
theorem cL_1038 : mc_lawcd 1038 = some (.iload 4, 2) := by decide +kernel
theorem cL_1040 : mc_lawcd 1040 = some (.iconst 1, 1) := by decide +kernel
theorem cL_1041 : mc_lawcd 1041 = some (.iadd, 1) := by decide +kernel
theorem cL_1042 : mc_lawcd 1042 = some (.iaload, 1) := by decide +kernel
theorem cL_1043 : mc_lawcd 1043 = some (.aload_n 0, 1) := by decide +kernel
theorem cL_1044 : mc_lawcd 1044 = some (.iload 4, 2) := by decide +kernel
theorem cL_1046 : mc_lawcd 1046 = some (.iconst 2, 1) := by decide +kernel
theorem cL_1047 : mc_lawcd 1047 = some (.iadd, 1) := by decide +kernel
theorem cL_1048 : mc_lawcd 1048 = some (.iaload, 1) := by decide +kernel
theorem cL_1049 : mc_lawcd 1049 = some (.invokevirtual 138, 3) := by decide +kernel
theorem cL_1052 : mc_lawcd 1052 = some (.pop, 1) := by decide +kernel
theorem cL_1053 : mc_lawcd 1053 = some (.goto 600, 3) := by decide +kernel
theorem cL_1056 : mc_lawcd 1056 = some (.aload_n 1, 1) := by decide +kernel
theorem cL_1057 : mc_lawcd 1057 = some (.aload_n 0, 1) := by decide +kernel
theorem cL_1058 : mc_lawcd 1058 = some (.iload 4, 2) := by decide +kernel
theorem cL_1060 : mc_lawcd 1060 = some (.iconst 1, 1) := by decide +kernel
theorem cL_1061 : mc_lawcd 1061 = some (.iadd, 1) := by decide +kernel
theorem cL_1062 : mc_lawcd 1062 = some (.iaload, 1) := by decide +kernel
theorem cL_1063 : mc_lawcd 1063 = some (.aload_n 0, 1) := by decide +kernel
theorem cL_1064 : mc_lawcd 1064 = some (.iload 4, 2) := by decide +kernel
theorem cL_1066 : mc_lawcd 1066 = some (.iconst 2, 1) := by decide +kernel
theorem cL_1067 : mc_lawcd 1067 = some (.iadd, 1) := by decide +kernel
theorem cL_1068 : mc_lawcd 1068 = some (.iaload, 1) := by decide +kernel
theorem cL_1069 : mc_lawcd 1069 = some (.ifCond .eq 7, 3) := by decide +kernel
theorem cL_1072 : mc_lawcd 1072 = some (.iconst 1, 1) := by decide +kernel
theorem cL_1073 : mc_lawcd 1073 = some (.goto 4, 3) := by decide +kernel
theorem cL_1076 : mc_lawcd 1076 = some (.iconst 0, 1) := by decide +kernel
theorem cL_1077 : mc_lawcd 1077 = some (.invokevirtual 139, 3) := by decide +kernel
theorem cL_1080 : mc_lawcd 1080 = some (.pop, 1) := by decide +kernel
theorem cL_1081 : mc_lawcd 1081 = some (.aload_n 2, 1) := by decide +kernel
theorem cL_1082 : mc_lawcd 1082 = some (.aload_n 0, 1) := by decide +kernel
theorem cL_1083 : mc_lawcd 1083 = some (.iload 4, 2) := by decide +kernel
theorem cL_1085 : mc_lawcd 1085 = some (.iconst 1, 1) := by decide +kernel
theorem cL_1086 : mc_lawcd 1086 = some (.iadd, 1) := by decide +kernel
theorem cL_1087 : mc_lawcd 1087 = some (.iaload, 1) := by decide +kernel
theorem cL_1088 : mc_lawcd 1088 = some (.aload_n 0, 1) := by decide +kernel
theorem cL_1089 : mc_lawcd 1089 = some (.iload 4, 2) := by decide +kernel
theorem cL_1091 : mc_lawcd 1091 = some (.iconst 2, 1) := by decide +kernel
theorem cL_1092 : mc_lawcd 1092 = some (.iadd, 1) := by decide +kernel
theorem cL_1093 : mc_lawcd 1093 = some (.iaload, 1) := by decide +kernel
theorem cL_1094 : mc_lawcd 1094 = some (.ifCond .eq 7, 3) := by decide +kernel
theorem cL_1097 : mc_lawcd 1097 = some (.iconst 1, 1) := by decide +kernel
theorem cL_1098 : mc_lawcd 1098 = some (.goto 4, 3) := by decide +kernel
theorem cL_1101 : mc_lawcd 1101 = some (.iconst 0, 1) := by decide +kernel
theorem cL_1102 : mc_lawcd 1102 = some (.invokevirtual 142, 3) := by decide +kernel
theorem cL_1105 : mc_lawcd 1105 = some (.pop, 1) := by decide +kernel
theorem cL_1106 : mc_lawcd 1106 = some (.goto 547, 3) := by decide +kernel
theorem cL_1109 : mc_lawcd 1109 = some (.aload_n 1, 1) := by decide +kernel
theorem cL_1110 : mc_lawcd 1110 = some (.aload_n 0, 1) := by decide +kernel
theorem cL_1111 : mc_lawcd 1111 = some (.iload 4, 2) := by decide +kernel
theorem cL_1113 : mc_lawcd 1113 = some (.iconst 1, 1) := by decide +kernel
theorem cL_1114 : mc_lawcd 1114 = some (.iadd, 1) := by decide +kernel
theorem cL_1115 : mc_lawcd 1115 = some (.iaload, 1) := by decide +kernel
theorem cL_1116 : mc_lawcd 1116 = some (.aload_n 0, 1) := by decide +kernel
theorem cL_1117 : mc_lawcd 1117 = some (.iload 4, 2) := by decide +kernel
theorem cL_1119 : mc_lawcd 1119 = some (.iconst 2, 1) := by decide +kernel
theorem cL_1120 : mc_lawcd 1120 = some (.iadd, 1) := by decide +kernel
theorem cL_1121 : mc_lawcd 1121 = some (.iaload, 1) := by decide +kernel
theorem cL_1122 : mc_lawcd 1122 = some (.ifCond .eq 7, 3) := by decide +kernel
theorem cL_1125 : mc_lawcd 1125 = some (.iconst 1, 1) := by decide +kernel
theorem cL_1126 : mc_lawcd 1126 = some (.goto 4, 3) := by decide +kernel
theorem cL_1129 : mc_lawcd 1129 = some (.iconst 0, 1) := by decide +kernel
theorem cL_1130 : mc_lawcd 1130 = some (.invokevirtual 143, 3) := by decide +kernel
theorem cL_1133 : mc_lawcd 1133 = some (.pop, 1) := by decide +kernel
theorem cL_1134 : mc_lawcd 1134 = some (.aload_n 2, 1) := by decide +kernel
theorem cL_1135 : mc_lawcd 1135 = some (.aload_n 0, 1) := by decide +kernel
theorem cL_1136 : mc_lawcd 1136 = some (.iload 4, 2) := by decide +kernel
theorem cL_1138 : mc_lawcd 1138 = some (.iconst 1, 1) := by decide +kernel
theorem cL_1139 : mc_lawcd 1139 = some (.iadd, 1) := by decide +kernel
theorem cL_1140 : mc_lawcd 1140 = some (.iaload, 1) := by decide +kernel
theorem cL_1141 : mc_lawcd 1141 = some (.aload_n 0, 1) := by decide +kernel
theorem cL_1142 : mc_lawcd 1142 = some (.iload 4, 2) := by decide +kernel
theorem cL_1144 : mc_lawcd 1144 = some (.iconst 2, 1) := by decide +kernel
theorem cL_1145 : mc_lawcd 1145 = some (.iadd, 1) := by decide +kernel
theorem cL_1146 : mc_lawcd 1146 = some (.iaload, 1) := by decide +kernel
theorem cL_1147 : mc_lawcd 1147 = some (.ifCond .eq 7, 3) := by decide +kernel
theorem cL_1150 : mc_lawcd 1150 = some (.iconst 1, 1) := by decide +kernel
theorem cL_1151 : mc_lawcd 1151 = some (.goto 4, 3) := by decide +kernel
theorem cL_1154 : mc_lawcd 1154 = some (.iconst 0, 1) := by decide +kernel
theorem cL_1155 : mc_lawcd 1155 = some (.invokevirtual 146, 3) := by decide +kernel
theorem cL_1158 : mc_lawcd 1158 = some (.pop, 1) := by decide +kernel
theorem cL_1159 : mc_lawcd 1159 = some (.goto 494, 3) := by decide +kernel
theorem cL_1162 : mc_lawcd 1162 = some (.aload_n 1, 1) := by decide +kernel
theorem cL_1163 : mc_lawcd 1163 = some (.invokevirtual 147, 3) := by decide +kernel
theorem cL_1166 : mc_lawcd 1166 = some (.pop, 1) := by decide +kernel
theorem cL_1167 : mc_lawcd 1167 = some (.aload_n 2, 1) := by decide +kernel
theorem cL_1168 : mc_lawcd 1168 = some (.invokevirtual 150, 3) := by decide +kernel
theorem cL_1171 : mc_lawcd 1171 = some (.pop, 1) := by decide +kernel
theorem cL_1172 : mc_lawcd 1172 = some (.goto 481, 3) := by decide +kernel
theorem cL_1175 : mc_lawcd 1175 = some (.aload_n 1, 1) := by decide +kernel
theorem cL_1176 : mc_lawcd 1176 = some (.aload_n 0, 1) := by decide +kernel
theorem cL_1177 : mc_lawcd 1177 = some (.iload 4, 2) := by decide +kernel
theorem cL_1179 : mc_lawcd 1179 = some (.iconst 1, 1) := by decide +kernel
theorem cL_1180 : mc_lawcd 1180 = some (.iadd, 1) := by decide +kernel
theorem cL_1181 : mc_lawcd 1181 = some (.iaload, 1) := by decide +kernel
theorem cL_1182 : mc_lawcd 1182 = some (.invokevirtual 151, 3) := by decide +kernel
theorem cL_1185 : mc_lawcd 1185 = some (.pop, 1) := by decide +kernel
theorem cL_1186 : mc_lawcd 1186 = some (.aload_n 2, 1) := by decide +kernel
theorem cL_1187 : mc_lawcd 1187 = some (.aload_n 0, 1) := by decide +kernel
theorem cL_1188 : mc_lawcd 1188 = some (.iload 4, 2) := by decide +kernel
theorem cL_1190 : mc_lawcd 1190 = some (.iconst 1, 1) := by decide +kernel
theorem cL_1191 : mc_lawcd 1191 = some (.iadd, 1) := by decide +kernel
theorem cL_1192 : mc_lawcd 1192 = some (.iaload, 1) := by decide +kernel
theorem cL_1193 : mc_lawcd 1193 = some (.invokevirtual 154, 3) := by decide +kernel
theorem cL_1196 : mc_lawcd 1196 = some (.pop, 1) := by decide +kernel
theorem cL_1197 : mc_lawcd 1197 = some (.goto 456, 3) := by decide +kernel
theorem cL_1200 : mc_lawcd 1200 = some (.aload_n 1, 1) := by decide +kernel
theorem cL_1201 : mc_lawcd 1201 = some (.aload_n 0, 1) := by decide +kernel
theorem cL_1202 : mc_lawcd 1202 = some (.iload 4, 2) := by decide +kernel
theorem cL_1204 : mc_lawcd 1204 = some (.iconst 1, 1) := by decide +kernel
theorem cL_1205 : mc_lawcd 1205 = some (.iadd, 1) := by decide +kernel
theorem cL_1206 : mc_lawcd 1206 = some (.iaload, 1) := by decide +kernel
theorem cL_1207 : mc_lawcd 1207 = some (.invokevirtual 155, 3) := by decide +kernel
theorem cL_1210 : mc_lawcd 1210 = some (.pop, 1) := by decide +kernel
theorem cL_1211 : mc_lawcd 1211 = some (.aload_n 2, 1) := by decide +kernel
theorem cL_1212 : mc_lawcd 1212 = some (.aload_n 0, 1) := by decide +kernel
theorem cL_1213 : mc_lawcd 1213 = some (.iload 4, 2) := by decide +kernel
theorem cL_1215 : mc_lawcd 1215 = some (.iconst 1, 1) := by decide +kernel
theorem cL_1216 : mc_lawcd 1216 = some (.iadd, 1) := by decide +kernel
theorem cL_1217 : mc_lawcd 1217 = some (.iaload, 1) := by decide +kernel
theorem cL_1218 : mc_lawcd 1218 = some (.invokevirtual 158, 3) := by decide +kernel
theorem cL_1221 : mc_lawcd 1221 = some (.pop, 1) := by decide +kernel
theorem cL_1222 : mc_lawcd 1222 = some (.goto 431, 3) := by decide +kernel
theorem cL_1225 : mc_lawcd 1225 = some (.aload_n 1, 1) := by decide +kernel
theorem cL_1226 : mc_lawcd 1226 = some (.aload_n 0, 1) := by decide +kernel
theorem cL_1227 : mc_lawcd 1227 = some (.iload 4, 2) := by decide +kernel
theorem cL_1229 : mc_lawcd 1229 = some (.iconst 1, 1) := by decide +kernel
theorem cL_1230 : mc_lawcd 1230 = some (.iadd, 1) := by decide +kernel
theorem cL_1231 : mc_lawcd 1231 = some (.iaload, 1) := by decide +kernel
theorem cL_1232 : mc_lawcd 1232 = some (.invokevirtual 159, 3) := by decide +kernel
theorem cL_1235 : mc_lawcd 1235 = some (.pop, 1) := by decide +kernel
theorem cL_1236 : mc_lawcd 1236 = some (.aload_n 2, 1) := by decide +kernel
theorem cL_1237 : mc_lawcd 1237 = some (.aload_n 0, 1) := by decide +kernel
theorem cL_1238 : mc_lawcd 1238 = some (.iload 4, 2) := by decide +kernel
theorem cL_1240 : mc_lawcd 1240 = some (.iconst 1, 1) := by decide +kernel
theorem cL_1241 : mc_lawcd 1241 = some (.iadd, 1) := by decide +kernel
theorem cL_1242 : mc_lawcd 1242 = some (.iaload, 1) := by decide +kernel
theorem cL_1243 : mc_lawcd 1243 = some (.invokevirtual 162, 3) := by decide +kernel
theorem cL_1246 : mc_lawcd 1246 = some (.pop, 1) := by decide +kernel
theorem cL_1247 : mc_lawcd 1247 = some (.goto 406, 3) := by decide +kernel
theorem cL_1250 : mc_lawcd 1250 = some (.aload_n 1, 1) := by decide +kernel
theorem cL_1251 : mc_lawcd 1251 = some (.invokevirtual 163, 3) := by decide +kernel
theorem cL_1254 : mc_lawcd 1254 = some (.pop, 1) := by decide +kernel
theorem cL_1255 : mc_lawcd 1255 = some (.aload_n 2, 1) := by decide +kernel
theorem cL_1256 : mc_lawcd 1256 = some (.invokevirtual 166, 3) := by decide +kernel
theorem cL_1259 : mc_lawcd 1259 = some (.pop, 1) := by decide +kernel
theorem cL_1260 : mc_lawcd 1260 = some (.goto 393, 3) := by decide +kernel
theorem cL_1263 : mc_lawcd 1263 = some (.aload_n 1, 1) := by decide +kernel
theorem cL_1264 : mc_lawcd 1264 = some (.aload_n 0, 1) := by decide +kernel
theorem cL_1265 : mc_lawcd 1265 = some (.iload 4, 2) := by decide +kernel
theorem cL_1267 : mc_lawcd 1267 = some (.iconst 1, 1) := by decide +kernel
theorem cL_1268 : mc_lawcd 1268 = some (.iadd, 1) := by decide +kernel
theorem cL_1269 : mc_lawcd 1269 = some (.iaload, 1) := by decide +kernel
theorem cL_1270 : mc_lawcd 1270 = some (.aload_n 0, 1) := by decide +kernel
theorem cL_1271 : mc_lawcd 1271 = some (.iload 4, 2) := by decide +kernel
theorem cL_1273 : mc_lawcd 1273 = some (.iconst 2, 1) := by decide +kernel
theorem cL_1274 : mc_lawcd 1274 = some (.iadd, 1) := by decide +kernel
theorem cL_1275 : mc_lawcd 1275 = some (.iaload, 1) := by decide +kernel
theorem cL_1276 : mc_lawcd 1276 = some (.ifCond .eq 7, 3) := by decide +kernel
theorem cL_1279 : mc_lawcd 1279 = some (.iconst 1, 1) := by decide +kernel
theorem cL_1280 : mc_lawcd 1280 = some (.goto 4, 3) := by decide +kernel
theorem cL_1283 : mc_lawcd 1283 = some (.iconst 0, 1) := by decide +kernel
theorem cL_1284 : mc_lawcd 1284 = some (.invokevirtual 167, 3) := by decide +kernel
theorem cL_1287 : mc_lawcd 1287 = some (.pop, 1) := by decide +kernel
theorem cL_1288 : mc_lawcd 1288 = some (.aload_n 2, 1) := by decide +kernel
theorem cL_1289 : mc_lawcd 1289 = some (.aload_n 0, 1) := by decide +kernel
theorem cL_1290 : mc_lawcd 1290 = some (.iload 4, 2) := by decide +kernel
theorem cL_1292 : mc_lawcd 1292 = some (.iconst 1, 1) := by decide +kernel
theorem cL_1293 : mc_lawcd 1293 = some (.iadd, 1) := by decide +kernel
theorem cL_1294 : mc_lawcd 1294 = some (.iaload, 1) := by decide +kernel
theorem cL_1295 : mc_lawcd 1295 = some (.aload_n 0, 1) := by decide +kernel
theorem cL_1296 : mc_lawcd 1296 = some (.iload 4, 2) := by decide +kernel
theorem cL_1298 : mc_lawcd 1298 = some (.iconst 2, 1) := by decide +kernel
theorem cL_1299 : mc_lawcd 1299 = some (.iadd, 1) := by decide +kernel
theorem cL_1300 : mc_lawcd 1300 = some (.iaload, 1) := by decide +kernel
theorem cL_1301 : mc_lawcd 1301 = some (.ifCond .eq 7, 3) := by decide +kernel
theorem cL_1304 : mc_lawcd 1304 = some (.iconst 1, 1) := by decide +kernel
theorem cL_1305 : mc_lawcd 1305 = some (.goto 4, 3) := by decide +kernel
theorem cL_1308 : mc_lawcd 1308 = some (.iconst 0, 1) := by decide +kernel
theorem cL_1309 : mc_lawcd 1309 = some (.invokevirtual 170, 3) := by decide +kernel
theorem cL_1312 : mc_lawcd 1312 = some (.pop, 1) := by decide +kernel
theorem cL_1313 : mc_lawcd 1313 = some (.goto 340, 3) := by decide +kernel
theorem cL_1316 : mc_lawcd 1316 = some (.aload_n 1, 1) := by decide +kernel
theorem cL_1317 : mc_lawcd 1317 = some (.invokevirtual 171, 3) := by decide +kernel
theorem cL_1320 : mc_lawcd 1320 = some (.pop, 1) := by decide +kernel
theorem cL_1321 : mc_lawcd 1321 = some (.aload_n 2, 1) := by decide +kernel
theorem cL_1322 : mc_lawcd 1322 = some (.invokevirtual 174, 3) := by decide +kernel
theorem cL_1325 : mc_lawcd 1325 = some (.pop, 1) := by decide +kernel
theorem cL_1326 : mc_lawcd 1326 = some (.goto 327, 3) := by decide +kernel
theorem cL_1329 : mc_lawcd 1329 = some (.aload_n 1, 1) := by decide +kernel
theorem cL_1330 : mc_lawcd 1330 = some (.invokevirtual 175, 3) := by decide +kernel
theorem cL_1333 : mc_lawcd 1333 = some (.pop, 1) := by decide +kernel
theorem cL_1334 : mc_lawcd 1334 = some (.aload_n 2, 1) := by decide +kernel
theorem cL_1335 : mc_lawcd 1335 = some (.invokevirtual 178, 3) := by decide +kernel
theorem cL_1338 : mc_lawcd 1338 = some (.pop, 1) := by decide +kernel
theorem cL_1339 : mc_lawcd 1339 = some (.goto 314, 3) := by decide +kernel
theorem cL_1342 : mc_lawcd 1342 = some (.aload_n 1, 1) := by decide +kernel
theorem cL_1343 : mc_lawcd 1343 = some (.aload_n 0, 1) := by decide +kernel
theorem cL_1344 : mc_lawcd 1344 = some (.iload 4, 2) := by decide +kernel
theorem cL_1346 : mc_lawcd 1346 = some (.iconst 1, 1) := by decide +kernel
theorem cL_1347 : mc_lawcd 1347 = some (.iadd, 1) := by decide +kernel
theorem cL_1348 : mc_lawcd 1348 = some (.iaload, 1) := by decide +kernel
theorem cL_1349 : mc_lawcd 1349 = some (.invokevirtual 179, 3) := by decide +kernel
theorem cL_1352 : mc_lawcd 1352 = some (.pop, 1) := by decide +kernel
theorem cL_1353 : mc_lawcd 1353 = some (.aload_n 2, 1) := by decide +kernel
theorem cL_1354 : mc_lawcd 1354 = some (.aload_n 0, 1) := by decide +kernel
theorem cL_1355 : mc_lawcd 1355 = some (.iload 4, 2) := by decide +kernel
theorem cL_1357 : mc_lawcd 1357 = some (.iconst 1, 1) := by decide +kernel
theorem cL_1358 : mc_lawcd 1358 = some (.iadd, 1) := by decide +kernel
theorem cL_1359 : mc_lawcd 1359 = some (.iaload, 1) := by decide +kernel
theorem cL_1360 : mc_lawcd 1360 = some (.invokevirtual 182, 3) := by decide +kernel
theorem cL_1363 : mc_lawcd 1363 = some (.pop, 1) := by decide +kernel
theorem cL_1364 : mc_lawcd 1364 = some (.goto 289, 3) := by decide +kernel
theorem cL_1367 : mc_lawcd 1367 = some (.aload_n 1, 1) := by decide +kernel
theorem cL_1368 : mc_lawcd 1368 = some (.aload_n 0, 1) := by decide +kernel
theorem cL_1369 : mc_lawcd 1369 = some (.iload 4, 2) := by decide +kernel
theorem cL_1371 : mc_lawcd 1371 = some (.iconst 1, 1) := by decide +kernel
theorem cL_1372 : mc_lawcd 1372 = some (.iadd, 1) := by decide +kernel
theorem cL_1373 : mc_lawcd 1373 = some (.iaload, 1) := by decide +kernel
theorem cL_1374 : mc_lawcd 1374 = some (.aload_n 0, 1) := by decide +kernel
theorem cL_1375 : mc_lawcd 1375 = some (.iload 4, 2) := by decide +kernel
theorem cL_1377 : mc_lawcd 1377 = some (.iconst 2, 1) := by decide +kernel
theorem cL_1378 : mc_lawcd 1378 = some (.iadd, 1) := by decide +kernel
theorem cL_1379 : mc_lawcd 1379 = some (.iaload, 1) := by decide +kernel
theorem cL_1380 : mc_lawcd 1380 = some (.invokevirtual 183, 3) := by decide +kernel
theorem cL_1383 : mc_lawcd 1383 = some (.pop, 1) := by decide +kernel
theorem cL_1384 : mc_lawcd 1384 = some (.aload_n 2, 1) := by decide +kernel
theorem cL_1385 : mc_lawcd 1385 = some (.aload_n 0, 1) := by decide +kernel
theorem cL_1386 : mc_lawcd 1386 = some (.iload 4, 2) := by decide +kernel
theorem cL_1388 : mc_lawcd 1388 = some (.iconst 1, 1) := by decide +kernel
theorem cL_1389 : mc_lawcd 1389 = some (.iadd, 1) := by decide +kernel
theorem cL_1390 : mc_lawcd 1390 = some (.iaload, 1) := by decide +kernel
theorem cL_1391 : mc_lawcd 1391 = some (.aload_n 0, 1) := by decide +kernel
theorem cL_1392 : mc_lawcd 1392 = some (.iload 4, 2) := by decide +kernel
theorem cL_1394 : mc_lawcd 1394 = some (.iconst 2, 1) := by decide +kernel
theorem cL_1395 : mc_lawcd 1395 = some (.iadd, 1) := by decide +kernel
theorem cL_1396 : mc_lawcd 1396 = some (.iaload, 1) := by decide +kernel
theorem cL_1397 : mc_lawcd 1397 = some (.invokevirtual 186, 3) := by decide +kernel
theorem cL_1400 : mc_lawcd 1400 = some (.pop, 1) := by decide +kernel
theorem cL_1401 : mc_lawcd 1401 = some (.goto 252, 3) := by decide +kernel
theorem cL_1404 : mc_lawcd 1404 = some (.aload_n 1, 1) := by decide +kernel
theorem cL_1405 : mc_lawcd 1405 = some (.aload_n 0, 1) := by decide +kernel
theorem cL_1406 : mc_lawcd 1406 = some (.iload 4, 2) := by decide +kernel
theorem cL_1408 : mc_lawcd 1408 = some (.iconst 1, 1) := by decide +kernel
theorem cL_1409 : mc_lawcd 1409 = some (.iadd, 1) := by decide +kernel
theorem cL_1410 : mc_lawcd 1410 = some (.iaload, 1) := by decide +kernel
theorem cL_1411 : mc_lawcd 1411 = some (.invokevirtual 187, 3) := by decide +kernel
theorem cL_1414 : mc_lawcd 1414 = some (.pop, 1) := by decide +kernel
theorem cL_1415 : mc_lawcd 1415 = some (.aload_n 2, 1) := by decide +kernel
theorem cL_1416 : mc_lawcd 1416 = some (.aload_n 0, 1) := by decide +kernel
theorem cL_1417 : mc_lawcd 1417 = some (.iload 4, 2) := by decide +kernel
theorem cL_1419 : mc_lawcd 1419 = some (.iconst 1, 1) := by decide +kernel
theorem cL_1420 : mc_lawcd 1420 = some (.iadd, 1) := by decide +kernel
theorem cL_1421 : mc_lawcd 1421 = some (.iaload, 1) := by decide +kernel
theorem cL_1422 : mc_lawcd 1422 = some (.invokevirtual 191, 3) := by decide +kernel
theorem cL_1425 : mc_lawcd 1425 = some (.pop, 1) := by decide +kernel
theorem cL_1426 : mc_lawcd 1426 = some (.goto 227, 3) := by decide +kernel
theorem cL_1429 : mc_lawcd 1429 = some (.aload_n 1, 1) := by decide +kernel
theorem cL_1430 : mc_lawcd 1430 = some (.aload_n 0, 1) := by decide +kernel
theorem cL_1431 : mc_lawcd 1431 = some (.iload 4, 2) := by decide +kernel
theorem cL_1433 : mc_lawcd 1433 = some (.iconst 1, 1) := by decide +kernel
theorem cL_1434 : mc_lawcd 1434 = some (.iadd, 1) := by decide +kernel
theorem cL_1435 : mc_lawcd 1435 = some (.iaload, 1) := by decide +kernel
theorem cL_1436 : mc_lawcd 1436 = some (.invokevirtual 192, 3) := by decide +kernel
theorem cL_1439 : mc_lawcd 1439 = some (.pop, 1) := by decide +kernel
theorem cL_1440 : mc_lawcd 1440 = some (.aload_n 2, 1) := by decide +kernel
theorem cL_1441 : mc_lawcd 1441 = some (.aload_n 0, 1) := by decide +kernel
theorem cL_1442 : mc_lawcd 1442 = some (.iload 4, 2) := by decide +kernel
theorem cL_1444 : mc_lawcd 1444 = some (.iconst 1, 1) := by decide +kernel
theorem cL_1445 : mc_lawcd 1445 = some (.iadd, 1) := by decide +kernel
theorem cL_1446 : mc_lawcd 1446 = some (.iaload, 1) := by decide +kernel
theorem cL_1447 : mc_lawcd 1447 = some (.invokevirtual 195, 3) := by decide +kernel
theorem cL_1450 : mc_lawcd 1450 = some (.pop, 1) := by decide +kernel
theorem cL_1451 : mc_lawcd 1451 = some (.goto 202, 3) := by decide +kernel
theorem cL_1454 : mc_lawcd 1454 = some (.aload_n 1, 1) := by decide +kernel
theorem cL_1455 : mc_lawcd 1455 = some (.invokevirtual 196, 3) := by decide +kernel
theorem cL_1458 : mc_lawcd 1458 = some (.pop, 1) := by decide +kernel
theorem cL_1459 : mc_lawcd 1459 = some (.aload_n 2, 1) := by decide +kernel
theorem cL_1460 : mc_lawcd 1460 = some (.invokevirtual 199, 3) := by decide +kernel
theorem cL_1463 : mc_lawcd 1463 = some (.pop, 1) := by decide +kernel
theorem cL_1464 : mc_lawcd 1464 = some (.goto 189, 3) := by decide +kernel
theorem cL_1467 : mc_lawcd 1467 = some (.aload_n 1, 1) := by decide +kernel
theorem cL_1468 : mc_lawcd 1468 = some (.aload_n 0, 1) := by decide +kernel
theorem cL_1469 : mc_lawcd 1469 = some (.iload 4, 2) := by decide +kernel
theorem cL_1471 : mc_lawcd 1471 = some (.iconst 1, 1) := by decide +kernel
theorem cL_1472 : mc_lawcd 1472 = some (.iadd, 1) := by decide +kernel
theorem cL_1473 : mc_lawcd 1473 = some (.iaload, 1) := by decide +kernel
theorem cL_1474 : mc_lawcd 1474 = some (.aload_n 0, 1) := by decide +kernel
theorem cL_1475 : mc_lawcd 1475 = some (.iload 4, 2) := by decide +kernel
theorem cL_1477 : mc_lawcd 1477 = some (.iconst 2, 1) := by decide +kernel
theorem cL_1478 : mc_lawcd 1478 = some (.iadd, 1) := by decide +kernel
theorem cL_1479 : mc_lawcd 1479 = some (.iaload, 1) := by decide +kernel
theorem cL_1480 : mc_lawcd 1480 = some (.invokevirtual 200, 3) := by decide +kernel
theorem cL_1483 : mc_lawcd 1483 = some (.pop, 1) := by decide +kernel
theorem cL_1484 : mc_lawcd 1484 = some (.aload_n 2, 1) := by decide +kernel
theorem cL_1485 : mc_lawcd 1485 = some (.aload_n 0, 1) := by decide +kernel
theorem cL_1486 : mc_lawcd 1486 = some (.iload 4, 2) := by decide +kernel
theorem cL_1488 : mc_lawcd 1488 = some (.iconst 1, 1) := by decide +kernel
theorem cL_1489 : mc_lawcd 1489 = some (.iadd, 1) := by decide +kernel
theorem cL_1490 : mc_lawcd 1490 = some (.iaload, 1) := by decide +kernel
theorem cL_1491 : mc_lawcd 1491 = some (.aload_n 0, 1) := by decide +kernel
theorem cL_1492 : mc_lawcd 1492 = some (.iload 4, 2) := by decide +kernel
theorem cL_1494 : mc_lawcd 1494 = some (.iconst 2, 1) := by decide +kernel
theorem cL_1495 : mc_lawcd 1495 = some (.iadd, 1) := by decide +kernel
theorem cL_1496 : mc_lawcd 1496 = some (.iaload, 1) := by decide +kernel
theorem cL_1497 : mc_lawcd 1497 = some (.invokevirtual 203, 3) := by decide +kernel
theorem cL_1500 : mc_lawcd 1500 = some (.pop, 1) := by decide +kernel
theorem cL_1501 : mc_lawcd 1501 = some (.goto 152, 3) := by decide +kernel
theorem cL_1504 : mc_lawcd 1504 = some (.aload_n 1, 1) := by decide +kernel
theorem cL_1505 : mc_lawcd 1505 = some (.invokevirtual 204, 3) := by decide +kernel
theorem cL_1508 : mc_lawcd 1508 = some (.pop, 1) := by decide +kernel
theorem cL_1509 : mc_lawcd 1509 = some (.aload_n 2, 1) := by decide +kernel
theorem cL_1510 : mc_lawcd 1510 = some (.invokevirtual 208, 3) := by decide +kernel
theorem cL_1513 : mc_lawcd 1513 = some (.pop, 1) := by decide +kernel
theorem cL_1514 : mc_lawcd 1514 = some (.goto 139, 3) := by decide +kernel
theorem cL_1517 : mc_lawcd 1517 = some (.aload_n 1, 1) := by decide +kernel
theorem cL_1518 : mc_lawcd 1518 = some (.invokevirtual 209, 3) := by decide +kernel
theorem cL_1521 : mc_lawcd 1521 = some (.pop2, 1) := by decide +kernel
theorem cL_1522 : mc_lawcd 1522 = some (.aload_n 2, 1) := by decide +kernel
theorem cL_1523 : mc_lawcd 1523 = some (.invokevirtual 212, 3) := by decide +kernel
theorem cL_1526 : mc_lawcd 1526 = some (.pop2, 1) := by decide +kernel
theorem cL_1527 : mc_lawcd 1527 = some (.goto 126, 3) := by decide +kernel
theorem cL_1530 : mc_lawcd 1530 = some (.aload_n 1, 1) := by decide +kernel
theorem cL_1531 : mc_lawcd 1531 = some (.aload_n 0, 1) := by decide +kernel
theorem cL_1532 : mc_lawcd 1532 = some (.iload 4, 2) := by decide +kernel
theorem cL_1534 : mc_lawcd 1534 = some (.iconst 1, 1) := by decide +kernel
theorem cL_1535 : mc_lawcd 1535 = some (.iadd, 1) := by decide +kernel
theorem cL_1536 : mc_lawcd 1536 = some (.iaload, 1) := by decide +kernel
theorem cL_1537 : mc_lawcd 1537 = some (.i2l, 1) := by decide +kernel
theorem cL_1538 : mc_lawcd 1538 = some (.bipush 32, 2) := by decide +kernel
theorem cL_1540 : mc_lawcd 1540 = some (.lshl, 1) := by decide +kernel
theorem cL_1541 : mc_lawcd 1541 = some (.aload_n 0, 1) := by decide +kernel
theorem cL_1542 : mc_lawcd 1542 = some (.iload 4, 2) := by decide +kernel
theorem cL_1544 : mc_lawcd 1544 = some (.iconst 2, 1) := by decide +kernel
theorem cL_1545 : mc_lawcd 1545 = some (.iadd, 1) := by decide +kernel
theorem cL_1546 : mc_lawcd 1546 = some (.iaload, 1) := by decide +kernel
theorem cL_1547 : mc_lawcd 1547 = some (.i2l, 1) := by decide +kernel
theorem cL_1548 : mc_lawcd 1548 = some (.ldc2_w 213, 3) := by decide +kernel
theorem cL_1551 : mc_lawcd 1551 = some (.land, 1) := by decide +kernel
theorem cL_1552 : mc_lawcd 1552 = some (.lor, 1) := by decide +kernel
theorem cL_1553 : mc_lawcd 1553 = some (.invokevirtual 215, 3) := by decide +kernel
theorem cL_1556 : mc_lawcd 1556 = some (.pop, 1) := by decide +kernel
theorem cL_1557 : mc_lawcd 1557 = some (.aload_n 2, 1) := by decide +kernel
theorem cL_1558 : mc_lawcd 1558 = some (.aload_n 0, 1) := by decide +kernel
theorem cL_1559 : mc_lawcd 1559 = some (.iload 4, 2) := by decide +kernel
theorem cL_1561 : mc_lawcd 1561 = some (.iconst 1, 1) := by decide +kernel
theorem cL_1562 : mc_lawcd 1562 = some (.iadd, 1) := by decide +kernel
theorem cL_1563 : mc_lawcd 1563 = some (.iaload, 1) := by decide +kernel
theorem cL_1564 : mc_lawcd 1564 = some (.i2l, 1) := by decide +kernel
theorem cL_1565 : mc_lawcd 1565 = some (.bipush 32, 2) := by decide +kernel
theorem cL_1567 : mc_lawcd 1567 = some (.lshl, 1) := by decide +kernel
theorem cL_1568 : mc_lawcd 1568 = some (.aload_n 0, 1) := by decide +kernel
theorem cL_1569 : mc_lawcd 1569 = some (.iload 4, 2) := by decide +kernel
theorem cL_1571 : mc_lawcd 1571 = some (.iconst 2, 1) := by decide +kernel
theorem cL_1572 : mc_lawcd 1572 = some (.iadd, 1) := by decide +kernel
theorem cL_1573 : mc_lawcd 1573 = some (.iaload, 1) := by decide +kernel
theorem cL_1574 : mc_lawcd 1574 = some (.i2l, 1) := by decide +kernel
theorem cL_1575 : mc_lawcd 1575 = some (.ldc2_w 213, 3) := by decide +kernel
theorem cL_1578 : mc_lawcd 1578 = some (.land, 1) := by decide +kernel
theorem cL_1579 : mc_lawcd 1579 = some (.lor, 1) := by decide +kernel
theorem cL_1580 : mc_lawcd 1580 = some (.invokevirtual 219, 3) := by decide +kernel
theorem cL_1583 : mc_lawcd 1583 = some (.pop, 1) := by decide +kernel
theorem cL_1584 : mc_lawcd 1584 = some (.goto 69, 3) := by decide +kernel
theorem cL_1587 : mc_lawcd 1587 = some (.aload_n 1, 1) := by decide +kernel
theorem cL_1588 : mc_lawcd 1588 = some (.aload_n 0, 1) := by decide +kernel
theorem cL_1589 : mc_lawcd 1589 = some (.iload 4, 2) := by decide +kernel
theorem cL_1591 : mc_lawcd 1591 = some (.iconst 1, 1) := by decide +kernel
theorem cL_1592 : mc_lawcd 1592 = some (.iadd, 1) := by decide +kernel
theorem cL_1593 : mc_lawcd 1593 = some (.iaload, 1) := by decide +kernel
theorem cL_1594 : mc_lawcd 1594 = some (.aload_n 3, 1) := by decide +kernel
theorem cL_1595 : mc_lawcd 1595 = some (.invokestatic 220, 3) := by decide +kernel
theorem cL_1598 : mc_lawcd 1598 = some (.istore 5, 2) := by decide +kernel
theorem cL_1600 : mc_lawcd 1600 = some (.aload_n 2, 1) := by decide +kernel
theorem cL_1601 : mc_lawcd 1601 = some (.aload_n 0, 1) := by decide +kernel
theorem cL_1602 : mc_lawcd 1602 = some (.iload 4, 2) := by decide +kernel
theorem cL_1604 : mc_lawcd 1604 = some (.iconst 1, 1) := by decide +kernel
theorem cL_1605 : mc_lawcd 1605 = some (.iadd, 1) := by decide +kernel
theorem cL_1606 : mc_lawcd 1606 = some (.iaload, 1) := by decide +kernel
theorem cL_1607 : mc_lawcd 1607 = some (.invokevirtual 225, 3) := by decide +kernel
theorem cL_1610 : mc_lawcd 1610 = some (.istore 6, 2) := by decide +kernel
theorem cL_1612 : mc_lawcd 1612 = some (.goto 41, 3) := by decide +kernel
theorem cL_1615 : mc_lawcd 1615 = some (.aload_n 1, 1) := by decide +kernel
theorem cL_1616 : mc_lawcd 1616 = some (.aload_n 0, 1) := by decide +kernel
theorem cL_1617 : mc_lawcd 1617 = some (.iload 4, 2) := by decide +kernel
theorem cL_1619 : mc_lawcd 1619 = some (.iconst 1, 1) := by decide +kernel
theorem cL_1620 : mc_lawcd 1620 = some (.iadd, 1) := by decide +kernel
theorem cL_1621 : mc_lawcd 1621 = some (.iaload, 1) := by decide +kernel
theorem cL_1622 : mc_lawcd 1622 = some (.invokevirtual 226, 3) := by decide +kernel
theorem cL_1625 : mc_lawcd 1625 = some (.pop, 1) := by decide +kernel
theorem cL_1626 : mc_lawcd 1626 = some (.aload_n 2, 1) := by decide +kernel
theorem cL_1627 : mc_lawcd 1627 = some (.aload_n 0, 1) := by decide +kernel
theorem cL_1628 : mc_lawcd 1628 = some (.iload 4, 2) := by decide +kernel
theorem cL_1630 : mc_lawcd 1630 = some (.iconst 1, 1) := by decide +kernel
theorem cL_1631 : mc_lawcd 1631 = some (.iadd, 1) := by decide +kernel
theorem cL_1632 : mc_lawcd 1632 = some (.iaload, 1) := by decide +kernel
theorem cL_1633 : mc_lawcd 1633 = some (.invokevirtual 229, 3) := by decide +kernel
theorem cL_1636 : mc_lawcd 1636 = some (.pop, 1) := by decide +kernel
theorem cL_1637 : mc_lawcd 1637 = some (.goto 16, 3) := by decide +kernel
theorem cL_1640 : mc_lawcd 1640 = some (.aload_n 1, 1) := by decide +kernel
theorem cL_1641 : mc_lawcd 1641 = some (.invokevirtual 230, 3) := by decide +kernel
theorem cL_1644 : mc_lawcd 1644 = some (.pop, 1) := by decide +kernel
theorem cL_1645 : mc_lawcd 1645 = some (.aload_n 2, 1) := by decide +kernel
theorem cL_1646 : mc_lawcd 1646 = some (.invokevirtual 233, 3) := by decide +kernel
theorem cL_1649 : mc_lawcd 1649 = some (.pop, 1) := by decide +kernel
theorem cL_1650 : mc_lawcd 1650 = some (.goto 3, 3) := by decide +kernel
theorem cL_1653 : mc_lawcd 1653 = some (.iinc 4 6, 3) := by decide +kernel
theorem cL_1656 : mc_lawcd 1656 = some (.goto (-1633), 3) := by decide +kernel
theorem cL_1659 : mc_lawcd 1659 = some (.iconst 1, 1) := by decide +kernel
theorem cL_1660 : mc_lawcd 1660 = some (.ireturn, 1) := by decide +kernel
set_option maxHeartbeats 4000000 in
theorem wl_c0 {kt : Nat → Option mc_E} {CB SB : Nat} {X : mc_S → Prop} {T : wq_T} {H : wq_H} {Len x m o : Nat} {i : Int} (hX : wlX kt CB SB X) (hb : T.2.1 ≤ CB ∧ T.2.2.1 ≤ SB) (hI : wlJ Len x m o T H) (hL : Len ≤ 3072) (hi : 0 ≤ i ∧ i + 6 ≤ Len) (hb2 : T.2.1 + 20 ≤ CB ∧ T.2.2.1 + 500 ≤ SB)  (next : ∀ T' H', wlJ Len x m o T' H' → T'.2.1 ≤ T.2.1 + 20 → T'.2.2.1 ≤ T.2.2.1 + 500 → WL kt CB SB X 1653 (wlL i x m o) [] T' H') : WL kt CB SB X 256 (wlL i x m o) [] T H := by
  obtain ⟨⟨hW, g0, gx, gm, go, hK, hr⟩, hXI⟩ := hI
  refine wl_of hX hb cL_256 (rw_aload_n (pc' := 257) (v := .ref x) rfl rfl rfl ?_)
  refine wl_of hX hb cL_257 (rw_aload_n (pc' := 258) (v := .ref 0) rfl rfl rfl ?_)
  refine wl_of hX hb cL_258 (rw_iload (pc' := 260) (z := i) rfl rfl ?_)
  refine wl_of hX hb cL_260 (rw_iconst (pc' := 261) rfl ?_)
  refine wl_of hX hb cL_261 (rw_iadd (pc' := 262) rfl ?_)
  refine wl_of hX hb cL_262 (xa_I (so := 0) (pc' := 263) (a := 0) hW g0 (wsh_s _) (by omega) (wty_s _ _) (by omega) (by omega) rfl (fun b271468 b271469 => ?_))
  refine wl_of hX hb cL_263 (rw_aload_n (pc' := 264) (v := .ref 0) rfl rfl rfl ?_)
  refine wl_of hX hb cL_264 (rw_iload (pc' := 266) (z := i) rfl rfl ?_)
  refine wl_of hX hb cL_266 (rw_iconst (pc' := 267) rfl ?_)
  refine wl_of hX hb cL_267 (rw_iadd (pc' := 268) rfl ?_)
  refine wl_of hX hb cL_268 (xa_I (so := 0) (pc' := 269) (a := 0) hW g0 (wsh_s _) (by omega) (wty_s _ _) (by omega) (by omega) rfl (fun b271470 b271471 => ?_))
  refine wl_of hX hb cL_269 (rw_aload_n (pc' := 270) (v := .ref 0) rfl rfl rfl ?_)
  refine wl_of hX hb cL_270 (rw_iload (pc' := 272) (z := i) rfl rfl ?_)
  refine wl_of hX hb cL_272 (rw_iconst (pc' := 273) rfl ?_)
  refine wl_of hX hb cL_273 (rw_iadd (pc' := 274) rfl ?_)
  refine wl_of hX hb cL_274 (xa_I (so := 0) (pc' := 275) (a := 0) hW g0 (wsh_s _) (by omega) (wty_s _ _) (by omega) (by omega) rfl (fun b271472 b271473 => ?_))
  refine wl_of hX hb cL_275 (rw_aload_n (pc' := 276) (v := .ref 0) rfl rfl rfl ?_)
  refine wl_of hX hb cL_276 (rw_iload (pc' := 278) (z := i) rfl rfl ?_)
  refine wl_of hX hb cL_278 (rw_iconst (pc' := 279) rfl ?_)
  refine wl_of hX hb cL_279 (rw_iadd (pc' := 280) rfl ?_)
  refine wl_of hX hb cL_280 (xa_I (so := 0) (pc' := 281) (a := 0) hW g0 (wsh_s _) (by omega) (wty_s _ _) (by omega) (by omega) rfl (fun b271474 b271475 => ?_))
  refine wl_of hX hb cL_281 (rw_aload_n (pc' := 282) (v := .ref 0) rfl rfl rfl ?_)
  refine wl_of hX hb cL_282 (rw_iload (pc' := 284) (z := i) rfl rfl ?_)
  refine wl_of hX hb cL_284 (rw_iconst (pc' := 285) rfl ?_)
  refine wl_of hX hb cL_285 (rw_iadd (pc' := 286) rfl ?_)
  refine wl_of hX hb cL_286 (xa_I (so := 0) (pc' := 287) (a := 0) hW g0 (wsh_s _) (by omega) (wty_s _ _) (by omega) (by omega) rfl (fun b271476 b271477 => ?_))
  obtain ⟨B, tc, tm, cu, dr, e0, gtc, htc, em, gtm, htm, ecu, gcu, edr, gdr, hcu, hdr, -⟩ := hXI
  obtain ⟨t9, ht9⟩ : ∃ t : Int, t = H x 9 := ⟨_, rfl⟩
  obtain ⟨y9, hy9⟩ : ∃ y : Int, y = H 0 ((i + 5).toNat) := ⟨_, rfl⟩
  obtain ⟨d1, hd1⟩ : ∃ y : Int, y = H 0 ((i + 1).toNat) := ⟨_, rfl⟩
  obtain ⟨d2, hd2⟩ : ∃ y : Int, y = H 0 ((i + 2).toNat) := ⟨_, rfl⟩
  obtain ⟨d3, hd3⟩ : ∃ y : Int, y = H 0 ((i + 3).toNat) := ⟨_, rfl⟩
  obtain ⟨d4, hd4⟩ : ∃ y : Int, y = H 0 ((i + 4).toNat) := ⟨_, rfl⟩
  obtain ⟨d5, hd5⟩ : ∃ y : Int, y = H 0 ((i + 5).toNat) := ⟨_, rfl⟩
  refine wl_of hX hb cL_287 (xc_V (pc' := 290) (r := x) (as := [vI (H 0 ((i + 1).toNat)), vI (H 0 ((i + 2).toNat)), vI (H 0 ((i + 3).toNat)), vI (H 0 ((i + 4).toNat)), vI (H 0 ((i + 5).toNat))]) (st := []) (lm_11_19) rfl rfl (Nat.le_of_ble_eq_true rfl) hW gx sh_1 (by decide) rfl (by decide) (u_9 (B := B) (t := t9) (b1 := d1) (b2 := d2) (b3 := d3) (b4 := d4) (b5 := d5) hW gx ⟨by omega, by omega⟩ ⟨by omega, by omega⟩ ⟨by omega, by omega⟩ ⟨by omega, by omega⟩ ⟨by omega, by omega⟩ e0 gtc (by omega) (by omega) (by omega) (by omega) (by omega) (by omega) htc) (fun R271478 T271479 H271480 p271481 => ?_))
  obtain ⟨e271482, w271484, f271485, z271486, e271483, b271487, p271488⟩ := p271481
  subst e271482
  subst e271483
  rcases p271488 with ⟨a271489, a271490, a271491, a271492⟩ | ⟨a271493, a271494, a271495, a271496, a271497⟩
  · show WL _ _ _ _ 290 [(4, vI i), (3, .ref o), (2, .ref m), (1, .ref x), (0, .ref 0)] [vI z271486] _ H271480
    refine wl_of hX hb cL_290 (rw_pop (pc' := 291) rfl rfl ?_)
    refine wl_of hX hb cL_291 (rw_aload_n (pc' := 292) (v := .ref m) rfl rfl rfl ?_)
    refine wl_of hX hb cL_292 (rw_aload_n (pc' := 293) (v := .ref 0) rfl rfl rfl ?_)
    refine wl_of hX hb cL_293 (rw_iload (pc' := 295) (z := i) rfl rfl ?_)
    refine wl_of hX hb cL_295 (rw_iconst (pc' := 296) rfl ?_)
    refine wl_of hX hb cL_296 (rw_iadd (pc' := 297) rfl ?_)
    have k271500 : H271480 0 ((i + 1).toNat) = H 0 ((i + 1).toNat) := (f271485 0 ((i + 1).toNat) _ g0 (wmem_s rfl))
    refine wl_of hX hb cL_297 (xa_I (so := 0) (pc' := 298) (a := 0) w271484 g0 (wsh_s _) (by omega) (wty_s _ _) (by omega) (by omega) rfl (fun b271498 b271499 => ?_))
    refine wl_of hX hb cL_298 (rw_aload_n (pc' := 299) (v := .ref 0) rfl rfl rfl ?_)
    refine wl_of hX hb cL_299 (rw_iload (pc' := 301) (z := i) rfl rfl ?_)
    refine wl_of hX hb cL_301 (rw_iconst (pc' := 302) rfl ?_)
    refine wl_of hX hb cL_302 (rw_iadd (pc' := 303) rfl ?_)
    have k271503 : H271480 0 ((i + 2).toNat) = H 0 ((i + 2).toNat) := (f271485 0 ((i + 2).toNat) _ g0 (wmem_s rfl))
    refine wl_of hX hb cL_303 (xa_I (so := 0) (pc' := 304) (a := 0) w271484 g0 (wsh_s _) (by omega) (wty_s _ _) (by omega) (by omega) rfl (fun b271501 b271502 => ?_))
    refine wl_of hX hb cL_304 (rw_aload_n (pc' := 305) (v := .ref 0) rfl rfl rfl ?_)
    refine wl_of hX hb cL_305 (rw_iload (pc' := 307) (z := i) rfl rfl ?_)
    refine wl_of hX hb cL_307 (rw_iconst (pc' := 308) rfl ?_)
    refine wl_of hX hb cL_308 (rw_iadd (pc' := 309) rfl ?_)
    have k271506 : H271480 0 ((i + 3).toNat) = H 0 ((i + 3).toNat) := (f271485 0 ((i + 3).toNat) _ g0 (wmem_s rfl))
    refine wl_of hX hb cL_309 (xa_I (so := 0) (pc' := 310) (a := 0) w271484 g0 (wsh_s _) (by omega) (wty_s _ _) (by omega) (by omega) rfl (fun b271504 b271505 => ?_))
    refine wl_of hX hb cL_310 (rw_aload_n (pc' := 311) (v := .ref 0) rfl rfl rfl ?_)
    refine wl_of hX hb cL_311 (rw_iload (pc' := 313) (z := i) rfl rfl ?_)
    refine wl_of hX hb cL_313 (rw_iconst (pc' := 314) rfl ?_)
    refine wl_of hX hb cL_314 (rw_iadd (pc' := 315) rfl ?_)
    have k271509 : H271480 0 ((i + 4).toNat) = H 0 ((i + 4).toNat) := (f271485 0 ((i + 4).toNat) _ g0 (wmem_s rfl))
    refine wl_of hX hb cL_315 (xa_I (so := 0) (pc' := 316) (a := 0) w271484 g0 (wsh_s _) (by omega) (wty_s _ _) (by omega) (by omega) rfl (fun b271507 b271508 => ?_))
    refine wl_of hX hb cL_316 (rw_aload_n (pc' := 317) (v := .ref 0) rfl rfl rfl ?_)
    refine wl_of hX hb cL_317 (rw_iload (pc' := 319) (z := i) rfl rfl ?_)
    refine wl_of hX hb cL_319 (rw_iconst (pc' := 320) rfl ?_)
    refine wl_of hX hb cL_320 (rw_iadd (pc' := 321) rfl ?_)
    have k271512 : H271480 0 ((i + 5).toNat) = H 0 ((i + 5).toNat) := (f271485 0 ((i + 5).toNat) _ g0 (wmem_s rfl))
    refine wl_of hX hb cL_321 (xa_I (so := 0) (pc' := 322) (a := 0) w271484 g0 (wsh_s _) (by omega) (wty_s _ _) (by omega) (by omega) rfl (fun b271510 b271511 => ?_))
    have k271513 : wKI H271480 m = wKI H m := (wKI_fr hW gm f271485 rfl)
    have k271514 : H271480 m 6 = H m 6 := (f271485 m 6 _ gm rfl)
    have k271515 : H271480 m 5 = H m 5 := (f271485 m 5 _ gm rfl)
    have q271516 : H271480 m 5 = (tm : Int) := k271515.trans em
    have h271517 : TM T H271480 tm B := (TM_fr hW gtm f271485 rfl htm)
    refine wl_of hX hb cL_322 (xc_V (pc' := 325) (r := m) (as := [vI (H271480 0 ((i + 1).toNat)), vI (H271480 0 ((i + 2).toNat)), vI (H271480 0 ((i + 3).toNat)), vI (H271480 0 ((i + 4).toNat)), vI (H271480 0 ((i + 5).toNat))]) (st := []) (lm_11_23) rfl rfl (Nat.le_of_ble_eq_true rfl) w271484 gm sh_42 (by decide) rfl (by decide) (u_168 (B := B) (t := t9) (b1 := d1) (b2 := d2) (b3 := d3) (b4 := d4) (b5 := d5) w271484 gm ⟨by omega, by omega⟩ ⟨by omega, by omega⟩ ⟨by omega, by omega⟩ ⟨by omega, by omega⟩ ⟨by omega, by omega⟩ q271516 gtm (by omega) (by omega) (by omega) (by omega) (by omega) (by omega) h271517) (fun R271518 T271519 H271520 p271521 => ?_))
    obtain ⟨e271522, w271524, f271525, z271526, e271523, b271527, p271528⟩ := p271521
    subst e271522
    subst e271523
    rcases p271528 with ⟨a271529, a271530, a271531, a271532⟩ | ⟨a271533, a271534, a271535, a271536, a271537⟩
    · show WL _ _ _ _ 325 [(4, vI i), (3, .ref o), (2, .ref m), (1, .ref x), (0, .ref 0)] [vI z271526] _ H271520
      refine wl_of hX hb cL_325 (rw_pop (pc' := 326) rfl rfl ?_)
      refine wl_of hX hb cL_326 (rw_goto (p1 := 1653) (by decide) ?_)
      have k271538 : wKI H271520 m = wKI H271480 m := (wKI_fr w271484 gm f271525 rfl)
      have k271539 : H271520 x 9 = H271480 x 9 := (f271525 x 9 _ gx rfl)
      have k271540 : H271520 x 0 = H x 0 := ((f271525 x 0 _ gx rfl).trans (f271485 x 0 _ gx rfl))
      have q271541 : H271520 x 0 = (tc : Int) := k271540.trans e0
      have k271542 : H271520 m 5 = H271480 m 5 := (f271525 m 5 _ gm rfl)
      have q271543 : H271520 m 5 = (tm : Int) := k271542.trans q271516
      have k271544 : H271520 x 6 = H x 6 := ((f271525 x 6 _ gx rfl).trans (f271485 x 6 _ gx rfl))
      have q271545 : H271520 x 6 = (cu : Int) := k271544.trans ecu
      have k271546 : H271520 x 7 = H x 7 := ((f271525 x 7 _ gx rfl).trans (f271485 x 7 _ gx rfl))
      have q271547 : H271520 x 7 = (dr : Int) := k271546.trans edr
      have h271548 : TP T H271520 tc B := (TP_fr w271484 gtc f271525 rfl a271492)
      have h271549 : DD T H271520 cu  := (DD_fr w271484 gcu f271525 rfl (DD_fr hW gcu f271485 rfl hcu))
      have h271550 : DD T H271520 dr  := (DD_fr w271484 gdr f271525 rfl (DD_fr hW gdr f271485 rfl hdr))
      exact WL.loc hX (by simp) (next T H271520 ⟨⟨w271524, g0, gx, gm, go, by omega, by omega⟩, ⟨_, tc, tm, cu, dr, q271541, gtc, h271548, q271543, gtm, a271532, q271545, gcu, q271547, gdr, h271549, h271550, gm⟩⟩ (by omega) (by omega))
    · show WL _ _ _ _ 325 [(4, vI i), (3, .ref o), (2, .ref m), (1, .ref x), (0, .ref 0)] [vI z271526] _ H271520
      refine wl_of hX hb cL_325 (rw_pop (pc' := 326) rfl rfl ?_)
      refine wl_of hX hb cL_326 (rw_goto (p1 := 1653) (by decide) ?_)
      have k271551 : wKI H271520 m = wKI H271480 m := (wKI_fr w271484 gm f271525 rfl)
      have k271552 : H271520 x 9 = H271480 x 9 := (f271525 x 9 _ gx rfl)
      have k271553 : H271520 x 0 = H x 0 := ((f271525 x 0 _ gx rfl).trans (f271485 x 0 _ gx rfl))
      have q271554 : H271520 x 0 = (tc : Int) := k271553.trans e0
      have k271555 : H271520 m 5 = H271480 m 5 := (f271525 m 5 _ gm rfl)
      have q271556 : H271520 m 5 = (tm : Int) := k271555.trans q271516
      have k271557 : H271520 x 6 = H x 6 := ((f271525 x 6 _ gx rfl).trans (f271485 x 6 _ gx rfl))
      have q271558 : H271520 x 6 = (cu : Int) := k271557.trans ecu
      have k271559 : H271520 x 7 = H x 7 := ((f271525 x 7 _ gx rfl).trans (f271485 x 7 _ gx rfl))
      have q271560 : H271520 x 7 = (dr : Int) := k271559.trans edr
      have h271561 : TP T H271520 tc B := (TP_fr w271484 gtc f271525 rfl a271492)
      have h271562 : DD T H271520 cu  := (DD_fr w271484 gcu f271525 rfl (DD_fr hW gcu f271485 rfl hcu))
      have h271563 : DD T H271520 dr  := (DD_fr w271484 gdr f271525 rfl (DD_fr hW gdr f271485 rfl hdr))
      exfalso
      omega
  · show WL _ _ _ _ 290 [(4, vI i), (3, .ref o), (2, .ref m), (1, .ref x), (0, .ref 0)] [vI z271486] _ H271480
    refine wl_of hX hb cL_290 (rw_pop (pc' := 291) rfl rfl ?_)
    refine wl_of hX hb cL_291 (rw_aload_n (pc' := 292) (v := .ref m) rfl rfl rfl ?_)
    refine wl_of hX hb cL_292 (rw_aload_n (pc' := 293) (v := .ref 0) rfl rfl rfl ?_)
    refine wl_of hX hb cL_293 (rw_iload (pc' := 295) (z := i) rfl rfl ?_)
    refine wl_of hX hb cL_295 (rw_iconst (pc' := 296) rfl ?_)
    refine wl_of hX hb cL_296 (rw_iadd (pc' := 297) rfl ?_)
    have k271566 : H271480 0 ((i + 1).toNat) = H 0 ((i + 1).toNat) := (f271485 0 ((i + 1).toNat) _ g0 (wmem_s rfl))
    refine wl_of hX hb cL_297 (xa_I (so := 0) (pc' := 298) (a := 0) w271484 g0 (wsh_s _) (by omega) (wty_s _ _) (by omega) (by omega) rfl (fun b271564 b271565 => ?_))
    refine wl_of hX hb cL_298 (rw_aload_n (pc' := 299) (v := .ref 0) rfl rfl rfl ?_)
    refine wl_of hX hb cL_299 (rw_iload (pc' := 301) (z := i) rfl rfl ?_)
    refine wl_of hX hb cL_301 (rw_iconst (pc' := 302) rfl ?_)
    refine wl_of hX hb cL_302 (rw_iadd (pc' := 303) rfl ?_)
    have k271569 : H271480 0 ((i + 2).toNat) = H 0 ((i + 2).toNat) := (f271485 0 ((i + 2).toNat) _ g0 (wmem_s rfl))
    refine wl_of hX hb cL_303 (xa_I (so := 0) (pc' := 304) (a := 0) w271484 g0 (wsh_s _) (by omega) (wty_s _ _) (by omega) (by omega) rfl (fun b271567 b271568 => ?_))
    refine wl_of hX hb cL_304 (rw_aload_n (pc' := 305) (v := .ref 0) rfl rfl rfl ?_)
    refine wl_of hX hb cL_305 (rw_iload (pc' := 307) (z := i) rfl rfl ?_)
    refine wl_of hX hb cL_307 (rw_iconst (pc' := 308) rfl ?_)
    refine wl_of hX hb cL_308 (rw_iadd (pc' := 309) rfl ?_)
    have k271572 : H271480 0 ((i + 3).toNat) = H 0 ((i + 3).toNat) := (f271485 0 ((i + 3).toNat) _ g0 (wmem_s rfl))
    refine wl_of hX hb cL_309 (xa_I (so := 0) (pc' := 310) (a := 0) w271484 g0 (wsh_s _) (by omega) (wty_s _ _) (by omega) (by omega) rfl (fun b271570 b271571 => ?_))
    refine wl_of hX hb cL_310 (rw_aload_n (pc' := 311) (v := .ref 0) rfl rfl rfl ?_)
    refine wl_of hX hb cL_311 (rw_iload (pc' := 313) (z := i) rfl rfl ?_)
    refine wl_of hX hb cL_313 (rw_iconst (pc' := 314) rfl ?_)
    refine wl_of hX hb cL_314 (rw_iadd (pc' := 315) rfl ?_)
    have k271575 : H271480 0 ((i + 4).toNat) = H 0 ((i + 4).toNat) := (f271485 0 ((i + 4).toNat) _ g0 (wmem_s rfl))
    refine wl_of hX hb cL_315 (xa_I (so := 0) (pc' := 316) (a := 0) w271484 g0 (wsh_s _) (by omega) (wty_s _ _) (by omega) (by omega) rfl (fun b271573 b271574 => ?_))
    refine wl_of hX hb cL_316 (rw_aload_n (pc' := 317) (v := .ref 0) rfl rfl rfl ?_)
    refine wl_of hX hb cL_317 (rw_iload (pc' := 319) (z := i) rfl rfl ?_)
    refine wl_of hX hb cL_319 (rw_iconst (pc' := 320) rfl ?_)
    refine wl_of hX hb cL_320 (rw_iadd (pc' := 321) rfl ?_)
    have k271578 : H271480 0 ((i + 5).toNat) = H 0 ((i + 5).toNat) := (f271485 0 ((i + 5).toNat) _ g0 (wmem_s rfl))
    refine wl_of hX hb cL_321 (xa_I (so := 0) (pc' := 322) (a := 0) w271484 g0 (wsh_s _) (by omega) (wty_s _ _) (by omega) (by omega) rfl (fun b271576 b271577 => ?_))
    have k271579 : wKI H271480 m = wKI H m := (wKI_fr hW gm f271485 rfl)
    have k271580 : H271480 m 6 = H m 6 := (f271485 m 6 _ gm rfl)
    have k271581 : H271480 m 5 = H m 5 := (f271485 m 5 _ gm rfl)
    have q271582 : H271480 m 5 = (tm : Int) := k271581.trans em
    have h271583 : TM T H271480 tm B := (TM_fr hW gtm f271485 rfl htm)
    refine wl_of hX hb cL_322 (xc_V (pc' := 325) (r := m) (as := [vI (H271480 0 ((i + 1).toNat)), vI (H271480 0 ((i + 2).toNat)), vI (H271480 0 ((i + 3).toNat)), vI (H271480 0 ((i + 4).toNat)), vI (H271480 0 ((i + 5).toNat))]) (st := []) (lm_11_23) rfl rfl (Nat.le_of_ble_eq_true rfl) w271484 gm sh_42 (by decide) rfl (by decide) (u_168 (B := B) (t := t9) (b1 := d1) (b2 := d2) (b3 := d3) (b4 := d4) (b5 := d5) w271484 gm ⟨by omega, by omega⟩ ⟨by omega, by omega⟩ ⟨by omega, by omega⟩ ⟨by omega, by omega⟩ ⟨by omega, by omega⟩ q271582 gtm (by omega) (by omega) (by omega) (by omega) (by omega) (by omega) h271583) (fun R271584 T271585 H271586 p271587 => ?_))
    obtain ⟨e271588, w271590, f271591, z271592, e271589, b271593, p271594⟩ := p271587
    subst e271588
    subst e271589
    rcases p271594 with ⟨a271595, a271596, a271597, a271598⟩ | ⟨a271599, a271600, a271601, a271602, a271603⟩
    · show WL _ _ _ _ 325 [(4, vI i), (3, .ref o), (2, .ref m), (1, .ref x), (0, .ref 0)] [vI z271592] _ H271586
      refine wl_of hX hb cL_325 (rw_pop (pc' := 326) rfl rfl ?_)
      refine wl_of hX hb cL_326 (rw_goto (p1 := 1653) (by decide) ?_)
      have k271604 : wKI H271586 m = wKI H271480 m := (wKI_fr w271484 gm f271591 rfl)
      have k271605 : H271586 x 9 = H271480 x 9 := (f271591 x 9 _ gx rfl)
      have k271606 : H271586 x 0 = H x 0 := ((f271591 x 0 _ gx rfl).trans (f271485 x 0 _ gx rfl))
      have q271607 : H271586 x 0 = (tc : Int) := k271606.trans e0
      have k271608 : H271586 m 5 = H271480 m 5 := (f271591 m 5 _ gm rfl)
      have q271609 : H271586 m 5 = (tm : Int) := k271608.trans q271582
      have k271610 : H271586 x 6 = H x 6 := ((f271591 x 6 _ gx rfl).trans (f271485 x 6 _ gx rfl))
      have q271611 : H271586 x 6 = (cu : Int) := k271610.trans ecu
      have k271612 : H271586 x 7 = H x 7 := ((f271591 x 7 _ gx rfl).trans (f271485 x 7 _ gx rfl))
      have q271613 : H271586 x 7 = (dr : Int) := k271612.trans edr
      have h271614 : TP T H271586 tc (xfk B t9 d1 d2 d3 d4 d5 20) := (TP_fr w271484 gtc f271591 rfl a271497)
      have h271615 : DD T H271586 cu  := (DD_fr w271484 gcu f271591 rfl (DD_fr hW gcu f271485 rfl hcu))
      have h271616 : DD T H271586 dr  := (DD_fr w271484 gdr f271591 rfl (DD_fr hW gdr f271485 rfl hdr))
      exfalso
      omega
    · show WL _ _ _ _ 325 [(4, vI i), (3, .ref o), (2, .ref m), (1, .ref x), (0, .ref 0)] [vI z271592] _ H271586
      refine wl_of hX hb cL_325 (rw_pop (pc' := 326) rfl rfl ?_)
      refine wl_of hX hb cL_326 (rw_goto (p1 := 1653) (by decide) ?_)
      have k271617 : wKI H271586 m = wKI H271480 m := (wKI_fr w271484 gm f271591 rfl)
      have k271618 : H271586 x 9 = H271480 x 9 := (f271591 x 9 _ gx rfl)
      have k271619 : H271586 x 0 = H x 0 := ((f271591 x 0 _ gx rfl).trans (f271485 x 0 _ gx rfl))
      have q271620 : H271586 x 0 = (tc : Int) := k271619.trans e0
      have k271621 : H271586 m 5 = H271480 m 5 := (f271591 m 5 _ gm rfl)
      have q271622 : H271586 m 5 = (tm : Int) := k271621.trans q271582
      have k271623 : H271586 x 6 = H x 6 := ((f271591 x 6 _ gx rfl).trans (f271485 x 6 _ gx rfl))
      have q271624 : H271586 x 6 = (cu : Int) := k271623.trans ecu
      have k271625 : H271586 x 7 = H x 7 := ((f271591 x 7 _ gx rfl).trans (f271485 x 7 _ gx rfl))
      have q271626 : H271586 x 7 = (dr : Int) := k271625.trans edr
      have h271627 : TP T H271586 tc (xfk B t9 d1 d2 d3 d4 d5 20) := (TP_fr w271484 gtc f271591 rfl a271497)
      have h271628 : DD T H271586 cu  := (DD_fr w271484 gcu f271591 rfl (DD_fr hW gcu f271485 rfl hcu))
      have h271629 : DD T H271586 dr  := (DD_fr w271484 gdr f271591 rfl (DD_fr hW gdr f271485 rfl hdr))
      exact WL.loc hX (by simp) (next T H271586 ⟨⟨w271590, g0, gx, gm, go, by omega, by omega⟩, ⟨_, tc, tm, cu, dr, q271620, gtc, h271627, q271622, gtm, a271603, q271624, gcu, q271626, gdr, h271628, h271629, gm⟩⟩ (by omega) (by omega))
set_option maxHeartbeats 4000000 in
theorem wl_c1 {kt : Nat → Option mc_E} {CB SB : Nat} {X : mc_S → Prop} {T : wq_T} {H : wq_H} {Len x m o : Nat} {i : Int} (hX : wlX kt CB SB X) (hb : T.2.1 ≤ CB ∧ T.2.2.1 ≤ SB) (hI : wlJ Len x m o T H) (hL : Len ≤ 3072) (hi : 0 ≤ i ∧ i + 6 ≤ Len) (hb2 : T.2.1 + 20 ≤ CB ∧ T.2.2.1 + 500 ≤ SB)  (next : ∀ T' H', wlJ Len x m o T' H' → T'.2.1 ≤ T.2.1 + 20 → T'.2.2.1 ≤ T.2.2.1 + 500 → WL kt CB SB X 1653 (wlL i x m o) [] T' H') : WL kt CB SB X 329 (wlL i x m o) [] T H := by
  obtain ⟨⟨hW, g0, gx, gm, go, hK, hr⟩, hXI⟩ := hI
  refine wl_of hX hb cL_329 (rw_aload_n (pc' := 330) (v := .ref x) rfl rfl rfl ?_)
  refine wl_of hX hb cL_330 (rw_aload_n (pc' := 331) (v := .ref 0) rfl rfl rfl ?_)
  refine wl_of hX hb cL_331 (rw_iload (pc' := 333) (z := i) rfl rfl ?_)
  refine wl_of hX hb cL_333 (rw_iconst (pc' := 334) rfl ?_)
  refine wl_of hX hb cL_334 (rw_iadd (pc' := 335) rfl ?_)
  refine wl_of hX hb cL_335 (xa_I (so := 0) (pc' := 336) (a := 0) hW g0 (wsh_s _) (by omega) (wty_s _ _) (by omega) (by omega) rfl (fun b271630 b271631 => ?_))
  obtain ⟨B, tc, tm, cu, dr, e0, gtc, htc, em, gtm, htm, ecu, gcu, edr, gdr, hcu, hdr, -⟩ := hXI
  obtain ⟨t9, ht9⟩ : ∃ t : Int, t = H x 9 := ⟨_, rfl⟩
  obtain ⟨y9, hy9⟩ : ∃ y : Int, y = H 0 ((i + 1).toNat) := ⟨_, rfl⟩
  obtain ⟨r271632, q271633, g271634⟩ := hW.ref gx (t' := 3) (n := 13) (j := 1) (p := 0) (q := 0) rfl (by decide) rfl
  refine wl_of hX hb cL_336 (xc_V (pc' := 339) (r := x) (as := [vI (H 0 ((i + 1).toNat))]) (st := []) (lm_11_24) rfl rfl (Nat.le_of_ble_eq_true rfl) hW gx sh_1 (by decide) rfl (by decide) (u_11 (B := B) (y := y9) hW gx ⟨by omega, by omega⟩ e0 gtc q271633 g271634 ecu gcu edr gdr (by omega) htc hdr) (fun R271635 T271636 H271637 p271638 => ?_))
  obtain ⟨e271639, w271641, f271642, z271643, e271640, b271644, p271645⟩ := p271638
  subst e271639
  subst e271640
  rcases p271645 with ⟨a271646, a271647, a271648, a271649, a271650, a271651, a271652⟩ | ⟨a271653, a271654, a271655, a271656, a271657, a271658, a271659, a271660, a271661, a271662⟩ | ⟨a271663, a271664, a271665, a271666, a271667, a271668, a271669, a271670, a271671⟩
  · show WL _ _ _ _ 339 [(4, vI i), (3, .ref o), (2, .ref m), (1, .ref x), (0, .ref 0)] [vI z271643] _ H271637
    refine wl_of hX hb cL_339 (rw_aload_n (pc' := 340) (v := .ref m) rfl rfl rfl ?_)
    refine wl_of hX hb cL_340 (rw_aload_n (pc' := 341) (v := .ref 0) rfl rfl rfl ?_)
    refine wl_of hX hb cL_341 (rw_iload (pc' := 343) (z := i) rfl rfl ?_)
    refine wl_of hX hb cL_343 (rw_iconst (pc' := 344) rfl ?_)
    refine wl_of hX hb cL_344 (rw_iadd (pc' := 345) rfl ?_)
    have k271674 : H271637 0 ((i + 1).toNat) = H 0 ((i + 1).toNat) := (f271642 0 ((i + 1).toNat) _ g0 (wmem_s rfl))
    refine wl_of hX hb cL_345 (xa_I (so := 0) (pc' := 346) (a := 0) w271641 g0 (wsh_s _) (by omega) (wty_s _ _) (by omega) (by omega) rfl (fun b271672 b271673 => ?_))
    have k271675 : wKI H271637 m = wKI H m := (wKI_fr hW gm f271642 rfl)
    have k271676 : H271637 m 6 = H m 6 := (f271642 m 6 _ gm rfl)
    have k271677 : H271637 m 5 = H m 5 := (f271642 m 5 _ gm rfl)
    have q271678 : H271637 m 5 = (tm : Int) := k271677.trans em
    have h271679 : TM T H271637 tm B := (TM_fr hW gtm f271642 rfl htm)
    refine wl_of hX hb cL_346 (xc_V (pc' := 349) (r := m) (as := [vI (H271637 0 ((i + 1).toNat))]) (st := [vI z271643]) lm_11_27 rfl rfl (Nat.le_of_ble_eq_true rfl) w271641 gm sh_42 (by decide) rfl (by decide) (u_169 (B := B) (y := y9) w271641 gm ⟨by omega, by omega⟩ q271678 gtm (by omega) (by omega) h271679) (fun R9 T9 H9 p9 => ?_))
    obtain ⟨mT, nT, zT, w9, f9, z9, e9, b9, pa⟩ := p9
    subst e9
    have k271680 : H9 x 9 = H271637 x 9 := (f9 x 9 _ gx rfl)
    have k271681 : H9 x 0 = H x 0 := ((f9 x 0 _ gx rfl).trans (f271642 x 0 _ gx rfl))
    have q271682 : H9 x 0 = (tc : Int) := k271681.trans e0
    have k271683 : H9 m 5 = H271637 m 5 := (f9 m 5 _ gm rfl)
    have q271684 : H9 m 5 = (tm : Int) := k271683.trans q271678
    have k271685 : H9 x 6 = H271637 x 6 := (f9 x 6 _ gx rfl)
    have q271686 : H9 x 6 = (cu : Int) := k271685.trans a271650
    have k271687 : H9 x 7 = H271637 x 7 := (f9 x 7 _ gx rfl)
    have q271688 : H9 x 7 = (dr : Int) := k271687.trans a271651
    have h271689 : TP T H9 tc B := (TP_fr w271641 gtc f9 rfl (TP_fr hW gtc f271642 rfl htc))
    have h271690 : TM T H9 tm B := (TM_fr w271641 gtm f9 rfl h271679)
    have h271691 : DD T H9 cu  := (DD_fr w271641 gcu f9 rfl (DD_fr hW gcu f271642 rfl hcu))
    have h271692 : DD T H9 dr  := (DD_fr w271641 gdr f9 rfl (DD_fr hW gdr f271642 rfl hdr))
    have hb : T9.2.1 ≤ CB ∧ T9.2.2.1 ≤ SB := ⟨by omega, by omega⟩
    have hXI9 : XI T9 H9 x m := ⟨B, tc, tm, cu, dr, q271682, mT _ _ gtc, h271689, q271684, mT _ _ gtm, h271690, q271686, mT _ _ gcu, q271688, mT _ _ gdr, DD_mono mT h271691, DD_mono mT h271692, mT _ _ gm⟩
    have g0 := mT _ _ g0
    have gx := mT _ _ gx
    have gm := mT _ _ gm
    have go := mT _ _ go
    rcases pa with ⟨y0, y1, y2, y3, y4, y5, y6, y7⟩ | ⟨y0, y1, y2, y3, y4, y5, y6, y7, y8⟩ | ⟨y0, y1, y2, y3, y4, y5, y6, y7, y8, y9b⟩
    · show WL _ _ _ _ 349 [(4, vI i), (3, .ref o), (2, .ref m), (1, .ref x), (0, .ref 0)] [vI z9, vI z271643] _ H9
      refine wl_of hX hb cL_349 (rw_icmp_eq (p1 := 1653) (p2 := 352) (by decide) rfl ⟨by omega, by omega⟩ ⟨by omega, by omega⟩ (fun c271693 => ?_) (fun c271693 => ?_))
      · exact WL.loc hX (by simp) (next T9 H9 ⟨⟨w9, g0, gx, gm, go, by omega, by omega⟩, hXI9⟩ (by omega) (by omega))
      · refine wl_of hX hb cL_352 (rw_iconst (pc' := 353) rfl ?_)
        exfalso
        omega
    · show WL _ _ _ _ 349 [(4, vI i), (3, .ref o), (2, .ref m), (1, .ref x), (0, .ref 0)] [vI z9, vI z271643] _ H9
      refine wl_of hX hb cL_349 (rw_icmp_eq (p1 := 1653) (p2 := 352) (by decide) rfl ⟨by omega, by omega⟩ ⟨by omega, by omega⟩ (fun c271694 => ?_) (fun c271694 => ?_))
      · exact WL.loc hX (by simp) (next T9 H9 ⟨⟨w9, g0, gx, gm, go, by omega, by omega⟩, hXI9⟩ (by omega) (by omega))
      · refine wl_of hX hb cL_352 (rw_iconst (pc' := 353) rfl ?_)
        exfalso
        omega
    · show WL _ _ _ _ 349 [(4, vI i), (3, .ref o), (2, .ref m), (1, .ref x), (0, .ref 0)] [vI z9, vI z271643] _ H9
      refine wl_of hX hb cL_349 (rw_icmp_eq (p1 := 1653) (p2 := 352) (by decide) rfl ⟨by omega, by omega⟩ ⟨by omega, by omega⟩ (fun c271695 => ?_) (fun c271695 => ?_))
      · exact WL.loc hX (by simp) (next T9 H9 ⟨⟨w9, g0, gx, gm, go, by omega, by omega⟩, hXI9⟩ (by omega) (by omega))
      · refine wl_of hX hb cL_352 (rw_iconst (pc' := 353) rfl ?_)
        exfalso
        omega
  · show WL _ _ _ _ 339 [(4, vI i), (3, .ref o), (2, .ref m), (1, .ref x), (0, .ref 0)] [vI z271643] _ H271637
    refine wl_of hX hb cL_339 (rw_aload_n (pc' := 340) (v := .ref m) rfl rfl rfl ?_)
    refine wl_of hX hb cL_340 (rw_aload_n (pc' := 341) (v := .ref 0) rfl rfl rfl ?_)
    refine wl_of hX hb cL_341 (rw_iload (pc' := 343) (z := i) rfl rfl ?_)
    refine wl_of hX hb cL_343 (rw_iconst (pc' := 344) rfl ?_)
    refine wl_of hX hb cL_344 (rw_iadd (pc' := 345) rfl ?_)
    have k271698 : H271637 0 ((i + 1).toNat) = H 0 ((i + 1).toNat) := (f271642 0 ((i + 1).toNat) _ g0 (wmem_s rfl))
    refine wl_of hX hb cL_345 (xa_I (so := 0) (pc' := 346) (a := 0) w271641 g0 (wsh_s _) (by omega) (wty_s _ _) (by omega) (by omega) rfl (fun b271696 b271697 => ?_))
    have k271699 : wKI H271637 m = wKI H m := (wKI_fr hW gm f271642 rfl)
    have k271700 : H271637 m 6 = H m 6 := (f271642 m 6 _ gm rfl)
    have k271701 : H271637 m 5 = H m 5 := (f271642 m 5 _ gm rfl)
    have q271702 : H271637 m 5 = (tm : Int) := k271701.trans em
    have h271703 : TM T H271637 tm B := (TM_fr hW gtm f271642 rfl htm)
    refine wl_of hX hb cL_346 (xc_V (pc' := 349) (r := m) (as := [vI (H271637 0 ((i + 1).toNat))]) (st := [vI z271643]) lm_11_27 rfl rfl (Nat.le_of_ble_eq_true rfl) w271641 gm sh_42 (by decide) rfl (by decide) (u_169 (B := B) (y := y9) w271641 gm ⟨by omega, by omega⟩ q271702 gtm (by omega) (by omega) h271703) (fun R9 T9 H9 p9 => ?_))
    obtain ⟨mT, nT, zT, w9, f9, z9, e9, b9, pa⟩ := p9
    subst e9
    have k271704 : H9 x 9 = H271637 x 9 := (f9 x 9 _ gx rfl)
    have k271705 : H9 x 0 = H x 0 := ((f9 x 0 _ gx rfl).trans (f271642 x 0 _ gx rfl))
    have q271706 : H9 x 0 = (tc : Int) := k271705.trans e0
    have k271707 : H9 m 5 = H271637 m 5 := (f9 m 5 _ gm rfl)
    have q271708 : H9 m 5 = (tm : Int) := k271707.trans q271702
    have k271709 : H9 x 6 = H271637 x 6 := (f9 x 6 _ gx rfl)
    have q271710 : H9 x 6 = (cu : Int) := k271709.trans a271660
    have k271711 : H9 x 7 = H271637 x 7 := (f9 x 7 _ gx rfl)
    have q271712 : H9 x 7 = (dr : Int) := k271711.trans a271661
    have h271713 : TP T H9 tc B := (TP_fr w271641 gtc f9 rfl (TP_fr hW gtc f271642 rfl htc))
    have h271714 : TM T H9 tm B := (TM_fr w271641 gtm f9 rfl h271703)
    have h271715 : DD T H9 cu  := (DD_fr w271641 gcu f9 rfl (DD_fr hW gcu f271642 rfl hcu))
    have h271716 : DD T H9 dr  := (DD_fr w271641 gdr f9 rfl (DD_fr hW gdr f271642 rfl hdr))
    have hb : T9.2.1 ≤ CB ∧ T9.2.2.1 ≤ SB := ⟨by omega, by omega⟩
    have hXI9 : XI T9 H9 x m := ⟨B, tc, tm, cu, dr, q271706, mT _ _ gtc, h271713, q271708, mT _ _ gtm, h271714, q271710, mT _ _ gcu, q271712, mT _ _ gdr, DD_mono mT h271715, DD_mono mT h271716, mT _ _ gm⟩
    have g0 := mT _ _ g0
    have gx := mT _ _ gx
    have gm := mT _ _ gm
    have go := mT _ _ go
    rcases pa with ⟨y0, y1, y2, y3, y4, y5, y6, y7⟩ | ⟨y0, y1, y2, y3, y4, y5, y6, y7, y8⟩ | ⟨y0, y1, y2, y3, y4, y5, y6, y7, y8, y9b⟩
    · show WL _ _ _ _ 349 [(4, vI i), (3, .ref o), (2, .ref m), (1, .ref x), (0, .ref 0)] [vI z9, vI z271643] _ H9
      refine wl_of hX hb cL_349 (rw_icmp_eq (p1 := 1653) (p2 := 352) (by decide) rfl ⟨by omega, by omega⟩ ⟨by omega, by omega⟩ (fun c271717 => ?_) (fun c271717 => ?_))
      · exact WL.loc hX (by simp) (next T9 H9 ⟨⟨w9, g0, gx, gm, go, by omega, by omega⟩, hXI9⟩ (by omega) (by omega))
      · refine wl_of hX hb cL_352 (rw_iconst (pc' := 353) rfl ?_)
        exfalso
        omega
    · show WL _ _ _ _ 349 [(4, vI i), (3, .ref o), (2, .ref m), (1, .ref x), (0, .ref 0)] [vI z9, vI z271643] _ H9
      refine wl_of hX hb cL_349 (rw_icmp_eq (p1 := 1653) (p2 := 352) (by decide) rfl ⟨by omega, by omega⟩ ⟨by omega, by omega⟩ (fun c271718 => ?_) (fun c271718 => ?_))
      · exact WL.loc hX (by simp) (next T9 H9 ⟨⟨w9, g0, gx, gm, go, by omega, by omega⟩, hXI9⟩ (by omega) (by omega))
      · refine wl_of hX hb cL_352 (rw_iconst (pc' := 353) rfl ?_)
        exfalso
        omega
    · show WL _ _ _ _ 349 [(4, vI i), (3, .ref o), (2, .ref m), (1, .ref x), (0, .ref 0)] [vI z9, vI z271643] _ H9
      refine wl_of hX hb cL_349 (rw_icmp_eq (p1 := 1653) (p2 := 352) (by decide) rfl ⟨by omega, by omega⟩ ⟨by omega, by omega⟩ (fun c271719 => ?_) (fun c271719 => ?_))
      · exact WL.loc hX (by simp) (next T9 H9 ⟨⟨w9, g0, gx, gm, go, by omega, by omega⟩, hXI9⟩ (by omega) (by omega))
      · refine wl_of hX hb cL_352 (rw_iconst (pc' := 353) rfl ?_)
        exfalso
        omega
  · show WL _ _ _ _ 339 [(4, vI i), (3, .ref o), (2, .ref m), (1, .ref x), (0, .ref 0)] [vI z271643] _ H271637
    refine wl_of hX hb cL_339 (rw_aload_n (pc' := 340) (v := .ref m) rfl rfl rfl ?_)
    refine wl_of hX hb cL_340 (rw_aload_n (pc' := 341) (v := .ref 0) rfl rfl rfl ?_)
    refine wl_of hX hb cL_341 (rw_iload (pc' := 343) (z := i) rfl rfl ?_)
    refine wl_of hX hb cL_343 (rw_iconst (pc' := 344) rfl ?_)
    refine wl_of hX hb cL_344 (rw_iadd (pc' := 345) rfl ?_)
    have k271722 : H271637 0 ((i + 1).toNat) = H 0 ((i + 1).toNat) := (f271642 0 ((i + 1).toNat) _ g0 (wmem_s rfl))
    refine wl_of hX hb cL_345 (xa_I (so := 0) (pc' := 346) (a := 0) w271641 g0 (wsh_s _) (by omega) (wty_s _ _) (by omega) (by omega) rfl (fun b271720 b271721 => ?_))
    have k271723 : wKI H271637 m = wKI H m := (wKI_fr hW gm f271642 rfl)
    have k271724 : H271637 m 6 = H m 6 := (f271642 m 6 _ gm rfl)
    have k271725 : H271637 m 5 = H m 5 := (f271642 m 5 _ gm rfl)
    have q271726 : H271637 m 5 = (tm : Int) := k271725.trans em
    have h271727 : TM T H271637 tm B := (TM_fr hW gtm f271642 rfl htm)
    refine wl_of hX hb cL_346 (xc_V (pc' := 349) (r := m) (as := [vI (H271637 0 ((i + 1).toNat))]) (st := [vI z271643]) lm_11_27 rfl rfl (Nat.le_of_ble_eq_true rfl) w271641 gm sh_42 (by decide) rfl (by decide) (u_169 (B := B) (y := y9) w271641 gm ⟨by omega, by omega⟩ q271726 gtm (by omega) (by omega) h271727) (fun R9 T9 H9 p9 => ?_))
    obtain ⟨mT, nT, zT, w9, f9, z9, e9, b9, pa⟩ := p9
    subst e9
    have k271728 : H9 x 9 = H271637 x 9 := (f9 x 9 _ gx rfl)
    have k271729 : H9 x 0 = H x 0 := ((f9 x 0 _ gx rfl).trans (f271642 x 0 _ gx rfl))
    have q271730 : H9 x 0 = (tc : Int) := k271729.trans e0
    have k271731 : H9 m 5 = H271637 m 5 := (f9 m 5 _ gm rfl)
    have q271732 : H9 m 5 = (tm : Int) := k271731.trans q271726
    have k271733 : H9 x 6 = H271637 x 6 := (f9 x 6 _ gx rfl)
    have q271734 : H9 x 6 = (dr : Int) := k271733.trans a271669
    have k271735 : H9 x 7 = H271637 x 7 := (f9 x 7 _ gx rfl)
    have q271736 : H9 x 7 = (cu : Int) := k271735.trans a271670
    have h271737 : TP T H9 tc B := (TP_fr w271641 gtc f9 rfl (TP_fr hW gtc f271642 rfl htc))
    have h271738 : TM T H9 tm B := (TM_fr w271641 gtm f9 rfl h271727)
    have h271739 : DD T H9 cu  := (DD_fr w271641 gcu f9 rfl (DD_fr hW gcu f271642 rfl hcu))
    have h271740 : DD T H9 dr  := (DD_fr w271641 gdr f9 rfl (DD_fr hW gdr f271642 rfl hdr))
    have hb : T9.2.1 ≤ CB ∧ T9.2.2.1 ≤ SB := ⟨by omega, by omega⟩
    have hXI9 : XI T9 H9 x m := ⟨B, tc, tm, dr, cu, q271730, mT _ _ gtc, h271737, q271732, mT _ _ gtm, h271738, q271734, mT _ _ gdr, q271736, mT _ _ gcu, DD_mono mT h271740, DD_mono mT h271739, mT _ _ gm⟩
    have g0 := mT _ _ g0
    have gx := mT _ _ gx
    have gm := mT _ _ gm
    have go := mT _ _ go
    rcases pa with ⟨y0, y1, y2, y3, y4, y5, y6, y7⟩ | ⟨y0, y1, y2, y3, y4, y5, y6, y7, y8⟩ | ⟨y0, y1, y2, y3, y4, y5, y6, y7, y8, y9b⟩
    · show WL _ _ _ _ 349 [(4, vI i), (3, .ref o), (2, .ref m), (1, .ref x), (0, .ref 0)] [vI z9, vI z271643] _ H9
      refine wl_of hX hb cL_349 (rw_icmp_eq (p1 := 1653) (p2 := 352) (by decide) rfl ⟨by omega, by omega⟩ ⟨by omega, by omega⟩ (fun c271741 => ?_) (fun c271741 => ?_))
      · exact WL.loc hX (by simp) (next T9 H9 ⟨⟨w9, g0, gx, gm, go, by omega, by omega⟩, hXI9⟩ (by omega) (by omega))
      · refine wl_of hX hb cL_352 (rw_iconst (pc' := 353) rfl ?_)
        exfalso
        omega
    · show WL _ _ _ _ 349 [(4, vI i), (3, .ref o), (2, .ref m), (1, .ref x), (0, .ref 0)] [vI z9, vI z271643] _ H9
      refine wl_of hX hb cL_349 (rw_icmp_eq (p1 := 1653) (p2 := 352) (by decide) rfl ⟨by omega, by omega⟩ ⟨by omega, by omega⟩ (fun c271742 => ?_) (fun c271742 => ?_))
      · exact WL.loc hX (by simp) (next T9 H9 ⟨⟨w9, g0, gx, gm, go, by omega, by omega⟩, hXI9⟩ (by omega) (by omega))
      · refine wl_of hX hb cL_352 (rw_iconst (pc' := 353) rfl ?_)
        exfalso
        omega
    · show WL _ _ _ _ 349 [(4, vI i), (3, .ref o), (2, .ref m), (1, .ref x), (0, .ref 0)] [vI z9, vI z271643] _ H9
      refine wl_of hX hb cL_349 (rw_icmp_eq (p1 := 1653) (p2 := 352) (by decide) rfl ⟨by omega, by omega⟩ ⟨by omega, by omega⟩ (fun c271743 => ?_) (fun c271743 => ?_))
      · exact WL.loc hX (by simp) (next T9 H9 ⟨⟨w9, g0, gx, gm, go, by omega, by omega⟩, hXI9⟩ (by omega) (by omega))
      · refine wl_of hX hb cL_352 (rw_iconst (pc' := 353) rfl ?_)
        exfalso
        omega
set_option maxHeartbeats 4000000 in
theorem wl_c2 {kt : Nat → Option mc_E} {CB SB : Nat} {X : mc_S → Prop} {T : wq_T} {H : wq_H} {Len x m o : Nat} {i : Int} (hX : wlX kt CB SB X) (hb : T.2.1 ≤ CB ∧ T.2.2.1 ≤ SB) (hI : wlJ Len x m o T H) (hL : Len ≤ 3072) (hi : 0 ≤ i ∧ i + 6 ≤ Len) (hb2 : T.2.1 + 20 ≤ CB ∧ T.2.2.1 + 500 ≤ SB)  (next : ∀ T' H', wlJ Len x m o T' H' → T'.2.1 ≤ T.2.1 + 20 → T'.2.2.1 ≤ T.2.2.1 + 500 → WL kt CB SB X 1653 (wlL i x m o) [] T' H') : WL kt CB SB X 354 (wlL i x m o) [] T H := by
  obtain ⟨⟨hW, g0, gx, gm, go, hK, hr⟩, hXI⟩ := hI
  refine wl_of hX hb cL_354 (rw_aload_n (pc' := 355) (v := .ref x) rfl rfl rfl ?_)
  refine wl_of hX hb cL_355 (xc_V (pc' := 358) (r := x) (as := []) (st := []) (lm_11_28) rfl rfl (Nat.le_of_ble_eq_true rfl) hW gx sh_1 (by decide) rfl (by decide) (s_52 hW gx) (fun R271744 T271745 H271746 p271747 => ?_))
  obtain ⟨e271748, e271750, z271751, e271749, b271752⟩ := p271747
  subst e271748
  subst e271749
  subst e271750
  show WL _ _ _ _ 358 [(4, vI i), (3, .ref o), (2, .ref m), (1, .ref x), (0, .ref 0)] [vI z271751] _ H
  refine wl_of hX hb cL_358 (rw_pop (pc' := 359) rfl rfl ?_)
  refine wl_of hX hb cL_359 (rw_aload_n (pc' := 360) (v := .ref m) rfl rfl rfl ?_)
  refine wl_of hX hb cL_360 (xc_V (pc' := 363) (r := m) (as := []) (st := []) (lm_11_32) rfl rfl (Nat.le_of_ble_eq_true rfl) hW gm sh_42 (by decide) rfl (by decide) (s_210 hW gm (by omega)) (fun R271753 T271754 H271755 p271756 => ?_))
  obtain ⟨e271757, w271759, f271760, z271762, e271758, b271763, p271761⟩ := p271756
  subst e271757
  subst e271758
  show WL _ _ _ _ 363 [(4, vI i), (3, .ref o), (2, .ref m), (1, .ref x), (0, .ref 0)] [vI z271762] _ H271755
  refine wl_of hX hb cL_363 (rw_pop (pc' := 364) rfl rfl ?_)
  refine wl_of hX hb cL_364 (rw_goto (p1 := 1653) (by decide) ?_)
  have k271764 : H271755 x 9 = H x 9 := (f271760 x 9 _ gx rfl)
  have k271765 : H271755 m 6 = H m 6 := (f271760 m 6 _ gm rfl)
  have h271766 : XI T H271755 x m := (XI_fr hW gx f271760 rfl hXI)
  exact WL.loc hX (by simp) (next T H271755 ⟨⟨w271759, g0, gx, gm, go, by omega, by omega⟩, h271766⟩ (by omega) (by omega))
set_option maxHeartbeats 4000000 in
theorem wl_c3 {kt : Nat → Option mc_E} {CB SB : Nat} {X : mc_S → Prop} {T : wq_T} {H : wq_H} {Len x m o : Nat} {i : Int} (hX : wlX kt CB SB X) (hb : T.2.1 ≤ CB ∧ T.2.2.1 ≤ SB) (hI : wlJ Len x m o T H) (hL : Len ≤ 3072) (hi : 0 ≤ i ∧ i + 6 ≤ Len) (hb2 : T.2.1 + 20 ≤ CB ∧ T.2.2.1 + 500 ≤ SB)  (next : ∀ T' H', wlJ Len x m o T' H' → T'.2.1 ≤ T.2.1 + 20 → T'.2.2.1 ≤ T.2.2.1 + 500 → WL kt CB SB X 1653 (wlL i x m o) [] T' H') : WL kt CB SB X 367 (wlL i x m o) [] T H := by
  obtain ⟨⟨hW, g0, gx, gm, go, hK, hr⟩, hXI⟩ := hI
  refine wl_of hX hb cL_367 (rw_aload_n (pc' := 368) (v := .ref x) rfl rfl rfl ?_)
  refine wl_of hX hb cL_368 (xc_V (pc' := 371) (r := x) (as := []) (st := []) (lm_11_33) rfl rfl (Nat.le_of_ble_eq_true rfl) hW gx sh_1 (by decide) rfl (by decide) (s_53 hW gx) (fun R271767 T271768 H271769 p271770 => ?_))
  obtain ⟨e271771, e271773, z271774, e271772, b271775⟩ := p271770
  subst e271771
  subst e271772
  subst e271773
  show WL _ _ _ _ 371 [(4, vI i), (3, .ref o), (2, .ref m), (1, .ref x), (0, .ref 0)] [vI z271774] _ H
  refine wl_of hX hb cL_371 (rw_pop (pc' := 372) rfl rfl ?_)
  refine wl_of hX hb cL_372 (rw_aload_n (pc' := 373) (v := .ref m) rfl rfl rfl ?_)
  refine wl_of hX hb cL_373 (xc_V (pc' := 376) (r := m) (as := []) (st := []) (lm_11_36) rfl rfl (Nat.le_of_ble_eq_true rfl) hW gm sh_42 (by decide) rfl (by decide) (s_211 hW gm (by omega)) (fun R271776 T271777 H271778 p271779 => ?_))
  obtain ⟨e271780, w271782, f271783, z271785, e271781, b271786, p271784⟩ := p271779
  subst e271780
  subst e271781
  show WL _ _ _ _ 376 [(4, vI i), (3, .ref o), (2, .ref m), (1, .ref x), (0, .ref 0)] [vI z271785] _ H271778
  refine wl_of hX hb cL_376 (rw_pop (pc' := 377) rfl rfl ?_)
  refine wl_of hX hb cL_377 (rw_goto (p1 := 1653) (by decide) ?_)
  have k271787 : H271778 x 9 = H x 9 := (f271783 x 9 _ gx rfl)
  have k271788 : H271778 m 6 = H m 6 := (f271783 m 6 _ gm rfl)
  have h271789 : XI T H271778 x m := (XI_fr hW gx f271783 rfl hXI)
  exact WL.loc hX (by simp) (next T H271778 ⟨⟨w271782, g0, gx, gm, go, by omega, by omega⟩, h271789⟩ (by omega) (by omega))
set_option maxHeartbeats 4000000 in
theorem wl_c4 {kt : Nat → Option mc_E} {CB SB : Nat} {X : mc_S → Prop} {T : wq_T} {H : wq_H} {Len x m o : Nat} {i : Int} (hX : wlX kt CB SB X) (hb : T.2.1 ≤ CB ∧ T.2.2.1 ≤ SB) (hI : wlJ Len x m o T H) (hL : Len ≤ 3072) (hi : 0 ≤ i ∧ i + 6 ≤ Len) (hb2 : T.2.1 + 20 ≤ CB ∧ T.2.2.1 + 500 ≤ SB)  (next : ∀ T' H', wlJ Len x m o T' H' → T'.2.1 ≤ T.2.1 + 20 → T'.2.2.1 ≤ T.2.2.1 + 500 → WL kt CB SB X 1653 (wlL i x m o) [] T' H') : WL kt CB SB X 380 (wlL i x m o) [] T H := by
  obtain ⟨⟨hW, g0, gx, gm, go, hK, hr⟩, hXI⟩ := hI
  refine wl_of hX hb cL_380 (rw_aload_n (pc' := 381) (v := .ref x) rfl rfl rfl ?_)
  refine wl_of hX hb cL_381 (rw_aload_n (pc' := 382) (v := .ref 0) rfl rfl rfl ?_)
  refine wl_of hX hb cL_382 (rw_iload (pc' := 384) (z := i) rfl rfl ?_)
  refine wl_of hX hb cL_384 (rw_iconst (pc' := 385) rfl ?_)
  refine wl_of hX hb cL_385 (rw_iadd (pc' := 386) rfl ?_)
  refine wl_of hX hb cL_386 (xa_I (so := 0) (pc' := 387) (a := 0) hW g0 (wsh_s _) (by omega) (wty_s _ _) (by omega) (by omega) rfl (fun b271790 b271791 => ?_))
  refine wl_of hX hb cL_387 (xc_V (pc' := 390) (r := x) (as := [vI (H 0 ((i + 1).toNat))]) (st := []) (lm_11_37) rfl rfl (Nat.le_of_ble_eq_true rfl) hW gx sh_1 (by decide) rfl (by decide) (s_54 hW gx ⟨by omega, by omega⟩) (fun R271792 T271793 H271794 p271795 => ?_))
  obtain ⟨e271796, w271798, f271799, z271800, e271797, b271801⟩ := p271795
  subst e271796
  subst e271797
  show WL _ _ _ _ 390 [(4, vI i), (3, .ref o), (2, .ref m), (1, .ref x), (0, .ref 0)] [vI z271800] _ H271794
  refine wl_of hX hb cL_390 (rw_pop (pc' := 391) rfl rfl ?_)
  refine wl_of hX hb cL_391 (rw_aload_n (pc' := 392) (v := .ref m) rfl rfl rfl ?_)
  refine wl_of hX hb cL_392 (rw_aload_n (pc' := 393) (v := .ref 0) rfl rfl rfl ?_)
  refine wl_of hX hb cL_393 (rw_iload (pc' := 395) (z := i) rfl rfl ?_)
  refine wl_of hX hb cL_395 (rw_iconst (pc' := 396) rfl ?_)
  refine wl_of hX hb cL_396 (rw_iadd (pc' := 397) rfl ?_)
  have k271804 : H271794 0 ((i + 1).toNat) = H 0 ((i + 1).toNat) := (f271799 0 ((i + 1).toNat) _ g0 (wmem_s rfl))
  refine wl_of hX hb cL_397 (xa_I (so := 0) (pc' := 398) (a := 0) w271798 g0 (wsh_s _) (by omega) (wty_s _ _) (by omega) (by omega) rfl (fun b271802 b271803 => ?_))
  have k271805 : wKI H271794 m = wKI H m := (wKI_fr hW gm f271799 rfl)
  have k271806 : H271794 x 9 = H x 9 := (f271799 x 9 _ gx rfl)
  have k271807 : H271794 m 6 = H m 6 := (f271799 m 6 _ gm rfl)
  refine wl_of hX hb cL_398 (xc_V (pc' := 401) (r := m) (as := [vI (H271794 0 ((i + 1).toNat))]) (st := []) (lm_11_40) rfl rfl (Nat.le_of_ble_eq_true rfl) w271798 gm sh_42 (by decide) rfl (by decide) (s_212 w271798 gm ⟨by omega, by omega⟩ (by omega)) (fun R271808 T271809 H271810 p271811 => ?_))
  obtain ⟨e271812, w271814, f271815, z271817, e271813, b271818, p271816⟩ := p271811
  subst e271812
  subst e271813
  show WL _ _ _ _ 401 [(4, vI i), (3, .ref o), (2, .ref m), (1, .ref x), (0, .ref 0)] [vI z271817] _ H271810
  refine wl_of hX hb cL_401 (rw_pop (pc' := 402) rfl rfl ?_)
  refine wl_of hX hb cL_402 (rw_goto (p1 := 1653) (by decide) ?_)
  have k271819 : H271810 x 9 = H271794 x 9 := (f271815 x 9 _ gx rfl)
  have k271820 : H271810 m 6 = H271794 m 6 := (f271815 m 6 _ gm rfl)
  have h271821 : XI T H271810 x m := (XI_fr w271798 gx f271815 rfl (XI_fr hW gx f271799 rfl hXI))
  exact WL.loc hX (by simp) (next T H271810 ⟨⟨w271814, g0, gx, gm, go, by omega, by omega⟩, h271821⟩ (by omega) (by omega))
set_option maxHeartbeats 4000000 in
theorem wl_c5 {kt : Nat → Option mc_E} {CB SB : Nat} {X : mc_S → Prop} {T : wq_T} {H : wq_H} {Len x m o : Nat} {i : Int} (hX : wlX kt CB SB X) (hb : T.2.1 ≤ CB ∧ T.2.2.1 ≤ SB) (hI : wlJ Len x m o T H) (hL : Len ≤ 3072) (hi : 0 ≤ i ∧ i + 6 ≤ Len) (hb2 : T.2.1 + 20 ≤ CB ∧ T.2.2.1 + 500 ≤ SB)  (next : ∀ T' H', wlJ Len x m o T' H' → T'.2.1 ≤ T.2.1 + 20 → T'.2.2.1 ≤ T.2.2.1 + 500 → WL kt CB SB X 1653 (wlL i x m o) [] T' H') : WL kt CB SB X 405 (wlL i x m o) [] T H := by
  obtain ⟨⟨hW, g0, gx, gm, go, hK, hr⟩, hXI⟩ := hI
  refine wl_of hX hb cL_405 (rw_aload_n (pc' := 406) (v := .ref x) rfl rfl rfl ?_)
  refine wl_of hX hb cL_406 (rw_aload_n (pc' := 407) (v := .ref 0) rfl rfl rfl ?_)
  refine wl_of hX hb cL_407 (rw_iload (pc' := 409) (z := i) rfl rfl ?_)
  refine wl_of hX hb cL_409 (rw_iconst (pc' := 410) rfl ?_)
  refine wl_of hX hb cL_410 (rw_iadd (pc' := 411) rfl ?_)
  refine wl_of hX hb cL_411 (xa_I (so := 0) (pc' := 412) (a := 0) hW g0 (wsh_s _) (by omega) (wty_s _ _) (by omega) (by omega) rfl (fun b271822 b271823 => ?_))
  refine wl_of hX hb cL_412 (rw_aload_n (pc' := 413) (v := .ref 0) rfl rfl rfl ?_)
  refine wl_of hX hb cL_413 (rw_iload (pc' := 415) (z := i) rfl rfl ?_)
  refine wl_of hX hb cL_415 (rw_iconst (pc' := 416) rfl ?_)
  refine wl_of hX hb cL_416 (rw_iadd (pc' := 417) rfl ?_)
  refine wl_of hX hb cL_417 (xa_I (so := 0) (pc' := 418) (a := 0) hW g0 (wsh_s _) (by omega) (wty_s _ _) (by omega) (by omega) rfl (fun b271824 b271825 => ?_))
  refine wl_of hX hb cL_418 (rw_aload_n (pc' := 419) (v := .ref 0) rfl rfl rfl ?_)
  refine wl_of hX hb cL_419 (rw_iload (pc' := 421) (z := i) rfl rfl ?_)
  refine wl_of hX hb cL_421 (rw_iconst (pc' := 422) rfl ?_)
  refine wl_of hX hb cL_422 (rw_iadd (pc' := 423) rfl ?_)
  refine wl_of hX hb cL_423 (xa_I (so := 0) (pc' := 424) (a := 0) hW g0 (wsh_s _) (by omega) (wty_s _ _) (by omega) (by omega) rfl (fun b271826 b271827 => ?_))
  refine wl_of hX hb cL_424 (xc_V (pc' := 427) (r := x) (as := [vI (H 0 ((i + 1).toNat)), vI (H 0 ((i + 2).toNat)), vI (H 0 ((i + 3).toNat))]) (st := []) (lm_11_41) rfl rfl (Nat.le_of_ble_eq_true rfl) hW gx sh_1 (by decide) rfl (by decide) (s_56 hW gx ⟨by omega, by omega⟩ ⟨by omega, by omega⟩ ⟨by omega, by omega⟩) (fun R271828 T271829 H271830 p271831 => ?_))
  obtain ⟨e271832, w271834, f271835, z271836, e271833, b271837⟩ := p271831
  subst e271832
  subst e271833
  show WL _ _ _ _ 427 [(4, vI i), (3, .ref o), (2, .ref m), (1, .ref x), (0, .ref 0)] [vI z271836] _ H271830
  refine wl_of hX hb cL_427 (rw_pop (pc' := 428) rfl rfl ?_)
  refine wl_of hX hb cL_428 (rw_aload_n (pc' := 429) (v := .ref m) rfl rfl rfl ?_)
  refine wl_of hX hb cL_429 (rw_aload_n (pc' := 430) (v := .ref 0) rfl rfl rfl ?_)
  refine wl_of hX hb cL_430 (rw_iload (pc' := 432) (z := i) rfl rfl ?_)
  refine wl_of hX hb cL_432 (rw_iconst (pc' := 433) rfl ?_)
  refine wl_of hX hb cL_433 (rw_iadd (pc' := 434) rfl ?_)
  have k271840 : H271830 0 ((i + 1).toNat) = H 0 ((i + 1).toNat) := (f271835 0 ((i + 1).toNat) _ g0 (wmem_s rfl))
  refine wl_of hX hb cL_434 (xa_I (so := 0) (pc' := 435) (a := 0) w271834 g0 (wsh_s _) (by omega) (wty_s _ _) (by omega) (by omega) rfl (fun b271838 b271839 => ?_))
  refine wl_of hX hb cL_435 (rw_aload_n (pc' := 436) (v := .ref 0) rfl rfl rfl ?_)
  refine wl_of hX hb cL_436 (rw_iload (pc' := 438) (z := i) rfl rfl ?_)
  refine wl_of hX hb cL_438 (rw_iconst (pc' := 439) rfl ?_)
  refine wl_of hX hb cL_439 (rw_iadd (pc' := 440) rfl ?_)
  have k271843 : H271830 0 ((i + 2).toNat) = H 0 ((i + 2).toNat) := (f271835 0 ((i + 2).toNat) _ g0 (wmem_s rfl))
  refine wl_of hX hb cL_440 (xa_I (so := 0) (pc' := 441) (a := 0) w271834 g0 (wsh_s _) (by omega) (wty_s _ _) (by omega) (by omega) rfl (fun b271841 b271842 => ?_))
  refine wl_of hX hb cL_441 (rw_aload_n (pc' := 442) (v := .ref 0) rfl rfl rfl ?_)
  refine wl_of hX hb cL_442 (rw_iload (pc' := 444) (z := i) rfl rfl ?_)
  refine wl_of hX hb cL_444 (rw_iconst (pc' := 445) rfl ?_)
  refine wl_of hX hb cL_445 (rw_iadd (pc' := 446) rfl ?_)
  have k271846 : H271830 0 ((i + 3).toNat) = H 0 ((i + 3).toNat) := (f271835 0 ((i + 3).toNat) _ g0 (wmem_s rfl))
  refine wl_of hX hb cL_446 (xa_I (so := 0) (pc' := 447) (a := 0) w271834 g0 (wsh_s _) (by omega) (wty_s _ _) (by omega) (by omega) rfl (fun b271844 b271845 => ?_))
  have k271847 : wKI H271830 m = wKI H m := (wKI_fr hW gm f271835 rfl)
  have k271848 : H271830 x 9 = H x 9 := (f271835 x 9 _ gx rfl)
  have k271849 : H271830 m 6 = H m 6 := (f271835 m 6 _ gm rfl)
  refine wl_of hX hb cL_447 (xc_V (pc' := 450) (r := m) (as := [vI (H271830 0 ((i + 1).toNat)), vI (H271830 0 ((i + 2).toNat)), vI (H271830 0 ((i + 3).toNat))]) (st := []) (lm_11_45) rfl rfl (Nat.le_of_ble_eq_true rfl) w271834 gm sh_42 (by decide) rfl (by decide) (s_214 w271834 gm ⟨by omega, by omega⟩ ⟨by omega, by omega⟩ ⟨by omega, by omega⟩ (by omega)) (fun R271850 T271851 H271852 p271853 => ?_))
  obtain ⟨e271854, w271856, f271857, z271859, e271855, b271860, p271858⟩ := p271853
  subst e271854
  subst e271855
  show WL _ _ _ _ 450 [(4, vI i), (3, .ref o), (2, .ref m), (1, .ref x), (0, .ref 0)] [vI z271859] _ H271852
  refine wl_of hX hb cL_450 (rw_pop (pc' := 451) rfl rfl ?_)
  refine wl_of hX hb cL_451 (rw_goto (p1 := 1653) (by decide) ?_)
  have k271861 : H271852 x 9 = H271830 x 9 := (f271857 x 9 _ gx rfl)
  have k271862 : H271852 m 6 = H271830 m 6 := (f271857 m 6 _ gm rfl)
  have h271863 : XI T H271852 x m := (XI_fr w271834 gx f271857 rfl (XI_fr hW gx f271835 rfl hXI))
  exact WL.loc hX (by simp) (next T H271852 ⟨⟨w271856, g0, gx, gm, go, by omega, by omega⟩, h271863⟩ (by omega) (by omega))
set_option maxHeartbeats 4000000 in
theorem wl_c6 {kt : Nat → Option mc_E} {CB SB : Nat} {X : mc_S → Prop} {T : wq_T} {H : wq_H} {Len x m o : Nat} {i : Int} (hX : wlX kt CB SB X) (hb : T.2.1 ≤ CB ∧ T.2.2.1 ≤ SB) (hI : wlJ Len x m o T H) (hL : Len ≤ 3072) (hi : 0 ≤ i ∧ i + 6 ≤ Len) (hb2 : T.2.1 + 20 ≤ CB ∧ T.2.2.1 + 500 ≤ SB)  (next : ∀ T' H', wlJ Len x m o T' H' → T'.2.1 ≤ T.2.1 + 20 → T'.2.2.1 ≤ T.2.2.1 + 500 → WL kt CB SB X 1653 (wlL i x m o) [] T' H') : WL kt CB SB X 454 (wlL i x m o) [] T H := by
  obtain ⟨⟨hW, g0, gx, gm, go, hK, hr⟩, hXI⟩ := hI
  refine wl_of hX hb cL_454 (rw_aload_n (pc' := 455) (v := .ref x) rfl rfl rfl ?_)
  refine wl_of hX hb cL_455 (rw_aload_n (pc' := 456) (v := .ref 0) rfl rfl rfl ?_)
  refine wl_of hX hb cL_456 (rw_iload (pc' := 458) (z := i) rfl rfl ?_)
  refine wl_of hX hb cL_458 (rw_iconst (pc' := 459) rfl ?_)
  refine wl_of hX hb cL_459 (rw_iadd (pc' := 460) rfl ?_)
  refine wl_of hX hb cL_460 (xa_I (so := 0) (pc' := 461) (a := 0) hW g0 (wsh_s _) (by omega) (wty_s _ _) (by omega) (by omega) rfl (fun b271864 b271865 => ?_))
  refine wl_of hX hb cL_461 (rw_aload_n (pc' := 462) (v := .ref 0) rfl rfl rfl ?_)
  refine wl_of hX hb cL_462 (rw_iload (pc' := 464) (z := i) rfl rfl ?_)
  refine wl_of hX hb cL_464 (rw_iconst (pc' := 465) rfl ?_)
  refine wl_of hX hb cL_465 (rw_iadd (pc' := 466) rfl ?_)
  refine wl_of hX hb cL_466 (xa_I (so := 0) (pc' := 467) (a := 0) hW g0 (wsh_s _) (by omega) (wty_s _ _) (by omega) (by omega) rfl (fun b271866 b271867 => ?_))
  refine wl_of hX hb cL_467 (rw_aload_n (pc' := 468) (v := .ref 0) rfl rfl rfl ?_)
  refine wl_of hX hb cL_468 (rw_iload (pc' := 470) (z := i) rfl rfl ?_)
  refine wl_of hX hb cL_470 (rw_iconst (pc' := 471) rfl ?_)
  refine wl_of hX hb cL_471 (rw_iadd (pc' := 472) rfl ?_)
  refine wl_of hX hb cL_472 (xa_I (so := 0) (pc' := 473) (a := 0) hW g0 (wsh_s _) (by omega) (wty_s _ _) (by omega) (by omega) rfl (fun b271868 b271869 => ?_))
  refine wl_of hX hb cL_473 (xc_V (pc' := 476) (r := x) (as := [vI (H 0 ((i + 1).toNat)), vI (H 0 ((i + 2).toNat)), vI (H 0 ((i + 3).toNat))]) (st := []) (lm_11_46) rfl rfl (Nat.le_of_ble_eq_true rfl) hW gx sh_1 (by decide) rfl (by decide) (s_59 hW gx ⟨by omega, by omega⟩ ⟨by omega, by omega⟩ ⟨by omega, by omega⟩) (fun R271870 T271871 H271872 p271873 => ?_))
  obtain ⟨e271874, w271876, f271877, z271878, e271875, b271879⟩ := p271873
  subst e271874
  subst e271875
  show WL _ _ _ _ 476 [(4, vI i), (3, .ref o), (2, .ref m), (1, .ref x), (0, .ref 0)] [vI z271878] _ H271872
  refine wl_of hX hb cL_476 (rw_pop (pc' := 477) rfl rfl ?_)
  refine wl_of hX hb cL_477 (rw_aload_n (pc' := 478) (v := .ref m) rfl rfl rfl ?_)
  refine wl_of hX hb cL_478 (rw_aload_n (pc' := 479) (v := .ref 0) rfl rfl rfl ?_)
  refine wl_of hX hb cL_479 (rw_iload (pc' := 481) (z := i) rfl rfl ?_)
  refine wl_of hX hb cL_481 (rw_iconst (pc' := 482) rfl ?_)
  refine wl_of hX hb cL_482 (rw_iadd (pc' := 483) rfl ?_)
  have k271882 : H271872 0 ((i + 1).toNat) = H 0 ((i + 1).toNat) := (f271877 0 ((i + 1).toNat) _ g0 (wmem_s rfl))
  refine wl_of hX hb cL_483 (xa_I (so := 0) (pc' := 484) (a := 0) w271876 g0 (wsh_s _) (by omega) (wty_s _ _) (by omega) (by omega) rfl (fun b271880 b271881 => ?_))
  refine wl_of hX hb cL_484 (rw_aload_n (pc' := 485) (v := .ref 0) rfl rfl rfl ?_)
  refine wl_of hX hb cL_485 (rw_iload (pc' := 487) (z := i) rfl rfl ?_)
  refine wl_of hX hb cL_487 (rw_iconst (pc' := 488) rfl ?_)
  refine wl_of hX hb cL_488 (rw_iadd (pc' := 489) rfl ?_)
  have k271885 : H271872 0 ((i + 2).toNat) = H 0 ((i + 2).toNat) := (f271877 0 ((i + 2).toNat) _ g0 (wmem_s rfl))
  refine wl_of hX hb cL_489 (xa_I (so := 0) (pc' := 490) (a := 0) w271876 g0 (wsh_s _) (by omega) (wty_s _ _) (by omega) (by omega) rfl (fun b271883 b271884 => ?_))
  refine wl_of hX hb cL_490 (rw_aload_n (pc' := 491) (v := .ref 0) rfl rfl rfl ?_)
  refine wl_of hX hb cL_491 (rw_iload (pc' := 493) (z := i) rfl rfl ?_)
  refine wl_of hX hb cL_493 (rw_iconst (pc' := 494) rfl ?_)
  refine wl_of hX hb cL_494 (rw_iadd (pc' := 495) rfl ?_)
  have k271888 : H271872 0 ((i + 3).toNat) = H 0 ((i + 3).toNat) := (f271877 0 ((i + 3).toNat) _ g0 (wmem_s rfl))
  refine wl_of hX hb cL_495 (xa_I (so := 0) (pc' := 496) (a := 0) w271876 g0 (wsh_s _) (by omega) (wty_s _ _) (by omega) (by omega) rfl (fun b271886 b271887 => ?_))
  have k271889 : wKI H271872 m = wKI H m := (wKI_fr hW gm f271877 rfl)
  have k271890 : H271872 x 9 = H x 9 := (f271877 x 9 _ gx rfl)
  have k271891 : H271872 m 6 = H m 6 := (f271877 m 6 _ gm rfl)
  refine wl_of hX hb cL_496 (xc_V (pc' := 499) (r := m) (as := [vI (H271872 0 ((i + 1).toNat)), vI (H271872 0 ((i + 2).toNat)), vI (H271872 0 ((i + 3).toNat))]) (st := []) (lm_11_49) rfl rfl (Nat.le_of_ble_eq_true rfl) w271876 gm sh_42 (by decide) rfl (by decide) (s_217 w271876 gm ⟨by omega, by omega⟩ ⟨by omega, by omega⟩ ⟨by omega, by omega⟩ (by omega)) (fun R271892 T271893 H271894 p271895 => ?_))
  obtain ⟨e271896, w271898, f271899, z271901, e271897, b271902, p271900⟩ := p271895
  subst e271896
  subst e271897
  show WL _ _ _ _ 499 [(4, vI i), (3, .ref o), (2, .ref m), (1, .ref x), (0, .ref 0)] [vI z271901] _ H271894
  refine wl_of hX hb cL_499 (rw_pop (pc' := 500) rfl rfl ?_)
  refine wl_of hX hb cL_500 (rw_goto (p1 := 1653) (by decide) ?_)
  have k271903 : H271894 x 9 = H271872 x 9 := (f271899 x 9 _ gx rfl)
  have k271904 : H271894 m 6 = H271872 m 6 := (f271899 m 6 _ gm rfl)
  have h271905 : XI T H271894 x m := (XI_fr w271876 gx f271899 rfl (XI_fr hW gx f271877 rfl hXI))
  exact WL.loc hX (by simp) (next T H271894 ⟨⟨w271898, g0, gx, gm, go, by omega, by omega⟩, h271905⟩ (by omega) (by omega))
set_option maxHeartbeats 4000000 in
theorem wl_c7 {kt : Nat → Option mc_E} {CB SB : Nat} {X : mc_S → Prop} {T : wq_T} {H : wq_H} {Len x m o : Nat} {i : Int} (hX : wlX kt CB SB X) (hb : T.2.1 ≤ CB ∧ T.2.2.1 ≤ SB) (hI : wlJ Len x m o T H) (hL : Len ≤ 3072) (hi : 0 ≤ i ∧ i + 6 ≤ Len) (hb2 : T.2.1 + 20 ≤ CB ∧ T.2.2.1 + 500 ≤ SB)  (next : ∀ T' H', wlJ Len x m o T' H' → T'.2.1 ≤ T.2.1 + 20 → T'.2.2.1 ≤ T.2.2.1 + 500 → WL kt CB SB X 1653 (wlL i x m o) [] T' H') : WL kt CB SB X 503 (wlL i x m o) [] T H := by
  obtain ⟨⟨hW, g0, gx, gm, go, hK, hr⟩, hXI⟩ := hI
  refine wl_of hX hb cL_503 (rw_aload_n (pc' := 504) (v := .ref x) rfl rfl rfl ?_)
  refine wl_of hX hb cL_504 (xc_V (pc' := 507) (r := x) (as := []) (st := []) (lm_11_50) rfl rfl (Nat.le_of_ble_eq_true rfl) hW gx sh_1 (by decide) rfl (by decide) (s_61 hW gx) (fun R271906 T271907 H271908 p271909 => ?_))
  obtain ⟨e271910, w271912, f271913, z271914, e271911, b271915⟩ := p271909
  subst e271910
  subst e271911
  show WL _ _ _ _ 507 [(4, vI i), (3, .ref o), (2, .ref m), (1, .ref x), (0, .ref 0)] [vL z271914] _ H271908
  refine wl_of hX hb cL_507 (rw_pop2 (pc' := 508) rfl rfl ?_)
  refine wl_of hX hb cL_508 (rw_aload_n (pc' := 509) (v := .ref m) rfl rfl rfl ?_)
  have k271916 : wKI H271908 m = wKI H m := (wKI_fr hW gm f271913 rfl)
  have k271917 : H271908 x 9 = H x 9 := (f271913 x 9 _ gx rfl)
  have k271918 : H271908 m 6 = H m 6 := (f271913 m 6 _ gm rfl)
  refine wl_of hX hb cL_509 (xc_V (pc' := 512) (r := m) (as := []) (st := []) (lm_11_54) rfl rfl (Nat.le_of_ble_eq_true rfl) w271912 gm sh_42 (by decide) rfl (by decide) (s_219 w271912 gm (by omega)) (fun R271919 T271920 H271921 p271922 => ?_))
  obtain ⟨e271923, w271925, f271926, z271928, e271924, b271929, p271927⟩ := p271922
  subst e271923
  subst e271924
  show WL _ _ _ _ 512 [(4, vI i), (3, .ref o), (2, .ref m), (1, .ref x), (0, .ref 0)] [vL z271928] _ H271921
  refine wl_of hX hb cL_512 (rw_pop2 (pc' := 513) rfl rfl ?_)
  refine wl_of hX hb cL_513 (rw_goto (p1 := 1653) (by decide) ?_)
  have k271930 : H271921 x 9 = H271908 x 9 := (f271926 x 9 _ gx rfl)
  have k271931 : H271921 m 6 = H271908 m 6 := (f271926 m 6 _ gm rfl)
  have h271932 : XI T H271921 x m := (XI_fr w271912 gx f271926 rfl (XI_fr hW gx f271913 rfl hXI))
  exact WL.loc hX (by simp) (next T H271921 ⟨⟨w271925, g0, gx, gm, go, by omega, by omega⟩, h271932⟩ (by omega) (by omega))
set_option maxHeartbeats 4000000 in
theorem wl_c8 {kt : Nat → Option mc_E} {CB SB : Nat} {X : mc_S → Prop} {T : wq_T} {H : wq_H} {Len x m o : Nat} {i : Int} (hX : wlX kt CB SB X) (hb : T.2.1 ≤ CB ∧ T.2.2.1 ≤ SB) (hI : wlJ Len x m o T H) (hL : Len ≤ 3072) (hi : 0 ≤ i ∧ i + 6 ≤ Len) (hb2 : T.2.1 + 20 ≤ CB ∧ T.2.2.1 + 500 ≤ SB)  (next : ∀ T' H', wlJ Len x m o T' H' → T'.2.1 ≤ T.2.1 + 20 → T'.2.2.1 ≤ T.2.2.1 + 500 → WL kt CB SB X 1653 (wlL i x m o) [] T' H') : WL kt CB SB X 516 (wlL i x m o) [] T H := by
  obtain ⟨⟨hW, g0, gx, gm, go, hK, hr⟩, hXI⟩ := hI
  refine wl_of hX hb cL_516 (rw_aload_n (pc' := 517) (v := .ref x) rfl rfl rfl ?_)
  refine wl_of hX hb cL_517 (rw_aload_n (pc' := 518) (v := .ref 0) rfl rfl rfl ?_)
  refine wl_of hX hb cL_518 (rw_iload (pc' := 520) (z := i) rfl rfl ?_)
  refine wl_of hX hb cL_520 (rw_iconst (pc' := 521) rfl ?_)
  refine wl_of hX hb cL_521 (rw_iadd (pc' := 522) rfl ?_)
  refine wl_of hX hb cL_522 (xa_I (so := 0) (pc' := 523) (a := 0) hW g0 (wsh_s _) (by omega) (wty_s _ _) (by omega) (by omega) rfl (fun b271933 b271934 => ?_))
  refine wl_of hX hb cL_523 (rw_aload_n (pc' := 524) (v := .ref 0) rfl rfl rfl ?_)
  refine wl_of hX hb cL_524 (rw_iload (pc' := 526) (z := i) rfl rfl ?_)
  refine wl_of hX hb cL_526 (rw_iconst (pc' := 527) rfl ?_)
  refine wl_of hX hb cL_527 (rw_iadd (pc' := 528) rfl ?_)
  refine wl_of hX hb cL_528 (xa_I (so := 0) (pc' := 529) (a := 0) hW g0 (wsh_s _) (by omega) (wty_s _ _) (by omega) (by omega) rfl (fun b271935 b271936 => ?_))
  refine wl_of hX hb cL_529 (xc_V (pc' := 532) (r := x) (as := [vI (H 0 ((i + 1).toNat)), vI (H 0 ((i + 2).toNat))]) (st := []) (lm_11_55) rfl rfl (Nat.le_of_ble_eq_true rfl) hW gx sh_1 (by decide) rfl (by decide) (s_62 hW gx ⟨by omega, by omega⟩ ⟨by omega, by omega⟩) (fun R271937 T271938 H271939 p271940 => ?_))
  obtain ⟨e271941, w271943, f271944, z271945, e271942, b271946⟩ := p271940
  subst e271941
  subst e271942
  show WL _ _ _ _ 532 [(4, vI i), (3, .ref o), (2, .ref m), (1, .ref x), (0, .ref 0)] [vI z271945] _ H271939
  refine wl_of hX hb cL_532 (rw_pop (pc' := 533) rfl rfl ?_)
  refine wl_of hX hb cL_533 (rw_aload_n (pc' := 534) (v := .ref m) rfl rfl rfl ?_)
  refine wl_of hX hb cL_534 (rw_aload_n (pc' := 535) (v := .ref 0) rfl rfl rfl ?_)
  refine wl_of hX hb cL_535 (rw_iload (pc' := 537) (z := i) rfl rfl ?_)
  refine wl_of hX hb cL_537 (rw_iconst (pc' := 538) rfl ?_)
  refine wl_of hX hb cL_538 (rw_iadd (pc' := 539) rfl ?_)
  have k271949 : H271939 0 ((i + 1).toNat) = H 0 ((i + 1).toNat) := (f271944 0 ((i + 1).toNat) _ g0 (wmem_s rfl))
  refine wl_of hX hb cL_539 (xa_I (so := 0) (pc' := 540) (a := 0) w271943 g0 (wsh_s _) (by omega) (wty_s _ _) (by omega) (by omega) rfl (fun b271947 b271948 => ?_))
  refine wl_of hX hb cL_540 (rw_aload_n (pc' := 541) (v := .ref 0) rfl rfl rfl ?_)
  refine wl_of hX hb cL_541 (rw_iload (pc' := 543) (z := i) rfl rfl ?_)
  refine wl_of hX hb cL_543 (rw_iconst (pc' := 544) rfl ?_)
  refine wl_of hX hb cL_544 (rw_iadd (pc' := 545) rfl ?_)
  have k271952 : H271939 0 ((i + 2).toNat) = H 0 ((i + 2).toNat) := (f271944 0 ((i + 2).toNat) _ g0 (wmem_s rfl))
  refine wl_of hX hb cL_545 (xa_I (so := 0) (pc' := 546) (a := 0) w271943 g0 (wsh_s _) (by omega) (wty_s _ _) (by omega) (by omega) rfl (fun b271950 b271951 => ?_))
  have k271953 : wKI H271939 m = wKI H m := (wKI_fr hW gm f271944 rfl)
  have k271954 : H271939 x 9 = H x 9 := (f271944 x 9 _ gx rfl)
  have k271955 : H271939 m 6 = H m 6 := (f271944 m 6 _ gm rfl)
  refine wl_of hX hb cL_546 (xc_V (pc' := 549) (r := m) (as := [vI (H271939 0 ((i + 1).toNat)), vI (H271939 0 ((i + 2).toNat))]) (st := []) (lm_11_59) rfl rfl (Nat.le_of_ble_eq_true rfl) w271943 gm sh_42 (by decide) rfl (by decide) (s_222 w271943 gm ⟨by omega, by omega⟩ ⟨by omega, by omega⟩ (by omega)) (fun R271956 T271957 H271958 p271959 => ?_))
  obtain ⟨e271960, w271962, f271963, z271965, e271961, b271966, p271964⟩ := p271959
  subst e271960
  subst e271961
  show WL _ _ _ _ 549 [(4, vI i), (3, .ref o), (2, .ref m), (1, .ref x), (0, .ref 0)] [vI z271965] _ H271958
  refine wl_of hX hb cL_549 (rw_pop (pc' := 550) rfl rfl ?_)
  refine wl_of hX hb cL_550 (rw_goto (p1 := 1653) (by decide) ?_)
  have k271967 : H271958 x 9 = H271939 x 9 := (f271963 x 9 _ gx rfl)
  have k271968 : H271958 m 6 = H271939 m 6 := (f271963 m 6 _ gm rfl)
  have h271969 : XI T H271958 x m := (XI_fr w271943 gx f271963 rfl (XI_fr hW gx f271944 rfl hXI))
  exact WL.loc hX (by simp) (next T H271958 ⟨⟨w271962, g0, gx, gm, go, by omega, by omega⟩, h271969⟩ (by omega) (by omega))
set_option maxHeartbeats 4000000 in
theorem wl_c9 {kt : Nat → Option mc_E} {CB SB : Nat} {X : mc_S → Prop} {T : wq_T} {H : wq_H} {Len x m o : Nat} {i : Int} (hX : wlX kt CB SB X) (hb : T.2.1 ≤ CB ∧ T.2.2.1 ≤ SB) (hI : wlJ Len x m o T H) (hL : Len ≤ 3072) (hi : 0 ≤ i ∧ i + 6 ≤ Len) (hb2 : T.2.1 + 20 ≤ CB ∧ T.2.2.1 + 500 ≤ SB)  (next : ∀ T' H', wlJ Len x m o T' H' → T'.2.1 ≤ T.2.1 + 20 → T'.2.2.1 ≤ T.2.2.1 + 500 → WL kt CB SB X 1653 (wlL i x m o) [] T' H') : WL kt CB SB X 553 (wlL i x m o) [] T H := by
  obtain ⟨⟨hW, g0, gx, gm, go, hK, hr⟩, hXI⟩ := hI
  refine wl_of hX hb cL_553 (rw_aload_n (pc' := 554) (v := .ref x) rfl rfl rfl ?_)
  refine wl_of hX hb cL_554 (rw_aload_n (pc' := 555) (v := .ref 0) rfl rfl rfl ?_)
  refine wl_of hX hb cL_555 (rw_iload (pc' := 557) (z := i) rfl rfl ?_)
  refine wl_of hX hb cL_557 (rw_iconst (pc' := 558) rfl ?_)
  refine wl_of hX hb cL_558 (rw_iadd (pc' := 559) rfl ?_)
  refine wl_of hX hb cL_559 (xa_I (so := 0) (pc' := 560) (a := 0) hW g0 (wsh_s _) (by omega) (wty_s _ _) (by omega) (by omega) rfl (fun b271970 b271971 => ?_))
  refine wl_of hX hb cL_560 (xc_V (pc' := 563) (r := x) (as := [vI (H 0 ((i + 1).toNat))]) (st := []) (lm_11_60) rfl rfl (Nat.le_of_ble_eq_true rfl) hW gx sh_1 (by decide) rfl (by decide) (s_65 hW gx ⟨by omega, by omega⟩) (fun R271972 T271973 H271974 p271975 => ?_))
  obtain ⟨e271976, w271978, f271979, z271980, e271977, b271981⟩ := p271975
  subst e271976
  subst e271977
  show WL _ _ _ _ 563 [(4, vI i), (3, .ref o), (2, .ref m), (1, .ref x), (0, .ref 0)] [vI z271980] _ H271974
  refine wl_of hX hb cL_563 (rw_pop (pc' := 564) rfl rfl ?_)
  refine wl_of hX hb cL_564 (rw_aload_n (pc' := 565) (v := .ref m) rfl rfl rfl ?_)
  refine wl_of hX hb cL_565 (rw_aload_n (pc' := 566) (v := .ref 0) rfl rfl rfl ?_)
  refine wl_of hX hb cL_566 (rw_iload (pc' := 568) (z := i) rfl rfl ?_)
  refine wl_of hX hb cL_568 (rw_iconst (pc' := 569) rfl ?_)
  refine wl_of hX hb cL_569 (rw_iadd (pc' := 570) rfl ?_)
  have k271984 : H271974 0 ((i + 1).toNat) = H 0 ((i + 1).toNat) := (f271979 0 ((i + 1).toNat) _ g0 (wmem_s rfl))
  refine wl_of hX hb cL_570 (xa_I (so := 0) (pc' := 571) (a := 0) w271978 g0 (wsh_s _) (by omega) (wty_s _ _) (by omega) (by omega) rfl (fun b271982 b271983 => ?_))
  have k271985 : wKI H271974 m = wKI H m := (wKI_fr hW gm f271979 rfl)
  have k271986 : H271974 x 9 = H x 9 := (f271979 x 9 _ gx rfl)
  have k271987 : H271974 m 6 = H m 6 := (f271979 m 6 _ gm rfl)
  refine wl_of hX hb cL_571 (xc_V (pc' := 574) (r := m) (as := [vI (H271974 0 ((i + 1).toNat))]) (st := []) (lm_11_63) rfl rfl (Nat.le_of_ble_eq_true rfl) w271978 gm sh_42 (by decide) rfl (by decide) (s_225 w271978 gm ⟨by omega, by omega⟩ (by omega)) (fun R271988 T271989 H271990 p271991 => ?_))
  obtain ⟨e271992, w271994, f271995, z271997, e271993, b271998, p271996⟩ := p271991
  subst e271992
  subst e271993
  show WL _ _ _ _ 574 [(4, vI i), (3, .ref o), (2, .ref m), (1, .ref x), (0, .ref 0)] [vI z271997] _ H271990
  refine wl_of hX hb cL_574 (rw_pop (pc' := 575) rfl rfl ?_)
  refine wl_of hX hb cL_575 (rw_goto (p1 := 1653) (by decide) ?_)
  have k271999 : H271990 x 9 = H271974 x 9 := (f271995 x 9 _ gx rfl)
  have k272000 : H271990 m 6 = H271974 m 6 := (f271995 m 6 _ gm rfl)
  have h272001 : XI T H271990 x m := (XI_fr w271978 gx f271995 rfl (XI_fr hW gx f271979 rfl hXI))
  exact WL.loc hX (by simp) (next T H271990 ⟨⟨w271994, g0, gx, gm, go, by omega, by omega⟩, h272001⟩ (by omega) (by omega))
set_option maxHeartbeats 4000000 in
theorem wl_c10 {kt : Nat → Option mc_E} {CB SB : Nat} {X : mc_S → Prop} {T : wq_T} {H : wq_H} {Len x m o : Nat} {i : Int} (hX : wlX kt CB SB X) (hb : T.2.1 ≤ CB ∧ T.2.2.1 ≤ SB) (hI : wlJ Len x m o T H) (hL : Len ≤ 3072) (hi : 0 ≤ i ∧ i + 6 ≤ Len) (hb2 : T.2.1 + 20 ≤ CB ∧ T.2.2.1 + 500 ≤ SB)  (next : ∀ T' H', wlJ Len x m o T' H' → T'.2.1 ≤ T.2.1 + 20 → T'.2.2.1 ≤ T.2.2.1 + 500 → WL kt CB SB X 1653 (wlL i x m o) [] T' H') : WL kt CB SB X 578 (wlL i x m o) [] T H := by
  obtain ⟨⟨hW, g0, gx, gm, go, hK, hr⟩, hXI⟩ := hI
  refine wl_of hX hb cL_578 (rw_aload_n (pc' := 579) (v := .ref x) rfl rfl rfl ?_)
  refine wl_of hX hb cL_579 (rw_aload_n (pc' := 580) (v := .ref 0) rfl rfl rfl ?_)
  refine wl_of hX hb cL_580 (rw_iload (pc' := 582) (z := i) rfl rfl ?_)
  refine wl_of hX hb cL_582 (rw_iconst (pc' := 583) rfl ?_)
  refine wl_of hX hb cL_583 (rw_iadd (pc' := 584) rfl ?_)
  refine wl_of hX hb cL_584 (xa_I (so := 0) (pc' := 585) (a := 0) hW g0 (wsh_s _) (by omega) (wty_s _ _) (by omega) (by omega) rfl (fun b272002 b272003 => ?_))
  refine wl_of hX hb cL_585 (xc_V (pc' := 588) (r := x) (as := [vI (H 0 ((i + 1).toNat))]) (st := []) (lm_11_64) rfl rfl (Nat.le_of_ble_eq_true rfl) hW gx sh_1 (by decide) rfl (by decide) (s_66 hW gx ⟨by omega, by omega⟩) (fun R272004 T272005 H272006 p272007 => ?_))
  obtain ⟨e272008, w272010, f272011, z272012, e272009, b272013⟩ := p272007
  subst e272008
  subst e272009
  show WL _ _ _ _ 588 [(4, vI i), (3, .ref o), (2, .ref m), (1, .ref x), (0, .ref 0)] [vI z272012] _ H272006
  refine wl_of hX hb cL_588 (rw_pop (pc' := 589) rfl rfl ?_)
  refine wl_of hX hb cL_589 (rw_aload_n (pc' := 590) (v := .ref m) rfl rfl rfl ?_)
  refine wl_of hX hb cL_590 (rw_aload_n (pc' := 591) (v := .ref 0) rfl rfl rfl ?_)
  refine wl_of hX hb cL_591 (rw_iload (pc' := 593) (z := i) rfl rfl ?_)
  refine wl_of hX hb cL_593 (rw_iconst (pc' := 594) rfl ?_)
  refine wl_of hX hb cL_594 (rw_iadd (pc' := 595) rfl ?_)
  have k272016 : H272006 0 ((i + 1).toNat) = H 0 ((i + 1).toNat) := (f272011 0 ((i + 1).toNat) _ g0 (wmem_s rfl))
  refine wl_of hX hb cL_595 (xa_I (so := 0) (pc' := 596) (a := 0) w272010 g0 (wsh_s _) (by omega) (wty_s _ _) (by omega) (by omega) rfl (fun b272014 b272015 => ?_))
  have k272017 : wKI H272006 m = wKI H m := (wKI_fr hW gm f272011 rfl)
  have k272018 : H272006 x 9 = H x 9 := (f272011 x 9 _ gx rfl)
  have k272019 : H272006 m 6 = H m 6 := (f272011 m 6 _ gm rfl)
  refine wl_of hX hb cL_596 (xc_V (pc' := 599) (r := m) (as := [vI (H272006 0 ((i + 1).toNat))]) (st := []) (lm_11_67) rfl rfl (Nat.le_of_ble_eq_true rfl) w272010 gm sh_42 (by decide) rfl (by decide) (s_226 w272010 gm ⟨by omega, by omega⟩ (by omega)) (fun R272020 T272021 H272022 p272023 => ?_))
  obtain ⟨e272024, w272026, f272027, z272029, e272025, b272030, p272028⟩ := p272023
  subst e272024
  subst e272025
  show WL _ _ _ _ 599 [(4, vI i), (3, .ref o), (2, .ref m), (1, .ref x), (0, .ref 0)] [vI z272029] _ H272022
  refine wl_of hX hb cL_599 (rw_pop (pc' := 600) rfl rfl ?_)
  refine wl_of hX hb cL_600 (rw_goto (p1 := 1653) (by decide) ?_)
  have k272031 : H272022 x 9 = H272006 x 9 := (f272027 x 9 _ gx rfl)
  have k272032 : H272022 m 6 = H272006 m 6 := (f272027 m 6 _ gm rfl)
  have h272033 : XI T H272022 x m := (XI_fr w272010 gx f272027 rfl (XI_fr hW gx f272011 rfl hXI))
  exact WL.loc hX (by simp) (next T H272022 ⟨⟨w272026, g0, gx, gm, go, by omega, by omega⟩, h272033⟩ (by omega) (by omega))
set_option maxHeartbeats 4000000 in
theorem wl_c11 {kt : Nat → Option mc_E} {CB SB : Nat} {X : mc_S → Prop} {T : wq_T} {H : wq_H} {Len x m o : Nat} {i : Int} (hX : wlX kt CB SB X) (hb : T.2.1 ≤ CB ∧ T.2.2.1 ≤ SB) (hI : wlJ Len x m o T H) (hL : Len ≤ 3072) (hi : 0 ≤ i ∧ i + 6 ≤ Len) (hb2 : T.2.1 + 20 ≤ CB ∧ T.2.2.1 + 500 ≤ SB)  (next : ∀ T' H', wlJ Len x m o T' H' → T'.2.1 ≤ T.2.1 + 20 → T'.2.2.1 ≤ T.2.2.1 + 500 → WL kt CB SB X 1653 (wlL i x m o) [] T' H') : WL kt CB SB X 603 (wlL i x m o) [] T H := by
  obtain ⟨⟨hW, g0, gx, gm, go, hK, hr⟩, hXI⟩ := hI
  refine wl_of hX hb cL_603 (rw_aload_n (pc' := 604) (v := .ref x) rfl rfl rfl ?_)
  refine wl_of hX hb cL_604 (xc_V (pc' := 607) (r := x) (as := []) (st := []) (lm_11_68) rfl rfl (Nat.le_of_ble_eq_true rfl) hW gx sh_1 (by decide) rfl (by decide) (s_73 hW gx) (fun R272034 T272035 H272036 p272037 => ?_))
  obtain ⟨e272038, w272040, f272041, z272042, e272039, b272043⟩ := p272037
  subst e272038
  subst e272039
  show WL _ _ _ _ 607 [(4, vI i), (3, .ref o), (2, .ref m), (1, .ref x), (0, .ref 0)] [vI z272042] _ H272036
  refine wl_of hX hb cL_607 (rw_pop (pc' := 608) rfl rfl ?_)
  refine wl_of hX hb cL_608 (rw_aload_n (pc' := 609) (v := .ref m) rfl rfl rfl ?_)
  have k272044 : wKI H272036 m = wKI H m := (wKI_fr hW gm f272041 rfl)
  have k272045 : H272036 x 9 = H x 9 := (f272041 x 9 _ gx rfl)
  have k272046 : H272036 m 6 = H m 6 := (f272041 m 6 _ gm rfl)
  refine wl_of hX hb cL_609 (xc_V (pc' := 612) (r := m) (as := []) (st := []) (lm_11_71) rfl rfl (Nat.le_of_ble_eq_true rfl) w272040 gm sh_42 (by decide) rfl (by decide) (s_230 w272040 gm (by omega)) (fun R272047 T272048 H272049 p272050 => ?_))
  obtain ⟨e272051, w272053, f272054, z272056, e272052, b272057, p272055⟩ := p272050
  subst e272051
  subst e272052
  show WL _ _ _ _ 612 [(4, vI i), (3, .ref o), (2, .ref m), (1, .ref x), (0, .ref 0)] [vI z272056] _ H272049
  refine wl_of hX hb cL_612 (rw_pop (pc' := 613) rfl rfl ?_)
  refine wl_of hX hb cL_613 (rw_goto (p1 := 1653) (by decide) ?_)
  have k272058 : H272049 x 9 = H272036 x 9 := (f272054 x 9 _ gx rfl)
  have k272059 : H272049 m 6 = H272036 m 6 := (f272054 m 6 _ gm rfl)
  have h272060 : XI T H272049 x m := (XI_fr w272040 gx f272054 rfl (XI_fr hW gx f272041 rfl hXI))
  exact WL.loc hX (by simp) (next T H272049 ⟨⟨w272053, g0, gx, gm, go, by omega, by omega⟩, h272060⟩ (by omega) (by omega))
set_option maxHeartbeats 4000000 in
theorem wl_c12 {kt : Nat → Option mc_E} {CB SB : Nat} {X : mc_S → Prop} {T : wq_T} {H : wq_H} {Len x m o : Nat} {i : Int} (hX : wlX kt CB SB X) (hb : T.2.1 ≤ CB ∧ T.2.2.1 ≤ SB) (hI : wlJ Len x m o T H) (hL : Len ≤ 3072) (hi : 0 ≤ i ∧ i + 6 ≤ Len) (hb2 : T.2.1 + 20 ≤ CB ∧ T.2.2.1 + 500 ≤ SB)  (next : ∀ T' H', wlJ Len x m o T' H' → T'.2.1 ≤ T.2.1 + 20 → T'.2.2.1 ≤ T.2.2.1 + 500 → WL kt CB SB X 1653 (wlL i x m o) [] T' H') : WL kt CB SB X 616 (wlL i x m o) [] T H := by
  obtain ⟨⟨hW, g0, gx, gm, go, hK, hr⟩, hXI⟩ := hI
  refine wl_of hX hb cL_616 (rw_aload_n (pc' := 617) (v := .ref x) rfl rfl rfl ?_)
  refine wl_of hX hb cL_617 (xc_V (pc' := 620) (r := x) (as := []) (st := []) (lm_11_72) rfl rfl (Nat.le_of_ble_eq_true rfl) hW gx sh_1 (by decide) rfl (by decide) (s_77 hW gx) (fun R272061 T272062 H272063 p272064 => ?_))
  obtain ⟨e272065, w272067, f272068, z272069, e272066, b272070⟩ := p272064
  subst e272065
  subst e272066
  show WL _ _ _ _ 620 [(4, vI i), (3, .ref o), (2, .ref m), (1, .ref x), (0, .ref 0)] [vI z272069] _ H272063
  refine wl_of hX hb cL_620 (rw_pop (pc' := 621) rfl rfl ?_)
  refine wl_of hX hb cL_621 (rw_aload_n (pc' := 622) (v := .ref m) rfl rfl rfl ?_)
  have k272071 : wKI H272063 m = wKI H m := (wKI_fr hW gm f272068 rfl)
  have k272072 : H272063 x 9 = H x 9 := (f272068 x 9 _ gx rfl)
  have k272073 : H272063 m 6 = H m 6 := (f272068 m 6 _ gm rfl)
  refine wl_of hX hb cL_622 (xc_V (pc' := 625) (r := m) (as := []) (st := []) (lm_11_75) rfl rfl (Nat.le_of_ble_eq_true rfl) w272067 gm sh_42 (by decide) rfl (by decide) (s_236 w272067 gm (by omega)) (fun R272074 T272075 H272076 p272077 => ?_))
  obtain ⟨e272078, w272080, f272081, z272083, e272079, b272084, p272082⟩ := p272077
  subst e272078
  subst e272079
  show WL _ _ _ _ 625 [(4, vI i), (3, .ref o), (2, .ref m), (1, .ref x), (0, .ref 0)] [vI z272083] _ H272076
  refine wl_of hX hb cL_625 (rw_pop (pc' := 626) rfl rfl ?_)
  refine wl_of hX hb cL_626 (rw_goto (p1 := 1653) (by decide) ?_)
  have k272085 : H272076 x 9 = H272063 x 9 := (f272081 x 9 _ gx rfl)
  have k272086 : H272076 m 6 = H272063 m 6 := (f272081 m 6 _ gm rfl)
  have h272087 : XI T H272076 x m := (XI_fr w272067 gx f272081 rfl (XI_fr hW gx f272068 rfl hXI))
  exact WL.loc hX (by simp) (next T H272076 ⟨⟨w272080, g0, gx, gm, go, by omega, by omega⟩, h272087⟩ (by omega) (by omega))
set_option maxHeartbeats 4000000 in
theorem wl_c13 {kt : Nat → Option mc_E} {CB SB : Nat} {X : mc_S → Prop} {T : wq_T} {H : wq_H} {Len x m o : Nat} {i : Int} (hX : wlX kt CB SB X) (hb : T.2.1 ≤ CB ∧ T.2.2.1 ≤ SB) (hI : wlJ Len x m o T H) (hL : Len ≤ 3072) (hi : 0 ≤ i ∧ i + 6 ≤ Len) (hb2 : T.2.1 + 20 ≤ CB ∧ T.2.2.1 + 500 ≤ SB)  (next : ∀ T' H', wlJ Len x m o T' H' → T'.2.1 ≤ T.2.1 + 20 → T'.2.2.1 ≤ T.2.2.1 + 500 → WL kt CB SB X 1653 (wlL i x m o) [] T' H') : WL kt CB SB X 629 (wlL i x m o) [] T H := by
  obtain ⟨⟨hW, g0, gx, gm, go, hK, hr⟩, hXI⟩ := hI
  refine wl_of hX hb cL_629 (rw_aload_n (pc' := 630) (v := .ref x) rfl rfl rfl ?_)
  refine wl_of hX hb cL_630 (xc_V (pc' := 633) (r := x) (as := []) (st := []) (lm_11_76) rfl rfl (Nat.le_of_ble_eq_true rfl) hW gx sh_1 (by decide) rfl (by decide) (s_78 hW gx) (fun R272088 T272089 H272090 p272091 => ?_))
  obtain ⟨e272092, w272094, f272095, z272096, e272093, b272097⟩ := p272091
  subst e272092
  subst e272093
  show WL _ _ _ _ 633 [(4, vI i), (3, .ref o), (2, .ref m), (1, .ref x), (0, .ref 0)] [vI z272096] _ H272090
  refine wl_of hX hb cL_633 (rw_pop (pc' := 634) rfl rfl ?_)
  refine wl_of hX hb cL_634 (rw_aload_n (pc' := 635) (v := .ref m) rfl rfl rfl ?_)
  have k272098 : wKI H272090 m = wKI H m := (wKI_fr hW gm f272095 rfl)
  have k272099 : H272090 x 9 = H x 9 := (f272095 x 9 _ gx rfl)
  have k272100 : H272090 m 6 = H m 6 := (f272095 m 6 _ gm rfl)
  refine wl_of hX hb cL_635 (xc_V (pc' := 638) (r := m) (as := []) (st := []) (lm_11_79) rfl rfl (Nat.le_of_ble_eq_true rfl) w272094 gm sh_42 (by decide) rfl (by decide) (s_237 w272094 gm (by omega)) (fun R272101 T272102 H272103 p272104 => ?_))
  obtain ⟨e272105, w272107, f272108, z272110, e272106, b272111, p272109⟩ := p272104
  subst e272105
  subst e272106
  show WL _ _ _ _ 638 [(4, vI i), (3, .ref o), (2, .ref m), (1, .ref x), (0, .ref 0)] [vI z272110] _ H272103
  refine wl_of hX hb cL_638 (rw_pop (pc' := 639) rfl rfl ?_)
  refine wl_of hX hb cL_639 (rw_goto (p1 := 1653) (by decide) ?_)
  have k272112 : H272103 x 9 = H272090 x 9 := (f272108 x 9 _ gx rfl)
  have k272113 : H272103 m 6 = H272090 m 6 := (f272108 m 6 _ gm rfl)
  have h272114 : XI T H272103 x m := (XI_fr w272094 gx f272108 rfl (XI_fr hW gx f272095 rfl hXI))
  exact WL.loc hX (by simp) (next T H272103 ⟨⟨w272107, g0, gx, gm, go, by omega, by omega⟩, h272114⟩ (by omega) (by omega))
set_option maxHeartbeats 4000000 in
theorem wl_c14 {kt : Nat → Option mc_E} {CB SB : Nat} {X : mc_S → Prop} {T : wq_T} {H : wq_H} {Len x m o : Nat} {i : Int} (hX : wlX kt CB SB X) (hb : T.2.1 ≤ CB ∧ T.2.2.1 ≤ SB) (hI : wlJ Len x m o T H) (hL : Len ≤ 3072) (hi : 0 ≤ i ∧ i + 6 ≤ Len) (hb2 : T.2.1 + 20 ≤ CB ∧ T.2.2.1 + 500 ≤ SB)  (next : ∀ T' H', wlJ Len x m o T' H' → T'.2.1 ≤ T.2.1 + 20 → T'.2.2.1 ≤ T.2.2.1 + 500 → WL kt CB SB X 1653 (wlL i x m o) [] T' H') : WL kt CB SB X 642 (wlL i x m o) [] T H := by
  obtain ⟨⟨hW, g0, gx, gm, go, hK, hr⟩, hXI⟩ := hI
  refine wl_of hX hb cL_642 (rw_aload_n (pc' := 643) (v := .ref x) rfl rfl rfl ?_)
  refine wl_of hX hb cL_643 (xc_V (pc' := 646) (r := x) (as := []) (st := []) (lm_11_80) rfl rfl (Nat.le_of_ble_eq_true rfl) hW gx sh_1 (by decide) rfl (by decide) (s_82 hW gx) (fun R272115 T272116 H272117 p272118 => ?_))
  obtain ⟨e272119, w272121, f272122, z272123, e272120, b272124⟩ := p272118
  subst e272119
  subst e272120
  show WL _ _ _ _ 646 [(4, vI i), (3, .ref o), (2, .ref m), (1, .ref x), (0, .ref 0)] [vI z272123] _ H272117
  refine wl_of hX hb cL_646 (rw_pop (pc' := 647) rfl rfl ?_)
  refine wl_of hX hb cL_647 (rw_aload_n (pc' := 648) (v := .ref m) rfl rfl rfl ?_)
  have k272125 : wKI H272117 m = wKI H m := (wKI_fr hW gm f272122 rfl)
  have k272126 : H272117 x 9 = H x 9 := (f272122 x 9 _ gx rfl)
  have k272127 : H272117 m 6 = H m 6 := (f272122 m 6 _ gm rfl)
  refine wl_of hX hb cL_648 (xc_V (pc' := 651) (r := m) (as := []) (st := []) (lm_11_83) rfl rfl (Nat.le_of_ble_eq_true rfl) w272121 gm sh_42 (by decide) rfl (by decide) (s_240 w272121 gm (by omega)) (fun R272128 T272129 H272130 p272131 => ?_))
  obtain ⟨e272132, w272134, f272135, z272137, e272133, b272138, p272136⟩ := p272131
  subst e272132
  subst e272133
  show WL _ _ _ _ 651 [(4, vI i), (3, .ref o), (2, .ref m), (1, .ref x), (0, .ref 0)] [vI z272137] _ H272130
  refine wl_of hX hb cL_651 (rw_pop (pc' := 652) rfl rfl ?_)
  refine wl_of hX hb cL_652 (rw_goto (p1 := 1653) (by decide) ?_)
  have k272139 : H272130 x 9 = H272117 x 9 := (f272135 x 9 _ gx rfl)
  have k272140 : H272130 m 6 = H272117 m 6 := (f272135 m 6 _ gm rfl)
  have h272141 : XI T H272130 x m := (XI_fr w272121 gx f272135 rfl (XI_fr hW gx f272122 rfl hXI))
  exact WL.loc hX (by simp) (next T H272130 ⟨⟨w272134, g0, gx, gm, go, by omega, by omega⟩, h272141⟩ (by omega) (by omega))
set_option maxHeartbeats 4000000 in
theorem wl_c15 {kt : Nat → Option mc_E} {CB SB : Nat} {X : mc_S → Prop} {T : wq_T} {H : wq_H} {Len x m o : Nat} {i : Int} (hX : wlX kt CB SB X) (hb : T.2.1 ≤ CB ∧ T.2.2.1 ≤ SB) (hI : wlJ Len x m o T H) (hL : Len ≤ 3072) (hi : 0 ≤ i ∧ i + 6 ≤ Len) (hb2 : T.2.1 + 20 ≤ CB ∧ T.2.2.1 + 500 ≤ SB)  (next : ∀ T' H', wlJ Len x m o T' H' → T'.2.1 ≤ T.2.1 + 20 → T'.2.2.1 ≤ T.2.2.1 + 500 → WL kt CB SB X 1653 (wlL i x m o) [] T' H') : WL kt CB SB X 655 (wlL i x m o) [] T H := by
  obtain ⟨⟨hW, g0, gx, gm, go, hK, hr⟩, hXI⟩ := hI
  refine wl_of hX hb cL_655 (rw_aload_n (pc' := 656) (v := .ref x) rfl rfl rfl ?_)
  refine wl_of hX hb cL_656 (xc_V (pc' := 659) (r := x) (as := []) (st := []) (lm_11_84) rfl rfl (Nat.le_of_ble_eq_true rfl) hW gx sh_1 (by decide) rfl (by decide) (s_92 hW gx) (fun R272142 T272143 H272144 p272145 => ?_))
  obtain ⟨e272146, w272148, f272149, z272150, e272147, b272151⟩ := p272145
  subst e272146
  subst e272147
  show WL _ _ _ _ 659 [(4, vI i), (3, .ref o), (2, .ref m), (1, .ref x), (0, .ref 0)] [vI z272150] _ H272144
  refine wl_of hX hb cL_659 (rw_pop (pc' := 660) rfl rfl ?_)
  refine wl_of hX hb cL_660 (rw_aload_n (pc' := 661) (v := .ref m) rfl rfl rfl ?_)
  have k272152 : wKI H272144 m = wKI H m := (wKI_fr hW gm f272149 rfl)
  have k272153 : H272144 x 9 = H x 9 := (f272149 x 9 _ gx rfl)
  have k272154 : H272144 m 6 = H m 6 := (f272149 m 6 _ gm rfl)
  refine wl_of hX hb cL_661 (xc_V (pc' := 664) (r := m) (as := []) (st := []) (lm_11_87) rfl rfl (Nat.le_of_ble_eq_true rfl) w272148 gm sh_42 (by decide) rfl (by decide) (s_244 w272148 gm (by omega)) (fun R272155 T272156 H272157 p272158 => ?_))
  obtain ⟨e272159, w272161, f272162, z272164, e272160, b272165, p272163⟩ := p272158
  subst e272159
  subst e272160
  show WL _ _ _ _ 664 [(4, vI i), (3, .ref o), (2, .ref m), (1, .ref x), (0, .ref 0)] [vI z272164] _ H272157
  refine wl_of hX hb cL_664 (rw_pop (pc' := 665) rfl rfl ?_)
  refine wl_of hX hb cL_665 (rw_goto (p1 := 1653) (by decide) ?_)
  have k272166 : H272157 x 9 = H272144 x 9 := (f272162 x 9 _ gx rfl)
  have k272167 : H272157 m 6 = H272144 m 6 := (f272162 m 6 _ gm rfl)
  have h272168 : XI T H272157 x m := (XI_fr w272148 gx f272162 rfl (XI_fr hW gx f272149 rfl hXI))
  exact WL.loc hX (by simp) (next T H272157 ⟨⟨w272161, g0, gx, gm, go, by omega, by omega⟩, h272168⟩ (by omega) (by omega))
set_option maxHeartbeats 4000000 in
theorem wl_c16 {kt : Nat → Option mc_E} {CB SB : Nat} {X : mc_S → Prop} {T : wq_T} {H : wq_H} {Len x m o : Nat} {i : Int} (hX : wlX kt CB SB X) (hb : T.2.1 ≤ CB ∧ T.2.2.1 ≤ SB) (hI : wlJ Len x m o T H) (hL : Len ≤ 3072) (hi : 0 ≤ i ∧ i + 6 ≤ Len) (hb2 : T.2.1 + 20 ≤ CB ∧ T.2.2.1 + 500 ≤ SB)  (next : ∀ T' H', wlJ Len x m o T' H' → T'.2.1 ≤ T.2.1 + 20 → T'.2.2.1 ≤ T.2.2.1 + 500 → WL kt CB SB X 1653 (wlL i x m o) [] T' H') : WL kt CB SB X 668 (wlL i x m o) [] T H := by
  obtain ⟨⟨hW, g0, gx, gm, go, hK, hr⟩, hXI⟩ := hI
  refine wl_of hX hb cL_668 (rw_aload_n (pc' := 669) (v := .ref x) rfl rfl rfl ?_)
  refine wl_of hX hb cL_669 (rw_aload_n (pc' := 670) (v := .ref 0) rfl rfl rfl ?_)
  refine wl_of hX hb cL_670 (rw_iload (pc' := 672) (z := i) rfl rfl ?_)
  refine wl_of hX hb cL_672 (rw_iconst (pc' := 673) rfl ?_)
  refine wl_of hX hb cL_673 (rw_iadd (pc' := 674) rfl ?_)
  refine wl_of hX hb cL_674 (xa_I (so := 0) (pc' := 675) (a := 0) hW g0 (wsh_s _) (by omega) (wty_s _ _) (by omega) (by omega) rfl (fun b272169 b272170 => ?_))
  refine wl_of hX hb cL_675 (rw_aload_n (pc' := 676) (v := .ref 0) rfl rfl rfl ?_)
  refine wl_of hX hb cL_676 (rw_iload (pc' := 678) (z := i) rfl rfl ?_)
  refine wl_of hX hb cL_678 (rw_iconst (pc' := 679) rfl ?_)
  refine wl_of hX hb cL_679 (rw_iadd (pc' := 680) rfl ?_)
  refine wl_of hX hb cL_680 (xa_I (so := 0) (pc' := 681) (a := 0) hW g0 (wsh_s _) (by omega) (wty_s _ _) (by omega) (by omega) rfl (fun b272171 b272172 => ?_))
  refine wl_of hX hb cL_681 (xc_V (pc' := 684) (r := x) (as := [vI (H 0 ((i + 1).toNat)), vI (H 0 ((i + 2).toNat))]) (st := []) (lm_11_88) rfl rfl (Nat.le_of_ble_eq_true rfl) hW gx sh_1 (by decide) rfl (by decide) (s_93 hW gx ⟨by omega, by omega⟩ ⟨by omega, by omega⟩) (fun R272173 T272174 H272175 p272176 => ?_))
  obtain ⟨e272177, w272179, f272180, z272181, e272178, b272182⟩ := p272176
  subst e272177
  subst e272178
  show WL _ _ _ _ 684 [(4, vI i), (3, .ref o), (2, .ref m), (1, .ref x), (0, .ref 0)] [vI z272181] _ H272175
  refine wl_of hX hb cL_684 (rw_pop (pc' := 685) rfl rfl ?_)
  refine wl_of hX hb cL_685 (rw_aload_n (pc' := 686) (v := .ref m) rfl rfl rfl ?_)
  refine wl_of hX hb cL_686 (rw_aload_n (pc' := 687) (v := .ref 0) rfl rfl rfl ?_)
  refine wl_of hX hb cL_687 (rw_iload (pc' := 689) (z := i) rfl rfl ?_)
  refine wl_of hX hb cL_689 (rw_iconst (pc' := 690) rfl ?_)
  refine wl_of hX hb cL_690 (rw_iadd (pc' := 691) rfl ?_)
  have k272185 : H272175 0 ((i + 1).toNat) = H 0 ((i + 1).toNat) := (f272180 0 ((i + 1).toNat) _ g0 (wmem_s rfl))
  refine wl_of hX hb cL_691 (xa_I (so := 0) (pc' := 692) (a := 0) w272179 g0 (wsh_s _) (by omega) (wty_s _ _) (by omega) (by omega) rfl (fun b272183 b272184 => ?_))
  refine wl_of hX hb cL_692 (rw_aload_n (pc' := 693) (v := .ref 0) rfl rfl rfl ?_)
  refine wl_of hX hb cL_693 (rw_iload (pc' := 695) (z := i) rfl rfl ?_)
  refine wl_of hX hb cL_695 (rw_iconst (pc' := 696) rfl ?_)
  refine wl_of hX hb cL_696 (rw_iadd (pc' := 697) rfl ?_)
  have k272188 : H272175 0 ((i + 2).toNat) = H 0 ((i + 2).toNat) := (f272180 0 ((i + 2).toNat) _ g0 (wmem_s rfl))
  refine wl_of hX hb cL_697 (xa_I (so := 0) (pc' := 698) (a := 0) w272179 g0 (wsh_s _) (by omega) (wty_s _ _) (by omega) (by omega) rfl (fun b272186 b272187 => ?_))
  have k272189 : wKI H272175 m = wKI H m := (wKI_fr hW gm f272180 rfl)
  have k272190 : H272175 x 9 = H x 9 := (f272180 x 9 _ gx rfl)
  have k272191 : H272175 m 6 = H m 6 := (f272180 m 6 _ gm rfl)
  refine wl_of hX hb cL_698 (xc_V (pc' := 701) (r := m) (as := [vI (H272175 0 ((i + 1).toNat)), vI (H272175 0 ((i + 2).toNat))]) (st := []) (lm_11_92) rfl rfl (Nat.le_of_ble_eq_true rfl) w272179 gm sh_42 (by decide) rfl (by decide) (s_245 w272179 gm ⟨by omega, by omega⟩ ⟨by omega, by omega⟩ (by omega)) (fun R272192 T272193 H272194 p272195 => ?_))
  obtain ⟨e272196, w272198, f272199, z272201, e272197, b272202, p272200⟩ := p272195
  subst e272196
  subst e272197
  show WL _ _ _ _ 701 [(4, vI i), (3, .ref o), (2, .ref m), (1, .ref x), (0, .ref 0)] [vI z272201] _ H272194
  refine wl_of hX hb cL_701 (rw_pop (pc' := 702) rfl rfl ?_)
  refine wl_of hX hb cL_702 (rw_goto (p1 := 1653) (by decide) ?_)
  have k272203 : H272194 x 9 = H272175 x 9 := (f272199 x 9 _ gx rfl)
  have k272204 : H272194 m 6 = H272175 m 6 := (f272199 m 6 _ gm rfl)
  have h272205 : XI T H272194 x m := (XI_fr w272179 gx f272199 rfl (XI_fr hW gx f272180 rfl hXI))
  exact WL.loc hX (by simp) (next T H272194 ⟨⟨w272198, g0, gx, gm, go, by omega, by omega⟩, h272205⟩ (by omega) (by omega))
set_option maxHeartbeats 4000000 in
theorem wl_c17 {kt : Nat → Option mc_E} {CB SB : Nat} {X : mc_S → Prop} {T : wq_T} {H : wq_H} {Len x m o : Nat} {i : Int} (hX : wlX kt CB SB X) (hb : T.2.1 ≤ CB ∧ T.2.2.1 ≤ SB) (hI : wlJ Len x m o T H) (hL : Len ≤ 3072) (hi : 0 ≤ i ∧ i + 6 ≤ Len) (hb2 : T.2.1 + 20 ≤ CB ∧ T.2.2.1 + 500 ≤ SB)  (next : ∀ T' H', wlJ Len x m o T' H' → T'.2.1 ≤ T.2.1 + 20 → T'.2.2.1 ≤ T.2.2.1 + 500 → WL kt CB SB X 1653 (wlL i x m o) [] T' H') : WL kt CB SB X 705 (wlL i x m o) [] T H := by
  obtain ⟨⟨hW, g0, gx, gm, go, hK, hr⟩, hXI⟩ := hI
  refine wl_of hX hb cL_705 (rw_aload_n (pc' := 706) (v := .ref x) rfl rfl rfl ?_)
  refine wl_of hX hb cL_706 (xc_V (pc' := 709) (r := x) (as := []) (st := []) (lm_11_93) rfl rfl (Nat.le_of_ble_eq_true rfl) hW gx sh_1 (by decide) rfl (by decide) (s_97 hW gx) (fun R272206 T272207 H272208 p272209 => ?_))
  obtain ⟨e272210, w272212, f272213, z272214, e272211, b272215⟩ := p272209
  subst e272210
  subst e272211
  show WL _ _ _ _ 709 [(4, vI i), (3, .ref o), (2, .ref m), (1, .ref x), (0, .ref 0)] [vL z272214] _ H272208
  refine wl_of hX hb cL_709 (rw_pop2 (pc' := 710) rfl rfl ?_)
  refine wl_of hX hb cL_710 (rw_aload_n (pc' := 711) (v := .ref m) rfl rfl rfl ?_)
  have k272216 : wKI H272208 m = wKI H m := (wKI_fr hW gm f272213 rfl)
  have k272217 : H272208 x 9 = H x 9 := (f272213 x 9 _ gx rfl)
  have k272218 : H272208 m 6 = H m 6 := (f272213 m 6 _ gm rfl)
  refine wl_of hX hb cL_711 (xc_V (pc' := 714) (r := m) (as := []) (st := []) (lm_11_96) rfl rfl (Nat.le_of_ble_eq_true rfl) w272212 gm sh_42 (by decide) rfl (by decide) (s_246 w272212 gm (by omega)) (fun R272219 T272220 H272221 p272222 => ?_))
  obtain ⟨e272223, w272225, f272226, z272228, e272224, b272229, p272227⟩ := p272222
  subst e272223
  subst e272224
  show WL _ _ _ _ 714 [(4, vI i), (3, .ref o), (2, .ref m), (1, .ref x), (0, .ref 0)] [vL z272228] _ H272221
  refine wl_of hX hb cL_714 (rw_pop2 (pc' := 715) rfl rfl ?_)
  refine wl_of hX hb cL_715 (rw_goto (p1 := 1653) (by decide) ?_)
  have k272230 : H272221 x 9 = H272208 x 9 := (f272226 x 9 _ gx rfl)
  have k272231 : H272221 m 6 = H272208 m 6 := (f272226 m 6 _ gm rfl)
  have h272232 : XI T H272221 x m := (XI_fr w272212 gx f272226 rfl (XI_fr hW gx f272213 rfl hXI))
  exact WL.loc hX (by simp) (next T H272221 ⟨⟨w272225, g0, gx, gm, go, by omega, by omega⟩, h272232⟩ (by omega) (by omega))
set_option maxHeartbeats 4000000 in
theorem wl_c18 {kt : Nat → Option mc_E} {CB SB : Nat} {X : mc_S → Prop} {T : wq_T} {H : wq_H} {Len x m o : Nat} {i : Int} (hX : wlX kt CB SB X) (hb : T.2.1 ≤ CB ∧ T.2.2.1 ≤ SB) (hI : wlJ Len x m o T H) (hL : Len ≤ 3072) (hi : 0 ≤ i ∧ i + 6 ≤ Len) (hb2 : T.2.1 + 20 ≤ CB ∧ T.2.2.1 + 500 ≤ SB)  (next : ∀ T' H', wlJ Len x m o T' H' → T'.2.1 ≤ T.2.1 + 20 → T'.2.2.1 ≤ T.2.2.1 + 500 → WL kt CB SB X 1653 (wlL i x m o) [] T' H') : WL kt CB SB X 718 (wlL i x m o) [] T H := by
  obtain ⟨⟨hW, g0, gx, gm, go, hK, hr⟩, hXI⟩ := hI
  refine wl_of hX hb cL_718 (rw_aload_n (pc' := 719) (v := .ref x) rfl rfl rfl ?_)
  refine wl_of hX hb cL_719 (rw_aload_n (pc' := 720) (v := .ref 0) rfl rfl rfl ?_)
  refine wl_of hX hb cL_720 (rw_iload (pc' := 722) (z := i) rfl rfl ?_)
  refine wl_of hX hb cL_722 (rw_iconst (pc' := 723) rfl ?_)
  refine wl_of hX hb cL_723 (rw_iadd (pc' := 724) rfl ?_)
  refine wl_of hX hb cL_724 (xa_I (so := 0) (pc' := 725) (a := 0) hW g0 (wsh_s _) (by omega) (wty_s _ _) (by omega) (by omega) rfl (fun b272233 b272234 => ?_))
  refine wl_of hX hb cL_725 (rw_aload_n (pc' := 726) (v := .ref 0) rfl rfl rfl ?_)
  refine wl_of hX hb cL_726 (rw_iload (pc' := 728) (z := i) rfl rfl ?_)
  refine wl_of hX hb cL_728 (rw_iconst (pc' := 729) rfl ?_)
  refine wl_of hX hb cL_729 (rw_iadd (pc' := 730) rfl ?_)
  refine wl_of hX hb cL_730 (xa_I (so := 0) (pc' := 731) (a := 0) hW g0 (wsh_s _) (by omega) (wty_s _ _) (by omega) (by omega) rfl (fun b272235 b272236 => ?_))
  refine wl_of hX hb cL_731 (xc_V (pc' := 734) (r := x) (as := [vI (H 0 ((i + 1).toNat)), vI (H 0 ((i + 2).toNat))]) (st := []) (lm_11_97) rfl rfl (Nat.le_of_ble_eq_true rfl) hW gx sh_1 (by decide) rfl (by decide) (s_98 hW gx ⟨by omega, by omega⟩ ⟨by omega, by omega⟩) (fun R272237 T272238 H272239 p272240 => ?_))
  obtain ⟨e272241, w272243, f272244, z272245, e272242, b272246⟩ := p272240
  subst e272241
  subst e272242
  show WL _ _ _ _ 734 [(4, vI i), (3, .ref o), (2, .ref m), (1, .ref x), (0, .ref 0)] [vI z272245] _ H272239
  refine wl_of hX hb cL_734 (rw_pop (pc' := 735) rfl rfl ?_)
  refine wl_of hX hb cL_735 (rw_aload_n (pc' := 736) (v := .ref m) rfl rfl rfl ?_)
  refine wl_of hX hb cL_736 (rw_aload_n (pc' := 737) (v := .ref 0) rfl rfl rfl ?_)
  refine wl_of hX hb cL_737 (rw_iload (pc' := 739) (z := i) rfl rfl ?_)
  refine wl_of hX hb cL_739 (rw_iconst (pc' := 740) rfl ?_)
  refine wl_of hX hb cL_740 (rw_iadd (pc' := 741) rfl ?_)
  have k272249 : H272239 0 ((i + 1).toNat) = H 0 ((i + 1).toNat) := (f272244 0 ((i + 1).toNat) _ g0 (wmem_s rfl))
  refine wl_of hX hb cL_741 (xa_I (so := 0) (pc' := 742) (a := 0) w272243 g0 (wsh_s _) (by omega) (wty_s _ _) (by omega) (by omega) rfl (fun b272247 b272248 => ?_))
  refine wl_of hX hb cL_742 (rw_aload_n (pc' := 743) (v := .ref 0) rfl rfl rfl ?_)
  refine wl_of hX hb cL_743 (rw_iload (pc' := 745) (z := i) rfl rfl ?_)
  refine wl_of hX hb cL_745 (rw_iconst (pc' := 746) rfl ?_)
  refine wl_of hX hb cL_746 (rw_iadd (pc' := 747) rfl ?_)
  have k272252 : H272239 0 ((i + 2).toNat) = H 0 ((i + 2).toNat) := (f272244 0 ((i + 2).toNat) _ g0 (wmem_s rfl))
  refine wl_of hX hb cL_747 (xa_I (so := 0) (pc' := 748) (a := 0) w272243 g0 (wsh_s _) (by omega) (wty_s _ _) (by omega) (by omega) rfl (fun b272250 b272251 => ?_))
  have k272253 : wKI H272239 m = wKI H m := (wKI_fr hW gm f272244 rfl)
  have k272254 : H272239 x 9 = H x 9 := (f272244 x 9 _ gx rfl)
  have k272255 : H272239 m 6 = H m 6 := (f272244 m 6 _ gm rfl)
  refine wl_of hX hb cL_748 (xc_V (pc' := 751) (r := m) (as := [vI (H272239 0 ((i + 1).toNat)), vI (H272239 0 ((i + 2).toNat))]) (st := []) (lm_11_100) rfl rfl (Nat.le_of_ble_eq_true rfl) w272243 gm sh_42 (by decide) rfl (by decide) (s_249 w272243 gm ⟨by omega, by omega⟩ ⟨by omega, by omega⟩ (by omega)) (fun R272256 T272257 H272258 p272259 => ?_))
  obtain ⟨e272260, w272262, f272263, z272265, e272261, b272266, p272264⟩ := p272259
  subst e272260
  subst e272261
  show WL _ _ _ _ 751 [(4, vI i), (3, .ref o), (2, .ref m), (1, .ref x), (0, .ref 0)] [vI z272265] _ H272258
  refine wl_of hX hb cL_751 (rw_pop (pc' := 752) rfl rfl ?_)
  refine wl_of hX hb cL_752 (rw_goto (p1 := 1653) (by decide) ?_)
  have k272267 : H272258 x 9 = H272239 x 9 := (f272263 x 9 _ gx rfl)
  have k272268 : H272258 m 6 = H272239 m 6 := (f272263 m 6 _ gm rfl)
  have h272269 : XI T H272258 x m := (XI_fr w272243 gx f272263 rfl (XI_fr hW gx f272244 rfl hXI))
  exact WL.loc hX (by simp) (next T H272258 ⟨⟨w272262, g0, gx, gm, go, by omega, by omega⟩, h272269⟩ (by omega) (by omega))
set_option maxHeartbeats 4000000 in
theorem wl_c19 {kt : Nat → Option mc_E} {CB SB : Nat} {X : mc_S → Prop} {T : wq_T} {H : wq_H} {Len x m o : Nat} {i : Int} (hX : wlX kt CB SB X) (hb : T.2.1 ≤ CB ∧ T.2.2.1 ≤ SB) (hI : wlJ Len x m o T H) (hL : Len ≤ 3072) (hi : 0 ≤ i ∧ i + 6 ≤ Len) (hb2 : T.2.1 + 20 ≤ CB ∧ T.2.2.1 + 500 ≤ SB)  (next : ∀ T' H', wlJ Len x m o T' H' → T'.2.1 ≤ T.2.1 + 20 → T'.2.2.1 ≤ T.2.2.1 + 500 → WL kt CB SB X 1653 (wlL i x m o) [] T' H') : WL kt CB SB X 755 (wlL i x m o) [] T H := by
  obtain ⟨⟨hW, g0, gx, gm, go, hK, hr⟩, hXI⟩ := hI
  refine wl_of hX hb cL_755 (rw_aload_n (pc' := 756) (v := .ref x) rfl rfl rfl ?_)
  refine wl_of hX hb cL_756 (rw_aload_n (pc' := 757) (v := .ref 0) rfl rfl rfl ?_)
  refine wl_of hX hb cL_757 (rw_iload (pc' := 759) (z := i) rfl rfl ?_)
  refine wl_of hX hb cL_759 (rw_iconst (pc' := 760) rfl ?_)
  refine wl_of hX hb cL_760 (rw_iadd (pc' := 761) rfl ?_)
  refine wl_of hX hb cL_761 (xa_I (so := 0) (pc' := 762) (a := 0) hW g0 (wsh_s _) (by omega) (wty_s _ _) (by omega) (by omega) rfl (fun b272270 b272271 => ?_))
  refine wl_of hX hb cL_762 (rw_aload_n (pc' := 763) (v := .ref 0) rfl rfl rfl ?_)
  refine wl_of hX hb cL_763 (rw_iload (pc' := 765) (z := i) rfl rfl ?_)
  refine wl_of hX hb cL_765 (rw_iconst (pc' := 766) rfl ?_)
  refine wl_of hX hb cL_766 (rw_iadd (pc' := 767) rfl ?_)
  refine wl_of hX hb cL_767 (xa_I (so := 0) (pc' := 768) (a := 0) hW g0 (wsh_s _) (by omega) (wty_s _ _) (by omega) (by omega) rfl (fun b272272 b272273 => ?_))
  refine wl_of hX hb cL_768 (xc_V (pc' := 771) (r := x) (as := [vI (H 0 ((i + 1).toNat)), vI (H 0 ((i + 2).toNat))]) (st := []) (lm_11_101) rfl rfl (Nat.le_of_ble_eq_true rfl) hW gx sh_1 (by decide) rfl (by decide) (s_99 hW gx ⟨by omega, by omega⟩ ⟨by omega, by omega⟩) (fun R272274 T272275 H272276 p272277 => ?_))
  obtain ⟨e272278, w272280, f272281, z272282, e272279, b272283⟩ := p272277
  subst e272278
  subst e272279
  show WL _ _ _ _ 771 [(4, vI i), (3, .ref o), (2, .ref m), (1, .ref x), (0, .ref 0)] [vI z272282] _ H272276
  refine wl_of hX hb cL_771 (rw_pop (pc' := 772) rfl rfl ?_)
  refine wl_of hX hb cL_772 (rw_aload_n (pc' := 773) (v := .ref m) rfl rfl rfl ?_)
  refine wl_of hX hb cL_773 (rw_aload_n (pc' := 774) (v := .ref 0) rfl rfl rfl ?_)
  refine wl_of hX hb cL_774 (rw_iload (pc' := 776) (z := i) rfl rfl ?_)
  refine wl_of hX hb cL_776 (rw_iconst (pc' := 777) rfl ?_)
  refine wl_of hX hb cL_777 (rw_iadd (pc' := 778) rfl ?_)
  have k272286 : H272276 0 ((i + 1).toNat) = H 0 ((i + 1).toNat) := (f272281 0 ((i + 1).toNat) _ g0 (wmem_s rfl))
  refine wl_of hX hb cL_778 (xa_I (so := 0) (pc' := 779) (a := 0) w272280 g0 (wsh_s _) (by omega) (wty_s _ _) (by omega) (by omega) rfl (fun b272284 b272285 => ?_))
  refine wl_of hX hb cL_779 (rw_aload_n (pc' := 780) (v := .ref 0) rfl rfl rfl ?_)
  refine wl_of hX hb cL_780 (rw_iload (pc' := 782) (z := i) rfl rfl ?_)
  refine wl_of hX hb cL_782 (rw_iconst (pc' := 783) rfl ?_)
  refine wl_of hX hb cL_783 (rw_iadd (pc' := 784) rfl ?_)
  have k272289 : H272276 0 ((i + 2).toNat) = H 0 ((i + 2).toNat) := (f272281 0 ((i + 2).toNat) _ g0 (wmem_s rfl))
  refine wl_of hX hb cL_784 (xa_I (so := 0) (pc' := 785) (a := 0) w272280 g0 (wsh_s _) (by omega) (wty_s _ _) (by omega) (by omega) rfl (fun b272287 b272288 => ?_))
  have k272290 : wKI H272276 m = wKI H m := (wKI_fr hW gm f272281 rfl)
  have k272291 : H272276 x 9 = H x 9 := (f272281 x 9 _ gx rfl)
  have k272292 : H272276 m 6 = H m 6 := (f272281 m 6 _ gm rfl)
  refine wl_of hX hb cL_785 (xc_V (pc' := 788) (r := m) (as := [vI (H272276 0 ((i + 1).toNat)), vI (H272276 0 ((i + 2).toNat))]) (st := []) (lm_11_104) rfl rfl (Nat.le_of_ble_eq_true rfl) w272280 gm sh_42 (by decide) rfl (by decide) (s_250 w272280 gm ⟨by omega, by omega⟩ ⟨by omega, by omega⟩ (by omega)) (fun R272293 T272294 H272295 p272296 => ?_))
  obtain ⟨e272297, w272299, f272300, z272302, e272298, b272303, p272301⟩ := p272296
  subst e272297
  subst e272298
  show WL _ _ _ _ 788 [(4, vI i), (3, .ref o), (2, .ref m), (1, .ref x), (0, .ref 0)] [vI z272302] _ H272295
  refine wl_of hX hb cL_788 (rw_pop (pc' := 789) rfl rfl ?_)
  refine wl_of hX hb cL_789 (rw_goto (p1 := 1653) (by decide) ?_)
  have k272304 : H272295 x 9 = H272276 x 9 := (f272300 x 9 _ gx rfl)
  have k272305 : H272295 m 6 = H272276 m 6 := (f272300 m 6 _ gm rfl)
  have h272306 : XI T H272295 x m := (XI_fr w272280 gx f272300 rfl (XI_fr hW gx f272281 rfl hXI))
  exact WL.loc hX (by simp) (next T H272295 ⟨⟨w272299, g0, gx, gm, go, by omega, by omega⟩, h272306⟩ (by omega) (by omega))
set_option maxHeartbeats 4000000 in
theorem wl_c20 {kt : Nat → Option mc_E} {CB SB : Nat} {X : mc_S → Prop} {T : wq_T} {H : wq_H} {Len x m o : Nat} {i : Int} (hX : wlX kt CB SB X) (hb : T.2.1 ≤ CB ∧ T.2.2.1 ≤ SB) (hI : wlJ Len x m o T H) (hL : Len ≤ 3072) (hi : 0 ≤ i ∧ i + 6 ≤ Len) (hb2 : T.2.1 + 20 ≤ CB ∧ T.2.2.1 + 500 ≤ SB)  (next : ∀ T' H', wlJ Len x m o T' H' → T'.2.1 ≤ T.2.1 + 20 → T'.2.2.1 ≤ T.2.2.1 + 500 → WL kt CB SB X 1653 (wlL i x m o) [] T' H') : WL kt CB SB X 792 (wlL i x m o) [] T H := by
  obtain ⟨⟨hW, g0, gx, gm, go, hK, hr⟩, hXI⟩ := hI
  refine wl_of hX hb cL_792 (rw_aload_n (pc' := 793) (v := .ref x) rfl rfl rfl ?_)
  refine wl_of hX hb cL_793 (rw_aload_n (pc' := 794) (v := .ref 0) rfl rfl rfl ?_)
  refine wl_of hX hb cL_794 (rw_iload (pc' := 796) (z := i) rfl rfl ?_)
  refine wl_of hX hb cL_796 (rw_iconst (pc' := 797) rfl ?_)
  refine wl_of hX hb cL_797 (rw_iadd (pc' := 798) rfl ?_)
  refine wl_of hX hb cL_798 (xa_I (so := 0) (pc' := 799) (a := 0) hW g0 (wsh_s _) (by omega) (wty_s _ _) (by omega) (by omega) rfl (fun b272307 b272308 => ?_))
  refine wl_of hX hb cL_799 (rw_aload_n (pc' := 800) (v := .ref 0) rfl rfl rfl ?_)
  refine wl_of hX hb cL_800 (rw_iload (pc' := 802) (z := i) rfl rfl ?_)
  refine wl_of hX hb cL_802 (rw_iconst (pc' := 803) rfl ?_)
  refine wl_of hX hb cL_803 (rw_iadd (pc' := 804) rfl ?_)
  refine wl_of hX hb cL_804 (xa_I (so := 0) (pc' := 805) (a := 0) hW g0 (wsh_s _) (by omega) (wty_s _ _) (by omega) (by omega) rfl (fun b272309 b272310 => ?_))
  refine wl_of hX hb cL_805 (xc_V (pc' := 808) (r := x) (as := [vI (H 0 ((i + 1).toNat)), vI (H 0 ((i + 2).toNat))]) (st := []) (lm_11_105) rfl rfl (Nat.le_of_ble_eq_true rfl) hW gx sh_1 (by decide) rfl (by decide) (s_101 hW gx ⟨by omega, by omega⟩ ⟨by omega, by omega⟩) (fun R272311 T272312 H272313 p272314 => ?_))
  obtain ⟨e272315, w272317, f272318, z272319, e272316, b272320⟩ := p272314
  subst e272315
  subst e272316
  show WL _ _ _ _ 808 [(4, vI i), (3, .ref o), (2, .ref m), (1, .ref x), (0, .ref 0)] [vI z272319] _ H272313
  refine wl_of hX hb cL_808 (rw_pop (pc' := 809) rfl rfl ?_)
  refine wl_of hX hb cL_809 (rw_aload_n (pc' := 810) (v := .ref m) rfl rfl rfl ?_)
  refine wl_of hX hb cL_810 (rw_aload_n (pc' := 811) (v := .ref 0) rfl rfl rfl ?_)
  refine wl_of hX hb cL_811 (rw_iload (pc' := 813) (z := i) rfl rfl ?_)
  refine wl_of hX hb cL_813 (rw_iconst (pc' := 814) rfl ?_)
  refine wl_of hX hb cL_814 (rw_iadd (pc' := 815) rfl ?_)
  have k272323 : H272313 0 ((i + 1).toNat) = H 0 ((i + 1).toNat) := (f272318 0 ((i + 1).toNat) _ g0 (wmem_s rfl))
  refine wl_of hX hb cL_815 (xa_I (so := 0) (pc' := 816) (a := 0) w272317 g0 (wsh_s _) (by omega) (wty_s _ _) (by omega) (by omega) rfl (fun b272321 b272322 => ?_))
  refine wl_of hX hb cL_816 (rw_aload_n (pc' := 817) (v := .ref 0) rfl rfl rfl ?_)
  refine wl_of hX hb cL_817 (rw_iload (pc' := 819) (z := i) rfl rfl ?_)
  refine wl_of hX hb cL_819 (rw_iconst (pc' := 820) rfl ?_)
  refine wl_of hX hb cL_820 (rw_iadd (pc' := 821) rfl ?_)
  have k272326 : H272313 0 ((i + 2).toNat) = H 0 ((i + 2).toNat) := (f272318 0 ((i + 2).toNat) _ g0 (wmem_s rfl))
  refine wl_of hX hb cL_821 (xa_I (so := 0) (pc' := 822) (a := 0) w272317 g0 (wsh_s _) (by omega) (wty_s _ _) (by omega) (by omega) rfl (fun b272324 b272325 => ?_))
  have k272327 : wKI H272313 m = wKI H m := (wKI_fr hW gm f272318 rfl)
  have k272328 : H272313 x 9 = H x 9 := (f272318 x 9 _ gx rfl)
  have k272329 : H272313 m 6 = H m 6 := (f272318 m 6 _ gm rfl)
  refine wl_of hX hb cL_822 (xc_V (pc' := 825) (r := m) (as := [vI (H272313 0 ((i + 1).toNat)), vI (H272313 0 ((i + 2).toNat))]) (st := []) (lm_11_108) rfl rfl (Nat.le_of_ble_eq_true rfl) w272317 gm sh_42 (by decide) rfl (by decide) (s_252 w272317 gm ⟨by omega, by omega⟩ ⟨by omega, by omega⟩ (by omega)) (fun R272330 T272331 H272332 p272333 => ?_))
  obtain ⟨e272334, w272336, f272337, z272339, e272335, b272340, p272338⟩ := p272333
  subst e272334
  subst e272335
  show WL _ _ _ _ 825 [(4, vI i), (3, .ref o), (2, .ref m), (1, .ref x), (0, .ref 0)] [vI z272339] _ H272332
  refine wl_of hX hb cL_825 (rw_pop (pc' := 826) rfl rfl ?_)
  refine wl_of hX hb cL_826 (rw_goto (p1 := 1653) (by decide) ?_)
  have k272341 : H272332 x 9 = H272313 x 9 := (f272337 x 9 _ gx rfl)
  have k272342 : H272332 m 6 = H272313 m 6 := (f272337 m 6 _ gm rfl)
  have h272343 : XI T H272332 x m := (XI_fr w272317 gx f272337 rfl (XI_fr hW gx f272318 rfl hXI))
  exact WL.loc hX (by simp) (next T H272332 ⟨⟨w272336, g0, gx, gm, go, by omega, by omega⟩, h272343⟩ (by omega) (by omega))
set_option maxHeartbeats 4000000 in
theorem wl_c21 {kt : Nat → Option mc_E} {CB SB : Nat} {X : mc_S → Prop} {T : wq_T} {H : wq_H} {Len x m o : Nat} {i : Int} (hX : wlX kt CB SB X) (hb : T.2.1 ≤ CB ∧ T.2.2.1 ≤ SB) (hI : wlJ Len x m o T H) (hL : Len ≤ 3072) (hi : 0 ≤ i ∧ i + 6 ≤ Len) (hb2 : T.2.1 + 20 ≤ CB ∧ T.2.2.1 + 500 ≤ SB)  (next : ∀ T' H', wlJ Len x m o T' H' → T'.2.1 ≤ T.2.1 + 20 → T'.2.2.1 ≤ T.2.2.1 + 500 → WL kt CB SB X 1653 (wlL i x m o) [] T' H') : WL kt CB SB X 829 (wlL i x m o) [] T H := by
  obtain ⟨⟨hW, g0, gx, gm, go, hK, hr⟩, hXI⟩ := hI
  refine wl_of hX hb cL_829 (rw_aload_n (pc' := 830) (v := .ref x) rfl rfl rfl ?_)
  refine wl_of hX hb cL_830 (rw_aload_n (pc' := 831) (v := .ref 0) rfl rfl rfl ?_)
  refine wl_of hX hb cL_831 (rw_iload (pc' := 833) (z := i) rfl rfl ?_)
  refine wl_of hX hb cL_833 (rw_iconst (pc' := 834) rfl ?_)
  refine wl_of hX hb cL_834 (rw_iadd (pc' := 835) rfl ?_)
  refine wl_of hX hb cL_835 (xa_I (so := 0) (pc' := 836) (a := 0) hW g0 (wsh_s _) (by omega) (wty_s _ _) (by omega) (by omega) rfl (fun b272344 b272345 => ?_))
  refine wl_of hX hb cL_836 (rw_aload_n (pc' := 837) (v := .ref 0) rfl rfl rfl ?_)
  refine wl_of hX hb cL_837 (rw_iload (pc' := 839) (z := i) rfl rfl ?_)
  refine wl_of hX hb cL_839 (rw_iconst (pc' := 840) rfl ?_)
  refine wl_of hX hb cL_840 (rw_iadd (pc' := 841) rfl ?_)
  refine wl_of hX hb cL_841 (xa_I (so := 0) (pc' := 842) (a := 0) hW g0 (wsh_s _) (by omega) (wty_s _ _) (by omega) (by omega) rfl (fun b272346 b272347 => ?_))
  refine wl_of hX hb cL_842 (rw_if_eq (p1 := 849) (p2 := 845) (by decide) rfl ⟨by omega, by omega⟩ (fun c272348 => ?_) (fun c272348 => ?_))
  · refine wl_of hX hb cL_849 (rw_iconst (pc' := 850) rfl ?_)
    refine wl_of hX hb cL_850 (xc_V (pc' := 853) (r := x) (as := [vI (H 0 ((i + 1).toNat)), vI 0]) (st := []) (lm_11_109) rfl rfl (Nat.le_of_ble_eq_true rfl) hW gx sh_1 (by decide) rfl (by decide) (s_104 hW gx ⟨by omega, by omega⟩ ⟨by omega, by omega⟩) (fun R272349 T272350 H272351 p272352 => ?_))
    obtain ⟨e272353, w272355, f272356, z272357, e272354, b272358⟩ := p272352
    subst e272353
    subst e272354
    show WL _ _ _ _ 853 [(4, vI i), (3, .ref o), (2, .ref m), (1, .ref x), (0, .ref 0)] [vI z272357] _ H272351
    refine wl_of hX hb cL_853 (rw_pop (pc' := 854) rfl rfl ?_)
    refine wl_of hX hb cL_854 (rw_aload_n (pc' := 855) (v := .ref m) rfl rfl rfl ?_)
    refine wl_of hX hb cL_855 (rw_aload_n (pc' := 856) (v := .ref 0) rfl rfl rfl ?_)
    refine wl_of hX hb cL_856 (rw_iload (pc' := 858) (z := i) rfl rfl ?_)
    refine wl_of hX hb cL_858 (rw_iconst (pc' := 859) rfl ?_)
    refine wl_of hX hb cL_859 (rw_iadd (pc' := 860) rfl ?_)
    have k272361 : H272351 0 ((i + 1).toNat) = H 0 ((i + 1).toNat) := (f272356 0 ((i + 1).toNat) _ g0 (wmem_s rfl))
    refine wl_of hX hb cL_860 (xa_I (so := 0) (pc' := 861) (a := 0) w272355 g0 (wsh_s _) (by omega) (wty_s _ _) (by omega) (by omega) rfl (fun b272359 b272360 => ?_))
    refine wl_of hX hb cL_861 (rw_aload_n (pc' := 862) (v := .ref 0) rfl rfl rfl ?_)
    refine wl_of hX hb cL_862 (rw_iload (pc' := 864) (z := i) rfl rfl ?_)
    refine wl_of hX hb cL_864 (rw_iconst (pc' := 865) rfl ?_)
    refine wl_of hX hb cL_865 (rw_iadd (pc' := 866) rfl ?_)
    have k272364 : H272351 0 ((i + 2).toNat) = H 0 ((i + 2).toNat) := (f272356 0 ((i + 2).toNat) _ g0 (wmem_s rfl))
    refine wl_of hX hb cL_866 (xa_I (so := 0) (pc' := 867) (a := 0) w272355 g0 (wsh_s _) (by omega) (wty_s _ _) (by omega) (by omega) rfl (fun b272362 b272363 => ?_))
    refine wl_of hX hb cL_867 (rw_if_eq (p1 := 874) (p2 := 870) (by decide) rfl ⟨by omega, by omega⟩ (fun c272365 => ?_) (fun c272365 => ?_))
    · refine wl_of hX hb cL_874 (rw_iconst (pc' := 875) rfl ?_)
      have k272366 : wKI H272351 m = wKI H m := (wKI_fr hW gm f272356 rfl)
      have k272367 : H272351 x 9 = H x 9 := (f272356 x 9 _ gx rfl)
      have k272368 : H272351 m 6 = H m 6 := (f272356 m 6 _ gm rfl)
      refine wl_of hX hb cL_875 (xc_V (pc' := 878) (r := m) (as := [vI (H272351 0 ((i + 1).toNat)), vI 0]) (st := []) (lm_11_113) rfl rfl (Nat.le_of_ble_eq_true rfl) w272355 gm sh_42 (by decide) rfl (by decide) (s_254 w272355 gm ⟨by omega, by omega⟩ ⟨by omega, by omega⟩ (by omega)) (fun R272369 T272370 H272371 p272372 => ?_))
      obtain ⟨e272373, w272375, f272376, z272378, e272374, b272379, p272377⟩ := p272372
      subst e272373
      subst e272374
      show WL _ _ _ _ 878 [(4, vI i), (3, .ref o), (2, .ref m), (1, .ref x), (0, .ref 0)] [vI z272378] _ H272371
      refine wl_of hX hb cL_878 (rw_pop (pc' := 879) rfl rfl ?_)
      refine wl_of hX hb cL_879 (rw_goto (p1 := 1653) (by decide) ?_)
      have k272380 : H272371 x 9 = H272351 x 9 := (f272376 x 9 _ gx rfl)
      have k272381 : H272371 m 6 = H272351 m 6 := (f272376 m 6 _ gm rfl)
      have h272382 : XI T H272371 x m := (XI_fr w272355 gx f272376 rfl (XI_fr hW gx f272356 rfl hXI))
      exact WL.loc hX (by simp) (next T H272371 ⟨⟨w272375, g0, gx, gm, go, by omega, by omega⟩, h272382⟩ (by omega) (by omega))
    · exfalso
      omega
  · refine wl_of hX hb cL_845 (rw_iconst (pc' := 846) rfl ?_)
    refine wl_of hX hb cL_846 (rw_goto (p1 := 850) (by decide) ?_)
    refine wl_of hX hb cL_850 (xc_V (pc' := 853) (r := x) (as := [vI (H 0 ((i + 1).toNat)), vI 1]) (st := []) (lm_11_109) rfl rfl (Nat.le_of_ble_eq_true rfl) hW gx sh_1 (by decide) rfl (by decide) (s_104 hW gx ⟨by omega, by omega⟩ ⟨by omega, by omega⟩) (fun R272383 T272384 H272385 p272386 => ?_))
    obtain ⟨e272387, w272389, f272390, z272391, e272388, b272392⟩ := p272386
    subst e272387
    subst e272388
    show WL _ _ _ _ 853 [(4, vI i), (3, .ref o), (2, .ref m), (1, .ref x), (0, .ref 0)] [vI z272391] _ H272385
    refine wl_of hX hb cL_853 (rw_pop (pc' := 854) rfl rfl ?_)
    refine wl_of hX hb cL_854 (rw_aload_n (pc' := 855) (v := .ref m) rfl rfl rfl ?_)
    refine wl_of hX hb cL_855 (rw_aload_n (pc' := 856) (v := .ref 0) rfl rfl rfl ?_)
    refine wl_of hX hb cL_856 (rw_iload (pc' := 858) (z := i) rfl rfl ?_)
    refine wl_of hX hb cL_858 (rw_iconst (pc' := 859) rfl ?_)
    refine wl_of hX hb cL_859 (rw_iadd (pc' := 860) rfl ?_)
    have k272395 : H272385 0 ((i + 1).toNat) = H 0 ((i + 1).toNat) := (f272390 0 ((i + 1).toNat) _ g0 (wmem_s rfl))
    refine wl_of hX hb cL_860 (xa_I (so := 0) (pc' := 861) (a := 0) w272389 g0 (wsh_s _) (by omega) (wty_s _ _) (by omega) (by omega) rfl (fun b272393 b272394 => ?_))
    refine wl_of hX hb cL_861 (rw_aload_n (pc' := 862) (v := .ref 0) rfl rfl rfl ?_)
    refine wl_of hX hb cL_862 (rw_iload (pc' := 864) (z := i) rfl rfl ?_)
    refine wl_of hX hb cL_864 (rw_iconst (pc' := 865) rfl ?_)
    refine wl_of hX hb cL_865 (rw_iadd (pc' := 866) rfl ?_)
    have k272398 : H272385 0 ((i + 2).toNat) = H 0 ((i + 2).toNat) := (f272390 0 ((i + 2).toNat) _ g0 (wmem_s rfl))
    refine wl_of hX hb cL_866 (xa_I (so := 0) (pc' := 867) (a := 0) w272389 g0 (wsh_s _) (by omega) (wty_s _ _) (by omega) (by omega) rfl (fun b272396 b272397 => ?_))
    refine wl_of hX hb cL_867 (rw_if_eq (p1 := 874) (p2 := 870) (by decide) rfl ⟨by omega, by omega⟩ (fun c272399 => ?_) (fun c272399 => ?_))
    · refine wl_of hX hb cL_874 (rw_iconst (pc' := 875) rfl ?_)
      have k272400 : wKI H272385 m = wKI H m := (wKI_fr hW gm f272390 rfl)
      have k272401 : H272385 x 9 = H x 9 := (f272390 x 9 _ gx rfl)
      have k272402 : H272385 m 6 = H m 6 := (f272390 m 6 _ gm rfl)
      refine wl_of hX hb cL_875 (xc_V (pc' := 878) (r := m) (as := [vI (H272385 0 ((i + 1).toNat)), vI 0]) (st := []) (lm_11_113) rfl rfl (Nat.le_of_ble_eq_true rfl) w272389 gm sh_42 (by decide) rfl (by decide) (s_254 w272389 gm ⟨by omega, by omega⟩ ⟨by omega, by omega⟩ (by omega)) (fun R272403 T272404 H272405 p272406 => ?_))
      obtain ⟨e272407, w272409, f272410, z272412, e272408, b272413, p272411⟩ := p272406
      subst e272407
      subst e272408
      show WL _ _ _ _ 878 [(4, vI i), (3, .ref o), (2, .ref m), (1, .ref x), (0, .ref 0)] [vI z272412] _ H272405
      refine wl_of hX hb cL_878 (rw_pop (pc' := 879) rfl rfl ?_)
      refine wl_of hX hb cL_879 (rw_goto (p1 := 1653) (by decide) ?_)
      have k272414 : H272405 x 9 = H272385 x 9 := (f272410 x 9 _ gx rfl)
      have k272415 : H272405 m 6 = H272385 m 6 := (f272410 m 6 _ gm rfl)
      have h272416 : XI T H272405 x m := (XI_fr w272389 gx f272410 rfl (XI_fr hW gx f272390 rfl hXI))
      exact WL.loc hX (by simp) (next T H272405 ⟨⟨w272409, g0, gx, gm, go, by omega, by omega⟩, h272416⟩ (by omega) (by omega))
    · refine wl_of hX hb cL_870 (rw_iconst (pc' := 871) rfl ?_)
      refine wl_of hX hb cL_871 (rw_goto (p1 := 875) (by decide) ?_)
      have k272417 : wKI H272385 m = wKI H m := (wKI_fr hW gm f272390 rfl)
      have k272418 : H272385 x 9 = H x 9 := (f272390 x 9 _ gx rfl)
      have k272419 : H272385 m 6 = H m 6 := (f272390 m 6 _ gm rfl)
      refine wl_of hX hb cL_875 (xc_V (pc' := 878) (r := m) (as := [vI (H272385 0 ((i + 1).toNat)), vI 1]) (st := []) (lm_11_113) rfl rfl (Nat.le_of_ble_eq_true rfl) w272389 gm sh_42 (by decide) rfl (by decide) (s_254 w272389 gm ⟨by omega, by omega⟩ ⟨by omega, by omega⟩ (by omega)) (fun R272420 T272421 H272422 p272423 => ?_))
      obtain ⟨e272424, w272426, f272427, z272429, e272425, b272430, p272428⟩ := p272423
      subst e272424
      subst e272425
      show WL _ _ _ _ 878 [(4, vI i), (3, .ref o), (2, .ref m), (1, .ref x), (0, .ref 0)] [vI z272429] _ H272422
      refine wl_of hX hb cL_878 (rw_pop (pc' := 879) rfl rfl ?_)
      refine wl_of hX hb cL_879 (rw_goto (p1 := 1653) (by decide) ?_)
      have k272431 : H272422 x 9 = H272385 x 9 := (f272427 x 9 _ gx rfl)
      have k272432 : H272422 m 6 = H272385 m 6 := (f272427 m 6 _ gm rfl)
      have h272433 : XI T H272422 x m := (XI_fr w272389 gx f272427 rfl (XI_fr hW gx f272390 rfl hXI))
      exact WL.loc hX (by simp) (next T H272422 ⟨⟨w272426, g0, gx, gm, go, by omega, by omega⟩, h272433⟩ (by omega) (by omega))
set_option maxHeartbeats 4000000 in
theorem wl_c22 {kt : Nat → Option mc_E} {CB SB : Nat} {X : mc_S → Prop} {T : wq_T} {H : wq_H} {Len x m o : Nat} {i : Int} (hX : wlX kt CB SB X) (hb : T.2.1 ≤ CB ∧ T.2.2.1 ≤ SB) (hI : wlJ Len x m o T H) (hL : Len ≤ 3072) (hi : 0 ≤ i ∧ i + 6 ≤ Len) (hb2 : T.2.1 + 20 ≤ CB ∧ T.2.2.1 + 500 ≤ SB)  (next : ∀ T' H', wlJ Len x m o T' H' → T'.2.1 ≤ T.2.1 + 20 → T'.2.2.1 ≤ T.2.2.1 + 500 → WL kt CB SB X 1653 (wlL i x m o) [] T' H') : WL kt CB SB X 882 (wlL i x m o) [] T H := by
  obtain ⟨⟨hW, g0, gx, gm, go, hK, hr⟩, hXI⟩ := hI
  refine wl_of hX hb cL_882 (rw_aload_n (pc' := 883) (v := .ref x) rfl rfl rfl ?_)
  refine wl_of hX hb cL_883 (rw_aload_n (pc' := 884) (v := .ref 0) rfl rfl rfl ?_)
  refine wl_of hX hb cL_884 (rw_iload (pc' := 886) (z := i) rfl rfl ?_)
  refine wl_of hX hb cL_886 (rw_iconst (pc' := 887) rfl ?_)
  refine wl_of hX hb cL_887 (rw_iadd (pc' := 888) rfl ?_)
  refine wl_of hX hb cL_888 (xa_I (so := 0) (pc' := 889) (a := 0) hW g0 (wsh_s _) (by omega) (wty_s _ _) (by omega) (by omega) rfl (fun b272434 b272435 => ?_))
  refine wl_of hX hb cL_889 (rw_aload_n (pc' := 890) (v := .ref 0) rfl rfl rfl ?_)
  refine wl_of hX hb cL_890 (rw_iload (pc' := 892) (z := i) rfl rfl ?_)
  refine wl_of hX hb cL_892 (rw_iconst (pc' := 893) rfl ?_)
  refine wl_of hX hb cL_893 (rw_iadd (pc' := 894) rfl ?_)
  refine wl_of hX hb cL_894 (xa_I (so := 0) (pc' := 895) (a := 0) hW g0 (wsh_s _) (by omega) (wty_s _ _) (by omega) (by omega) rfl (fun b272436 b272437 => ?_))
  refine wl_of hX hb cL_895 (xc_V (pc' := 898) (r := x) (as := [vI (H 0 ((i + 1).toNat)), vI (H 0 ((i + 2).toNat))]) (st := []) (lm_11_114) rfl rfl (Nat.le_of_ble_eq_true rfl) hW gx sh_1 (by decide) rfl (by decide) (s_105 hW gx ⟨by omega, by omega⟩ ⟨by omega, by omega⟩) (fun R272438 T272439 H272440 p272441 => ?_))
  obtain ⟨e272442, w272444, f272445, z272446, e272443, b272447⟩ := p272441
  subst e272442
  subst e272443
  show WL _ _ _ _ 898 [(4, vI i), (3, .ref o), (2, .ref m), (1, .ref x), (0, .ref 0)] [vI z272446] _ H272440
  refine wl_of hX hb cL_898 (rw_pop (pc' := 899) rfl rfl ?_)
  refine wl_of hX hb cL_899 (rw_aload_n (pc' := 900) (v := .ref m) rfl rfl rfl ?_)
  refine wl_of hX hb cL_900 (rw_aload_n (pc' := 901) (v := .ref 0) rfl rfl rfl ?_)
  refine wl_of hX hb cL_901 (rw_iload (pc' := 903) (z := i) rfl rfl ?_)
  refine wl_of hX hb cL_903 (rw_iconst (pc' := 904) rfl ?_)
  refine wl_of hX hb cL_904 (rw_iadd (pc' := 905) rfl ?_)
  have k272450 : H272440 0 ((i + 1).toNat) = H 0 ((i + 1).toNat) := (f272445 0 ((i + 1).toNat) _ g0 (wmem_s rfl))
  refine wl_of hX hb cL_905 (xa_I (so := 0) (pc' := 906) (a := 0) w272444 g0 (wsh_s _) (by omega) (wty_s _ _) (by omega) (by omega) rfl (fun b272448 b272449 => ?_))
  refine wl_of hX hb cL_906 (rw_aload_n (pc' := 907) (v := .ref 0) rfl rfl rfl ?_)
  refine wl_of hX hb cL_907 (rw_iload (pc' := 909) (z := i) rfl rfl ?_)
  refine wl_of hX hb cL_909 (rw_iconst (pc' := 910) rfl ?_)
  refine wl_of hX hb cL_910 (rw_iadd (pc' := 911) rfl ?_)
  have k272453 : H272440 0 ((i + 2).toNat) = H 0 ((i + 2).toNat) := (f272445 0 ((i + 2).toNat) _ g0 (wmem_s rfl))
  refine wl_of hX hb cL_911 (xa_I (so := 0) (pc' := 912) (a := 0) w272444 g0 (wsh_s _) (by omega) (wty_s _ _) (by omega) (by omega) rfl (fun b272451 b272452 => ?_))
  have k272454 : wKI H272440 m = wKI H m := (wKI_fr hW gm f272445 rfl)
  have k272455 : H272440 x 9 = H x 9 := (f272445 x 9 _ gx rfl)
  have k272456 : H272440 m 6 = H m 6 := (f272445 m 6 _ gm rfl)
  refine wl_of hX hb cL_912 (xc_V (pc' := 915) (r := m) (as := [vI (H272440 0 ((i + 1).toNat)), vI (H272440 0 ((i + 2).toNat))]) (st := []) (lm_11_117) rfl rfl (Nat.le_of_ble_eq_true rfl) w272444 gm sh_42 (by decide) rfl (by decide) (s_255 w272444 gm ⟨by omega, by omega⟩ ⟨by omega, by omega⟩ (by omega)) (fun R272457 T272458 H272459 p272460 => ?_))
  obtain ⟨e272461, w272463, f272464, z272466, e272462, b272467, p272465⟩ := p272460
  subst e272461
  subst e272462
  show WL _ _ _ _ 915 [(4, vI i), (3, .ref o), (2, .ref m), (1, .ref x), (0, .ref 0)] [vI z272466] _ H272459
  refine wl_of hX hb cL_915 (rw_pop (pc' := 916) rfl rfl ?_)
  refine wl_of hX hb cL_916 (rw_goto (p1 := 1653) (by decide) ?_)
  have k272468 : H272459 x 9 = H272440 x 9 := (f272464 x 9 _ gx rfl)
  have k272469 : H272459 m 6 = H272440 m 6 := (f272464 m 6 _ gm rfl)
  have h272470 : XI T H272459 x m := (XI_fr w272444 gx f272464 rfl (XI_fr hW gx f272445 rfl hXI))
  exact WL.loc hX (by simp) (next T H272459 ⟨⟨w272463, g0, gx, gm, go, by omega, by omega⟩, h272470⟩ (by omega) (by omega))
set_option maxHeartbeats 4000000 in
theorem wl_c23 {kt : Nat → Option mc_E} {CB SB : Nat} {X : mc_S → Prop} {T : wq_T} {H : wq_H} {Len x m o : Nat} {i : Int} (hX : wlX kt CB SB X) (hb : T.2.1 ≤ CB ∧ T.2.2.1 ≤ SB) (hI : wlJ Len x m o T H) (hL : Len ≤ 3072) (hi : 0 ≤ i ∧ i + 6 ≤ Len) (hb2 : T.2.1 + 20 ≤ CB ∧ T.2.2.1 + 500 ≤ SB)  (next : ∀ T' H', wlJ Len x m o T' H' → T'.2.1 ≤ T.2.1 + 20 → T'.2.2.1 ≤ T.2.2.1 + 500 → WL kt CB SB X 1653 (wlL i x m o) [] T' H') : WL kt CB SB X 919 (wlL i x m o) [] T H := by
  obtain ⟨⟨hW, g0, gx, gm, go, hK, hr⟩, hXI⟩ := hI
  refine wl_of hX hb cL_919 (rw_aload_n (pc' := 920) (v := .ref x) rfl rfl rfl ?_)
  refine wl_of hX hb cL_920 (rw_aload_n (pc' := 921) (v := .ref 0) rfl rfl rfl ?_)
  refine wl_of hX hb cL_921 (rw_iload (pc' := 923) (z := i) rfl rfl ?_)
  refine wl_of hX hb cL_923 (rw_iconst (pc' := 924) rfl ?_)
  refine wl_of hX hb cL_924 (rw_iadd (pc' := 925) rfl ?_)
  refine wl_of hX hb cL_925 (xa_I (so := 0) (pc' := 926) (a := 0) hW g0 (wsh_s _) (by omega) (wty_s _ _) (by omega) (by omega) rfl (fun b272471 b272472 => ?_))
  refine wl_of hX hb cL_926 (xc_V (pc' := 929) (r := x) (as := [vI (H 0 ((i + 1).toNat))]) (st := []) (lm_11_118) rfl rfl (Nat.le_of_ble_eq_true rfl) hW gx sh_1 (by decide) rfl (by decide) (s_107 hW gx ⟨by omega, by omega⟩) (fun R272473 T272474 H272475 p272476 => ?_))
  obtain ⟨e272477, w272479, f272480, z272481, e272478, b272482⟩ := p272476
  subst e272477
  subst e272478
  show WL _ _ _ _ 929 [(4, vI i), (3, .ref o), (2, .ref m), (1, .ref x), (0, .ref 0)] [vI z272481] _ H272475
  refine wl_of hX hb cL_929 (rw_pop (pc' := 930) rfl rfl ?_)
  refine wl_of hX hb cL_930 (rw_aload_n (pc' := 931) (v := .ref m) rfl rfl rfl ?_)
  refine wl_of hX hb cL_931 (rw_aload_n (pc' := 932) (v := .ref 0) rfl rfl rfl ?_)
  refine wl_of hX hb cL_932 (rw_iload (pc' := 934) (z := i) rfl rfl ?_)
  refine wl_of hX hb cL_934 (rw_iconst (pc' := 935) rfl ?_)
  refine wl_of hX hb cL_935 (rw_iadd (pc' := 936) rfl ?_)
  have k272485 : H272475 0 ((i + 1).toNat) = H 0 ((i + 1).toNat) := (f272480 0 ((i + 1).toNat) _ g0 (wmem_s rfl))
  refine wl_of hX hb cL_936 (xa_I (so := 0) (pc' := 937) (a := 0) w272479 g0 (wsh_s _) (by omega) (wty_s _ _) (by omega) (by omega) rfl (fun b272483 b272484 => ?_))
  have k272486 : wKI H272475 m = wKI H m := (wKI_fr hW gm f272480 rfl)
  have k272487 : H272475 x 9 = H x 9 := (f272480 x 9 _ gx rfl)
  have k272488 : H272475 m 6 = H m 6 := (f272480 m 6 _ gm rfl)
  refine wl_of hX hb cL_937 (xc_V (pc' := 940) (r := m) (as := [vI (H272475 0 ((i + 1).toNat))]) (st := []) (lm_11_121) rfl rfl (Nat.le_of_ble_eq_true rfl) w272479 gm sh_42 (by decide) rfl (by decide) (s_256 w272479 gm ⟨by omega, by omega⟩ (by omega)) (fun R272489 T272490 H272491 p272492 => ?_))
  obtain ⟨e272493, w272495, f272496, z272498, e272494, b272499, p272497⟩ := p272492
  subst e272493
  subst e272494
  show WL _ _ _ _ 940 [(4, vI i), (3, .ref o), (2, .ref m), (1, .ref x), (0, .ref 0)] [vI z272498] _ H272491
  refine wl_of hX hb cL_940 (rw_pop (pc' := 941) rfl rfl ?_)
  refine wl_of hX hb cL_941 (rw_goto (p1 := 1653) (by decide) ?_)
  have k272500 : H272491 x 9 = H272475 x 9 := (f272496 x 9 _ gx rfl)
  have k272501 : H272491 m 6 = H272475 m 6 := (f272496 m 6 _ gm rfl)
  have h272502 : XI T H272491 x m := (XI_fr w272479 gx f272496 rfl (XI_fr hW gx f272480 rfl hXI))
  exact WL.loc hX (by simp) (next T H272491 ⟨⟨w272495, g0, gx, gm, go, by omega, by omega⟩, h272502⟩ (by omega) (by omega))
set_option maxHeartbeats 4000000 in
theorem wl_c24 {kt : Nat → Option mc_E} {CB SB : Nat} {X : mc_S → Prop} {T : wq_T} {H : wq_H} {Len x m o : Nat} {i : Int} (hX : wlX kt CB SB X) (hb : T.2.1 ≤ CB ∧ T.2.2.1 ≤ SB) (hI : wlJ Len x m o T H) (hL : Len ≤ 3072) (hi : 0 ≤ i ∧ i + 6 ≤ Len) (hb2 : T.2.1 + 20 ≤ CB ∧ T.2.2.1 + 500 ≤ SB)  (next : ∀ T' H', wlJ Len x m o T' H' → T'.2.1 ≤ T.2.1 + 20 → T'.2.2.1 ≤ T.2.2.1 + 500 → WL kt CB SB X 1653 (wlL i x m o) [] T' H') : WL kt CB SB X 944 (wlL i x m o) [] T H := by
  obtain ⟨⟨hW, g0, gx, gm, go, hK, hr⟩, hXI⟩ := hI
  refine wl_of hX hb cL_944 (rw_aload_n (pc' := 945) (v := .ref x) rfl rfl rfl ?_)
  refine wl_of hX hb cL_945 (xc_V (pc' := 948) (r := x) (as := []) (st := []) (lm_11_122) rfl rfl (Nat.le_of_ble_eq_true rfl) hW gx sh_1 (by decide) rfl (by decide) (s_108 hW gx) (fun R272503 T272504 H272505 p272506 => ?_))
  obtain ⟨e272507, w272509, f272510, z272511, e272508, b272512⟩ := p272506
  subst e272507
  subst e272508
  show WL _ _ _ _ 948 [(4, vI i), (3, .ref o), (2, .ref m), (1, .ref x), (0, .ref 0)] [vL z272511] _ H272505
  refine wl_of hX hb cL_948 (rw_pop2 (pc' := 949) rfl rfl ?_)
  refine wl_of hX hb cL_949 (rw_aload_n (pc' := 950) (v := .ref m) rfl rfl rfl ?_)
  have k272513 : wKI H272505 m = wKI H m := (wKI_fr hW gm f272510 rfl)
  have k272514 : H272505 x 9 = H x 9 := (f272510 x 9 _ gx rfl)
  have k272515 : H272505 m 6 = H m 6 := (f272510 m 6 _ gm rfl)
  refine wl_of hX hb cL_950 (xc_V (pc' := 953) (r := m) (as := []) (st := []) (lm_11_125) rfl rfl (Nat.le_of_ble_eq_true rfl) w272509 gm sh_42 (by decide) rfl (by decide) (s_258 w272509 gm (by omega)) (fun R272516 T272517 H272518 p272519 => ?_))
  obtain ⟨e272520, w272522, f272523, z272525, e272521, b272526, p272524⟩ := p272519
  subst e272520
  subst e272521
  show WL _ _ _ _ 953 [(4, vI i), (3, .ref o), (2, .ref m), (1, .ref x), (0, .ref 0)] [vL z272525] _ H272518
  refine wl_of hX hb cL_953 (rw_pop2 (pc' := 954) rfl rfl ?_)
  refine wl_of hX hb cL_954 (rw_goto (p1 := 1653) (by decide) ?_)
  have k272527 : H272518 x 9 = H272505 x 9 := (f272523 x 9 _ gx rfl)
  have k272528 : H272518 m 6 = H272505 m 6 := (f272523 m 6 _ gm rfl)
  have h272529 : XI T H272518 x m := (XI_fr w272509 gx f272523 rfl (XI_fr hW gx f272510 rfl hXI))
  exact WL.loc hX (by simp) (next T H272518 ⟨⟨w272522, g0, gx, gm, go, by omega, by omega⟩, h272529⟩ (by omega) (by omega))
set_option maxHeartbeats 4000000 in
theorem wl_c25 {kt : Nat → Option mc_E} {CB SB : Nat} {X : mc_S → Prop} {T : wq_T} {H : wq_H} {Len x m o : Nat} {i : Int} (hX : wlX kt CB SB X) (hb : T.2.1 ≤ CB ∧ T.2.2.1 ≤ SB) (hI : wlJ Len x m o T H) (hL : Len ≤ 3072) (hi : 0 ≤ i ∧ i + 6 ≤ Len) (hb2 : T.2.1 + 20 ≤ CB ∧ T.2.2.1 + 500 ≤ SB)  (next : ∀ T' H', wlJ Len x m o T' H' → T'.2.1 ≤ T.2.1 + 20 → T'.2.2.1 ≤ T.2.2.1 + 500 → WL kt CB SB X 1653 (wlL i x m o) [] T' H') : WL kt CB SB X 957 (wlL i x m o) [] T H := by
  obtain ⟨⟨hW, g0, gx, gm, go, hK, hr⟩, hXI⟩ := hI
  refine wl_of hX hb cL_957 (rw_aload_n (pc' := 958) (v := .ref x) rfl rfl rfl ?_)
  refine wl_of hX hb cL_958 (rw_aload_n (pc' := 959) (v := .ref 0) rfl rfl rfl ?_)
  refine wl_of hX hb cL_959 (rw_iload (pc' := 961) (z := i) rfl rfl ?_)
  refine wl_of hX hb cL_961 (rw_iconst (pc' := 962) rfl ?_)
  refine wl_of hX hb cL_962 (rw_iadd (pc' := 963) rfl ?_)
  refine wl_of hX hb cL_963 (xa_I (so := 0) (pc' := 964) (a := 0) hW g0 (wsh_s _) (by omega) (wty_s _ _) (by omega) (by omega) rfl (fun b272530 b272531 => ?_))
  refine wl_of hX hb cL_964 (rw_aload_n (pc' := 965) (v := .ref 0) rfl rfl rfl ?_)
  refine wl_of hX hb cL_965 (rw_iload (pc' := 967) (z := i) rfl rfl ?_)
  refine wl_of hX hb cL_967 (rw_iconst (pc' := 968) rfl ?_)
  refine wl_of hX hb cL_968 (rw_iadd (pc' := 969) rfl ?_)
  refine wl_of hX hb cL_969 (xa_I (so := 0) (pc' := 970) (a := 0) hW g0 (wsh_s _) (by omega) (wty_s _ _) (by omega) (by omega) rfl (fun b272532 b272533 => ?_))
  refine wl_of hX hb cL_970 (xc_V (pc' := 973) (r := x) (as := [vI (H 0 ((i + 1).toNat)), vI (H 0 ((i + 2).toNat))]) (st := []) (lm_11_126) rfl rfl (Nat.le_of_ble_eq_true rfl) hW gx sh_1 (by decide) rfl (by decide) (s_109 hW gx ⟨by omega, by omega⟩ ⟨by omega, by omega⟩) (fun R272534 T272535 H272536 p272537 => ?_))
  obtain ⟨e272538, w272540, f272541, z272542, e272539, b272543⟩ := p272537
  subst e272538
  subst e272539
  show WL _ _ _ _ 973 [(4, vI i), (3, .ref o), (2, .ref m), (1, .ref x), (0, .ref 0)] [vI z272542] _ H272536
  refine wl_of hX hb cL_973 (rw_pop (pc' := 974) rfl rfl ?_)
  refine wl_of hX hb cL_974 (rw_aload_n (pc' := 975) (v := .ref m) rfl rfl rfl ?_)
  refine wl_of hX hb cL_975 (rw_aload_n (pc' := 976) (v := .ref 0) rfl rfl rfl ?_)
  refine wl_of hX hb cL_976 (rw_iload (pc' := 978) (z := i) rfl rfl ?_)
  refine wl_of hX hb cL_978 (rw_iconst (pc' := 979) rfl ?_)
  refine wl_of hX hb cL_979 (rw_iadd (pc' := 980) rfl ?_)
  have k272546 : H272536 0 ((i + 1).toNat) = H 0 ((i + 1).toNat) := (f272541 0 ((i + 1).toNat) _ g0 (wmem_s rfl))
  refine wl_of hX hb cL_980 (xa_I (so := 0) (pc' := 981) (a := 0) w272540 g0 (wsh_s _) (by omega) (wty_s _ _) (by omega) (by omega) rfl (fun b272544 b272545 => ?_))
  refine wl_of hX hb cL_981 (rw_aload_n (pc' := 982) (v := .ref 0) rfl rfl rfl ?_)
  refine wl_of hX hb cL_982 (rw_iload (pc' := 984) (z := i) rfl rfl ?_)
  refine wl_of hX hb cL_984 (rw_iconst (pc' := 985) rfl ?_)
  refine wl_of hX hb cL_985 (rw_iadd (pc' := 986) rfl ?_)
  have k272549 : H272536 0 ((i + 2).toNat) = H 0 ((i + 2).toNat) := (f272541 0 ((i + 2).toNat) _ g0 (wmem_s rfl))
  refine wl_of hX hb cL_986 (xa_I (so := 0) (pc' := 987) (a := 0) w272540 g0 (wsh_s _) (by omega) (wty_s _ _) (by omega) (by omega) rfl (fun b272547 b272548 => ?_))
  have k272550 : wKI H272536 m = wKI H m := (wKI_fr hW gm f272541 rfl)
  have k272551 : H272536 x 9 = H x 9 := (f272541 x 9 _ gx rfl)
  have k272552 : H272536 m 6 = H m 6 := (f272541 m 6 _ gm rfl)
  refine wl_of hX hb cL_987 (xc_V (pc' := 990) (r := m) (as := [vI (H272536 0 ((i + 1).toNat)), vI (H272536 0 ((i + 2).toNat))]) (st := []) (lm_11_129) rfl rfl (Nat.le_of_ble_eq_true rfl) w272540 gm sh_42 (by decide) rfl (by decide) (s_259 w272540 gm ⟨by omega, by omega⟩ ⟨by omega, by omega⟩ (by omega)) (fun R272553 T272554 H272555 p272556 => ?_))
  obtain ⟨e272557, w272559, f272560, z272562, e272558, b272563, p272561⟩ := p272556
  subst e272557
  subst e272558
  show WL _ _ _ _ 990 [(4, vI i), (3, .ref o), (2, .ref m), (1, .ref x), (0, .ref 0)] [vI z272562] _ H272555
  refine wl_of hX hb cL_990 (rw_pop (pc' := 991) rfl rfl ?_)
  refine wl_of hX hb cL_991 (rw_goto (p1 := 1653) (by decide) ?_)
  have k272564 : H272555 x 9 = H272536 x 9 := (f272560 x 9 _ gx rfl)
  have k272565 : H272555 m 6 = H272536 m 6 := (f272560 m 6 _ gm rfl)
  have h272566 : XI T H272555 x m := (XI_fr w272540 gx f272560 rfl (XI_fr hW gx f272541 rfl hXI))
  exact WL.loc hX (by simp) (next T H272555 ⟨⟨w272559, g0, gx, gm, go, by omega, by omega⟩, h272566⟩ (by omega) (by omega))
set_option maxHeartbeats 4000000 in
theorem wl_c26 {kt : Nat → Option mc_E} {CB SB : Nat} {X : mc_S → Prop} {T : wq_T} {H : wq_H} {Len x m o : Nat} {i : Int} (hX : wlX kt CB SB X) (hb : T.2.1 ≤ CB ∧ T.2.2.1 ≤ SB) (hI : wlJ Len x m o T H) (hL : Len ≤ 3072) (hi : 0 ≤ i ∧ i + 6 ≤ Len) (hb2 : T.2.1 + 20 ≤ CB ∧ T.2.2.1 + 500 ≤ SB)  (next : ∀ T' H', wlJ Len x m o T' H' → T'.2.1 ≤ T.2.1 + 20 → T'.2.2.1 ≤ T.2.2.1 + 500 → WL kt CB SB X 1653 (wlL i x m o) [] T' H') : WL kt CB SB X 994 (wlL i x m o) [] T H := by
  obtain ⟨⟨hW, g0, gx, gm, go, hK, hr⟩, hXI⟩ := hI
  refine wl_of hX hb cL_994 (rw_aload_n (pc' := 995) (v := .ref x) rfl rfl rfl ?_)
  refine wl_of hX hb cL_995 (rw_aload_n (pc' := 996) (v := .ref 0) rfl rfl rfl ?_)
  refine wl_of hX hb cL_996 (rw_iload (pc' := 998) (z := i) rfl rfl ?_)
  refine wl_of hX hb cL_998 (rw_iconst (pc' := 999) rfl ?_)
  refine wl_of hX hb cL_999 (rw_iadd (pc' := 1000) rfl ?_)
  refine wl_of hX hb cL_1000 (xa_I (so := 0) (pc' := 1001) (a := 0) hW g0 (wsh_s _) (by omega) (wty_s _ _) (by omega) (by omega) rfl (fun b272567 b272568 => ?_))
  refine wl_of hX hb cL_1001 (xc_V (pc' := 1004) (r := x) (as := [vI (H 0 ((i + 1).toNat))]) (st := []) (lm_11_130) rfl rfl (Nat.le_of_ble_eq_true rfl) hW gx sh_1 (by decide) rfl (by decide) (s_112 hW gx ⟨by omega, by omega⟩) (fun R272569 T272570 H272571 p272572 => ?_))
  obtain ⟨e272573, w272575, f272576, z272577, e272574, b272578⟩ := p272572
  subst e272573
  subst e272574
  show WL _ _ _ _ 1004 [(4, vI i), (3, .ref o), (2, .ref m), (1, .ref x), (0, .ref 0)] [vL z272577] _ H272571
  refine wl_of hX hb cL_1004 (rw_pop2 (pc' := 1005) rfl rfl ?_)
  refine wl_of hX hb cL_1005 (rw_aload_n (pc' := 1006) (v := .ref m) rfl rfl rfl ?_)
  refine wl_of hX hb cL_1006 (rw_aload_n (pc' := 1007) (v := .ref 0) rfl rfl rfl ?_)
  refine wl_of hX hb cL_1007 (rw_iload (pc' := 1009) (z := i) rfl rfl ?_)
  refine wl_of hX hb cL_1009 (rw_iconst (pc' := 1010) rfl ?_)
  refine wl_of hX hb cL_1010 (rw_iadd (pc' := 1011) rfl ?_)
  have k272581 : H272571 0 ((i + 1).toNat) = H 0 ((i + 1).toNat) := (f272576 0 ((i + 1).toNat) _ g0 (wmem_s rfl))
  refine wl_of hX hb cL_1011 (xa_I (so := 0) (pc' := 1012) (a := 0) w272575 g0 (wsh_s _) (by omega) (wty_s _ _) (by omega) (by omega) rfl (fun b272579 b272580 => ?_))
  have k272582 : wKI H272571 m = wKI H m := (wKI_fr hW gm f272576 rfl)
  have k272583 : H272571 x 9 = H x 9 := (f272576 x 9 _ gx rfl)
  have k272584 : H272571 m 6 = H m 6 := (f272576 m 6 _ gm rfl)
  refine wl_of hX hb cL_1012 (xc_V (pc' := 1015) (r := m) (as := [vI (H272571 0 ((i + 1).toNat))]) (st := []) (lm_11_134) rfl rfl (Nat.le_of_ble_eq_true rfl) w272575 gm sh_42 (by decide) rfl (by decide) (s_260 w272575 gm ⟨by omega, by omega⟩ (by omega)) (fun R272585 T272586 H272587 p272588 => ?_))
  obtain ⟨e272589, w272591, f272592, z272594, e272590, b272595, p272593⟩ := p272588
  subst e272589
  subst e272590
  show WL _ _ _ _ 1015 [(4, vI i), (3, .ref o), (2, .ref m), (1, .ref x), (0, .ref 0)] [vL z272594] _ H272587
  refine wl_of hX hb cL_1015 (rw_pop2 (pc' := 1016) rfl rfl ?_)
  refine wl_of hX hb cL_1016 (rw_goto (p1 := 1653) (by decide) ?_)
  have k272596 : H272587 x 9 = H272571 x 9 := (f272592 x 9 _ gx rfl)
  have k272597 : H272587 m 6 = H272571 m 6 := (f272592 m 6 _ gm rfl)
  have h272598 : XI T H272587 x m := (XI_fr w272575 gx f272592 rfl (XI_fr hW gx f272576 rfl hXI))
  exact WL.loc hX (by simp) (next T H272587 ⟨⟨w272591, g0, gx, gm, go, by omega, by omega⟩, h272598⟩ (by omega) (by omega))
set_option maxHeartbeats 4000000 in
theorem wl_c27 {kt : Nat → Option mc_E} {CB SB : Nat} {X : mc_S → Prop} {T : wq_T} {H : wq_H} {Len x m o : Nat} {i : Int} (hX : wlX kt CB SB X) (hb : T.2.1 ≤ CB ∧ T.2.2.1 ≤ SB) (hI : wlJ Len x m o T H) (hL : Len ≤ 3072) (hi : 0 ≤ i ∧ i + 6 ≤ Len) (hb2 : T.2.1 + 20 ≤ CB ∧ T.2.2.1 + 500 ≤ SB)  (next : ∀ T' H', wlJ Len x m o T' H' → T'.2.1 ≤ T.2.1 + 20 → T'.2.2.1 ≤ T.2.2.1 + 500 → WL kt CB SB X 1653 (wlL i x m o) [] T' H') : WL kt CB SB X 1019 (wlL i x m o) [] T H := by
  obtain ⟨⟨hW, g0, gx, gm, go, hK, hr⟩, hXI⟩ := hI
  refine wl_of hX hb cL_1019 (rw_aload_n (pc' := 1020) (v := .ref x) rfl rfl rfl ?_)
  refine wl_of hX hb cL_1020 (rw_aload_n (pc' := 1021) (v := .ref 0) rfl rfl rfl ?_)
  refine wl_of hX hb cL_1021 (rw_iload (pc' := 1023) (z := i) rfl rfl ?_)
  refine wl_of hX hb cL_1023 (rw_iconst (pc' := 1024) rfl ?_)
  refine wl_of hX hb cL_1024 (rw_iadd (pc' := 1025) rfl ?_)
  refine wl_of hX hb cL_1025 (xa_I (so := 0) (pc' := 1026) (a := 0) hW g0 (wsh_s _) (by omega) (wty_s _ _) (by omega) (by omega) rfl (fun b272599 b272600 => ?_))
  refine wl_of hX hb cL_1026 (rw_aload_n (pc' := 1027) (v := .ref 0) rfl rfl rfl ?_)
  refine wl_of hX hb cL_1027 (rw_iload (pc' := 1029) (z := i) rfl rfl ?_)
  refine wl_of hX hb cL_1029 (rw_iconst (pc' := 1030) rfl ?_)
  refine wl_of hX hb cL_1030 (rw_iadd (pc' := 1031) rfl ?_)
  refine wl_of hX hb cL_1031 (xa_I (so := 0) (pc' := 1032) (a := 0) hW g0 (wsh_s _) (by omega) (wty_s _ _) (by omega) (by omega) rfl (fun b272601 b272602 => ?_))
  refine wl_of hX hb cL_1032 (xc_V (pc' := 1035) (r := x) (as := [vI (H 0 ((i + 1).toNat)), vI (H 0 ((i + 2).toNat))]) (st := []) (lm_11_135) rfl rfl (Nat.le_of_ble_eq_true rfl) hW gx sh_1 (by decide) rfl (by decide) (s_114 hW gx ⟨by omega, by omega⟩ ⟨by omega, by omega⟩) (fun R272603 T272604 H272605 p272606 => ?_))
  obtain ⟨e272607, w272609, f272610, z272611, e272608, b272612⟩ := p272606
  subst e272607
  subst e272608
  show WL _ _ _ _ 1035 [(4, vI i), (3, .ref o), (2, .ref m), (1, .ref x), (0, .ref 0)] [vI z272611] _ H272605
  refine wl_of hX hb cL_1035 (rw_pop (pc' := 1036) rfl rfl ?_)
  refine wl_of hX hb cL_1036 (rw_aload_n (pc' := 1037) (v := .ref m) rfl rfl rfl ?_)
  refine wl_of hX hb cL_1037 (rw_aload_n (pc' := 1038) (v := .ref 0) rfl rfl rfl ?_)
  refine wl_of hX hb cL_1038 (rw_iload (pc' := 1040) (z := i) rfl rfl ?_)
  refine wl_of hX hb cL_1040 (rw_iconst (pc' := 1041) rfl ?_)
  refine wl_of hX hb cL_1041 (rw_iadd (pc' := 1042) rfl ?_)
  have k272615 : H272605 0 ((i + 1).toNat) = H 0 ((i + 1).toNat) := (f272610 0 ((i + 1).toNat) _ g0 (wmem_s rfl))
  refine wl_of hX hb cL_1042 (xa_I (so := 0) (pc' := 1043) (a := 0) w272609 g0 (wsh_s _) (by omega) (wty_s _ _) (by omega) (by omega) rfl (fun b272613 b272614 => ?_))
  refine wl_of hX hb cL_1043 (rw_aload_n (pc' := 1044) (v := .ref 0) rfl rfl rfl ?_)
  refine wl_of hX hb cL_1044 (rw_iload (pc' := 1046) (z := i) rfl rfl ?_)
  refine wl_of hX hb cL_1046 (rw_iconst (pc' := 1047) rfl ?_)
  refine wl_of hX hb cL_1047 (rw_iadd (pc' := 1048) rfl ?_)
  have k272618 : H272605 0 ((i + 2).toNat) = H 0 ((i + 2).toNat) := (f272610 0 ((i + 2).toNat) _ g0 (wmem_s rfl))
  refine wl_of hX hb cL_1048 (xa_I (so := 0) (pc' := 1049) (a := 0) w272609 g0 (wsh_s _) (by omega) (wty_s _ _) (by omega) (by omega) rfl (fun b272616 b272617 => ?_))
  have k272619 : wKI H272605 m = wKI H m := (wKI_fr hW gm f272610 rfl)
  have k272620 : H272605 x 9 = H x 9 := (f272610 x 9 _ gx rfl)
  have k272621 : H272605 m 6 = H m 6 := (f272610 m 6 _ gm rfl)
  refine wl_of hX hb cL_1049 (xc_V (pc' := 1052) (r := m) (as := [vI (H272605 0 ((i + 1).toNat)), vI (H272605 0 ((i + 2).toNat))]) (st := []) (lm_11_138) rfl rfl (Nat.le_of_ble_eq_true rfl) w272609 gm sh_42 (by decide) rfl (by decide) (s_261 w272609 gm ⟨by omega, by omega⟩ ⟨by omega, by omega⟩ (by omega)) (fun R272622 T272623 H272624 p272625 => ?_))
  obtain ⟨e272626, w272628, f272629, z272631, e272627, b272632, p272630⟩ := p272625
  subst e272626
  subst e272627
  show WL _ _ _ _ 1052 [(4, vI i), (3, .ref o), (2, .ref m), (1, .ref x), (0, .ref 0)] [vI z272631] _ H272624
  refine wl_of hX hb cL_1052 (rw_pop (pc' := 1053) rfl rfl ?_)
  refine wl_of hX hb cL_1053 (rw_goto (p1 := 1653) (by decide) ?_)
  have k272633 : H272624 x 9 = H272605 x 9 := (f272629 x 9 _ gx rfl)
  have k272634 : H272624 m 6 = H272605 m 6 := (f272629 m 6 _ gm rfl)
  have h272635 : XI T H272624 x m := (XI_fr w272609 gx f272629 rfl (XI_fr hW gx f272610 rfl hXI))
  exact WL.loc hX (by simp) (next T H272624 ⟨⟨w272628, g0, gx, gm, go, by omega, by omega⟩, h272635⟩ (by omega) (by omega))
set_option maxHeartbeats 4000000 in
theorem wl_c28 {kt : Nat → Option mc_E} {CB SB : Nat} {X : mc_S → Prop} {T : wq_T} {H : wq_H} {Len x m o : Nat} {i : Int} (hX : wlX kt CB SB X) (hb : T.2.1 ≤ CB ∧ T.2.2.1 ≤ SB) (hI : wlJ Len x m o T H) (hL : Len ≤ 3072) (hi : 0 ≤ i ∧ i + 6 ≤ Len) (hb2 : T.2.1 + 20 ≤ CB ∧ T.2.2.1 + 500 ≤ SB)  (next : ∀ T' H', wlJ Len x m o T' H' → T'.2.1 ≤ T.2.1 + 20 → T'.2.2.1 ≤ T.2.2.1 + 500 → WL kt CB SB X 1653 (wlL i x m o) [] T' H') : WL kt CB SB X 1056 (wlL i x m o) [] T H := by
  obtain ⟨⟨hW, g0, gx, gm, go, hK, hr⟩, hXI⟩ := hI
  refine wl_of hX hb cL_1056 (rw_aload_n (pc' := 1057) (v := .ref x) rfl rfl rfl ?_)
  refine wl_of hX hb cL_1057 (rw_aload_n (pc' := 1058) (v := .ref 0) rfl rfl rfl ?_)
  refine wl_of hX hb cL_1058 (rw_iload (pc' := 1060) (z := i) rfl rfl ?_)
  refine wl_of hX hb cL_1060 (rw_iconst (pc' := 1061) rfl ?_)
  refine wl_of hX hb cL_1061 (rw_iadd (pc' := 1062) rfl ?_)
  refine wl_of hX hb cL_1062 (xa_I (so := 0) (pc' := 1063) (a := 0) hW g0 (wsh_s _) (by omega) (wty_s _ _) (by omega) (by omega) rfl (fun b272636 b272637 => ?_))
  refine wl_of hX hb cL_1063 (rw_aload_n (pc' := 1064) (v := .ref 0) rfl rfl rfl ?_)
  refine wl_of hX hb cL_1064 (rw_iload (pc' := 1066) (z := i) rfl rfl ?_)
  refine wl_of hX hb cL_1066 (rw_iconst (pc' := 1067) rfl ?_)
  refine wl_of hX hb cL_1067 (rw_iadd (pc' := 1068) rfl ?_)
  refine wl_of hX hb cL_1068 (xa_I (so := 0) (pc' := 1069) (a := 0) hW g0 (wsh_s _) (by omega) (wty_s _ _) (by omega) (by omega) rfl (fun b272638 b272639 => ?_))
  refine wl_of hX hb cL_1069 (rw_if_eq (p1 := 1076) (p2 := 1072) (by decide) rfl ⟨by omega, by omega⟩ (fun c272640 => ?_) (fun c272640 => ?_))
  · refine wl_of hX hb cL_1076 (rw_iconst (pc' := 1077) rfl ?_)
    refine wl_of hX hb cL_1077 (xc_V (pc' := 1080) (r := x) (as := [vI (H 0 ((i + 1).toNat)), vI 0]) (st := []) (lm_11_139) rfl rfl (Nat.le_of_ble_eq_true rfl) hW gx sh_1 (by decide) rfl (by decide) (s_117 hW gx ⟨by omega, by omega⟩ ⟨by omega, by omega⟩) (fun R272641 T272642 H272643 p272644 => ?_))
    obtain ⟨e272645, w272647, f272648, z272649, e272646, b272650⟩ := p272644
    subst e272645
    subst e272646
    show WL _ _ _ _ 1080 [(4, vI i), (3, .ref o), (2, .ref m), (1, .ref x), (0, .ref 0)] [vI z272649] _ H272643
    refine wl_of hX hb cL_1080 (rw_pop (pc' := 1081) rfl rfl ?_)
    refine wl_of hX hb cL_1081 (rw_aload_n (pc' := 1082) (v := .ref m) rfl rfl rfl ?_)
    refine wl_of hX hb cL_1082 (rw_aload_n (pc' := 1083) (v := .ref 0) rfl rfl rfl ?_)
    refine wl_of hX hb cL_1083 (rw_iload (pc' := 1085) (z := i) rfl rfl ?_)
    refine wl_of hX hb cL_1085 (rw_iconst (pc' := 1086) rfl ?_)
    refine wl_of hX hb cL_1086 (rw_iadd (pc' := 1087) rfl ?_)
    have k272653 : H272643 0 ((i + 1).toNat) = H 0 ((i + 1).toNat) := (f272648 0 ((i + 1).toNat) _ g0 (wmem_s rfl))
    refine wl_of hX hb cL_1087 (xa_I (so := 0) (pc' := 1088) (a := 0) w272647 g0 (wsh_s _) (by omega) (wty_s _ _) (by omega) (by omega) rfl (fun b272651 b272652 => ?_))
    refine wl_of hX hb cL_1088 (rw_aload_n (pc' := 1089) (v := .ref 0) rfl rfl rfl ?_)
    refine wl_of hX hb cL_1089 (rw_iload (pc' := 1091) (z := i) rfl rfl ?_)
    refine wl_of hX hb cL_1091 (rw_iconst (pc' := 1092) rfl ?_)
    refine wl_of hX hb cL_1092 (rw_iadd (pc' := 1093) rfl ?_)
    have k272656 : H272643 0 ((i + 2).toNat) = H 0 ((i + 2).toNat) := (f272648 0 ((i + 2).toNat) _ g0 (wmem_s rfl))
    refine wl_of hX hb cL_1093 (xa_I (so := 0) (pc' := 1094) (a := 0) w272647 g0 (wsh_s _) (by omega) (wty_s _ _) (by omega) (by omega) rfl (fun b272654 b272655 => ?_))
    refine wl_of hX hb cL_1094 (rw_if_eq (p1 := 1101) (p2 := 1097) (by decide) rfl ⟨by omega, by omega⟩ (fun c272657 => ?_) (fun c272657 => ?_))
    · refine wl_of hX hb cL_1101 (rw_iconst (pc' := 1102) rfl ?_)
      have k272658 : wKI H272643 m = wKI H m := (wKI_fr hW gm f272648 rfl)
      have k272659 : H272643 x 9 = H x 9 := (f272648 x 9 _ gx rfl)
      have k272660 : H272643 m 6 = H m 6 := (f272648 m 6 _ gm rfl)
      refine wl_of hX hb cL_1102 (xc_V (pc' := 1105) (r := m) (as := [vI (H272643 0 ((i + 1).toNat)), vI 0]) (st := []) (lm_11_142) rfl rfl (Nat.le_of_ble_eq_true rfl) w272647 gm sh_42 (by decide) rfl (by decide) (s_263 w272647 gm ⟨by omega, by omega⟩ ⟨by omega, by omega⟩ (by omega)) (fun R272661 T272662 H272663 p272664 => ?_))
      obtain ⟨e272665, w272667, f272668, z272670, e272666, b272671, p272669⟩ := p272664
      subst e272665
      subst e272666
      show WL _ _ _ _ 1105 [(4, vI i), (3, .ref o), (2, .ref m), (1, .ref x), (0, .ref 0)] [vI z272670] _ H272663
      refine wl_of hX hb cL_1105 (rw_pop (pc' := 1106) rfl rfl ?_)
      refine wl_of hX hb cL_1106 (rw_goto (p1 := 1653) (by decide) ?_)
      have k272672 : H272663 x 9 = H272643 x 9 := (f272668 x 9 _ gx rfl)
      have k272673 : H272663 m 6 = H272643 m 6 := (f272668 m 6 _ gm rfl)
      have h272674 : XI T H272663 x m := (XI_fr w272647 gx f272668 rfl (XI_fr hW gx f272648 rfl hXI))
      exact WL.loc hX (by simp) (next T H272663 ⟨⟨w272667, g0, gx, gm, go, by omega, by omega⟩, h272674⟩ (by omega) (by omega))
    · exfalso
      omega
  · refine wl_of hX hb cL_1072 (rw_iconst (pc' := 1073) rfl ?_)
    refine wl_of hX hb cL_1073 (rw_goto (p1 := 1077) (by decide) ?_)
    refine wl_of hX hb cL_1077 (xc_V (pc' := 1080) (r := x) (as := [vI (H 0 ((i + 1).toNat)), vI 1]) (st := []) (lm_11_139) rfl rfl (Nat.le_of_ble_eq_true rfl) hW gx sh_1 (by decide) rfl (by decide) (s_117 hW gx ⟨by omega, by omega⟩ ⟨by omega, by omega⟩) (fun R272675 T272676 H272677 p272678 => ?_))
    obtain ⟨e272679, w272681, f272682, z272683, e272680, b272684⟩ := p272678
    subst e272679
    subst e272680
    show WL _ _ _ _ 1080 [(4, vI i), (3, .ref o), (2, .ref m), (1, .ref x), (0, .ref 0)] [vI z272683] _ H272677
    refine wl_of hX hb cL_1080 (rw_pop (pc' := 1081) rfl rfl ?_)
    refine wl_of hX hb cL_1081 (rw_aload_n (pc' := 1082) (v := .ref m) rfl rfl rfl ?_)
    refine wl_of hX hb cL_1082 (rw_aload_n (pc' := 1083) (v := .ref 0) rfl rfl rfl ?_)
    refine wl_of hX hb cL_1083 (rw_iload (pc' := 1085) (z := i) rfl rfl ?_)
    refine wl_of hX hb cL_1085 (rw_iconst (pc' := 1086) rfl ?_)
    refine wl_of hX hb cL_1086 (rw_iadd (pc' := 1087) rfl ?_)
    have k272687 : H272677 0 ((i + 1).toNat) = H 0 ((i + 1).toNat) := (f272682 0 ((i + 1).toNat) _ g0 (wmem_s rfl))
    refine wl_of hX hb cL_1087 (xa_I (so := 0) (pc' := 1088) (a := 0) w272681 g0 (wsh_s _) (by omega) (wty_s _ _) (by omega) (by omega) rfl (fun b272685 b272686 => ?_))
    refine wl_of hX hb cL_1088 (rw_aload_n (pc' := 1089) (v := .ref 0) rfl rfl rfl ?_)
    refine wl_of hX hb cL_1089 (rw_iload (pc' := 1091) (z := i) rfl rfl ?_)
    refine wl_of hX hb cL_1091 (rw_iconst (pc' := 1092) rfl ?_)
    refine wl_of hX hb cL_1092 (rw_iadd (pc' := 1093) rfl ?_)
    have k272690 : H272677 0 ((i + 2).toNat) = H 0 ((i + 2).toNat) := (f272682 0 ((i + 2).toNat) _ g0 (wmem_s rfl))
    refine wl_of hX hb cL_1093 (xa_I (so := 0) (pc' := 1094) (a := 0) w272681 g0 (wsh_s _) (by omega) (wty_s _ _) (by omega) (by omega) rfl (fun b272688 b272689 => ?_))
    refine wl_of hX hb cL_1094 (rw_if_eq (p1 := 1101) (p2 := 1097) (by decide) rfl ⟨by omega, by omega⟩ (fun c272691 => ?_) (fun c272691 => ?_))
    · refine wl_of hX hb cL_1101 (rw_iconst (pc' := 1102) rfl ?_)
      have k272692 : wKI H272677 m = wKI H m := (wKI_fr hW gm f272682 rfl)
      have k272693 : H272677 x 9 = H x 9 := (f272682 x 9 _ gx rfl)
      have k272694 : H272677 m 6 = H m 6 := (f272682 m 6 _ gm rfl)
      refine wl_of hX hb cL_1102 (xc_V (pc' := 1105) (r := m) (as := [vI (H272677 0 ((i + 1).toNat)), vI 0]) (st := []) (lm_11_142) rfl rfl (Nat.le_of_ble_eq_true rfl) w272681 gm sh_42 (by decide) rfl (by decide) (s_263 w272681 gm ⟨by omega, by omega⟩ ⟨by omega, by omega⟩ (by omega)) (fun R272695 T272696 H272697 p272698 => ?_))
      obtain ⟨e272699, w272701, f272702, z272704, e272700, b272705, p272703⟩ := p272698
      subst e272699
      subst e272700
      show WL _ _ _ _ 1105 [(4, vI i), (3, .ref o), (2, .ref m), (1, .ref x), (0, .ref 0)] [vI z272704] _ H272697
      refine wl_of hX hb cL_1105 (rw_pop (pc' := 1106) rfl rfl ?_)
      refine wl_of hX hb cL_1106 (rw_goto (p1 := 1653) (by decide) ?_)
      have k272706 : H272697 x 9 = H272677 x 9 := (f272702 x 9 _ gx rfl)
      have k272707 : H272697 m 6 = H272677 m 6 := (f272702 m 6 _ gm rfl)
      have h272708 : XI T H272697 x m := (XI_fr w272681 gx f272702 rfl (XI_fr hW gx f272682 rfl hXI))
      exact WL.loc hX (by simp) (next T H272697 ⟨⟨w272701, g0, gx, gm, go, by omega, by omega⟩, h272708⟩ (by omega) (by omega))
    · refine wl_of hX hb cL_1097 (rw_iconst (pc' := 1098) rfl ?_)
      refine wl_of hX hb cL_1098 (rw_goto (p1 := 1102) (by decide) ?_)
      have k272709 : wKI H272677 m = wKI H m := (wKI_fr hW gm f272682 rfl)
      have k272710 : H272677 x 9 = H x 9 := (f272682 x 9 _ gx rfl)
      have k272711 : H272677 m 6 = H m 6 := (f272682 m 6 _ gm rfl)
      refine wl_of hX hb cL_1102 (xc_V (pc' := 1105) (r := m) (as := [vI (H272677 0 ((i + 1).toNat)), vI 1]) (st := []) (lm_11_142) rfl rfl (Nat.le_of_ble_eq_true rfl) w272681 gm sh_42 (by decide) rfl (by decide) (s_263 w272681 gm ⟨by omega, by omega⟩ ⟨by omega, by omega⟩ (by omega)) (fun R272712 T272713 H272714 p272715 => ?_))
      obtain ⟨e272716, w272718, f272719, z272721, e272717, b272722, p272720⟩ := p272715
      subst e272716
      subst e272717
      show WL _ _ _ _ 1105 [(4, vI i), (3, .ref o), (2, .ref m), (1, .ref x), (0, .ref 0)] [vI z272721] _ H272714
      refine wl_of hX hb cL_1105 (rw_pop (pc' := 1106) rfl rfl ?_)
      refine wl_of hX hb cL_1106 (rw_goto (p1 := 1653) (by decide) ?_)
      have k272723 : H272714 x 9 = H272677 x 9 := (f272719 x 9 _ gx rfl)
      have k272724 : H272714 m 6 = H272677 m 6 := (f272719 m 6 _ gm rfl)
      have h272725 : XI T H272714 x m := (XI_fr w272681 gx f272719 rfl (XI_fr hW gx f272682 rfl hXI))
      exact WL.loc hX (by simp) (next T H272714 ⟨⟨w272718, g0, gx, gm, go, by omega, by omega⟩, h272725⟩ (by omega) (by omega))
set_option maxHeartbeats 4000000 in
theorem wl_c29 {kt : Nat → Option mc_E} {CB SB : Nat} {X : mc_S → Prop} {T : wq_T} {H : wq_H} {Len x m o : Nat} {i : Int} (hX : wlX kt CB SB X) (hb : T.2.1 ≤ CB ∧ T.2.2.1 ≤ SB) (hI : wlJ Len x m o T H) (hL : Len ≤ 3072) (hi : 0 ≤ i ∧ i + 6 ≤ Len) (hb2 : T.2.1 + 20 ≤ CB ∧ T.2.2.1 + 500 ≤ SB)  (next : ∀ T' H', wlJ Len x m o T' H' → T'.2.1 ≤ T.2.1 + 20 → T'.2.2.1 ≤ T.2.2.1 + 500 → WL kt CB SB X 1653 (wlL i x m o) [] T' H') : WL kt CB SB X 1109 (wlL i x m o) [] T H := by
  obtain ⟨⟨hW, g0, gx, gm, go, hK, hr⟩, hXI⟩ := hI
  refine wl_of hX hb cL_1109 (rw_aload_n (pc' := 1110) (v := .ref x) rfl rfl rfl ?_)
  refine wl_of hX hb cL_1110 (rw_aload_n (pc' := 1111) (v := .ref 0) rfl rfl rfl ?_)
  refine wl_of hX hb cL_1111 (rw_iload (pc' := 1113) (z := i) rfl rfl ?_)
  refine wl_of hX hb cL_1113 (rw_iconst (pc' := 1114) rfl ?_)
  refine wl_of hX hb cL_1114 (rw_iadd (pc' := 1115) rfl ?_)
  refine wl_of hX hb cL_1115 (xa_I (so := 0) (pc' := 1116) (a := 0) hW g0 (wsh_s _) (by omega) (wty_s _ _) (by omega) (by omega) rfl (fun b272726 b272727 => ?_))
  refine wl_of hX hb cL_1116 (rw_aload_n (pc' := 1117) (v := .ref 0) rfl rfl rfl ?_)
  refine wl_of hX hb cL_1117 (rw_iload (pc' := 1119) (z := i) rfl rfl ?_)
  refine wl_of hX hb cL_1119 (rw_iconst (pc' := 1120) rfl ?_)
  refine wl_of hX hb cL_1120 (rw_iadd (pc' := 1121) rfl ?_)
  refine wl_of hX hb cL_1121 (xa_I (so := 0) (pc' := 1122) (a := 0) hW g0 (wsh_s _) (by omega) (wty_s _ _) (by omega) (by omega) rfl (fun b272728 b272729 => ?_))
  refine wl_of hX hb cL_1122 (rw_if_eq (p1 := 1129) (p2 := 1125) (by decide) rfl ⟨by omega, by omega⟩ (fun c272730 => ?_) (fun c272730 => ?_))
  · refine wl_of hX hb cL_1129 (rw_iconst (pc' := 1130) rfl ?_)
    refine wl_of hX hb cL_1130 (xc_V (pc' := 1133) (r := x) (as := [vI (H 0 ((i + 1).toNat)), vI 0]) (st := []) (lm_11_143) rfl rfl (Nat.le_of_ble_eq_true rfl) hW gx sh_1 (by decide) rfl (by decide) (s_119 hW gx ⟨by omega, by omega⟩ ⟨by omega, by omega⟩) (fun R272731 T272732 H272733 p272734 => ?_))
    obtain ⟨e272735, w272737, f272738, z272739, e272736, b272740⟩ := p272734
    subst e272735
    subst e272736
    show WL _ _ _ _ 1133 [(4, vI i), (3, .ref o), (2, .ref m), (1, .ref x), (0, .ref 0)] [vI z272739] _ H272733
    refine wl_of hX hb cL_1133 (rw_pop (pc' := 1134) rfl rfl ?_)
    refine wl_of hX hb cL_1134 (rw_aload_n (pc' := 1135) (v := .ref m) rfl rfl rfl ?_)
    refine wl_of hX hb cL_1135 (rw_aload_n (pc' := 1136) (v := .ref 0) rfl rfl rfl ?_)
    refine wl_of hX hb cL_1136 (rw_iload (pc' := 1138) (z := i) rfl rfl ?_)
    refine wl_of hX hb cL_1138 (rw_iconst (pc' := 1139) rfl ?_)
    refine wl_of hX hb cL_1139 (rw_iadd (pc' := 1140) rfl ?_)
    have k272743 : H272733 0 ((i + 1).toNat) = H 0 ((i + 1).toNat) := (f272738 0 ((i + 1).toNat) _ g0 (wmem_s rfl))
    refine wl_of hX hb cL_1140 (xa_I (so := 0) (pc' := 1141) (a := 0) w272737 g0 (wsh_s _) (by omega) (wty_s _ _) (by omega) (by omega) rfl (fun b272741 b272742 => ?_))
    refine wl_of hX hb cL_1141 (rw_aload_n (pc' := 1142) (v := .ref 0) rfl rfl rfl ?_)
    refine wl_of hX hb cL_1142 (rw_iload (pc' := 1144) (z := i) rfl rfl ?_)
    refine wl_of hX hb cL_1144 (rw_iconst (pc' := 1145) rfl ?_)
    refine wl_of hX hb cL_1145 (rw_iadd (pc' := 1146) rfl ?_)
    have k272746 : H272733 0 ((i + 2).toNat) = H 0 ((i + 2).toNat) := (f272738 0 ((i + 2).toNat) _ g0 (wmem_s rfl))
    refine wl_of hX hb cL_1146 (xa_I (so := 0) (pc' := 1147) (a := 0) w272737 g0 (wsh_s _) (by omega) (wty_s _ _) (by omega) (by omega) rfl (fun b272744 b272745 => ?_))
    refine wl_of hX hb cL_1147 (rw_if_eq (p1 := 1154) (p2 := 1150) (by decide) rfl ⟨by omega, by omega⟩ (fun c272747 => ?_) (fun c272747 => ?_))
    · refine wl_of hX hb cL_1154 (rw_iconst (pc' := 1155) rfl ?_)
      have k272748 : wKI H272733 m = wKI H m := (wKI_fr hW gm f272738 rfl)
      have k272749 : H272733 x 9 = H x 9 := (f272738 x 9 _ gx rfl)
      have k272750 : H272733 m 6 = H m 6 := (f272738 m 6 _ gm rfl)
      refine wl_of hX hb cL_1155 (xc_V (pc' := 1158) (r := m) (as := [vI (H272733 0 ((i + 1).toNat)), vI 0]) (st := []) (lm_11_146) rfl rfl (Nat.le_of_ble_eq_true rfl) w272737 gm sh_42 (by decide) rfl (by decide) (s_265 w272737 gm ⟨by omega, by omega⟩ ⟨by omega, by omega⟩ (by omega)) (fun R272751 T272752 H272753 p272754 => ?_))
      obtain ⟨e272755, w272757, f272758, z272760, e272756, b272761, p272759⟩ := p272754
      subst e272755
      subst e272756
      show WL _ _ _ _ 1158 [(4, vI i), (3, .ref o), (2, .ref m), (1, .ref x), (0, .ref 0)] [vI z272760] _ H272753
      refine wl_of hX hb cL_1158 (rw_pop (pc' := 1159) rfl rfl ?_)
      refine wl_of hX hb cL_1159 (rw_goto (p1 := 1653) (by decide) ?_)
      have k272762 : H272753 x 9 = H272733 x 9 := (f272758 x 9 _ gx rfl)
      have k272763 : H272753 m 6 = H272733 m 6 := (f272758 m 6 _ gm rfl)
      have h272764 : XI T H272753 x m := (XI_fr w272737 gx f272758 rfl (XI_fr hW gx f272738 rfl hXI))
      exact WL.loc hX (by simp) (next T H272753 ⟨⟨w272757, g0, gx, gm, go, by omega, by omega⟩, h272764⟩ (by omega) (by omega))
    · exfalso
      omega
  · refine wl_of hX hb cL_1125 (rw_iconst (pc' := 1126) rfl ?_)
    refine wl_of hX hb cL_1126 (rw_goto (p1 := 1130) (by decide) ?_)
    refine wl_of hX hb cL_1130 (xc_V (pc' := 1133) (r := x) (as := [vI (H 0 ((i + 1).toNat)), vI 1]) (st := []) (lm_11_143) rfl rfl (Nat.le_of_ble_eq_true rfl) hW gx sh_1 (by decide) rfl (by decide) (s_119 hW gx ⟨by omega, by omega⟩ ⟨by omega, by omega⟩) (fun R272765 T272766 H272767 p272768 => ?_))
    obtain ⟨e272769, w272771, f272772, z272773, e272770, b272774⟩ := p272768
    subst e272769
    subst e272770
    show WL _ _ _ _ 1133 [(4, vI i), (3, .ref o), (2, .ref m), (1, .ref x), (0, .ref 0)] [vI z272773] _ H272767
    refine wl_of hX hb cL_1133 (rw_pop (pc' := 1134) rfl rfl ?_)
    refine wl_of hX hb cL_1134 (rw_aload_n (pc' := 1135) (v := .ref m) rfl rfl rfl ?_)
    refine wl_of hX hb cL_1135 (rw_aload_n (pc' := 1136) (v := .ref 0) rfl rfl rfl ?_)
    refine wl_of hX hb cL_1136 (rw_iload (pc' := 1138) (z := i) rfl rfl ?_)
    refine wl_of hX hb cL_1138 (rw_iconst (pc' := 1139) rfl ?_)
    refine wl_of hX hb cL_1139 (rw_iadd (pc' := 1140) rfl ?_)
    have k272777 : H272767 0 ((i + 1).toNat) = H 0 ((i + 1).toNat) := (f272772 0 ((i + 1).toNat) _ g0 (wmem_s rfl))
    refine wl_of hX hb cL_1140 (xa_I (so := 0) (pc' := 1141) (a := 0) w272771 g0 (wsh_s _) (by omega) (wty_s _ _) (by omega) (by omega) rfl (fun b272775 b272776 => ?_))
    refine wl_of hX hb cL_1141 (rw_aload_n (pc' := 1142) (v := .ref 0) rfl rfl rfl ?_)
    refine wl_of hX hb cL_1142 (rw_iload (pc' := 1144) (z := i) rfl rfl ?_)
    refine wl_of hX hb cL_1144 (rw_iconst (pc' := 1145) rfl ?_)
    refine wl_of hX hb cL_1145 (rw_iadd (pc' := 1146) rfl ?_)
    have k272780 : H272767 0 ((i + 2).toNat) = H 0 ((i + 2).toNat) := (f272772 0 ((i + 2).toNat) _ g0 (wmem_s rfl))
    refine wl_of hX hb cL_1146 (xa_I (so := 0) (pc' := 1147) (a := 0) w272771 g0 (wsh_s _) (by omega) (wty_s _ _) (by omega) (by omega) rfl (fun b272778 b272779 => ?_))
    refine wl_of hX hb cL_1147 (rw_if_eq (p1 := 1154) (p2 := 1150) (by decide) rfl ⟨by omega, by omega⟩ (fun c272781 => ?_) (fun c272781 => ?_))
    · refine wl_of hX hb cL_1154 (rw_iconst (pc' := 1155) rfl ?_)
      have k272782 : wKI H272767 m = wKI H m := (wKI_fr hW gm f272772 rfl)
      have k272783 : H272767 x 9 = H x 9 := (f272772 x 9 _ gx rfl)
      have k272784 : H272767 m 6 = H m 6 := (f272772 m 6 _ gm rfl)
      refine wl_of hX hb cL_1155 (xc_V (pc' := 1158) (r := m) (as := [vI (H272767 0 ((i + 1).toNat)), vI 0]) (st := []) (lm_11_146) rfl rfl (Nat.le_of_ble_eq_true rfl) w272771 gm sh_42 (by decide) rfl (by decide) (s_265 w272771 gm ⟨by omega, by omega⟩ ⟨by omega, by omega⟩ (by omega)) (fun R272785 T272786 H272787 p272788 => ?_))
      obtain ⟨e272789, w272791, f272792, z272794, e272790, b272795, p272793⟩ := p272788
      subst e272789
      subst e272790
      show WL _ _ _ _ 1158 [(4, vI i), (3, .ref o), (2, .ref m), (1, .ref x), (0, .ref 0)] [vI z272794] _ H272787
      refine wl_of hX hb cL_1158 (rw_pop (pc' := 1159) rfl rfl ?_)
      refine wl_of hX hb cL_1159 (rw_goto (p1 := 1653) (by decide) ?_)
      have k272796 : H272787 x 9 = H272767 x 9 := (f272792 x 9 _ gx rfl)
      have k272797 : H272787 m 6 = H272767 m 6 := (f272792 m 6 _ gm rfl)
      have h272798 : XI T H272787 x m := (XI_fr w272771 gx f272792 rfl (XI_fr hW gx f272772 rfl hXI))
      exact WL.loc hX (by simp) (next T H272787 ⟨⟨w272791, g0, gx, gm, go, by omega, by omega⟩, h272798⟩ (by omega) (by omega))
    · refine wl_of hX hb cL_1150 (rw_iconst (pc' := 1151) rfl ?_)
      refine wl_of hX hb cL_1151 (rw_goto (p1 := 1155) (by decide) ?_)
      have k272799 : wKI H272767 m = wKI H m := (wKI_fr hW gm f272772 rfl)
      have k272800 : H272767 x 9 = H x 9 := (f272772 x 9 _ gx rfl)
      have k272801 : H272767 m 6 = H m 6 := (f272772 m 6 _ gm rfl)
      refine wl_of hX hb cL_1155 (xc_V (pc' := 1158) (r := m) (as := [vI (H272767 0 ((i + 1).toNat)), vI 1]) (st := []) (lm_11_146) rfl rfl (Nat.le_of_ble_eq_true rfl) w272771 gm sh_42 (by decide) rfl (by decide) (s_265 w272771 gm ⟨by omega, by omega⟩ ⟨by omega, by omega⟩ (by omega)) (fun R272802 T272803 H272804 p272805 => ?_))
      obtain ⟨e272806, w272808, f272809, z272811, e272807, b272812, p272810⟩ := p272805
      subst e272806
      subst e272807
      show WL _ _ _ _ 1158 [(4, vI i), (3, .ref o), (2, .ref m), (1, .ref x), (0, .ref 0)] [vI z272811] _ H272804
      refine wl_of hX hb cL_1158 (rw_pop (pc' := 1159) rfl rfl ?_)
      refine wl_of hX hb cL_1159 (rw_goto (p1 := 1653) (by decide) ?_)
      have k272813 : H272804 x 9 = H272767 x 9 := (f272809 x 9 _ gx rfl)
      have k272814 : H272804 m 6 = H272767 m 6 := (f272809 m 6 _ gm rfl)
      have h272815 : XI T H272804 x m := (XI_fr w272771 gx f272809 rfl (XI_fr hW gx f272772 rfl hXI))
      exact WL.loc hX (by simp) (next T H272804 ⟨⟨w272808, g0, gx, gm, go, by omega, by omega⟩, h272815⟩ (by omega) (by omega))
set_option maxHeartbeats 4000000 in
theorem wl_c30 {kt : Nat → Option mc_E} {CB SB : Nat} {X : mc_S → Prop} {T : wq_T} {H : wq_H} {Len x m o : Nat} {i : Int} (hX : wlX kt CB SB X) (hb : T.2.1 ≤ CB ∧ T.2.2.1 ≤ SB) (hI : wlJ Len x m o T H) (hL : Len ≤ 3072) (hi : 0 ≤ i ∧ i + 6 ≤ Len) (hb2 : T.2.1 + 20 ≤ CB ∧ T.2.2.1 + 500 ≤ SB)  (next : ∀ T' H', wlJ Len x m o T' H' → T'.2.1 ≤ T.2.1 + 20 → T'.2.2.1 ≤ T.2.2.1 + 500 → WL kt CB SB X 1653 (wlL i x m o) [] T' H') : WL kt CB SB X 1162 (wlL i x m o) [] T H := by
  obtain ⟨⟨hW, g0, gx, gm, go, hK, hr⟩, hXI⟩ := hI
  refine wl_of hX hb cL_1162 (rw_aload_n (pc' := 1163) (v := .ref x) rfl rfl rfl ?_)
  refine wl_of hX hb cL_1163 (xc_V (pc' := 1166) (r := x) (as := []) (st := []) (lm_11_147) rfl rfl (Nat.le_of_ble_eq_true rfl) hW gx sh_1 (by decide) rfl (by decide) (s_120 hW gx) (fun R272816 T272817 H272818 p272819 => ?_))
  obtain ⟨e272820, w272822, f272823, z272824, e272821, b272825⟩ := p272819
  subst e272820
  subst e272821
  show WL _ _ _ _ 1166 [(4, vI i), (3, .ref o), (2, .ref m), (1, .ref x), (0, .ref 0)] [vI z272824] _ H272818
  refine wl_of hX hb cL_1166 (rw_pop (pc' := 1167) rfl rfl ?_)
  refine wl_of hX hb cL_1167 (rw_aload_n (pc' := 1168) (v := .ref m) rfl rfl rfl ?_)
  have k272826 : wKI H272818 m = wKI H m := (wKI_fr hW gm f272823 rfl)
  have k272827 : H272818 x 9 = H x 9 := (f272823 x 9 _ gx rfl)
  have k272828 : H272818 m 6 = H m 6 := (f272823 m 6 _ gm rfl)
  refine wl_of hX hb cL_1168 (xc_V (pc' := 1171) (r := m) (as := []) (st := []) (lm_11_150) rfl rfl (Nat.le_of_ble_eq_true rfl) w272822 gm sh_42 (by decide) rfl (by decide) (s_266 w272822 gm (by omega)) (fun R272829 T272830 H272831 p272832 => ?_))
  obtain ⟨e272833, w272835, f272836, z272838, e272834, b272839, p272837⟩ := p272832
  subst e272833
  subst e272834
  show WL _ _ _ _ 1171 [(4, vI i), (3, .ref o), (2, .ref m), (1, .ref x), (0, .ref 0)] [vI z272838] _ H272831
  refine wl_of hX hb cL_1171 (rw_pop (pc' := 1172) rfl rfl ?_)
  refine wl_of hX hb cL_1172 (rw_goto (p1 := 1653) (by decide) ?_)
  have k272840 : H272831 x 9 = H272818 x 9 := (f272836 x 9 _ gx rfl)
  have k272841 : H272831 m 6 = H272818 m 6 := (f272836 m 6 _ gm rfl)
  have h272842 : XI T H272831 x m := (XI_fr w272822 gx f272836 rfl (XI_fr hW gx f272823 rfl hXI))
  exact WL.loc hX (by simp) (next T H272831 ⟨⟨w272835, g0, gx, gm, go, by omega, by omega⟩, h272842⟩ (by omega) (by omega))
set_option maxHeartbeats 4000000 in
theorem wl_c31 {kt : Nat → Option mc_E} {CB SB : Nat} {X : mc_S → Prop} {T : wq_T} {H : wq_H} {Len x m o : Nat} {i : Int} (hX : wlX kt CB SB X) (hb : T.2.1 ≤ CB ∧ T.2.2.1 ≤ SB) (hI : wlJ Len x m o T H) (hL : Len ≤ 3072) (hi : 0 ≤ i ∧ i + 6 ≤ Len) (hb2 : T.2.1 + 20 ≤ CB ∧ T.2.2.1 + 500 ≤ SB)  (next : ∀ T' H', wlJ Len x m o T' H' → T'.2.1 ≤ T.2.1 + 20 → T'.2.2.1 ≤ T.2.2.1 + 500 → WL kt CB SB X 1653 (wlL i x m o) [] T' H') : WL kt CB SB X 1175 (wlL i x m o) [] T H := by
  obtain ⟨⟨hW, g0, gx, gm, go, hK, hr⟩, hXI⟩ := hI
  refine wl_of hX hb cL_1175 (rw_aload_n (pc' := 1176) (v := .ref x) rfl rfl rfl ?_)
  refine wl_of hX hb cL_1176 (rw_aload_n (pc' := 1177) (v := .ref 0) rfl rfl rfl ?_)
  refine wl_of hX hb cL_1177 (rw_iload (pc' := 1179) (z := i) rfl rfl ?_)
  refine wl_of hX hb cL_1179 (rw_iconst (pc' := 1180) rfl ?_)
  refine wl_of hX hb cL_1180 (rw_iadd (pc' := 1181) rfl ?_)
  refine wl_of hX hb cL_1181 (xa_I (so := 0) (pc' := 1182) (a := 0) hW g0 (wsh_s _) (by omega) (wty_s _ _) (by omega) (by omega) rfl (fun b272843 b272844 => ?_))
  refine wl_of hX hb cL_1182 (xc_V (pc' := 1185) (r := x) (as := [vI (H 0 ((i + 1).toNat))]) (st := []) (lm_11_151) rfl rfl (Nat.le_of_ble_eq_true rfl) hW gx sh_1 (by decide) rfl (by decide) (s_130 hW gx ⟨by omega, by omega⟩) (fun R272845 T272846 H272847 p272848 => ?_))
  obtain ⟨e272849, w272851, f272852, z272853, e272850, b272854⟩ := p272848
  subst e272849
  subst e272850
  show WL _ _ _ _ 1185 [(4, vI i), (3, .ref o), (2, .ref m), (1, .ref x), (0, .ref 0)] [vI z272853] _ H272847
  refine wl_of hX hb cL_1185 (rw_pop (pc' := 1186) rfl rfl ?_)
  refine wl_of hX hb cL_1186 (rw_aload_n (pc' := 1187) (v := .ref m) rfl rfl rfl ?_)
  refine wl_of hX hb cL_1187 (rw_aload_n (pc' := 1188) (v := .ref 0) rfl rfl rfl ?_)
  refine wl_of hX hb cL_1188 (rw_iload (pc' := 1190) (z := i) rfl rfl ?_)
  refine wl_of hX hb cL_1190 (rw_iconst (pc' := 1191) rfl ?_)
  refine wl_of hX hb cL_1191 (rw_iadd (pc' := 1192) rfl ?_)
  have k272857 : H272847 0 ((i + 1).toNat) = H 0 ((i + 1).toNat) := (f272852 0 ((i + 1).toNat) _ g0 (wmem_s rfl))
  refine wl_of hX hb cL_1192 (xa_I (so := 0) (pc' := 1193) (a := 0) w272851 g0 (wsh_s _) (by omega) (wty_s _ _) (by omega) (by omega) rfl (fun b272855 b272856 => ?_))
  have k272858 : wKI H272847 m = wKI H m := (wKI_fr hW gm f272852 rfl)
  have k272859 : H272847 x 9 = H x 9 := (f272852 x 9 _ gx rfl)
  have k272860 : H272847 m 6 = H m 6 := (f272852 m 6 _ gm rfl)
  refine wl_of hX hb cL_1193 (xc_V (pc' := 1196) (r := m) (as := [vI (H272847 0 ((i + 1).toNat))]) (st := []) (lm_11_154) rfl rfl (Nat.le_of_ble_eq_true rfl) w272851 gm sh_42 (by decide) rfl (by decide) (s_271 w272851 gm ⟨by omega, by omega⟩ (by omega)) (fun R272861 T272862 H272863 p272864 => ?_))
  obtain ⟨e272865, w272867, f272868, z272870, e272866, b272871, p272869⟩ := p272864
  subst e272865
  subst e272866
  show WL _ _ _ _ 1196 [(4, vI i), (3, .ref o), (2, .ref m), (1, .ref x), (0, .ref 0)] [vI z272870] _ H272863
  refine wl_of hX hb cL_1196 (rw_pop (pc' := 1197) rfl rfl ?_)
  refine wl_of hX hb cL_1197 (rw_goto (p1 := 1653) (by decide) ?_)
  have k272872 : H272863 x 9 = H272847 x 9 := (f272868 x 9 _ gx rfl)
  have k272873 : H272863 m 6 = H272847 m 6 := (f272868 m 6 _ gm rfl)
  have h272874 : XI T H272863 x m := (XI_fr w272851 gx f272868 rfl (XI_fr hW gx f272852 rfl hXI))
  exact WL.loc hX (by simp) (next T H272863 ⟨⟨w272867, g0, gx, gm, go, by omega, by omega⟩, h272874⟩ (by omega) (by omega))
set_option maxHeartbeats 4000000 in
theorem wl_c32 {kt : Nat → Option mc_E} {CB SB : Nat} {X : mc_S → Prop} {T : wq_T} {H : wq_H} {Len x m o : Nat} {i : Int} (hX : wlX kt CB SB X) (hb : T.2.1 ≤ CB ∧ T.2.2.1 ≤ SB) (hI : wlJ Len x m o T H) (hL : Len ≤ 3072) (hi : 0 ≤ i ∧ i + 6 ≤ Len) (hb2 : T.2.1 + 20 ≤ CB ∧ T.2.2.1 + 500 ≤ SB)  (next : ∀ T' H', wlJ Len x m o T' H' → T'.2.1 ≤ T.2.1 + 20 → T'.2.2.1 ≤ T.2.2.1 + 500 → WL kt CB SB X 1653 (wlL i x m o) [] T' H') : WL kt CB SB X 1200 (wlL i x m o) [] T H := by
  obtain ⟨⟨hW, g0, gx, gm, go, hK, hr⟩, hXI⟩ := hI
  refine wl_of hX hb cL_1200 (rw_aload_n (pc' := 1201) (v := .ref x) rfl rfl rfl ?_)
  refine wl_of hX hb cL_1201 (rw_aload_n (pc' := 1202) (v := .ref 0) rfl rfl rfl ?_)
  refine wl_of hX hb cL_1202 (rw_iload (pc' := 1204) (z := i) rfl rfl ?_)
  refine wl_of hX hb cL_1204 (rw_iconst (pc' := 1205) rfl ?_)
  refine wl_of hX hb cL_1205 (rw_iadd (pc' := 1206) rfl ?_)
  refine wl_of hX hb cL_1206 (xa_I (so := 0) (pc' := 1207) (a := 0) hW g0 (wsh_s _) (by omega) (wty_s _ _) (by omega) (by omega) rfl (fun b272875 b272876 => ?_))
  refine wl_of hX hb cL_1207 (xc_V (pc' := 1210) (r := x) (as := [vI (H 0 ((i + 1).toNat))]) (st := []) (lm_11_155) rfl rfl (Nat.le_of_ble_eq_true rfl) hW gx sh_1 (by decide) rfl (by decide) (s_132 hW gx ⟨by omega, by omega⟩) (fun R272877 T272878 H272879 p272880 => ?_))
  obtain ⟨e272881, w272883, f272884, z272885, e272882, b272886⟩ := p272880
  subst e272881
  subst e272882
  show WL _ _ _ _ 1210 [(4, vI i), (3, .ref o), (2, .ref m), (1, .ref x), (0, .ref 0)] [vI z272885] _ H272879
  refine wl_of hX hb cL_1210 (rw_pop (pc' := 1211) rfl rfl ?_)
  refine wl_of hX hb cL_1211 (rw_aload_n (pc' := 1212) (v := .ref m) rfl rfl rfl ?_)
  refine wl_of hX hb cL_1212 (rw_aload_n (pc' := 1213) (v := .ref 0) rfl rfl rfl ?_)
  refine wl_of hX hb cL_1213 (rw_iload (pc' := 1215) (z := i) rfl rfl ?_)
  refine wl_of hX hb cL_1215 (rw_iconst (pc' := 1216) rfl ?_)
  refine wl_of hX hb cL_1216 (rw_iadd (pc' := 1217) rfl ?_)
  have k272889 : H272879 0 ((i + 1).toNat) = H 0 ((i + 1).toNat) := (f272884 0 ((i + 1).toNat) _ g0 (wmem_s rfl))
  refine wl_of hX hb cL_1217 (xa_I (so := 0) (pc' := 1218) (a := 0) w272883 g0 (wsh_s _) (by omega) (wty_s _ _) (by omega) (by omega) rfl (fun b272887 b272888 => ?_))
  have k272890 : wKI H272879 m = wKI H m := (wKI_fr hW gm f272884 rfl)
  have k272891 : H272879 x 9 = H x 9 := (f272884 x 9 _ gx rfl)
  have k272892 : H272879 m 6 = H m 6 := (f272884 m 6 _ gm rfl)
  refine wl_of hX hb cL_1218 (xc_V (pc' := 1221) (r := m) (as := [vI (H272879 0 ((i + 1).toNat))]) (st := []) (lm_11_158) rfl rfl (Nat.le_of_ble_eq_true rfl) w272883 gm sh_42 (by decide) rfl (by decide) (s_272 w272883 gm ⟨by omega, by omega⟩ (by omega)) (fun R272893 T272894 H272895 p272896 => ?_))
  obtain ⟨e272897, w272899, f272900, z272902, e272898, b272903, p272901⟩ := p272896
  subst e272897
  subst e272898
  show WL _ _ _ _ 1221 [(4, vI i), (3, .ref o), (2, .ref m), (1, .ref x), (0, .ref 0)] [vI z272902] _ H272895
  refine wl_of hX hb cL_1221 (rw_pop (pc' := 1222) rfl rfl ?_)
  refine wl_of hX hb cL_1222 (rw_goto (p1 := 1653) (by decide) ?_)
  have k272904 : H272895 x 9 = H272879 x 9 := (f272900 x 9 _ gx rfl)
  have k272905 : H272895 m 6 = H272879 m 6 := (f272900 m 6 _ gm rfl)
  have h272906 : XI T H272895 x m := (XI_fr w272883 gx f272900 rfl (XI_fr hW gx f272884 rfl hXI))
  exact WL.loc hX (by simp) (next T H272895 ⟨⟨w272899, g0, gx, gm, go, by omega, by omega⟩, h272906⟩ (by omega) (by omega))
set_option maxHeartbeats 4000000 in
theorem wl_c33 {kt : Nat → Option mc_E} {CB SB : Nat} {X : mc_S → Prop} {T : wq_T} {H : wq_H} {Len x m o : Nat} {i : Int} (hX : wlX kt CB SB X) (hb : T.2.1 ≤ CB ∧ T.2.2.1 ≤ SB) (hI : wlJ Len x m o T H) (hL : Len ≤ 3072) (hi : 0 ≤ i ∧ i + 6 ≤ Len) (hb2 : T.2.1 + 20 ≤ CB ∧ T.2.2.1 + 500 ≤ SB)  (next : ∀ T' H', wlJ Len x m o T' H' → T'.2.1 ≤ T.2.1 + 20 → T'.2.2.1 ≤ T.2.2.1 + 500 → WL kt CB SB X 1653 (wlL i x m o) [] T' H') : WL kt CB SB X 1225 (wlL i x m o) [] T H := by
  obtain ⟨⟨hW, g0, gx, gm, go, hK, hr⟩, hXI⟩ := hI
  refine wl_of hX hb cL_1225 (rw_aload_n (pc' := 1226) (v := .ref x) rfl rfl rfl ?_)
  refine wl_of hX hb cL_1226 (rw_aload_n (pc' := 1227) (v := .ref 0) rfl rfl rfl ?_)
  refine wl_of hX hb cL_1227 (rw_iload (pc' := 1229) (z := i) rfl rfl ?_)
  refine wl_of hX hb cL_1229 (rw_iconst (pc' := 1230) rfl ?_)
  refine wl_of hX hb cL_1230 (rw_iadd (pc' := 1231) rfl ?_)
  refine wl_of hX hb cL_1231 (xa_I (so := 0) (pc' := 1232) (a := 0) hW g0 (wsh_s _) (by omega) (wty_s _ _) (by omega) (by omega) rfl (fun b272907 b272908 => ?_))
  refine wl_of hX hb cL_1232 (xc_V (pc' := 1235) (r := x) (as := [vI (H 0 ((i + 1).toNat))]) (st := []) (lm_11_159) rfl rfl (Nat.le_of_ble_eq_true rfl) hW gx sh_1 (by decide) rfl (by decide) (s_135 hW gx ⟨by omega, by omega⟩) (fun R272909 T272910 H272911 p272912 => ?_))
  obtain ⟨e272913, w272915, f272916, z272917, e272914, b272918⟩ := p272912
  subst e272913
  subst e272914
  show WL _ _ _ _ 1235 [(4, vI i), (3, .ref o), (2, .ref m), (1, .ref x), (0, .ref 0)] [vI z272917] _ H272911
  refine wl_of hX hb cL_1235 (rw_pop (pc' := 1236) rfl rfl ?_)
  refine wl_of hX hb cL_1236 (rw_aload_n (pc' := 1237) (v := .ref m) rfl rfl rfl ?_)
  refine wl_of hX hb cL_1237 (rw_aload_n (pc' := 1238) (v := .ref 0) rfl rfl rfl ?_)
  refine wl_of hX hb cL_1238 (rw_iload (pc' := 1240) (z := i) rfl rfl ?_)
  refine wl_of hX hb cL_1240 (rw_iconst (pc' := 1241) rfl ?_)
  refine wl_of hX hb cL_1241 (rw_iadd (pc' := 1242) rfl ?_)
  have k272921 : H272911 0 ((i + 1).toNat) = H 0 ((i + 1).toNat) := (f272916 0 ((i + 1).toNat) _ g0 (wmem_s rfl))
  refine wl_of hX hb cL_1242 (xa_I (so := 0) (pc' := 1243) (a := 0) w272915 g0 (wsh_s _) (by omega) (wty_s _ _) (by omega) (by omega) rfl (fun b272919 b272920 => ?_))
  have k272922 : wKI H272911 m = wKI H m := (wKI_fr hW gm f272916 rfl)
  have k272923 : H272911 x 9 = H x 9 := (f272916 x 9 _ gx rfl)
  have k272924 : H272911 m 6 = H m 6 := (f272916 m 6 _ gm rfl)
  refine wl_of hX hb cL_1243 (xc_V (pc' := 1246) (r := m) (as := [vI (H272911 0 ((i + 1).toNat))]) (st := []) (lm_11_162) rfl rfl (Nat.le_of_ble_eq_true rfl) w272915 gm sh_42 (by decide) rfl (by decide) (s_275 w272915 gm ⟨by omega, by omega⟩ (by omega)) (fun R272925 T272926 H272927 p272928 => ?_))
  obtain ⟨e272929, w272931, f272932, z272934, e272930, b272935, p272933⟩ := p272928
  subst e272929
  subst e272930
  show WL _ _ _ _ 1246 [(4, vI i), (3, .ref o), (2, .ref m), (1, .ref x), (0, .ref 0)] [vI z272934] _ H272927
  refine wl_of hX hb cL_1246 (rw_pop (pc' := 1247) rfl rfl ?_)
  refine wl_of hX hb cL_1247 (rw_goto (p1 := 1653) (by decide) ?_)
  have k272936 : H272927 x 9 = H272911 x 9 := (f272932 x 9 _ gx rfl)
  have k272937 : H272927 m 6 = H272911 m 6 := (f272932 m 6 _ gm rfl)
  have h272938 : XI T H272927 x m := (XI_fr w272915 gx f272932 rfl (XI_fr hW gx f272916 rfl hXI))
  exact WL.loc hX (by simp) (next T H272927 ⟨⟨w272931, g0, gx, gm, go, by omega, by omega⟩, h272938⟩ (by omega) (by omega))
set_option maxHeartbeats 4000000 in
theorem wl_c34 {kt : Nat → Option mc_E} {CB SB : Nat} {X : mc_S → Prop} {T : wq_T} {H : wq_H} {Len x m o : Nat} {i : Int} (hX : wlX kt CB SB X) (hb : T.2.1 ≤ CB ∧ T.2.2.1 ≤ SB) (hI : wlJ Len x m o T H) (hL : Len ≤ 3072) (hi : 0 ≤ i ∧ i + 6 ≤ Len) (hb2 : T.2.1 + 20 ≤ CB ∧ T.2.2.1 + 500 ≤ SB)  (next : ∀ T' H', wlJ Len x m o T' H' → T'.2.1 ≤ T.2.1 + 20 → T'.2.2.1 ≤ T.2.2.1 + 500 → WL kt CB SB X 1653 (wlL i x m o) [] T' H') : WL kt CB SB X 1250 (wlL i x m o) [] T H := by
  obtain ⟨⟨hW, g0, gx, gm, go, hK, hr⟩, hXI⟩ := hI
  refine wl_of hX hb cL_1250 (rw_aload_n (pc' := 1251) (v := .ref x) rfl rfl rfl ?_)
  refine wl_of hX hb cL_1251 (xc_V (pc' := 1254) (r := x) (as := []) (st := []) (lm_11_163) rfl rfl (Nat.le_of_ble_eq_true rfl) hW gx sh_1 (by decide) rfl (by decide) (s_137 hW gx) (fun R272939 T272940 H272941 p272942 => ?_))
  obtain ⟨e272943, w272945, f272946, z272947, e272944, b272948⟩ := p272942
  subst e272943
  subst e272944
  show WL _ _ _ _ 1254 [(4, vI i), (3, .ref o), (2, .ref m), (1, .ref x), (0, .ref 0)] [vI z272947] _ H272941
  refine wl_of hX hb cL_1254 (rw_pop (pc' := 1255) rfl rfl ?_)
  refine wl_of hX hb cL_1255 (rw_aload_n (pc' := 1256) (v := .ref m) rfl rfl rfl ?_)
  have k272949 : wKI H272941 m = wKI H m := (wKI_fr hW gm f272946 rfl)
  have k272950 : H272941 x 9 = H x 9 := (f272946 x 9 _ gx rfl)
  have k272951 : H272941 m 6 = H m 6 := (f272946 m 6 _ gm rfl)
  refine wl_of hX hb cL_1256 (xc_V (pc' := 1259) (r := m) (as := []) (st := []) (lm_11_166) rfl rfl (Nat.le_of_ble_eq_true rfl) w272945 gm sh_42 (by decide) rfl (by decide) (s_276 w272945 gm (by omega)) (fun R272952 T272953 H272954 p272955 => ?_))
  obtain ⟨e272956, w272958, f272959, z272961, e272957, b272962, p272960⟩ := p272955
  subst e272956
  subst e272957
  show WL _ _ _ _ 1259 [(4, vI i), (3, .ref o), (2, .ref m), (1, .ref x), (0, .ref 0)] [vI z272961] _ H272954
  refine wl_of hX hb cL_1259 (rw_pop (pc' := 1260) rfl rfl ?_)
  refine wl_of hX hb cL_1260 (rw_goto (p1 := 1653) (by decide) ?_)
  have k272963 : H272954 x 9 = H272941 x 9 := (f272959 x 9 _ gx rfl)
  have k272964 : H272954 m 6 = H272941 m 6 := (f272959 m 6 _ gm rfl)
  have h272965 : XI T H272954 x m := (XI_fr w272945 gx f272959 rfl (XI_fr hW gx f272946 rfl hXI))
  exact WL.loc hX (by simp) (next T H272954 ⟨⟨w272958, g0, gx, gm, go, by omega, by omega⟩, h272965⟩ (by omega) (by omega))
set_option maxHeartbeats 4000000 in
theorem wl_c35 {kt : Nat → Option mc_E} {CB SB : Nat} {X : mc_S → Prop} {T : wq_T} {H : wq_H} {Len x m o : Nat} {i : Int} (hX : wlX kt CB SB X) (hb : T.2.1 ≤ CB ∧ T.2.2.1 ≤ SB) (hI : wlJ Len x m o T H) (hL : Len ≤ 3072) (hi : 0 ≤ i ∧ i + 6 ≤ Len) (hb2 : T.2.1 + 20 ≤ CB ∧ T.2.2.1 + 500 ≤ SB)  (next : ∀ T' H', wlJ Len x m o T' H' → T'.2.1 ≤ T.2.1 + 20 → T'.2.2.1 ≤ T.2.2.1 + 500 → WL kt CB SB X 1653 (wlL i x m o) [] T' H') : WL kt CB SB X 1263 (wlL i x m o) [] T H := by
  obtain ⟨⟨hW, g0, gx, gm, go, hK, hr⟩, hXI⟩ := hI
  refine wl_of hX hb cL_1263 (rw_aload_n (pc' := 1264) (v := .ref x) rfl rfl rfl ?_)
  refine wl_of hX hb cL_1264 (rw_aload_n (pc' := 1265) (v := .ref 0) rfl rfl rfl ?_)
  refine wl_of hX hb cL_1265 (rw_iload (pc' := 1267) (z := i) rfl rfl ?_)
  refine wl_of hX hb cL_1267 (rw_iconst (pc' := 1268) rfl ?_)
  refine wl_of hX hb cL_1268 (rw_iadd (pc' := 1269) rfl ?_)
  refine wl_of hX hb cL_1269 (xa_I (so := 0) (pc' := 1270) (a := 0) hW g0 (wsh_s _) (by omega) (wty_s _ _) (by omega) (by omega) rfl (fun b272966 b272967 => ?_))
  refine wl_of hX hb cL_1270 (rw_aload_n (pc' := 1271) (v := .ref 0) rfl rfl rfl ?_)
  refine wl_of hX hb cL_1271 (rw_iload (pc' := 1273) (z := i) rfl rfl ?_)
  refine wl_of hX hb cL_1273 (rw_iconst (pc' := 1274) rfl ?_)
  refine wl_of hX hb cL_1274 (rw_iadd (pc' := 1275) rfl ?_)
  refine wl_of hX hb cL_1275 (xa_I (so := 0) (pc' := 1276) (a := 0) hW g0 (wsh_s _) (by omega) (wty_s _ _) (by omega) (by omega) rfl (fun b272968 b272969 => ?_))
  refine wl_of hX hb cL_1276 (rw_if_eq (p1 := 1283) (p2 := 1279) (by decide) rfl ⟨by omega, by omega⟩ (fun c272970 => ?_) (fun c272970 => ?_))
  · refine wl_of hX hb cL_1283 (rw_iconst (pc' := 1284) rfl ?_)
    refine wl_of hX hb cL_1284 (xc_V (pc' := 1287) (r := x) (as := [vI (H 0 ((i + 1).toNat)), vI 0]) (st := []) (lm_11_167) rfl rfl (Nat.le_of_ble_eq_true rfl) hW gx sh_1 (by decide) rfl (by decide) (s_146 hW gx ⟨by omega, by omega⟩ ⟨by omega, by omega⟩) (fun R272971 T272972 H272973 p272974 => ?_))
    obtain ⟨e272975, w272977, f272978, z272979, e272976, b272980⟩ := p272974
    subst e272975
    subst e272976
    show WL _ _ _ _ 1287 [(4, vI i), (3, .ref o), (2, .ref m), (1, .ref x), (0, .ref 0)] [vI z272979] _ H272973
    refine wl_of hX hb cL_1287 (rw_pop (pc' := 1288) rfl rfl ?_)
    refine wl_of hX hb cL_1288 (rw_aload_n (pc' := 1289) (v := .ref m) rfl rfl rfl ?_)
    refine wl_of hX hb cL_1289 (rw_aload_n (pc' := 1290) (v := .ref 0) rfl rfl rfl ?_)
    refine wl_of hX hb cL_1290 (rw_iload (pc' := 1292) (z := i) rfl rfl ?_)
    refine wl_of hX hb cL_1292 (rw_iconst (pc' := 1293) rfl ?_)
    refine wl_of hX hb cL_1293 (rw_iadd (pc' := 1294) rfl ?_)
    have k272983 : H272973 0 ((i + 1).toNat) = H 0 ((i + 1).toNat) := (f272978 0 ((i + 1).toNat) _ g0 (wmem_s rfl))
    refine wl_of hX hb cL_1294 (xa_I (so := 0) (pc' := 1295) (a := 0) w272977 g0 (wsh_s _) (by omega) (wty_s _ _) (by omega) (by omega) rfl (fun b272981 b272982 => ?_))
    refine wl_of hX hb cL_1295 (rw_aload_n (pc' := 1296) (v := .ref 0) rfl rfl rfl ?_)
    refine wl_of hX hb cL_1296 (rw_iload (pc' := 1298) (z := i) rfl rfl ?_)
    refine wl_of hX hb cL_1298 (rw_iconst (pc' := 1299) rfl ?_)
    refine wl_of hX hb cL_1299 (rw_iadd (pc' := 1300) rfl ?_)
    have k272986 : H272973 0 ((i + 2).toNat) = H 0 ((i + 2).toNat) := (f272978 0 ((i + 2).toNat) _ g0 (wmem_s rfl))
    refine wl_of hX hb cL_1300 (xa_I (so := 0) (pc' := 1301) (a := 0) w272977 g0 (wsh_s _) (by omega) (wty_s _ _) (by omega) (by omega) rfl (fun b272984 b272985 => ?_))
    refine wl_of hX hb cL_1301 (rw_if_eq (p1 := 1308) (p2 := 1304) (by decide) rfl ⟨by omega, by omega⟩ (fun c272987 => ?_) (fun c272987 => ?_))
    · refine wl_of hX hb cL_1308 (rw_iconst (pc' := 1309) rfl ?_)
      have k272988 : wKI H272973 m = wKI H m := (wKI_fr hW gm f272978 rfl)
      have k272989 : H272973 x 9 = H x 9 := (f272978 x 9 _ gx rfl)
      have k272990 : H272973 m 6 = H m 6 := (f272978 m 6 _ gm rfl)
      refine wl_of hX hb cL_1309 (xc_V (pc' := 1312) (r := m) (as := [vI (H272973 0 ((i + 1).toNat)), vI 0]) (st := []) (lm_11_170) rfl rfl (Nat.le_of_ble_eq_true rfl) w272977 gm sh_42 (by decide) rfl (by decide) (s_279 w272977 gm ⟨by omega, by omega⟩ ⟨by omega, by omega⟩ (by omega)) (fun R272991 T272992 H272993 p272994 => ?_))
      obtain ⟨e272995, w272997, f272998, z273000, e272996, b273001, p272999⟩ := p272994
      subst e272995
      subst e272996
      show WL _ _ _ _ 1312 [(4, vI i), (3, .ref o), (2, .ref m), (1, .ref x), (0, .ref 0)] [vI z273000] _ H272993
      refine wl_of hX hb cL_1312 (rw_pop (pc' := 1313) rfl rfl ?_)
      refine wl_of hX hb cL_1313 (rw_goto (p1 := 1653) (by decide) ?_)
      have k273002 : H272993 x 9 = H272973 x 9 := (f272998 x 9 _ gx rfl)
      have k273003 : H272993 m 6 = H272973 m 6 := (f272998 m 6 _ gm rfl)
      have h273004 : XI T H272993 x m := (XI_fr w272977 gx f272998 rfl (XI_fr hW gx f272978 rfl hXI))
      exact WL.loc hX (by simp) (next T H272993 ⟨⟨w272997, g0, gx, gm, go, by omega, by omega⟩, h273004⟩ (by omega) (by omega))
    · exfalso
      omega
  · refine wl_of hX hb cL_1279 (rw_iconst (pc' := 1280) rfl ?_)
    refine wl_of hX hb cL_1280 (rw_goto (p1 := 1284) (by decide) ?_)
    refine wl_of hX hb cL_1284 (xc_V (pc' := 1287) (r := x) (as := [vI (H 0 ((i + 1).toNat)), vI 1]) (st := []) (lm_11_167) rfl rfl (Nat.le_of_ble_eq_true rfl) hW gx sh_1 (by decide) rfl (by decide) (s_146 hW gx ⟨by omega, by omega⟩ ⟨by omega, by omega⟩) (fun R273005 T273006 H273007 p273008 => ?_))
    obtain ⟨e273009, w273011, f273012, z273013, e273010, b273014⟩ := p273008
    subst e273009
    subst e273010
    show WL _ _ _ _ 1287 [(4, vI i), (3, .ref o), (2, .ref m), (1, .ref x), (0, .ref 0)] [vI z273013] _ H273007
    refine wl_of hX hb cL_1287 (rw_pop (pc' := 1288) rfl rfl ?_)
    refine wl_of hX hb cL_1288 (rw_aload_n (pc' := 1289) (v := .ref m) rfl rfl rfl ?_)
    refine wl_of hX hb cL_1289 (rw_aload_n (pc' := 1290) (v := .ref 0) rfl rfl rfl ?_)
    refine wl_of hX hb cL_1290 (rw_iload (pc' := 1292) (z := i) rfl rfl ?_)
    refine wl_of hX hb cL_1292 (rw_iconst (pc' := 1293) rfl ?_)
    refine wl_of hX hb cL_1293 (rw_iadd (pc' := 1294) rfl ?_)
    have k273017 : H273007 0 ((i + 1).toNat) = H 0 ((i + 1).toNat) := (f273012 0 ((i + 1).toNat) _ g0 (wmem_s rfl))
    refine wl_of hX hb cL_1294 (xa_I (so := 0) (pc' := 1295) (a := 0) w273011 g0 (wsh_s _) (by omega) (wty_s _ _) (by omega) (by omega) rfl (fun b273015 b273016 => ?_))
    refine wl_of hX hb cL_1295 (rw_aload_n (pc' := 1296) (v := .ref 0) rfl rfl rfl ?_)
    refine wl_of hX hb cL_1296 (rw_iload (pc' := 1298) (z := i) rfl rfl ?_)
    refine wl_of hX hb cL_1298 (rw_iconst (pc' := 1299) rfl ?_)
    refine wl_of hX hb cL_1299 (rw_iadd (pc' := 1300) rfl ?_)
    have k273020 : H273007 0 ((i + 2).toNat) = H 0 ((i + 2).toNat) := (f273012 0 ((i + 2).toNat) _ g0 (wmem_s rfl))
    refine wl_of hX hb cL_1300 (xa_I (so := 0) (pc' := 1301) (a := 0) w273011 g0 (wsh_s _) (by omega) (wty_s _ _) (by omega) (by omega) rfl (fun b273018 b273019 => ?_))
    refine wl_of hX hb cL_1301 (rw_if_eq (p1 := 1308) (p2 := 1304) (by decide) rfl ⟨by omega, by omega⟩ (fun c273021 => ?_) (fun c273021 => ?_))
    · refine wl_of hX hb cL_1308 (rw_iconst (pc' := 1309) rfl ?_)
      have k273022 : wKI H273007 m = wKI H m := (wKI_fr hW gm f273012 rfl)
      have k273023 : H273007 x 9 = H x 9 := (f273012 x 9 _ gx rfl)
      have k273024 : H273007 m 6 = H m 6 := (f273012 m 6 _ gm rfl)
      refine wl_of hX hb cL_1309 (xc_V (pc' := 1312) (r := m) (as := [vI (H273007 0 ((i + 1).toNat)), vI 0]) (st := []) (lm_11_170) rfl rfl (Nat.le_of_ble_eq_true rfl) w273011 gm sh_42 (by decide) rfl (by decide) (s_279 w273011 gm ⟨by omega, by omega⟩ ⟨by omega, by omega⟩ (by omega)) (fun R273025 T273026 H273027 p273028 => ?_))
      obtain ⟨e273029, w273031, f273032, z273034, e273030, b273035, p273033⟩ := p273028
      subst e273029
      subst e273030
      show WL _ _ _ _ 1312 [(4, vI i), (3, .ref o), (2, .ref m), (1, .ref x), (0, .ref 0)] [vI z273034] _ H273027
      refine wl_of hX hb cL_1312 (rw_pop (pc' := 1313) rfl rfl ?_)
      refine wl_of hX hb cL_1313 (rw_goto (p1 := 1653) (by decide) ?_)
      have k273036 : H273027 x 9 = H273007 x 9 := (f273032 x 9 _ gx rfl)
      have k273037 : H273027 m 6 = H273007 m 6 := (f273032 m 6 _ gm rfl)
      have h273038 : XI T H273027 x m := (XI_fr w273011 gx f273032 rfl (XI_fr hW gx f273012 rfl hXI))
      exact WL.loc hX (by simp) (next T H273027 ⟨⟨w273031, g0, gx, gm, go, by omega, by omega⟩, h273038⟩ (by omega) (by omega))
    · refine wl_of hX hb cL_1304 (rw_iconst (pc' := 1305) rfl ?_)
      refine wl_of hX hb cL_1305 (rw_goto (p1 := 1309) (by decide) ?_)
      have k273039 : wKI H273007 m = wKI H m := (wKI_fr hW gm f273012 rfl)
      have k273040 : H273007 x 9 = H x 9 := (f273012 x 9 _ gx rfl)
      have k273041 : H273007 m 6 = H m 6 := (f273012 m 6 _ gm rfl)
      refine wl_of hX hb cL_1309 (xc_V (pc' := 1312) (r := m) (as := [vI (H273007 0 ((i + 1).toNat)), vI 1]) (st := []) (lm_11_170) rfl rfl (Nat.le_of_ble_eq_true rfl) w273011 gm sh_42 (by decide) rfl (by decide) (s_279 w273011 gm ⟨by omega, by omega⟩ ⟨by omega, by omega⟩ (by omega)) (fun R273042 T273043 H273044 p273045 => ?_))
      obtain ⟨e273046, w273048, f273049, z273051, e273047, b273052, p273050⟩ := p273045
      subst e273046
      subst e273047
      show WL _ _ _ _ 1312 [(4, vI i), (3, .ref o), (2, .ref m), (1, .ref x), (0, .ref 0)] [vI z273051] _ H273044
      refine wl_of hX hb cL_1312 (rw_pop (pc' := 1313) rfl rfl ?_)
      refine wl_of hX hb cL_1313 (rw_goto (p1 := 1653) (by decide) ?_)
      have k273053 : H273044 x 9 = H273007 x 9 := (f273049 x 9 _ gx rfl)
      have k273054 : H273044 m 6 = H273007 m 6 := (f273049 m 6 _ gm rfl)
      have h273055 : XI T H273044 x m := (XI_fr w273011 gx f273049 rfl (XI_fr hW gx f273012 rfl hXI))
      exact WL.loc hX (by simp) (next T H273044 ⟨⟨w273048, g0, gx, gm, go, by omega, by omega⟩, h273055⟩ (by omega) (by omega))
set_option maxHeartbeats 4000000 in
theorem wl_c36 {kt : Nat → Option mc_E} {CB SB : Nat} {X : mc_S → Prop} {T : wq_T} {H : wq_H} {Len x m o : Nat} {i : Int} (hX : wlX kt CB SB X) (hb : T.2.1 ≤ CB ∧ T.2.2.1 ≤ SB) (hI : wlJ Len x m o T H) (hL : Len ≤ 3072) (hi : 0 ≤ i ∧ i + 6 ≤ Len) (hb2 : T.2.1 + 20 ≤ CB ∧ T.2.2.1 + 500 ≤ SB)  (next : ∀ T' H', wlJ Len x m o T' H' → T'.2.1 ≤ T.2.1 + 20 → T'.2.2.1 ≤ T.2.2.1 + 500 → WL kt CB SB X 1653 (wlL i x m o) [] T' H') : WL kt CB SB X 1316 (wlL i x m o) [] T H := by
  obtain ⟨⟨hW, g0, gx, gm, go, hK, hr⟩, hXI⟩ := hI
  refine wl_of hX hb cL_1316 (rw_aload_n (pc' := 1317) (v := .ref x) rfl rfl rfl ?_)
  refine wl_of hX hb cL_1317 (xc_V (pc' := 1320) (r := x) (as := []) (st := []) (lm_11_171) rfl rfl (Nat.le_of_ble_eq_true rfl) hW gx sh_1 (by decide) rfl (by decide) (s_147 hW gx) (fun R273056 T273057 H273058 p273059 => ?_))
  obtain ⟨e273060, w273062, f273063, z273064, e273061, b273065⟩ := p273059
  subst e273060
  subst e273061
  show WL _ _ _ _ 1320 [(4, vI i), (3, .ref o), (2, .ref m), (1, .ref x), (0, .ref 0)] [vI z273064] _ H273058
  refine wl_of hX hb cL_1320 (rw_pop (pc' := 1321) rfl rfl ?_)
  refine wl_of hX hb cL_1321 (rw_aload_n (pc' := 1322) (v := .ref m) rfl rfl rfl ?_)
  have k273066 : wKI H273058 m = wKI H m := (wKI_fr hW gm f273063 rfl)
  have k273067 : H273058 x 9 = H x 9 := (f273063 x 9 _ gx rfl)
  have k273068 : H273058 m 6 = H m 6 := (f273063 m 6 _ gm rfl)
  refine wl_of hX hb cL_1322 (xc_V (pc' := 1325) (r := m) (as := []) (st := []) (lm_11_174) rfl rfl (Nat.le_of_ble_eq_true rfl) w273062 gm sh_42 (by decide) rfl (by decide) (s_282 w273062 gm (by omega)) (fun R273069 T273070 H273071 p273072 => ?_))
  obtain ⟨e273073, w273075, f273076, z273078, e273074, b273079, p273077⟩ := p273072
  subst e273073
  subst e273074
  show WL _ _ _ _ 1325 [(4, vI i), (3, .ref o), (2, .ref m), (1, .ref x), (0, .ref 0)] [vI z273078] _ H273071
  refine wl_of hX hb cL_1325 (rw_pop (pc' := 1326) rfl rfl ?_)
  refine wl_of hX hb cL_1326 (rw_goto (p1 := 1653) (by decide) ?_)
  have k273080 : H273071 x 9 = H273058 x 9 := (f273076 x 9 _ gx rfl)
  have k273081 : H273071 m 6 = H273058 m 6 := (f273076 m 6 _ gm rfl)
  have h273082 : XI T H273071 x m := (XI_fr w273062 gx f273076 rfl (XI_fr hW gx f273063 rfl hXI))
  exact WL.loc hX (by simp) (next T H273071 ⟨⟨w273075, g0, gx, gm, go, by omega, by omega⟩, h273082⟩ (by omega) (by omega))
set_option maxHeartbeats 4000000 in
theorem wl_c37 {kt : Nat → Option mc_E} {CB SB : Nat} {X : mc_S → Prop} {T : wq_T} {H : wq_H} {Len x m o : Nat} {i : Int} (hX : wlX kt CB SB X) (hb : T.2.1 ≤ CB ∧ T.2.2.1 ≤ SB) (hI : wlJ Len x m o T H) (hL : Len ≤ 3072) (hi : 0 ≤ i ∧ i + 6 ≤ Len) (hb2 : T.2.1 + 20 ≤ CB ∧ T.2.2.1 + 500 ≤ SB)  (next : ∀ T' H', wlJ Len x m o T' H' → T'.2.1 ≤ T.2.1 + 20 → T'.2.2.1 ≤ T.2.2.1 + 500 → WL kt CB SB X 1653 (wlL i x m o) [] T' H') : WL kt CB SB X 1329 (wlL i x m o) [] T H := by
  obtain ⟨⟨hW, g0, gx, gm, go, hK, hr⟩, hXI⟩ := hI
  refine wl_of hX hb cL_1329 (rw_aload_n (pc' := 1330) (v := .ref x) rfl rfl rfl ?_)
  refine wl_of hX hb cL_1330 (xc_V (pc' := 1333) (r := x) (as := []) (st := []) (lm_11_175) rfl rfl (Nat.le_of_ble_eq_true rfl) hW gx sh_1 (by decide) rfl (by decide) (s_149 hW gx) (fun R273083 T273084 H273085 p273086 => ?_))
  obtain ⟨e273087, w273089, f273090, z273091, e273088, b273092⟩ := p273086
  subst e273087
  subst e273088
  show WL _ _ _ _ 1333 [(4, vI i), (3, .ref o), (2, .ref m), (1, .ref x), (0, .ref 0)] [vI z273091] _ H273085
  refine wl_of hX hb cL_1333 (rw_pop (pc' := 1334) rfl rfl ?_)
  refine wl_of hX hb cL_1334 (rw_aload_n (pc' := 1335) (v := .ref m) rfl rfl rfl ?_)
  have k273093 : wKI H273085 m = wKI H m := (wKI_fr hW gm f273090 rfl)
  have k273094 : H273085 x 9 = H x 9 := (f273090 x 9 _ gx rfl)
  have k273095 : H273085 m 6 = H m 6 := (f273090 m 6 _ gm rfl)
  refine wl_of hX hb cL_1335 (xc_V (pc' := 1338) (r := m) (as := []) (st := []) (lm_11_178) rfl rfl (Nat.le_of_ble_eq_true rfl) w273089 gm sh_42 (by decide) rfl (by decide) (s_283 w273089 gm (by omega)) (fun R273096 T273097 H273098 p273099 => ?_))
  obtain ⟨e273100, w273102, f273103, z273105, e273101, b273106, p273104⟩ := p273099
  subst e273100
  subst e273101
  show WL _ _ _ _ 1338 [(4, vI i), (3, .ref o), (2, .ref m), (1, .ref x), (0, .ref 0)] [vI z273105] _ H273098
  refine wl_of hX hb cL_1338 (rw_pop (pc' := 1339) rfl rfl ?_)
  refine wl_of hX hb cL_1339 (rw_goto (p1 := 1653) (by decide) ?_)
  have k273107 : H273098 x 9 = H273085 x 9 := (f273103 x 9 _ gx rfl)
  have k273108 : H273098 m 6 = H273085 m 6 := (f273103 m 6 _ gm rfl)
  have h273109 : XI T H273098 x m := (XI_fr w273089 gx f273103 rfl (XI_fr hW gx f273090 rfl hXI))
  exact WL.loc hX (by simp) (next T H273098 ⟨⟨w273102, g0, gx, gm, go, by omega, by omega⟩, h273109⟩ (by omega) (by omega))
set_option maxHeartbeats 4000000 in
theorem wl_c38 {kt : Nat → Option mc_E} {CB SB : Nat} {X : mc_S → Prop} {T : wq_T} {H : wq_H} {Len x m o : Nat} {i : Int} (hX : wlX kt CB SB X) (hb : T.2.1 ≤ CB ∧ T.2.2.1 ≤ SB) (hI : wlJ Len x m o T H) (hL : Len ≤ 3072) (hi : 0 ≤ i ∧ i + 6 ≤ Len) (hb2 : T.2.1 + 20 ≤ CB ∧ T.2.2.1 + 500 ≤ SB)  (next : ∀ T' H', wlJ Len x m o T' H' → T'.2.1 ≤ T.2.1 + 20 → T'.2.2.1 ≤ T.2.2.1 + 500 → WL kt CB SB X 1653 (wlL i x m o) [] T' H') : WL kt CB SB X 1342 (wlL i x m o) [] T H := by
  obtain ⟨⟨hW, g0, gx, gm, go, hK, hr⟩, hXI⟩ := hI
  refine wl_of hX hb cL_1342 (rw_aload_n (pc' := 1343) (v := .ref x) rfl rfl rfl ?_)
  refine wl_of hX hb cL_1343 (rw_aload_n (pc' := 1344) (v := .ref 0) rfl rfl rfl ?_)
  refine wl_of hX hb cL_1344 (rw_iload (pc' := 1346) (z := i) rfl rfl ?_)
  refine wl_of hX hb cL_1346 (rw_iconst (pc' := 1347) rfl ?_)
  refine wl_of hX hb cL_1347 (rw_iadd (pc' := 1348) rfl ?_)
  refine wl_of hX hb cL_1348 (xa_I (so := 0) (pc' := 1349) (a := 0) hW g0 (wsh_s _) (by omega) (wty_s _ _) (by omega) (by omega) rfl (fun b273110 b273111 => ?_))
  refine wl_of hX hb cL_1349 (xc_V (pc' := 1352) (r := x) (as := [vI (H 0 ((i + 1).toNat))]) (st := []) (lm_11_179) rfl rfl (Nat.le_of_ble_eq_true rfl) hW gx sh_1 (by decide) rfl (by decide) (s_152 hW gx ⟨by omega, by omega⟩) (fun R273112 T273113 H273114 p273115 => ?_))
  obtain ⟨e273116, w273118, f273119, z273120, e273117, b273121⟩ := p273115
  subst e273116
  subst e273117
  show WL _ _ _ _ 1352 [(4, vI i), (3, .ref o), (2, .ref m), (1, .ref x), (0, .ref 0)] [vI z273120] _ H273114
  refine wl_of hX hb cL_1352 (rw_pop (pc' := 1353) rfl rfl ?_)
  refine wl_of hX hb cL_1353 (rw_aload_n (pc' := 1354) (v := .ref m) rfl rfl rfl ?_)
  refine wl_of hX hb cL_1354 (rw_aload_n (pc' := 1355) (v := .ref 0) rfl rfl rfl ?_)
  refine wl_of hX hb cL_1355 (rw_iload (pc' := 1357) (z := i) rfl rfl ?_)
  refine wl_of hX hb cL_1357 (rw_iconst (pc' := 1358) rfl ?_)
  refine wl_of hX hb cL_1358 (rw_iadd (pc' := 1359) rfl ?_)
  have k273124 : H273114 0 ((i + 1).toNat) = H 0 ((i + 1).toNat) := (f273119 0 ((i + 1).toNat) _ g0 (wmem_s rfl))
  refine wl_of hX hb cL_1359 (xa_I (so := 0) (pc' := 1360) (a := 0) w273118 g0 (wsh_s _) (by omega) (wty_s _ _) (by omega) (by omega) rfl (fun b273122 b273123 => ?_))
  have k273125 : wKI H273114 m = wKI H m := (wKI_fr hW gm f273119 rfl)
  have k273126 : H273114 x 9 = H x 9 := (f273119 x 9 _ gx rfl)
  have k273127 : H273114 m 6 = H m 6 := (f273119 m 6 _ gm rfl)
  refine wl_of hX hb cL_1360 (xc_V (pc' := 1363) (r := m) (as := [vI (H273114 0 ((i + 1).toNat))]) (st := []) (lm_11_182) rfl rfl (Nat.le_of_ble_eq_true rfl) w273118 gm sh_42 (by decide) rfl (by decide) (s_284 w273118 gm ⟨by omega, by omega⟩ (by omega)) (fun R273128 T273129 H273130 p273131 => ?_))
  obtain ⟨e273132, w273134, f273135, z273137, e273133, b273138, p273136⟩ := p273131
  subst e273132
  subst e273133
  show WL _ _ _ _ 1363 [(4, vI i), (3, .ref o), (2, .ref m), (1, .ref x), (0, .ref 0)] [vI z273137] _ H273130
  refine wl_of hX hb cL_1363 (rw_pop (pc' := 1364) rfl rfl ?_)
  refine wl_of hX hb cL_1364 (rw_goto (p1 := 1653) (by decide) ?_)
  have k273139 : H273130 x 9 = H273114 x 9 := (f273135 x 9 _ gx rfl)
  have k273140 : H273130 m 6 = H273114 m 6 := (f273135 m 6 _ gm rfl)
  have h273141 : XI T H273130 x m := (XI_fr w273118 gx f273135 rfl (XI_fr hW gx f273119 rfl hXI))
  exact WL.loc hX (by simp) (next T H273130 ⟨⟨w273134, g0, gx, gm, go, by omega, by omega⟩, h273141⟩ (by omega) (by omega))
set_option maxHeartbeats 4000000 in
theorem wl_c39 {kt : Nat → Option mc_E} {CB SB : Nat} {X : mc_S → Prop} {T : wq_T} {H : wq_H} {Len x m o : Nat} {i : Int} (hX : wlX kt CB SB X) (hb : T.2.1 ≤ CB ∧ T.2.2.1 ≤ SB) (hI : wlJ Len x m o T H) (hL : Len ≤ 3072) (hi : 0 ≤ i ∧ i + 6 ≤ Len) (hb2 : T.2.1 + 20 ≤ CB ∧ T.2.2.1 + 500 ≤ SB)  (next : ∀ T' H', wlJ Len x m o T' H' → T'.2.1 ≤ T.2.1 + 20 → T'.2.2.1 ≤ T.2.2.1 + 500 → WL kt CB SB X 1653 (wlL i x m o) [] T' H') : WL kt CB SB X 1367 (wlL i x m o) [] T H := by
  obtain ⟨⟨hW, g0, gx, gm, go, hK, hr⟩, hXI⟩ := hI
  refine wl_of hX hb cL_1367 (rw_aload_n (pc' := 1368) (v := .ref x) rfl rfl rfl ?_)
  refine wl_of hX hb cL_1368 (rw_aload_n (pc' := 1369) (v := .ref 0) rfl rfl rfl ?_)
  refine wl_of hX hb cL_1369 (rw_iload (pc' := 1371) (z := i) rfl rfl ?_)
  refine wl_of hX hb cL_1371 (rw_iconst (pc' := 1372) rfl ?_)
  refine wl_of hX hb cL_1372 (rw_iadd (pc' := 1373) rfl ?_)
  refine wl_of hX hb cL_1373 (xa_I (so := 0) (pc' := 1374) (a := 0) hW g0 (wsh_s _) (by omega) (wty_s _ _) (by omega) (by omega) rfl (fun b273142 b273143 => ?_))
  refine wl_of hX hb cL_1374 (rw_aload_n (pc' := 1375) (v := .ref 0) rfl rfl rfl ?_)
  refine wl_of hX hb cL_1375 (rw_iload (pc' := 1377) (z := i) rfl rfl ?_)
  refine wl_of hX hb cL_1377 (rw_iconst (pc' := 1378) rfl ?_)
  refine wl_of hX hb cL_1378 (rw_iadd (pc' := 1379) rfl ?_)
  refine wl_of hX hb cL_1379 (xa_I (so := 0) (pc' := 1380) (a := 0) hW g0 (wsh_s _) (by omega) (wty_s _ _) (by omega) (by omega) rfl (fun b273144 b273145 => ?_))
  refine wl_of hX hb cL_1380 (xc_V (pc' := 1383) (r := x) (as := [vI (H 0 ((i + 1).toNat)), vI (H 0 ((i + 2).toNat))]) (st := []) (lm_11_183) rfl rfl (Nat.le_of_ble_eq_true rfl) hW gx sh_1 (by decide) rfl (by decide) (s_153 hW gx ⟨by omega, by omega⟩ ⟨by omega, by omega⟩) (fun R273146 T273147 H273148 p273149 => ?_))
  obtain ⟨e273150, w273152, f273153, z273154, e273151, b273155⟩ := p273149
  subst e273150
  subst e273151
  show WL _ _ _ _ 1383 [(4, vI i), (3, .ref o), (2, .ref m), (1, .ref x), (0, .ref 0)] [vI z273154] _ H273148
  refine wl_of hX hb cL_1383 (rw_pop (pc' := 1384) rfl rfl ?_)
  refine wl_of hX hb cL_1384 (rw_aload_n (pc' := 1385) (v := .ref m) rfl rfl rfl ?_)
  refine wl_of hX hb cL_1385 (rw_aload_n (pc' := 1386) (v := .ref 0) rfl rfl rfl ?_)
  refine wl_of hX hb cL_1386 (rw_iload (pc' := 1388) (z := i) rfl rfl ?_)
  refine wl_of hX hb cL_1388 (rw_iconst (pc' := 1389) rfl ?_)
  refine wl_of hX hb cL_1389 (rw_iadd (pc' := 1390) rfl ?_)
  have k273158 : H273148 0 ((i + 1).toNat) = H 0 ((i + 1).toNat) := (f273153 0 ((i + 1).toNat) _ g0 (wmem_s rfl))
  refine wl_of hX hb cL_1390 (xa_I (so := 0) (pc' := 1391) (a := 0) w273152 g0 (wsh_s _) (by omega) (wty_s _ _) (by omega) (by omega) rfl (fun b273156 b273157 => ?_))
  refine wl_of hX hb cL_1391 (rw_aload_n (pc' := 1392) (v := .ref 0) rfl rfl rfl ?_)
  refine wl_of hX hb cL_1392 (rw_iload (pc' := 1394) (z := i) rfl rfl ?_)
  refine wl_of hX hb cL_1394 (rw_iconst (pc' := 1395) rfl ?_)
  refine wl_of hX hb cL_1395 (rw_iadd (pc' := 1396) rfl ?_)
  have k273161 : H273148 0 ((i + 2).toNat) = H 0 ((i + 2).toNat) := (f273153 0 ((i + 2).toNat) _ g0 (wmem_s rfl))
  refine wl_of hX hb cL_1396 (xa_I (so := 0) (pc' := 1397) (a := 0) w273152 g0 (wsh_s _) (by omega) (wty_s _ _) (by omega) (by omega) rfl (fun b273159 b273160 => ?_))
  have k273162 : wKI H273148 m = wKI H m := (wKI_fr hW gm f273153 rfl)
  have k273163 : H273148 x 9 = H x 9 := (f273153 x 9 _ gx rfl)
  have k273164 : H273148 m 6 = H m 6 := (f273153 m 6 _ gm rfl)
  refine wl_of hX hb cL_1397 (xc_V (pc' := 1400) (r := m) (as := [vI (H273148 0 ((i + 1).toNat)), vI (H273148 0 ((i + 2).toNat))]) (st := []) (lm_11_186) rfl rfl (Nat.le_of_ble_eq_true rfl) w273152 gm sh_42 (by decide) rfl (by decide) (s_285 w273152 gm ⟨by omega, by omega⟩ ⟨by omega, by omega⟩ (by omega)) (fun R273165 T273166 H273167 p273168 => ?_))
  obtain ⟨e273169, w273171, f273172, z273174, e273170, b273175, p273173⟩ := p273168
  subst e273169
  subst e273170
  show WL _ _ _ _ 1400 [(4, vI i), (3, .ref o), (2, .ref m), (1, .ref x), (0, .ref 0)] [vI z273174] _ H273167
  refine wl_of hX hb cL_1400 (rw_pop (pc' := 1401) rfl rfl ?_)
  refine wl_of hX hb cL_1401 (rw_goto (p1 := 1653) (by decide) ?_)
  have k273176 : H273167 x 9 = H273148 x 9 := (f273172 x 9 _ gx rfl)
  have k273177 : H273167 m 6 = H273148 m 6 := (f273172 m 6 _ gm rfl)
  have h273178 : XI T H273167 x m := (XI_fr w273152 gx f273172 rfl (XI_fr hW gx f273153 rfl hXI))
  exact WL.loc hX (by simp) (next T H273167 ⟨⟨w273171, g0, gx, gm, go, by omega, by omega⟩, h273178⟩ (by omega) (by omega))
set_option maxHeartbeats 4000000 in
theorem wl_c40 {kt : Nat → Option mc_E} {CB SB : Nat} {X : mc_S → Prop} {T : wq_T} {H : wq_H} {Len x m o : Nat} {i : Int} (hX : wlX kt CB SB X) (hb : T.2.1 ≤ CB ∧ T.2.2.1 ≤ SB) (hI : wlJ Len x m o T H) (hL : Len ≤ 3072) (hi : 0 ≤ i ∧ i + 6 ≤ Len) (hb2 : T.2.1 + 20 ≤ CB ∧ T.2.2.1 + 500 ≤ SB)  (next : ∀ T' H', wlJ Len x m o T' H' → T'.2.1 ≤ T.2.1 + 20 → T'.2.2.1 ≤ T.2.2.1 + 500 → WL kt CB SB X 1653 (wlL i x m o) [] T' H') : WL kt CB SB X 1404 (wlL i x m o) [] T H := by
  obtain ⟨⟨hW, g0, gx, gm, go, hK, hr⟩, hXI⟩ := hI
  refine wl_of hX hb cL_1404 (rw_aload_n (pc' := 1405) (v := .ref x) rfl rfl rfl ?_)
  refine wl_of hX hb cL_1405 (rw_aload_n (pc' := 1406) (v := .ref 0) rfl rfl rfl ?_)
  refine wl_of hX hb cL_1406 (rw_iload (pc' := 1408) (z := i) rfl rfl ?_)
  refine wl_of hX hb cL_1408 (rw_iconst (pc' := 1409) rfl ?_)
  refine wl_of hX hb cL_1409 (rw_iadd (pc' := 1410) rfl ?_)
  refine wl_of hX hb cL_1410 (xa_I (so := 0) (pc' := 1411) (a := 0) hW g0 (wsh_s _) (by omega) (wty_s _ _) (by omega) (by omega) rfl (fun b273179 b273180 => ?_))
  refine wl_of hX hb cL_1411 (xc_V (pc' := 1414) (r := x) (as := [vI (H 0 ((i + 1).toNat))]) (st := []) (lm_11_187) rfl rfl (Nat.le_of_ble_eq_true rfl) hW gx sh_1 (by decide) rfl (by decide) (s_154 hW gx ⟨by omega, by omega⟩) (fun R273181 T273182 H273183 p273184 => ?_))
  obtain ⟨e273185, w273187, f273188, z273189, e273186, b273190⟩ := p273184
  subst e273185
  subst e273186
  show WL _ _ _ _ 1414 [(4, vI i), (3, .ref o), (2, .ref m), (1, .ref x), (0, .ref 0)] [vI z273189] _ H273183
  refine wl_of hX hb cL_1414 (rw_pop (pc' := 1415) rfl rfl ?_)
  refine wl_of hX hb cL_1415 (rw_aload_n (pc' := 1416) (v := .ref m) rfl rfl rfl ?_)
  refine wl_of hX hb cL_1416 (rw_aload_n (pc' := 1417) (v := .ref 0) rfl rfl rfl ?_)
  refine wl_of hX hb cL_1417 (rw_iload (pc' := 1419) (z := i) rfl rfl ?_)
  refine wl_of hX hb cL_1419 (rw_iconst (pc' := 1420) rfl ?_)
  refine wl_of hX hb cL_1420 (rw_iadd (pc' := 1421) rfl ?_)
  have k273193 : H273183 0 ((i + 1).toNat) = H 0 ((i + 1).toNat) := (f273188 0 ((i + 1).toNat) _ g0 (wmem_s rfl))
  refine wl_of hX hb cL_1421 (xa_I (so := 0) (pc' := 1422) (a := 0) w273187 g0 (wsh_s _) (by omega) (wty_s _ _) (by omega) (by omega) rfl (fun b273191 b273192 => ?_))
  have k273194 : wKI H273183 m = wKI H m := (wKI_fr hW gm f273188 rfl)
  have k273195 : H273183 x 9 = H x 9 := (f273188 x 9 _ gx rfl)
  have k273196 : H273183 m 6 = H m 6 := (f273188 m 6 _ gm rfl)
  refine wl_of hX hb cL_1422 (xc_V (pc' := 1425) (r := m) (as := [vI (H273183 0 ((i + 1).toNat))]) (st := []) (lm_11_191) rfl rfl (Nat.le_of_ble_eq_true rfl) w273187 gm sh_42 (by decide) rfl (by decide) (s_286 w273187 gm ⟨by omega, by omega⟩ (by omega)) (fun R273197 T273198 H273199 p273200 => ?_))
  obtain ⟨e273201, w273203, f273204, z273206, e273202, b273207, p273205⟩ := p273200
  subst e273201
  subst e273202
  show WL _ _ _ _ 1425 [(4, vI i), (3, .ref o), (2, .ref m), (1, .ref x), (0, .ref 0)] [vI z273206] _ H273199
  refine wl_of hX hb cL_1425 (rw_pop (pc' := 1426) rfl rfl ?_)
  refine wl_of hX hb cL_1426 (rw_goto (p1 := 1653) (by decide) ?_)
  have k273208 : H273199 x 9 = H273183 x 9 := (f273204 x 9 _ gx rfl)
  have k273209 : H273199 m 6 = H273183 m 6 := (f273204 m 6 _ gm rfl)
  have h273210 : XI T H273199 x m := (XI_fr w273187 gx f273204 rfl (XI_fr hW gx f273188 rfl hXI))
  exact WL.loc hX (by simp) (next T H273199 ⟨⟨w273203, g0, gx, gm, go, by omega, by omega⟩, h273210⟩ (by omega) (by omega))
set_option maxHeartbeats 4000000 in
theorem wl_c41 {kt : Nat → Option mc_E} {CB SB : Nat} {X : mc_S → Prop} {T : wq_T} {H : wq_H} {Len x m o : Nat} {i : Int} (hX : wlX kt CB SB X) (hb : T.2.1 ≤ CB ∧ T.2.2.1 ≤ SB) (hI : wlJ Len x m o T H) (hL : Len ≤ 3072) (hi : 0 ≤ i ∧ i + 6 ≤ Len) (hb2 : T.2.1 + 20 ≤ CB ∧ T.2.2.1 + 500 ≤ SB)  (next : ∀ T' H', wlJ Len x m o T' H' → T'.2.1 ≤ T.2.1 + 20 → T'.2.2.1 ≤ T.2.2.1 + 500 → WL kt CB SB X 1653 (wlL i x m o) [] T' H') : WL kt CB SB X 1429 (wlL i x m o) [] T H := by
  obtain ⟨⟨hW, g0, gx, gm, go, hK, hr⟩, hXI⟩ := hI
  refine wl_of hX hb cL_1429 (rw_aload_n (pc' := 1430) (v := .ref x) rfl rfl rfl ?_)
  refine wl_of hX hb cL_1430 (rw_aload_n (pc' := 1431) (v := .ref 0) rfl rfl rfl ?_)
  refine wl_of hX hb cL_1431 (rw_iload (pc' := 1433) (z := i) rfl rfl ?_)
  refine wl_of hX hb cL_1433 (rw_iconst (pc' := 1434) rfl ?_)
  refine wl_of hX hb cL_1434 (rw_iadd (pc' := 1435) rfl ?_)
  refine wl_of hX hb cL_1435 (xa_I (so := 0) (pc' := 1436) (a := 0) hW g0 (wsh_s _) (by omega) (wty_s _ _) (by omega) (by omega) rfl (fun b273211 b273212 => ?_))
  refine wl_of hX hb cL_1436 (xc_V (pc' := 1439) (r := x) (as := [vI (H 0 ((i + 1).toNat))]) (st := []) (lm_11_192) rfl rfl (Nat.le_of_ble_eq_true rfl) hW gx sh_1 (by decide) rfl (by decide) (s_155 hW gx ⟨by omega, by omega⟩) (fun R273213 T273214 H273215 p273216 => ?_))
  obtain ⟨e273217, w273219, f273220, z273221, e273218, b273222⟩ := p273216
  subst e273217
  subst e273218
  show WL _ _ _ _ 1439 [(4, vI i), (3, .ref o), (2, .ref m), (1, .ref x), (0, .ref 0)] [vI z273221] _ H273215
  refine wl_of hX hb cL_1439 (rw_pop (pc' := 1440) rfl rfl ?_)
  refine wl_of hX hb cL_1440 (rw_aload_n (pc' := 1441) (v := .ref m) rfl rfl rfl ?_)
  refine wl_of hX hb cL_1441 (rw_aload_n (pc' := 1442) (v := .ref 0) rfl rfl rfl ?_)
  refine wl_of hX hb cL_1442 (rw_iload (pc' := 1444) (z := i) rfl rfl ?_)
  refine wl_of hX hb cL_1444 (rw_iconst (pc' := 1445) rfl ?_)
  refine wl_of hX hb cL_1445 (rw_iadd (pc' := 1446) rfl ?_)
  have k273225 : H273215 0 ((i + 1).toNat) = H 0 ((i + 1).toNat) := (f273220 0 ((i + 1).toNat) _ g0 (wmem_s rfl))
  refine wl_of hX hb cL_1446 (xa_I (so := 0) (pc' := 1447) (a := 0) w273219 g0 (wsh_s _) (by omega) (wty_s _ _) (by omega) (by omega) rfl (fun b273223 b273224 => ?_))
  have k273226 : wKI H273215 m = wKI H m := (wKI_fr hW gm f273220 rfl)
  have k273227 : H273215 x 9 = H x 9 := (f273220 x 9 _ gx rfl)
  have k273228 : H273215 m 6 = H m 6 := (f273220 m 6 _ gm rfl)
  refine wl_of hX hb cL_1447 (xc_V (pc' := 1450) (r := m) (as := [vI (H273215 0 ((i + 1).toNat))]) (st := []) (lm_11_195) rfl rfl (Nat.le_of_ble_eq_true rfl) w273219 gm sh_42 (by decide) rfl (by decide) (s_287 w273219 gm ⟨by omega, by omega⟩ (by omega)) (fun R273229 T273230 H273231 p273232 => ?_))
  obtain ⟨e273233, w273235, f273236, z273238, e273234, b273239, p273237⟩ := p273232
  subst e273233
  subst e273234
  show WL _ _ _ _ 1450 [(4, vI i), (3, .ref o), (2, .ref m), (1, .ref x), (0, .ref 0)] [vI z273238] _ H273231
  refine wl_of hX hb cL_1450 (rw_pop (pc' := 1451) rfl rfl ?_)
  refine wl_of hX hb cL_1451 (rw_goto (p1 := 1653) (by decide) ?_)
  have k273240 : H273231 x 9 = H273215 x 9 := (f273236 x 9 _ gx rfl)
  have k273241 : H273231 m 6 = H273215 m 6 := (f273236 m 6 _ gm rfl)
  have h273242 : XI T H273231 x m := (XI_fr w273219 gx f273236 rfl (XI_fr hW gx f273220 rfl hXI))
  exact WL.loc hX (by simp) (next T H273231 ⟨⟨w273235, g0, gx, gm, go, by omega, by omega⟩, h273242⟩ (by omega) (by omega))
set_option maxHeartbeats 4000000 in
theorem wl_c42 {kt : Nat → Option mc_E} {CB SB : Nat} {X : mc_S → Prop} {T : wq_T} {H : wq_H} {Len x m o : Nat} {i : Int} (hX : wlX kt CB SB X) (hb : T.2.1 ≤ CB ∧ T.2.2.1 ≤ SB) (hI : wlJ Len x m o T H) (hL : Len ≤ 3072) (hi : 0 ≤ i ∧ i + 6 ≤ Len) (hb2 : T.2.1 + 20 ≤ CB ∧ T.2.2.1 + 500 ≤ SB)  (next : ∀ T' H', wlJ Len x m o T' H' → T'.2.1 ≤ T.2.1 + 20 → T'.2.2.1 ≤ T.2.2.1 + 500 → WL kt CB SB X 1653 (wlL i x m o) [] T' H') : WL kt CB SB X 1454 (wlL i x m o) [] T H := by
  obtain ⟨⟨hW, g0, gx, gm, go, hK, hr⟩, hXI⟩ := hI
  refine wl_of hX hb cL_1454 (rw_aload_n (pc' := 1455) (v := .ref x) rfl rfl rfl ?_)
  refine wl_of hX hb cL_1455 (xc_V (pc' := 1458) (r := x) (as := []) (st := []) (lm_11_196) rfl rfl (Nat.le_of_ble_eq_true rfl) hW gx sh_1 (by decide) rfl (by decide) (s_156 hW gx) (fun R273243 T273244 H273245 p273246 => ?_))
  obtain ⟨e273247, w273249, f273250, z273251, e273248, b273252⟩ := p273246
  subst e273247
  subst e273248
  show WL _ _ _ _ 1458 [(4, vI i), (3, .ref o), (2, .ref m), (1, .ref x), (0, .ref 0)] [vI z273251] _ H273245
  refine wl_of hX hb cL_1458 (rw_pop (pc' := 1459) rfl rfl ?_)
  refine wl_of hX hb cL_1459 (rw_aload_n (pc' := 1460) (v := .ref m) rfl rfl rfl ?_)
  have k273253 : wKI H273245 m = wKI H m := (wKI_fr hW gm f273250 rfl)
  have k273254 : H273245 x 9 = H x 9 := (f273250 x 9 _ gx rfl)
  have k273255 : H273245 m 6 = H m 6 := (f273250 m 6 _ gm rfl)
  refine wl_of hX hb cL_1460 (xc_V (pc' := 1463) (r := m) (as := []) (st := []) (lm_11_199) rfl rfl (Nat.le_of_ble_eq_true rfl) w273249 gm sh_42 (by decide) rfl (by decide) (s_288 w273249 gm (by omega)) (fun R273256 T273257 H273258 p273259 => ?_))
  obtain ⟨e273260, w273262, f273263, z273265, e273261, b273266, p273264⟩ := p273259
  subst e273260
  subst e273261
  show WL _ _ _ _ 1463 [(4, vI i), (3, .ref o), (2, .ref m), (1, .ref x), (0, .ref 0)] [vI z273265] _ H273258
  refine wl_of hX hb cL_1463 (rw_pop (pc' := 1464) rfl rfl ?_)
  refine wl_of hX hb cL_1464 (rw_goto (p1 := 1653) (by decide) ?_)
  have k273267 : H273258 x 9 = H273245 x 9 := (f273263 x 9 _ gx rfl)
  have k273268 : H273258 m 6 = H273245 m 6 := (f273263 m 6 _ gm rfl)
  have h273269 : XI T H273258 x m := (XI_fr w273249 gx f273263 rfl (XI_fr hW gx f273250 rfl hXI))
  exact WL.loc hX (by simp) (next T H273258 ⟨⟨w273262, g0, gx, gm, go, by omega, by omega⟩, h273269⟩ (by omega) (by omega))
set_option maxHeartbeats 4000000 in
theorem wl_c43 {kt : Nat → Option mc_E} {CB SB : Nat} {X : mc_S → Prop} {T : wq_T} {H : wq_H} {Len x m o : Nat} {i : Int} (hX : wlX kt CB SB X) (hb : T.2.1 ≤ CB ∧ T.2.2.1 ≤ SB) (hI : wlJ Len x m o T H) (hL : Len ≤ 3072) (hi : 0 ≤ i ∧ i + 6 ≤ Len) (hb2 : T.2.1 + 20 ≤ CB ∧ T.2.2.1 + 500 ≤ SB)  (next : ∀ T' H', wlJ Len x m o T' H' → T'.2.1 ≤ T.2.1 + 20 → T'.2.2.1 ≤ T.2.2.1 + 500 → WL kt CB SB X 1653 (wlL i x m o) [] T' H') : WL kt CB SB X 1467 (wlL i x m o) [] T H := by
  obtain ⟨⟨hW, g0, gx, gm, go, hK, hr⟩, hXI⟩ := hI
  refine wl_of hX hb cL_1467 (rw_aload_n (pc' := 1468) (v := .ref x) rfl rfl rfl ?_)
  refine wl_of hX hb cL_1468 (rw_aload_n (pc' := 1469) (v := .ref 0) rfl rfl rfl ?_)
  refine wl_of hX hb cL_1469 (rw_iload (pc' := 1471) (z := i) rfl rfl ?_)
  refine wl_of hX hb cL_1471 (rw_iconst (pc' := 1472) rfl ?_)
  refine wl_of hX hb cL_1472 (rw_iadd (pc' := 1473) rfl ?_)
  refine wl_of hX hb cL_1473 (xa_I (so := 0) (pc' := 1474) (a := 0) hW g0 (wsh_s _) (by omega) (wty_s _ _) (by omega) (by omega) rfl (fun b273270 b273271 => ?_))
  refine wl_of hX hb cL_1474 (rw_aload_n (pc' := 1475) (v := .ref 0) rfl rfl rfl ?_)
  refine wl_of hX hb cL_1475 (rw_iload (pc' := 1477) (z := i) rfl rfl ?_)
  refine wl_of hX hb cL_1477 (rw_iconst (pc' := 1478) rfl ?_)
  refine wl_of hX hb cL_1478 (rw_iadd (pc' := 1479) rfl ?_)
  refine wl_of hX hb cL_1479 (xa_I (so := 0) (pc' := 1480) (a := 0) hW g0 (wsh_s _) (by omega) (wty_s _ _) (by omega) (by omega) rfl (fun b273272 b273273 => ?_))
  refine wl_of hX hb cL_1480 (xc_V (pc' := 1483) (r := x) (as := [vI (H 0 ((i + 1).toNat)), vI (H 0 ((i + 2).toNat))]) (st := []) (lm_11_200) rfl rfl (Nat.le_of_ble_eq_true rfl) hW gx sh_1 (by decide) rfl (by decide) (s_157 hW gx ⟨by omega, by omega⟩ ⟨by omega, by omega⟩) (fun R273274 T273275 H273276 p273277 => ?_))
  obtain ⟨e273278, w273280, f273281, z273282, e273279, b273283⟩ := p273277
  subst e273278
  subst e273279
  show WL _ _ _ _ 1483 [(4, vI i), (3, .ref o), (2, .ref m), (1, .ref x), (0, .ref 0)] [vI z273282] _ H273276
  refine wl_of hX hb cL_1483 (rw_pop (pc' := 1484) rfl rfl ?_)
  refine wl_of hX hb cL_1484 (rw_aload_n (pc' := 1485) (v := .ref m) rfl rfl rfl ?_)
  refine wl_of hX hb cL_1485 (rw_aload_n (pc' := 1486) (v := .ref 0) rfl rfl rfl ?_)
  refine wl_of hX hb cL_1486 (rw_iload (pc' := 1488) (z := i) rfl rfl ?_)
  refine wl_of hX hb cL_1488 (rw_iconst (pc' := 1489) rfl ?_)
  refine wl_of hX hb cL_1489 (rw_iadd (pc' := 1490) rfl ?_)
  have k273286 : H273276 0 ((i + 1).toNat) = H 0 ((i + 1).toNat) := (f273281 0 ((i + 1).toNat) _ g0 (wmem_s rfl))
  refine wl_of hX hb cL_1490 (xa_I (so := 0) (pc' := 1491) (a := 0) w273280 g0 (wsh_s _) (by omega) (wty_s _ _) (by omega) (by omega) rfl (fun b273284 b273285 => ?_))
  refine wl_of hX hb cL_1491 (rw_aload_n (pc' := 1492) (v := .ref 0) rfl rfl rfl ?_)
  refine wl_of hX hb cL_1492 (rw_iload (pc' := 1494) (z := i) rfl rfl ?_)
  refine wl_of hX hb cL_1494 (rw_iconst (pc' := 1495) rfl ?_)
  refine wl_of hX hb cL_1495 (rw_iadd (pc' := 1496) rfl ?_)
  have k273289 : H273276 0 ((i + 2).toNat) = H 0 ((i + 2).toNat) := (f273281 0 ((i + 2).toNat) _ g0 (wmem_s rfl))
  refine wl_of hX hb cL_1496 (xa_I (so := 0) (pc' := 1497) (a := 0) w273280 g0 (wsh_s _) (by omega) (wty_s _ _) (by omega) (by omega) rfl (fun b273287 b273288 => ?_))
  have k273290 : wKI H273276 m = wKI H m := (wKI_fr hW gm f273281 rfl)
  have k273291 : H273276 x 9 = H x 9 := (f273281 x 9 _ gx rfl)
  have k273292 : H273276 m 6 = H m 6 := (f273281 m 6 _ gm rfl)
  refine wl_of hX hb cL_1497 (xc_V (pc' := 1500) (r := m) (as := [vI (H273276 0 ((i + 1).toNat)), vI (H273276 0 ((i + 2).toNat))]) (st := []) (lm_11_203) rfl rfl (Nat.le_of_ble_eq_true rfl) w273280 gm sh_42 (by decide) rfl (by decide) (s_289 w273280 gm ⟨by omega, by omega⟩ ⟨by omega, by omega⟩ (by omega)) (fun R273293 T273294 H273295 p273296 => ?_))
  obtain ⟨e273297, w273299, f273300, z273302, e273298, b273303, p273301⟩ := p273296
  subst e273297
  subst e273298
  show WL _ _ _ _ 1500 [(4, vI i), (3, .ref o), (2, .ref m), (1, .ref x), (0, .ref 0)] [vI z273302] _ H273295
  refine wl_of hX hb cL_1500 (rw_pop (pc' := 1501) rfl rfl ?_)
  refine wl_of hX hb cL_1501 (rw_goto (p1 := 1653) (by decide) ?_)
  have k273304 : H273295 x 9 = H273276 x 9 := (f273300 x 9 _ gx rfl)
  have k273305 : H273295 m 6 = H273276 m 6 := (f273300 m 6 _ gm rfl)
  have h273306 : XI T H273295 x m := (XI_fr w273280 gx f273300 rfl (XI_fr hW gx f273281 rfl hXI))
  exact WL.loc hX (by simp) (next T H273295 ⟨⟨w273299, g0, gx, gm, go, by omega, by omega⟩, h273306⟩ (by omega) (by omega))
set_option maxHeartbeats 4000000 in
theorem wl_c44 {kt : Nat → Option mc_E} {CB SB : Nat} {X : mc_S → Prop} {T : wq_T} {H : wq_H} {Len x m o : Nat} {i : Int} (hX : wlX kt CB SB X) (hb : T.2.1 ≤ CB ∧ T.2.2.1 ≤ SB) (hI : wlJ Len x m o T H) (hL : Len ≤ 3072) (hi : 0 ≤ i ∧ i + 6 ≤ Len) (hb2 : T.2.1 + 20 ≤ CB ∧ T.2.2.1 + 500 ≤ SB)  (next : ∀ T' H', wlJ Len x m o T' H' → T'.2.1 ≤ T.2.1 + 20 → T'.2.2.1 ≤ T.2.2.1 + 500 → WL kt CB SB X 1653 (wlL i x m o) [] T' H') : WL kt CB SB X 1504 (wlL i x m o) [] T H := by
  obtain ⟨⟨hW, g0, gx, gm, go, hK, hr⟩, hXI⟩ := hI
  refine wl_of hX hb cL_1504 (rw_aload_n (pc' := 1505) (v := .ref x) rfl rfl rfl ?_)
  refine wl_of hX hb cL_1505 (xc_V (pc' := 1508) (r := x) (as := []) (st := []) (lm_11_204) rfl rfl (Nat.le_of_ble_eq_true rfl) hW gx sh_1 (by decide) rfl (by decide) (s_158 hW gx) (fun R273307 T273308 H273309 p273310 => ?_))
  obtain ⟨e273311, w273313, f273314, z273315, e273312, b273316⟩ := p273310
  subst e273311
  subst e273312
  show WL _ _ _ _ 1508 [(4, vI i), (3, .ref o), (2, .ref m), (1, .ref x), (0, .ref 0)] [vI z273315] _ H273309
  refine wl_of hX hb cL_1508 (rw_pop (pc' := 1509) rfl rfl ?_)
  refine wl_of hX hb cL_1509 (rw_aload_n (pc' := 1510) (v := .ref m) rfl rfl rfl ?_)
  have k273317 : wKI H273309 m = wKI H m := (wKI_fr hW gm f273314 rfl)
  have k273318 : H273309 x 9 = H x 9 := (f273314 x 9 _ gx rfl)
  have k273319 : H273309 m 6 = H m 6 := (f273314 m 6 _ gm rfl)
  refine wl_of hX hb cL_1510 (xc_V (pc' := 1513) (r := m) (as := []) (st := []) (lm_11_208) rfl rfl (Nat.le_of_ble_eq_true rfl) w273313 gm sh_42 (by decide) rfl (by decide) (s_290 w273313 gm (by omega)) (fun R273320 T273321 H273322 p273323 => ?_))
  obtain ⟨e273324, w273326, f273327, z273329, e273325, b273330, p273328⟩ := p273323
  subst e273324
  subst e273325
  show WL _ _ _ _ 1513 [(4, vI i), (3, .ref o), (2, .ref m), (1, .ref x), (0, .ref 0)] [vI z273329] _ H273322
  refine wl_of hX hb cL_1513 (rw_pop (pc' := 1514) rfl rfl ?_)
  refine wl_of hX hb cL_1514 (rw_goto (p1 := 1653) (by decide) ?_)
  have k273331 : H273322 x 9 = H273309 x 9 := (f273327 x 9 _ gx rfl)
  have k273332 : H273322 m 6 = H273309 m 6 := (f273327 m 6 _ gm rfl)
  have h273333 : XI T H273322 x m := (XI_fr w273313 gx f273327 rfl (XI_fr hW gx f273314 rfl hXI))
  exact WL.loc hX (by simp) (next T H273322 ⟨⟨w273326, g0, gx, gm, go, by omega, by omega⟩, h273333⟩ (by omega) (by omega))
set_option maxHeartbeats 4000000 in
theorem wl_c45 {kt : Nat → Option mc_E} {CB SB : Nat} {X : mc_S → Prop} {T : wq_T} {H : wq_H} {Len x m o : Nat} {i : Int} (hX : wlX kt CB SB X) (hb : T.2.1 ≤ CB ∧ T.2.2.1 ≤ SB) (hI : wlJ Len x m o T H) (hL : Len ≤ 3072) (hi : 0 ≤ i ∧ i + 6 ≤ Len) (hb2 : T.2.1 + 20 ≤ CB ∧ T.2.2.1 + 500 ≤ SB)  (next : ∀ T' H', wlJ Len x m o T' H' → T'.2.1 ≤ T.2.1 + 20 → T'.2.2.1 ≤ T.2.2.1 + 500 → WL kt CB SB X 1653 (wlL i x m o) [] T' H') : WL kt CB SB X 1517 (wlL i x m o) [] T H := by
  obtain ⟨⟨hW, g0, gx, gm, go, hK, hr⟩, hXI⟩ := hI
  refine wl_of hX hb cL_1517 (rw_aload_n (pc' := 1518) (v := .ref x) rfl rfl rfl ?_)
  refine wl_of hX hb cL_1518 (xc_V (pc' := 1521) (r := x) (as := []) (st := []) (lm_11_209) rfl rfl (Nat.le_of_ble_eq_true rfl) hW gx sh_1 (by decide) rfl (by decide) (s_159 hW gx) (fun R273334 T273335 H273336 p273337 => ?_))
  obtain ⟨e273338, w273340, f273341, z273342, e273339, b273343⟩ := p273337
  subst e273338
  subst e273339
  show WL _ _ _ _ 1521 [(4, vI i), (3, .ref o), (2, .ref m), (1, .ref x), (0, .ref 0)] [vL z273342] _ H273336
  refine wl_of hX hb cL_1521 (rw_pop2 (pc' := 1522) rfl rfl ?_)
  refine wl_of hX hb cL_1522 (rw_aload_n (pc' := 1523) (v := .ref m) rfl rfl rfl ?_)
  have k273344 : wKI H273336 m = wKI H m := (wKI_fr hW gm f273341 rfl)
  have k273345 : H273336 x 9 = H x 9 := (f273341 x 9 _ gx rfl)
  have k273346 : H273336 m 6 = H m 6 := (f273341 m 6 _ gm rfl)
  refine wl_of hX hb cL_1523 (xc_V (pc' := 1526) (r := m) (as := []) (st := []) (lm_11_212) rfl rfl (Nat.le_of_ble_eq_true rfl) w273340 gm sh_42 (by decide) rfl (by decide) (s_291 w273340 gm (by omega)) (fun R273347 T273348 H273349 p273350 => ?_))
  obtain ⟨e273351, w273353, f273354, z273356, e273352, b273357, p273355⟩ := p273350
  subst e273351
  subst e273352
  show WL _ _ _ _ 1526 [(4, vI i), (3, .ref o), (2, .ref m), (1, .ref x), (0, .ref 0)] [vL z273356] _ H273349
  refine wl_of hX hb cL_1526 (rw_pop2 (pc' := 1527) rfl rfl ?_)
  refine wl_of hX hb cL_1527 (rw_goto (p1 := 1653) (by decide) ?_)
  have k273358 : H273349 x 9 = H273336 x 9 := (f273354 x 9 _ gx rfl)
  have k273359 : H273349 m 6 = H273336 m 6 := (f273354 m 6 _ gm rfl)
  have h273360 : XI T H273349 x m := (XI_fr w273340 gx f273354 rfl (XI_fr hW gx f273341 rfl hXI))
  exact WL.loc hX (by simp) (next T H273349 ⟨⟨w273353, g0, gx, gm, go, by omega, by omega⟩, h273360⟩ (by omega) (by omega))
set_option maxHeartbeats 4000000 in
theorem wl_c46 {kt : Nat → Option mc_E} {CB SB : Nat} {X : mc_S → Prop} {T : wq_T} {H : wq_H} {Len x m o : Nat} {i : Int} (hX : wlX kt CB SB X) (hb : T.2.1 ≤ CB ∧ T.2.2.1 ≤ SB) (hI : wlJ Len x m o T H) (hL : Len ≤ 3072) (hi : 0 ≤ i ∧ i + 6 ≤ Len) (hb2 : T.2.1 + 20 ≤ CB ∧ T.2.2.1 + 500 ≤ SB)  (next : ∀ T' H', wlJ Len x m o T' H' → T'.2.1 ≤ T.2.1 + 20 → T'.2.2.1 ≤ T.2.2.1 + 500 → WL kt CB SB X 1653 (wlL i x m o) [] T' H') : WL kt CB SB X 1530 (wlL i x m o) [] T H := by
  obtain ⟨⟨hW, g0, gx, gm, go, hK, hr⟩, hXI⟩ := hI
  refine wl_of hX hb cL_1530 (rw_aload_n (pc' := 1531) (v := .ref x) rfl rfl rfl ?_)
  refine wl_of hX hb cL_1531 (rw_aload_n (pc' := 1532) (v := .ref 0) rfl rfl rfl ?_)
  refine wl_of hX hb cL_1532 (rw_iload (pc' := 1534) (z := i) rfl rfl ?_)
  refine wl_of hX hb cL_1534 (rw_iconst (pc' := 1535) rfl ?_)
  refine wl_of hX hb cL_1535 (rw_iadd (pc' := 1536) rfl ?_)
  refine wl_of hX hb cL_1536 (xa_I (so := 0) (pc' := 1537) (a := 0) hW g0 (wsh_s _) (by omega) (wty_s _ _) (by omega) (by omega) rfl (fun b273361 b273362 => ?_))
  refine wl_of hX hb cL_1537 (rw_i2l (pc' := 1538) rfl ⟨by omega, by omega⟩ ?_)
  refine wl_of hX hb cL_1538 (rw_bipush (pc' := 1540) (z := 32) rfl (by decide) ?_)
  refine wl_of hX hb cL_1540 (rw_lshl (pc' := 1541) rfl ?_)
  obtain ⟨v273363, e273364⟩ : ∃ x : Int, x = wl_shl (H 0 ((i + 1).toNat)) 32 := ⟨_, rfl⟩
  rw [← e273364]
  have b273365 : -9223372036854775808 ≤ v273363 ∧ v273363 ≤ 9223372036854775807 := by
    rw [e273364]
    exact wL_shl _ _
  refine wl_of hX hb cL_1541 (rw_aload_n (pc' := 1542) (v := .ref 0) rfl rfl rfl ?_)
  refine wl_of hX hb cL_1542 (rw_iload (pc' := 1544) (z := i) rfl rfl ?_)
  refine wl_of hX hb cL_1544 (rw_iconst (pc' := 1545) rfl ?_)
  refine wl_of hX hb cL_1545 (rw_iadd (pc' := 1546) rfl ?_)
  refine wl_of hX hb cL_1546 (xa_I (so := 0) (pc' := 1547) (a := 0) hW g0 (wsh_s _) (by omega) (wty_s _ _) (by omega) (by omega) rfl (fun b273366 b273367 => ?_))
  refine wl_of hX hb cL_1547 (rw_i2l (pc' := 1548) rfl ⟨by omega, by omega⟩ ?_)
  refine wl_of hX hb cL_1548 (rw_ldc2 (pc' := 1551) (z := 4294967295) rfl rfl rfl ?_)
  refine wl_of hX hb cL_1551 (rw_land (pc' := 1552) rfl ?_)
  obtain ⟨v273368, e273369⟩ : ∃ x : Int, x = wl_and (H 0 ((i + 2).toNat)) 4294967295 := ⟨_, rfl⟩
  rw [← e273369]
  have b273370 : -9223372036854775808 ≤ v273368 ∧ v273368 ≤ 9223372036854775807 := by
    rw [e273369]
    exact wL_and _ _
  refine wl_of hX hb cL_1552 (rw_lor (pc' := 1553) rfl ?_)
  obtain ⟨v273371, e273372⟩ : ∃ x : Int, x = wl_or v273363 v273368 := ⟨_, rfl⟩
  rw [← e273372]
  have b273373 : -9223372036854775808 ≤ v273371 ∧ v273371 ≤ 9223372036854775807 := by
    rw [e273372]
    exact wL_or _ _
  refine wl_of hX hb cL_1553 (xc_V (pc' := 1556) (r := x) (as := [vL v273371]) (st := []) (lm_11_215) rfl rfl (Nat.le_of_ble_eq_true rfl) hW gx sh_1 (by decide) rfl (by decide) (s_161 hW gx ⟨by omega, by omega⟩) (fun R273374 T273375 H273376 p273377 => ?_))
  obtain ⟨e273378, w273380, f273381, z273382, e273379, b273383⟩ := p273377
  subst e273378
  subst e273379
  show WL _ _ _ _ 1556 [(4, vI i), (3, .ref o), (2, .ref m), (1, .ref x), (0, .ref 0)] [vI z273382] _ H273376
  refine wl_of hX hb cL_1556 (rw_pop (pc' := 1557) rfl rfl ?_)
  refine wl_of hX hb cL_1557 (rw_aload_n (pc' := 1558) (v := .ref m) rfl rfl rfl ?_)
  refine wl_of hX hb cL_1558 (rw_aload_n (pc' := 1559) (v := .ref 0) rfl rfl rfl ?_)
  refine wl_of hX hb cL_1559 (rw_iload (pc' := 1561) (z := i) rfl rfl ?_)
  refine wl_of hX hb cL_1561 (rw_iconst (pc' := 1562) rfl ?_)
  refine wl_of hX hb cL_1562 (rw_iadd (pc' := 1563) rfl ?_)
  have k273386 : H273376 0 ((i + 1).toNat) = H 0 ((i + 1).toNat) := (f273381 0 ((i + 1).toNat) _ g0 (wmem_s rfl))
  refine wl_of hX hb cL_1563 (xa_I (so := 0) (pc' := 1564) (a := 0) w273380 g0 (wsh_s _) (by omega) (wty_s _ _) (by omega) (by omega) rfl (fun b273384 b273385 => ?_))
  refine wl_of hX hb cL_1564 (rw_i2l (pc' := 1565) rfl ⟨by omega, by omega⟩ ?_)
  refine wl_of hX hb cL_1565 (rw_bipush (pc' := 1567) (z := 32) rfl (by decide) ?_)
  refine wl_of hX hb cL_1567 (rw_lshl (pc' := 1568) rfl ?_)
  obtain ⟨v273387, e273388⟩ : ∃ x : Int, x = wl_shl (H273376 0 ((i + 1).toNat)) 32 := ⟨_, rfl⟩
  rw [← e273388]
  have b273389 : -9223372036854775808 ≤ v273387 ∧ v273387 ≤ 9223372036854775807 := by
    rw [e273388]
    exact wL_shl _ _
  refine wl_of hX hb cL_1568 (rw_aload_n (pc' := 1569) (v := .ref 0) rfl rfl rfl ?_)
  refine wl_of hX hb cL_1569 (rw_iload (pc' := 1571) (z := i) rfl rfl ?_)
  refine wl_of hX hb cL_1571 (rw_iconst (pc' := 1572) rfl ?_)
  refine wl_of hX hb cL_1572 (rw_iadd (pc' := 1573) rfl ?_)
  have k273392 : H273376 0 ((i + 2).toNat) = H 0 ((i + 2).toNat) := (f273381 0 ((i + 2).toNat) _ g0 (wmem_s rfl))
  refine wl_of hX hb cL_1573 (xa_I (so := 0) (pc' := 1574) (a := 0) w273380 g0 (wsh_s _) (by omega) (wty_s _ _) (by omega) (by omega) rfl (fun b273390 b273391 => ?_))
  refine wl_of hX hb cL_1574 (rw_i2l (pc' := 1575) rfl ⟨by omega, by omega⟩ ?_)
  refine wl_of hX hb cL_1575 (rw_ldc2 (pc' := 1578) (z := 4294967295) rfl rfl rfl ?_)
  refine wl_of hX hb cL_1578 (rw_land (pc' := 1579) rfl ?_)
  obtain ⟨v273393, e273394⟩ : ∃ x : Int, x = wl_and (H273376 0 ((i + 2).toNat)) 4294967295 := ⟨_, rfl⟩
  rw [← e273394]
  have b273395 : -9223372036854775808 ≤ v273393 ∧ v273393 ≤ 9223372036854775807 := by
    rw [e273394]
    exact wL_and _ _
  refine wl_of hX hb cL_1579 (rw_lor (pc' := 1580) rfl ?_)
  obtain ⟨v273396, e273397⟩ : ∃ x : Int, x = wl_or v273387 v273393 := ⟨_, rfl⟩
  rw [← e273397]
  have b273398 : -9223372036854775808 ≤ v273396 ∧ v273396 ≤ 9223372036854775807 := by
    rw [e273397]
    exact wL_or _ _
  have k273399 : wKI H273376 m = wKI H m := (wKI_fr hW gm f273381 rfl)
  have k273400 : H273376 x 9 = H x 9 := (f273381 x 9 _ gx rfl)
  have k273401 : H273376 m 6 = H m 6 := (f273381 m 6 _ gm rfl)
  refine wl_of hX hb cL_1580 (xc_V (pc' := 1583) (r := m) (as := [vL v273396]) (st := []) (lm_11_219) rfl rfl (Nat.le_of_ble_eq_true rfl) w273380 gm sh_42 (by decide) rfl (by decide) (s_292 w273380 gm ⟨by omega, by omega⟩ (by omega)) (fun R273402 T273403 H273404 p273405 => ?_))
  obtain ⟨e273406, w273408, f273409, z273411, e273407, b273412, p273410⟩ := p273405
  subst e273406
  subst e273407
  show WL _ _ _ _ 1583 [(4, vI i), (3, .ref o), (2, .ref m), (1, .ref x), (0, .ref 0)] [vI z273411] _ H273404
  refine wl_of hX hb cL_1583 (rw_pop (pc' := 1584) rfl rfl ?_)
  refine wl_of hX hb cL_1584 (rw_goto (p1 := 1653) (by decide) ?_)
  have k273413 : H273404 x 9 = H273376 x 9 := (f273409 x 9 _ gx rfl)
  have k273414 : H273404 m 6 = H273376 m 6 := (f273409 m 6 _ gm rfl)
  have h273415 : XI T H273404 x m := (XI_fr w273380 gx f273409 rfl (XI_fr hW gx f273381 rfl hXI))
  exact WL.loc hX (by simp) (next T H273404 ⟨⟨w273408, g0, gx, gm, go, by omega, by omega⟩, h273415⟩ (by omega) (by omega))
set_option maxHeartbeats 4000000 in
theorem wl_c47 {kt : Nat → Option mc_E} {CB SB : Nat} {X : mc_S → Prop} {T : wq_T} {H : wq_H} {Len x m o : Nat} {i : Int} (hX : wlX kt CB SB X) (hb : T.2.1 ≤ CB ∧ T.2.2.1 ≤ SB) (hI : wlJ Len x m o T H) (hL : Len ≤ 3072) (hi : 0 ≤ i ∧ i + 6 ≤ Len) (hb2 : T.2.1 + 20 ≤ CB ∧ T.2.2.1 + 500 ≤ SB) (hled : ∀ {z : Int}, wI z → T.2.1 ≤ CB ∧ T.2.2.1 ≤ SB → wlJ Len x m o T H → (∀ (z' : Int), wI z' → ∀ (T' : wq_T) (H' : wq_H), wlJ Len x m o T' H' → T'.2.1 ≤ T.2.1 + 20 → T'.2.2.1 ≤ T.2.2.1 + 500 → WL kt CB SB X 1598 (wlL i x m o) [vI z'] T' H') → WL kt CB SB X 1595 (wlL i x m o) [.ref o, vI z, .ref x] T H) (next : ∀ T' H', wlJ Len x m o T' H' → T'.2.1 ≤ T.2.1 + 20 → T'.2.2.1 ≤ T.2.2.1 + 500 → WL kt CB SB X 1653 (wlL i x m o) [] T' H') : WL kt CB SB X 1587 (wlL i x m o) [] T H := by
  obtain ⟨⟨hW, g0, gx, gm, go, hK, hr⟩, hXI⟩ := hI
  refine wl_of hX hb cL_1587 (rw_aload_n (pc' := 1588) (v := .ref x) rfl rfl rfl ?_)
  refine wl_of hX hb cL_1588 (rw_aload_n (pc' := 1589) (v := .ref 0) rfl rfl rfl ?_)
  refine wl_of hX hb cL_1589 (rw_iload (pc' := 1591) (z := i) rfl rfl ?_)
  refine wl_of hX hb cL_1591 (rw_iconst (pc' := 1592) rfl ?_)
  refine wl_of hX hb cL_1592 (rw_iadd (pc' := 1593) rfl ?_)
  refine wl_of hX hb cL_1593 (xa_I (so := 0) (pc' := 1594) (a := 0) hW g0 (wsh_s _) (by omega) (wty_s _ _) (by omega) (by omega) rfl (fun b273416 b273417 => ?_))
  refine wl_of hX hb cL_1594 (rw_aload_n (pc' := 1595) (v := .ref o) rfl rfl rfl ?_)
  refine hled ⟨by omega, by omega⟩ hb ⟨⟨hW, g0, gx, gm, go, by omega, by omega⟩, hXI⟩ (fun z9 b9 T9 H9 hI9 n9 s9 => ?_)
  obtain ⟨⟨w9, g0, gx, gm, go, hK, hr⟩, hXI⟩ := hI9
  have hb : T9.2.1 ≤ CB ∧ T9.2.2.1 ≤ SB := ⟨by omega, by omega⟩
  refine wl_of hX hb cL_1598 (rw_istore (pc' := 1600) (z := z9) (L' := [(5, vI z9), (4, vI i), (3, .ref o), (2, .ref m), (1, .ref x), (0, .ref 0)]) rfl rfl rfl ?_)
  refine wl_of hX hb cL_1600 (rw_aload_n (pc' := 1601) (v := .ref m) rfl rfl rfl ?_)
  refine wl_of hX hb cL_1601 (rw_aload_n (pc' := 1602) (v := .ref 0) rfl rfl rfl ?_)
  refine wl_of hX hb cL_1602 (rw_iload (pc' := 1604) (z := i) rfl rfl ?_)
  refine wl_of hX hb cL_1604 (rw_iconst (pc' := 1605) rfl ?_)
  refine wl_of hX hb cL_1605 (rw_iadd (pc' := 1606) rfl ?_)
  refine wl_of hX hb cL_1606 (xa_I (so := 0) (pc' := 1607) (a := 0) w9 g0 (wsh_s _) (by omega) (wty_s _ _) (by omega) (by omega) rfl (fun b273418 b273419 => ?_))
  refine wl_of hX hb cL_1607 (xc_V (pc' := 1610) (r := m) (as := [vI (H9 0 ((i + 1).toNat))]) (st := []) (lm_11_225) rfl rfl (Nat.le_of_ble_eq_true rfl) w9 gm sh_42 (by decide) rfl (by decide) (s_293 w9 gm ⟨by omega, by omega⟩ (by omega)) (fun R273420 T273421 H273422 p273423 => ?_))
  obtain ⟨e273424, w273426, f273427, z273429, e273425, b273430, p273428⟩ := p273423
  subst e273424
  subst e273425
  show WL _ _ _ _ 1610 [(5, vI z9), (4, vI i), (3, .ref o), (2, .ref m), (1, .ref x), (0, .ref 0)] [vI z273429] _ H273422
  refine wl_of hX hb cL_1610 (rw_istore (pc' := 1612) (z := z273429) (L' := [(6, vI z273429), (5, vI z9), (4, vI i), (3, .ref o), (2, .ref m), (1, .ref x), (0, .ref 0)]) rfl rfl rfl ?_)
  refine wl_of hX hb cL_1612 (rw_goto (p1 := 1653) (by decide) ?_)
  have k273431 : H273422 x 9 = H9 x 9 := (f273427 x 9 _ gx rfl)
  have k273432 : H273422 m 6 = H9 m 6 := (f273427 m 6 _ gm rfl)
  have h273433 : XI T9 H273422 x m := (XI_fr w9 gx f273427 rfl hXI)
  exact WL.loc hX (by simp) (next T9 H273422 ⟨⟨w273426, g0, gx, gm, go, by omega, by omega⟩, h273433⟩ (by omega) (by omega))
set_option maxHeartbeats 4000000 in
theorem wl_c48 {kt : Nat → Option mc_E} {CB SB : Nat} {X : mc_S → Prop} {T : wq_T} {H : wq_H} {Len x m o : Nat} {i : Int} (hX : wlX kt CB SB X) (hb : T.2.1 ≤ CB ∧ T.2.2.1 ≤ SB) (hI : wlJ Len x m o T H) (hL : Len ≤ 3072) (hi : 0 ≤ i ∧ i + 6 ≤ Len) (hb2 : T.2.1 + 20 ≤ CB ∧ T.2.2.1 + 500 ≤ SB)  (next : ∀ T' H', wlJ Len x m o T' H' → T'.2.1 ≤ T.2.1 + 20 → T'.2.2.1 ≤ T.2.2.1 + 500 → WL kt CB SB X 1653 (wlL i x m o) [] T' H') : WL kt CB SB X 1615 (wlL i x m o) [] T H := by
  obtain ⟨⟨hW, g0, gx, gm, go, hK, hr⟩, hXI⟩ := hI
  refine wl_of hX hb cL_1615 (rw_aload_n (pc' := 1616) (v := .ref x) rfl rfl rfl ?_)
  refine wl_of hX hb cL_1616 (rw_aload_n (pc' := 1617) (v := .ref 0) rfl rfl rfl ?_)
  refine wl_of hX hb cL_1617 (rw_iload (pc' := 1619) (z := i) rfl rfl ?_)
  refine wl_of hX hb cL_1619 (rw_iconst (pc' := 1620) rfl ?_)
  refine wl_of hX hb cL_1620 (rw_iadd (pc' := 1621) rfl ?_)
  refine wl_of hX hb cL_1621 (xa_I (so := 0) (pc' := 1622) (a := 0) hW g0 (wsh_s _) (by omega) (wty_s _ _) (by omega) (by omega) rfl (fun b273434 b273435 => ?_))
  refine wl_of hX hb cL_1622 (xc_V (pc' := 1625) (r := x) (as := [vI (H 0 ((i + 1).toNat))]) (st := []) (lm_11_226) rfl rfl (Nat.le_of_ble_eq_true rfl) hW gx sh_1 (by decide) rfl (by decide) (s_164 hW gx ⟨by omega, by omega⟩) (fun R273436 T273437 H273438 p273439 => ?_))
  obtain ⟨e273440, e273442, z273443, e273441, b273444⟩ := p273439
  subst e273440
  subst e273441
  subst e273442
  show WL _ _ _ _ 1625 [(4, vI i), (3, .ref o), (2, .ref m), (1, .ref x), (0, .ref 0)] [vI z273443] _ H
  refine wl_of hX hb cL_1625 (rw_pop (pc' := 1626) rfl rfl ?_)
  refine wl_of hX hb cL_1626 (rw_aload_n (pc' := 1627) (v := .ref m) rfl rfl rfl ?_)
  refine wl_of hX hb cL_1627 (rw_aload_n (pc' := 1628) (v := .ref 0) rfl rfl rfl ?_)
  refine wl_of hX hb cL_1628 (rw_iload (pc' := 1630) (z := i) rfl rfl ?_)
  refine wl_of hX hb cL_1630 (rw_iconst (pc' := 1631) rfl ?_)
  refine wl_of hX hb cL_1631 (rw_iadd (pc' := 1632) rfl ?_)
  refine wl_of hX hb cL_1632 (xa_I (so := 0) (pc' := 1633) (a := 0) hW g0 (wsh_s _) (by omega) (wty_s _ _) (by omega) (by omega) rfl (fun b273445 b273446 => ?_))
  refine wl_of hX hb cL_1633 (xc_V (pc' := 1636) (r := m) (as := [vI (H 0 ((i + 1).toNat))]) (st := []) (lm_11_229) rfl rfl (Nat.le_of_ble_eq_true rfl) hW gm sh_42 (by decide) rfl (by decide) (s_294 hW gm ⟨by omega, by omega⟩ (by omega)) (fun R273447 T273448 H273449 p273450 => ?_))
  obtain ⟨e273451, w273453, f273454, z273456, e273452, b273457, p273455⟩ := p273450
  subst e273451
  subst e273452
  show WL _ _ _ _ 1636 [(4, vI i), (3, .ref o), (2, .ref m), (1, .ref x), (0, .ref 0)] [vI z273456] _ H273449
  refine wl_of hX hb cL_1636 (rw_pop (pc' := 1637) rfl rfl ?_)
  refine wl_of hX hb cL_1637 (rw_goto (p1 := 1653) (by decide) ?_)
  have k273458 : H273449 x 9 = H x 9 := (f273454 x 9 _ gx rfl)
  have k273459 : H273449 m 6 = H m 6 := (f273454 m 6 _ gm rfl)
  have h273460 : XI T H273449 x m := (XI_fr hW gx f273454 rfl hXI)
  exact WL.loc hX (by simp) (next T H273449 ⟨⟨w273453, g0, gx, gm, go, by omega, by omega⟩, h273460⟩ (by omega) (by omega))
set_option maxHeartbeats 4000000 in
theorem wl_c49 {kt : Nat → Option mc_E} {CB SB : Nat} {X : mc_S → Prop} {T : wq_T} {H : wq_H} {Len x m o : Nat} {i : Int} (hX : wlX kt CB SB X) (hb : T.2.1 ≤ CB ∧ T.2.2.1 ≤ SB) (hI : wlJ Len x m o T H) (hL : Len ≤ 3072) (hi : 0 ≤ i ∧ i + 6 ≤ Len) (hb2 : T.2.1 + 20 ≤ CB ∧ T.2.2.1 + 500 ≤ SB)  (next : ∀ T' H', wlJ Len x m o T' H' → T'.2.1 ≤ T.2.1 + 20 → T'.2.2.1 ≤ T.2.2.1 + 500 → WL kt CB SB X 1653 (wlL i x m o) [] T' H') : WL kt CB SB X 1640 (wlL i x m o) [] T H := by
  obtain ⟨⟨hW, g0, gx, gm, go, hK, hr⟩, hXI⟩ := hI
  refine wl_of hX hb cL_1640 (rw_aload_n (pc' := 1641) (v := .ref x) rfl rfl rfl ?_)
  refine wl_of hX hb cL_1641 (xc_V (pc' := 1644) (r := x) (as := []) (st := []) (lm_11_230) rfl rfl (Nat.le_of_ble_eq_true rfl) hW gx sh_1 (by decide) rfl (by decide) (s_165 hW gx) (fun R273461 T273462 H273463 p273464 => ?_))
  obtain ⟨e273465, e273467, z273468, e273466, b273469⟩ := p273464
  subst e273465
  subst e273466
  subst e273467
  show WL _ _ _ _ 1644 [(4, vI i), (3, .ref o), (2, .ref m), (1, .ref x), (0, .ref 0)] [vI z273468] _ H
  refine wl_of hX hb cL_1644 (rw_pop (pc' := 1645) rfl rfl ?_)
  refine wl_of hX hb cL_1645 (rw_aload_n (pc' := 1646) (v := .ref m) rfl rfl rfl ?_)
  refine wl_of hX hb cL_1646 (xc_V (pc' := 1649) (r := m) (as := []) (st := []) (lm_11_233) rfl rfl (Nat.le_of_ble_eq_true rfl) hW gm sh_42 (by decide) rfl (by decide) (s_295 hW gm (by omega)) (fun R273470 T273471 H273472 p273473 => ?_))
  obtain ⟨e273474, w273476, f273477, z273479, e273475, b273480, p273478⟩ := p273473
  subst e273474
  subst e273475
  show WL _ _ _ _ 1649 [(4, vI i), (3, .ref o), (2, .ref m), (1, .ref x), (0, .ref 0)] [vI z273479] _ H273472
  refine wl_of hX hb cL_1649 (rw_pop (pc' := 1650) rfl rfl ?_)
  refine wl_of hX hb cL_1650 (rw_goto (p1 := 1653) (by decide) ?_)
  have k273481 : H273472 x 9 = H x 9 := (f273477 x 9 _ gx rfl)
  have k273482 : H273472 m 6 = H m 6 := (f273477 m 6 _ gm rfl)
  have h273483 : XI T H273472 x m := (XI_fr hW gx f273477 rfl hXI)
  exact WL.loc hX (by simp) (next T H273472 ⟨⟨w273476, g0, gx, gm, go, by omega, by omega⟩, h273483⟩ (by omega) (by omega))
set_option maxHeartbeats 4000000 in
theorem wl_head {kt : Nat → Option mc_E} {CB SB : Nat} {X : mc_S → Prop} {T : wq_T} {H : wq_H} {Len x m o : Nat} {i : Int} (hX : wlX kt CB SB X) (hb : T.2.1 ≤ CB ∧ T.2.2.1 ≤ SB) (hI : wlJ Len x m o T H) (hL : Len ≤ 3072) (hi : 0 ≤ i ∧ i ≤ Len) (cases : ∀ t, t ∈ [256, 329, 354, 367, 380, 405, 454, 503, 516, 553, 578, 603, 616, 629, 642, 655, 668, 705, 718, 755, 792, 829, 882, 919, 944, 957, 994, 1019, 1056, 1109, 1162, 1175, 1200, 1225, 1250, 1263, 1316, 1329, 1342, 1367, 1404, 1429, 1454, 1467, 1504, 1517, 1530, 1587, 1615, 1640] → i + 6 ≤ Len → WL kt CB SB X t (wlL i x m o) [] T H) (next : i + 6 ≤ Len → WL kt CB SB X 1653 (wlL i x m o) [] T H) : WL kt CB SB X 23 (wlL i x m o) [] T H := by
  obtain ⟨⟨hW, g0, gx, gm, go, hK, hr⟩, hXI⟩ := hI
  refine wl_of hX hb cL_23 (rw_iload (pc' := 25) (z := i) rfl rfl ?_)
  refine wl_of hX hb cL_25 (rw_aload_n (pc' := 26) (v := .ref 0) rfl rfl rfl ?_)
  refine wl_of hX hb cL_26 (xa_N (pc' := 27) (a := 0) (n := Len) hW g0 (wsh_s _) (by decide) rfl ?_)
  refine wl_of hX hb cL_27 (rw_bipush (pc' := 29) (z := 6) rfl (by decide) ?_)
  refine wl_of hX hb cL_29 (rw_isub (pc' := 30) rfl ?_)
  refine wl_of hX hb cL_30 (rw_icmp_gt (p1 := 1659) (p2 := 33) (by decide) rfl ⟨by omega, by omega⟩ ⟨by omega, by omega⟩ (fun c273484 => ?_) (fun c273484 => ?_))
  · refine wl_of hX hb cL_1659 (rw_iconst (pc' := 1660) rfl ?_)
    exact WL.fin hX hb
  · refine wl_of hX hb cL_33 (rw_aload_n (pc' := 34) (v := .ref 0) rfl rfl rfl ?_)
    refine wl_of hX hb cL_34 (rw_iload (pc' := 36) (z := i) rfl rfl ?_)
    refine wl_of hX hb cL_36 (xa_I (so := 0) (pc' := 37) (a := 0) hW g0 (wsh_s _) (by omega) (wty_s _ _) (by omega) (by omega) rfl (fun b273485 b273486 => ?_))
    refine wl_of hX hb cL_37 (rw_bipush (pc' := 39) (z := 63) rfl (by decide) ?_)
    refine wl_of hX hb cL_39 (rw_iand (pc' := 40) rfl ?_)
    obtain ⟨v273487, e273488⟩ : ∃ x : Int, x = wq_and (H 0 (i.toNat)) 63 := ⟨_, rfl⟩
    rw [← e273488]
    have b273489 : 0 ≤ v273487 ∧ v273487 ≤ 63 := by
      rw [e273488]
      exact wq_and_b _ (by omega) (by omega)
    have c273490 : v273487 = 0 ∨ v273487 = 1 ∨ v273487 = 2 ∨ v273487 = 3 ∨ v273487 = 4 ∨ v273487 = 5 ∨ v273487 = 6 ∨ v273487 = 7 ∨ v273487 = 8 ∨ v273487 = 9 ∨ v273487 = 10 ∨ v273487 = 11 ∨ v273487 = 12 ∨ v273487 = 13 ∨ v273487 = 14 ∨ v273487 = 15 ∨ v273487 = 16 ∨ v273487 = 17 ∨ v273487 = 18 ∨ v273487 = 19 ∨ v273487 = 20 ∨ v273487 = 21 ∨ v273487 = 22 ∨ v273487 = 23 ∨ v273487 = 24 ∨ v273487 = 25 ∨ v273487 = 26 ∨ v273487 = 27 ∨ v273487 = 28 ∨ v273487 = 29 ∨ v273487 = 30 ∨ v273487 = 31 ∨ v273487 = 32 ∨ v273487 = 33 ∨ v273487 = 34 ∨ v273487 = 35 ∨ v273487 = 36 ∨ v273487 = 37 ∨ v273487 = 38 ∨ v273487 = 39 ∨ v273487 = 40 ∨ v273487 = 41 ∨ v273487 = 42 ∨ v273487 = 43 ∨ v273487 = 44 ∨ v273487 = 45 ∨ v273487 = 46 ∨ v273487 = 47 ∨ v273487 = 48 ∨ v273487 = 49 ∨ (v273487 < 0 ∨ 49 < v273487) := by omega
    rcases c273490 with c273490 | c273490 | c273490 | c273490 | c273490 | c273490 | c273490 | c273490 | c273490 | c273490 | c273490 | c273490 | c273490 | c273490 | c273490 | c273490 | c273490 | c273490 | c273490 | c273490 | c273490 | c273490 | c273490 | c273490 | c273490 | c273490 | c273490 | c273490 | c273490 | c273490 | c273490 | c273490 | c273490 | c273490 | c273490 | c273490 | c273490 | c273490 | c273490 | c273490 | c273490 | c273490 | c273490 | c273490 | c273490 | c273490 | c273490 | c273490 | c273490 | c273490 | c273490
    · refine wl_of hX hb cL_40 (rw_tsw (p1 := 256) ⟨by omega, by omega⟩ (by rw [c273490]; decide) ?_)
      exact cases 256 (by decide) (by omega)
    · refine wl_of hX hb cL_40 (rw_tsw (p1 := 329) ⟨by omega, by omega⟩ (by rw [c273490]; decide) ?_)
      exact cases 329 (by decide) (by omega)
    · refine wl_of hX hb cL_40 (rw_tsw (p1 := 354) ⟨by omega, by omega⟩ (by rw [c273490]; decide) ?_)
      exact cases 354 (by decide) (by omega)
    · refine wl_of hX hb cL_40 (rw_tsw (p1 := 367) ⟨by omega, by omega⟩ (by rw [c273490]; decide) ?_)
      exact cases 367 (by decide) (by omega)
    · refine wl_of hX hb cL_40 (rw_tsw (p1 := 380) ⟨by omega, by omega⟩ (by rw [c273490]; decide) ?_)
      exact cases 380 (by decide) (by omega)
    · refine wl_of hX hb cL_40 (rw_tsw (p1 := 405) ⟨by omega, by omega⟩ (by rw [c273490]; decide) ?_)
      exact cases 405 (by decide) (by omega)
    · refine wl_of hX hb cL_40 (rw_tsw (p1 := 454) ⟨by omega, by omega⟩ (by rw [c273490]; decide) ?_)
      exact cases 454 (by decide) (by omega)
    · refine wl_of hX hb cL_40 (rw_tsw (p1 := 503) ⟨by omega, by omega⟩ (by rw [c273490]; decide) ?_)
      exact cases 503 (by decide) (by omega)
    · refine wl_of hX hb cL_40 (rw_tsw (p1 := 516) ⟨by omega, by omega⟩ (by rw [c273490]; decide) ?_)
      exact cases 516 (by decide) (by omega)
    · refine wl_of hX hb cL_40 (rw_tsw (p1 := 553) ⟨by omega, by omega⟩ (by rw [c273490]; decide) ?_)
      exact cases 553 (by decide) (by omega)
    · refine wl_of hX hb cL_40 (rw_tsw (p1 := 578) ⟨by omega, by omega⟩ (by rw [c273490]; decide) ?_)
      exact cases 578 (by decide) (by omega)
    · refine wl_of hX hb cL_40 (rw_tsw (p1 := 603) ⟨by omega, by omega⟩ (by rw [c273490]; decide) ?_)
      exact cases 603 (by decide) (by omega)
    · refine wl_of hX hb cL_40 (rw_tsw (p1 := 616) ⟨by omega, by omega⟩ (by rw [c273490]; decide) ?_)
      exact cases 616 (by decide) (by omega)
    · refine wl_of hX hb cL_40 (rw_tsw (p1 := 629) ⟨by omega, by omega⟩ (by rw [c273490]; decide) ?_)
      exact cases 629 (by decide) (by omega)
    · refine wl_of hX hb cL_40 (rw_tsw (p1 := 642) ⟨by omega, by omega⟩ (by rw [c273490]; decide) ?_)
      exact cases 642 (by decide) (by omega)
    · refine wl_of hX hb cL_40 (rw_tsw (p1 := 655) ⟨by omega, by omega⟩ (by rw [c273490]; decide) ?_)
      exact cases 655 (by decide) (by omega)
    · refine wl_of hX hb cL_40 (rw_tsw (p1 := 668) ⟨by omega, by omega⟩ (by rw [c273490]; decide) ?_)
      exact cases 668 (by decide) (by omega)
    · refine wl_of hX hb cL_40 (rw_tsw (p1 := 705) ⟨by omega, by omega⟩ (by rw [c273490]; decide) ?_)
      exact cases 705 (by decide) (by omega)
    · refine wl_of hX hb cL_40 (rw_tsw (p1 := 718) ⟨by omega, by omega⟩ (by rw [c273490]; decide) ?_)
      exact cases 718 (by decide) (by omega)
    · refine wl_of hX hb cL_40 (rw_tsw (p1 := 755) ⟨by omega, by omega⟩ (by rw [c273490]; decide) ?_)
      exact cases 755 (by decide) (by omega)
    · refine wl_of hX hb cL_40 (rw_tsw (p1 := 792) ⟨by omega, by omega⟩ (by rw [c273490]; decide) ?_)
      exact cases 792 (by decide) (by omega)
    · refine wl_of hX hb cL_40 (rw_tsw (p1 := 829) ⟨by omega, by omega⟩ (by rw [c273490]; decide) ?_)
      exact cases 829 (by decide) (by omega)
    · refine wl_of hX hb cL_40 (rw_tsw (p1 := 882) ⟨by omega, by omega⟩ (by rw [c273490]; decide) ?_)
      exact cases 882 (by decide) (by omega)
    · refine wl_of hX hb cL_40 (rw_tsw (p1 := 919) ⟨by omega, by omega⟩ (by rw [c273490]; decide) ?_)
      exact cases 919 (by decide) (by omega)
    · refine wl_of hX hb cL_40 (rw_tsw (p1 := 944) ⟨by omega, by omega⟩ (by rw [c273490]; decide) ?_)
      exact cases 944 (by decide) (by omega)
    · refine wl_of hX hb cL_40 (rw_tsw (p1 := 957) ⟨by omega, by omega⟩ (by rw [c273490]; decide) ?_)
      exact cases 957 (by decide) (by omega)
    · refine wl_of hX hb cL_40 (rw_tsw (p1 := 994) ⟨by omega, by omega⟩ (by rw [c273490]; decide) ?_)
      exact cases 994 (by decide) (by omega)
    · refine wl_of hX hb cL_40 (rw_tsw (p1 := 1019) ⟨by omega, by omega⟩ (by rw [c273490]; decide) ?_)
      exact cases 1019 (by decide) (by omega)
    · refine wl_of hX hb cL_40 (rw_tsw (p1 := 1056) ⟨by omega, by omega⟩ (by rw [c273490]; decide) ?_)
      exact cases 1056 (by decide) (by omega)
    · refine wl_of hX hb cL_40 (rw_tsw (p1 := 1109) ⟨by omega, by omega⟩ (by rw [c273490]; decide) ?_)
      exact cases 1109 (by decide) (by omega)
    · refine wl_of hX hb cL_40 (rw_tsw (p1 := 1162) ⟨by omega, by omega⟩ (by rw [c273490]; decide) ?_)
      exact cases 1162 (by decide) (by omega)
    · refine wl_of hX hb cL_40 (rw_tsw (p1 := 1175) ⟨by omega, by omega⟩ (by rw [c273490]; decide) ?_)
      exact cases 1175 (by decide) (by omega)
    · refine wl_of hX hb cL_40 (rw_tsw (p1 := 1200) ⟨by omega, by omega⟩ (by rw [c273490]; decide) ?_)
      exact cases 1200 (by decide) (by omega)
    · refine wl_of hX hb cL_40 (rw_tsw (p1 := 1225) ⟨by omega, by omega⟩ (by rw [c273490]; decide) ?_)
      exact cases 1225 (by decide) (by omega)
    · refine wl_of hX hb cL_40 (rw_tsw (p1 := 1250) ⟨by omega, by omega⟩ (by rw [c273490]; decide) ?_)
      exact cases 1250 (by decide) (by omega)
    · refine wl_of hX hb cL_40 (rw_tsw (p1 := 1263) ⟨by omega, by omega⟩ (by rw [c273490]; decide) ?_)
      exact cases 1263 (by decide) (by omega)
    · refine wl_of hX hb cL_40 (rw_tsw (p1 := 1316) ⟨by omega, by omega⟩ (by rw [c273490]; decide) ?_)
      exact cases 1316 (by decide) (by omega)
    · refine wl_of hX hb cL_40 (rw_tsw (p1 := 1329) ⟨by omega, by omega⟩ (by rw [c273490]; decide) ?_)
      exact cases 1329 (by decide) (by omega)
    · refine wl_of hX hb cL_40 (rw_tsw (p1 := 1342) ⟨by omega, by omega⟩ (by rw [c273490]; decide) ?_)
      exact cases 1342 (by decide) (by omega)
    · refine wl_of hX hb cL_40 (rw_tsw (p1 := 1367) ⟨by omega, by omega⟩ (by rw [c273490]; decide) ?_)
      exact cases 1367 (by decide) (by omega)
    · refine wl_of hX hb cL_40 (rw_tsw (p1 := 1404) ⟨by omega, by omega⟩ (by rw [c273490]; decide) ?_)
      exact cases 1404 (by decide) (by omega)
    · refine wl_of hX hb cL_40 (rw_tsw (p1 := 1429) ⟨by omega, by omega⟩ (by rw [c273490]; decide) ?_)
      exact cases 1429 (by decide) (by omega)
    · refine wl_of hX hb cL_40 (rw_tsw (p1 := 1454) ⟨by omega, by omega⟩ (by rw [c273490]; decide) ?_)
      exact cases 1454 (by decide) (by omega)
    · refine wl_of hX hb cL_40 (rw_tsw (p1 := 1467) ⟨by omega, by omega⟩ (by rw [c273490]; decide) ?_)
      exact cases 1467 (by decide) (by omega)
    · refine wl_of hX hb cL_40 (rw_tsw (p1 := 1504) ⟨by omega, by omega⟩ (by rw [c273490]; decide) ?_)
      exact cases 1504 (by decide) (by omega)
    · refine wl_of hX hb cL_40 (rw_tsw (p1 := 1517) ⟨by omega, by omega⟩ (by rw [c273490]; decide) ?_)
      exact cases 1517 (by decide) (by omega)
    · refine wl_of hX hb cL_40 (rw_tsw (p1 := 1530) ⟨by omega, by omega⟩ (by rw [c273490]; decide) ?_)
      exact cases 1530 (by decide) (by omega)
    · refine wl_of hX hb cL_40 (rw_tsw (p1 := 1587) ⟨by omega, by omega⟩ (by rw [c273490]; decide) ?_)
      exact cases 1587 (by decide) (by omega)
    · refine wl_of hX hb cL_40 (rw_tsw (p1 := 1615) ⟨by omega, by omega⟩ (by rw [c273490]; decide) ?_)
      exact cases 1615 (by decide) (by omega)
    · refine wl_of hX hb cL_40 (rw_tsw (p1 := 1640) ⟨by omega, by omega⟩ (by rw [c273490]; decide) ?_)
      exact cases 1640 (by decide) (by omega)
    · refine wl_of hX hb cL_40 (rw_tsw (p1 := 1653) ⟨by omega, by omega⟩ (by rw [if_pos c273490]; decide) ?_)
      exact next (by omega)
theorem wl_back {kt : Nat → Option mc_E} {CB SB : Nat} {X : mc_S → Prop} {T : wq_T} {H : wq_H} {Len x m o : Nat} {i : Int} (hX : wlX kt CB SB X) (hb : T.2.1 ≤ CB ∧ T.2.2.1 ≤ SB) (hI : wlJ Len x m o T H) (hL : Len ≤ 3072) (hi : 0 ≤ i ∧ i + 6 ≤ Len) (next : WL kt CB SB X 23 (wlL (i + 6) x m o) [] T H) : WL kt CB SB X 1653 (wlL i x m o) [] T H := by
  obtain ⟨⟨hW, g0, gx, gm, go, hK, hr⟩, hXI⟩ := hI
  refine wl_of hX hb cL_1653 (rw_iinc (pc' := 1656) (z := i) (L' := [(4, vI (i + 6)), (3, .ref o), (2, .ref m), (1, .ref x), (0, .ref 0)]) rfl rfl rfl rfl ?_)
  refine wl_of hX hb cL_1656 (rw_goto (p1 := 23) (by decide) ?_)
  exact next
/-- the call that may throw, as the loop wants it -/
def wlLed (kt : Nat → Option mc_E) (CB SB : Nat) (X : mc_S → Prop) (Len x m o : Nat) : Prop := ∀ (T : wq_T) (H : wq_H) (i z : Int), T.2.1 + 20 ≤ CB ∧ T.2.2.1 + 500 ≤ SB → wI z → wlJ Len x m o T H → (∀ (z' : Int), wI z' → ∀ (T' : wq_T) (H' : wq_H), wlJ Len x m o T' H' → T'.2.1 ≤ T.2.1 + 20 → T'.2.2.1 ≤ T.2.2.1 + 500 → WL kt CB SB X 1598 (wlL i x m o) [vI z'] T' H') → WL kt CB SB X 1595 (wlL i x m o) [.ref o, vI z, .ref x] T H
set_option maxRecDepth 40000 in
theorem wl_loopL {kt : Nat → Option mc_E} {CB SB : Nat} {X : mc_S → Prop} {Len x m o : Nat} (hX : wlX kt CB SB X) (hL : Len ≤ 3072) (hled : wlLed kt CB SB X Len x m o) : ∀ (n : Nat) (T : wq_T) (H : wq_H) (i : Int), 0 ≤ i ∧ i ≤ Len → (Len - i).toNat = n → T.2.1 + 4 * (n + 6) ≤ CB → T.2.2.1 + 100 * (n + 6) ≤ SB → wlJ Len x m o T H → WL kt CB SB X 23 (wlL i x m o) [] T H := by
  intro n
  induction n using Nat.strongRecOn with
  | _ n ih =>
    intro T H i hi hn hc hs hI
    have hb : T.2.1 ≤ CB ∧ T.2.2.1 ≤ SB := ⟨by omega, by omega⟩
    have hb2 : T.2.1 + 20 ≤ CB ∧ T.2.2.1 + 500 ≤ SB := ⟨by omega, by omega⟩
    refine wl_head hX hb hI hL hi (fun t ht h6 => ?_) (fun h6 => wl_back hX hb hI hL ⟨hi.1, h6⟩ (ih (Len - (i + 6)).toNat (by omega) T H (i + 6) ⟨by omega, by omega⟩ rfl (by omega) (by omega) hI))
    have next : ∀ T' H', wlJ Len x m o T' H' → T'.2.1 ≤ T.2.1 + 20 → T'.2.2.1 ≤ T.2.2.1 + 500 → WL kt CB SB X 1653 (wlL i x m o) [] T' H' := fun T' H' hI' h1 h2 => wl_back hX ⟨by omega, by omega⟩ hI' hL ⟨hi.1, h6⟩ (ih (Len - (i + 6)).toNat (by omega) T' H' (i + 6) ⟨by omega, by omega⟩ rfl (by omega) (by omega) hI')
    rcases List.mem_cons.mp ht with rfl | ht
    · exact wl_c0 hX hb hI hL ⟨hi.1, h6⟩ hb2 next
    rcases List.mem_cons.mp ht with rfl | ht
    · exact wl_c1 hX hb hI hL ⟨hi.1, h6⟩ hb2 next
    rcases List.mem_cons.mp ht with rfl | ht
    · exact wl_c2 hX hb hI hL ⟨hi.1, h6⟩ hb2 next
    rcases List.mem_cons.mp ht with rfl | ht
    · exact wl_c3 hX hb hI hL ⟨hi.1, h6⟩ hb2 next
    rcases List.mem_cons.mp ht with rfl | ht
    · exact wl_c4 hX hb hI hL ⟨hi.1, h6⟩ hb2 next
    rcases List.mem_cons.mp ht with rfl | ht
    · exact wl_c5 hX hb hI hL ⟨hi.1, h6⟩ hb2 next
    rcases List.mem_cons.mp ht with rfl | ht
    · exact wl_c6 hX hb hI hL ⟨hi.1, h6⟩ hb2 next
    rcases List.mem_cons.mp ht with rfl | ht
    · exact wl_c7 hX hb hI hL ⟨hi.1, h6⟩ hb2 next
    rcases List.mem_cons.mp ht with rfl | ht
    · exact wl_c8 hX hb hI hL ⟨hi.1, h6⟩ hb2 next
    rcases List.mem_cons.mp ht with rfl | ht
    · exact wl_c9 hX hb hI hL ⟨hi.1, h6⟩ hb2 next
    rcases List.mem_cons.mp ht with rfl | ht
    · exact wl_c10 hX hb hI hL ⟨hi.1, h6⟩ hb2 next
    rcases List.mem_cons.mp ht with rfl | ht
    · exact wl_c11 hX hb hI hL ⟨hi.1, h6⟩ hb2 next
    rcases List.mem_cons.mp ht with rfl | ht
    · exact wl_c12 hX hb hI hL ⟨hi.1, h6⟩ hb2 next
    rcases List.mem_cons.mp ht with rfl | ht
    · exact wl_c13 hX hb hI hL ⟨hi.1, h6⟩ hb2 next
    rcases List.mem_cons.mp ht with rfl | ht
    · exact wl_c14 hX hb hI hL ⟨hi.1, h6⟩ hb2 next
    rcases List.mem_cons.mp ht with rfl | ht
    · exact wl_c15 hX hb hI hL ⟨hi.1, h6⟩ hb2 next
    rcases List.mem_cons.mp ht with rfl | ht
    · exact wl_c16 hX hb hI hL ⟨hi.1, h6⟩ hb2 next
    rcases List.mem_cons.mp ht with rfl | ht
    · exact wl_c17 hX hb hI hL ⟨hi.1, h6⟩ hb2 next
    rcases List.mem_cons.mp ht with rfl | ht
    · exact wl_c18 hX hb hI hL ⟨hi.1, h6⟩ hb2 next
    rcases List.mem_cons.mp ht with rfl | ht
    · exact wl_c19 hX hb hI hL ⟨hi.1, h6⟩ hb2 next
    rcases List.mem_cons.mp ht with rfl | ht
    · exact wl_c20 hX hb hI hL ⟨hi.1, h6⟩ hb2 next
    rcases List.mem_cons.mp ht with rfl | ht
    · exact wl_c21 hX hb hI hL ⟨hi.1, h6⟩ hb2 next
    rcases List.mem_cons.mp ht with rfl | ht
    · exact wl_c22 hX hb hI hL ⟨hi.1, h6⟩ hb2 next
    rcases List.mem_cons.mp ht with rfl | ht
    · exact wl_c23 hX hb hI hL ⟨hi.1, h6⟩ hb2 next
    rcases List.mem_cons.mp ht with rfl | ht
    · exact wl_c24 hX hb hI hL ⟨hi.1, h6⟩ hb2 next
    rcases List.mem_cons.mp ht with rfl | ht
    · exact wl_c25 hX hb hI hL ⟨hi.1, h6⟩ hb2 next
    rcases List.mem_cons.mp ht with rfl | ht
    · exact wl_c26 hX hb hI hL ⟨hi.1, h6⟩ hb2 next
    rcases List.mem_cons.mp ht with rfl | ht
    · exact wl_c27 hX hb hI hL ⟨hi.1, h6⟩ hb2 next
    rcases List.mem_cons.mp ht with rfl | ht
    · exact wl_c28 hX hb hI hL ⟨hi.1, h6⟩ hb2 next
    rcases List.mem_cons.mp ht with rfl | ht
    · exact wl_c29 hX hb hI hL ⟨hi.1, h6⟩ hb2 next
    rcases List.mem_cons.mp ht with rfl | ht
    · exact wl_c30 hX hb hI hL ⟨hi.1, h6⟩ hb2 next
    rcases List.mem_cons.mp ht with rfl | ht
    · exact wl_c31 hX hb hI hL ⟨hi.1, h6⟩ hb2 next
    rcases List.mem_cons.mp ht with rfl | ht
    · exact wl_c32 hX hb hI hL ⟨hi.1, h6⟩ hb2 next
    rcases List.mem_cons.mp ht with rfl | ht
    · exact wl_c33 hX hb hI hL ⟨hi.1, h6⟩ hb2 next
    rcases List.mem_cons.mp ht with rfl | ht
    · exact wl_c34 hX hb hI hL ⟨hi.1, h6⟩ hb2 next
    rcases List.mem_cons.mp ht with rfl | ht
    · exact wl_c35 hX hb hI hL ⟨hi.1, h6⟩ hb2 next
    rcases List.mem_cons.mp ht with rfl | ht
    · exact wl_c36 hX hb hI hL ⟨hi.1, h6⟩ hb2 next
    rcases List.mem_cons.mp ht with rfl | ht
    · exact wl_c37 hX hb hI hL ⟨hi.1, h6⟩ hb2 next
    rcases List.mem_cons.mp ht with rfl | ht
    · exact wl_c38 hX hb hI hL ⟨hi.1, h6⟩ hb2 next
    rcases List.mem_cons.mp ht with rfl | ht
    · exact wl_c39 hX hb hI hL ⟨hi.1, h6⟩ hb2 next
    rcases List.mem_cons.mp ht with rfl | ht
    · exact wl_c40 hX hb hI hL ⟨hi.1, h6⟩ hb2 next
    rcases List.mem_cons.mp ht with rfl | ht
    · exact wl_c41 hX hb hI hL ⟨hi.1, h6⟩ hb2 next
    rcases List.mem_cons.mp ht with rfl | ht
    · exact wl_c42 hX hb hI hL ⟨hi.1, h6⟩ hb2 next
    rcases List.mem_cons.mp ht with rfl | ht
    · exact wl_c43 hX hb hI hL ⟨hi.1, h6⟩ hb2 next
    rcases List.mem_cons.mp ht with rfl | ht
    · exact wl_c44 hX hb hI hL ⟨hi.1, h6⟩ hb2 next
    rcases List.mem_cons.mp ht with rfl | ht
    · exact wl_c45 hX hb hI hL ⟨hi.1, h6⟩ hb2 next
    rcases List.mem_cons.mp ht with rfl | ht
    · exact wl_c46 hX hb hI hL ⟨hi.1, h6⟩ hb2 next
    rcases List.mem_cons.mp ht with rfl | ht
    · exact wl_c47 hX hb hI hL ⟨hi.1, h6⟩ hb2 (fun hz _ hI2 k => hled T H i _ hb2 hz hI2 k) next
    rcases List.mem_cons.mp ht with rfl | ht
    · exact wl_c48 hX hb hI hL ⟨hi.1, h6⟩ hb2 next
    rcases List.mem_cons.mp ht with rfl | ht
    · exact wl_c49 hX hb hI hL ⟨hi.1, h6⟩ hb2 next
    cases ht
