/-! THE LAW'S LOOP OVER PURE MEMORY (own work): X is any property of states that one instruction carries backwards; WL: from this place on it is good -/
def wlX (kt : Nat → Option mc_E) (CB SB : Nat) (X : mc_S → Prop) : Prop :=
  (∀ (F : Nat) (x : Instr) (n : Nat) (S0 S : mc_S), mc_lawcd S0.1 = some (x, n) → mc_step kt (mc_call kt F 11) 11 7 false (some .boolean) x n S0 = some (.inl S) → S.2.2.2.length ≤ CB ∧ mc_sz S.2.2.2 ≤ SB → X S → X S0) ∧
  (∀ (pc : Nat) (L L' : List (Nat × Value)) (st : List Value) (M : mc_M), (∀ q ∈ L, q ∈ L') → X (pc, L, st, M) → X (pc, L', st, M)) ∧
  ∀ (L : List (Nat × Value)) (M : mc_M), M.length ≤ CB → mc_sz M ≤ SB → X (1660, L, [.int 1], M)
theorem wmem_s {l : List (Nat × Nat)} {n j : Nat} (h : l.all (fun q => decide (q.1 < 1000)) = true) : wmem l (1000 + n) j = false := wmem_no (fun q hq hh => by
  have h1 := of_decide_eq_true (List.all_eq_true.mp h q hq)
  have h2 := hh.1
  omega)
def WL (kt : Nat → Option mc_E) (CB SB : Nat) (X : mc_S → Prop) (pc : Nat) (L : List (Nat × Value)) (st : List Value) (T : wq_T) (H : wq_H) : Prop := (T.2.1 ≤ CB ∧ T.2.2.1 ≤ SB) ∧ ∀ M, wq_R kt M T H → X (pc, L, st, M)
theorem wl_of {kt : Nat → Option mc_E} {CB SB : Nat} {X : mc_S → Prop} (hX : wlX kt CB SB X) {pc : Nat} {L : List (Nat × Value)} {st : List Value} {T : wq_T} {H : wq_H} (hb : T.2.1 ≤ CB ∧ T.2.2.1 ≤ SB) {x : Instr} {n : Nat} (hd : mc_lawcd pc = some (x, n)) (h : wq_s kt 11 (11, 7, false, some .boolean) x n pc L st T H (WL kt CB SB X)) : WL kt CB SB X pc L st T H := ⟨hb, fun M hM => by
  obtain ⟨F, pc', L', st', M', T', H', h1, h2, h3⟩ := h M hM
  have hl := h2.1
  have hz := h2.2.1
  have hb' := h3.1
  exact hX.1 F x n (pc, L, st, M) (pc', L', st', M') hd h1 ⟨by show M'.length ≤ CB; omega, by show mc_sz M' ≤ SB; omega⟩ (h3.2 M' h2)⟩
theorem WL.loc {kt : Nat → Option mc_E} {CB SB : Nat} {X : mc_S → Prop} (hX : wlX kt CB SB X) {pc : Nat} {L L' : List (Nat × Value)} {st : List Value} {T : wq_T} {H : wq_H} (hq : ∀ q ∈ L, q ∈ L') (h : WL kt CB SB X pc L st T H) : WL kt CB SB X pc L' st T H := ⟨h.1, fun M hM => hX.2.1 pc L L' st M hq (h.2 M hM)⟩
theorem WL.fin {kt : Nat → Option mc_E} {CB SB : Nat} {X : mc_S → Prop} (hX : wlX kt CB SB X) {L : List (Nat × Value)} {T : wq_T} {H : wq_H} (hb : T.2.1 ≤ CB ∧ T.2.2.1 ≤ SB) : WL kt CB SB X 1660 L [vI 1] T H := ⟨hb, fun M hM => hX.2.2 L M (by have := hM.1; omega) (by have := hM.2.1; omega)⟩
/-- what holds at the head of the law's loop -/
def wlI (Len x m o : Nat) (T : wq_T) (H : wq_H) : Prop := WT T H ∧ T.2.2.2 0 = some (1000 + Len) ∧ T.2.2.2 x = some 1 ∧ T.2.2.2 m = some 42 ∧ T.2.2.2 o = some 73 ∧ wKI H m = 1 ∧ H x 9 = H m 6
abbrev wlL (i : Int) (x m o : Nat) : List (Nat × Value) := [(4, vI i), (3, .ref o), (2, .ref m), (1, .ref x), (0, .ref 0)]
/-- and what the two have in common: THE TAPE; two PARISHES with six persons each; the FAULT's number; whether there is a PARISH -/
def wlJ (Len x m o : Nat) (T : wq_T) (H : wq_H) : Prop := wlI Len x m o T H ∧ XI T H x m ∧ H x 11 = H m 13 ∧ ((H x 8 = 0 ∧ H m 3 = -1) ∨ (H x 8 = 1 ∧ H m 3 ≠ -1))

theorem cL_23 : mc_lawcd 23 = some (.iload 4, 2) := by decide +kernel
theorem cL_25 : mc_lawcd 25 = some (.aload_n 0, 1) := by decide +kernel
theorem cL_26 : mc_lawcd 26 = some (.arraylength, 1) := by decide +kernel
theorem cL_27 : mc_lawcd 27 = some (.bipush 6, 2) := by decide +kernel
theorem cL_29 : mc_lawcd 29 = some (.isub, 1) := by decide +kernel
theorem cL_30 : mc_lawcd 30 = some (.if_icmp .gt 1629, 3) := by decide +kernel
theorem cL_33 : mc_lawcd 33 = some (.aload_n 0, 1) := by decide +kernel
theorem cL_34 : mc_lawcd 34 = some (.iload 4, 2) := by decide +kernel
theorem cL_36 : mc_lawcd 36 = some (.iaload, 1) := by decide +kernel
theorem cL_37 : mc_lawcd 37 = some (.bipush 63, 2) := by decide +kernel
theorem cL_39 : mc_lawcd 39 = some (.iand, 1) := by decide +kernel
theorem cL_40 : mc_lawcd 40 = some (.tableswitch 1613 0 49 #[216, 289, 314, 327, 340, 365, 414, 463, 476, 513, 538, 563, 576, 589, 602, 615, 628, 665, 678, 715, 752, 789, 842, 879, 904, 917, 954, 979, 1016, 1069, 1122, 1135, 1160, 1185, 1210, 1223, 1276, 1289, 1302, 1327, 1364, 1389, 1414, 1427, 1464, 1477, 1490, 1547, 1575, 1600], 216) := by decide +kernel
theorem cL_256 : mc_lawcd 256 = some (.aload_n 1, 1) := by decide +kernel
theorem cL_257 : mc_lawcd 257 = some (.aload_n 0, 1) := by decide +kernel
theorem cL_258 : mc_lawcd 258 = some (.iload 4, 2) := by decide +kernel
theorem cL_260 : mc_lawcd 260 = some (.iconst 1, 1) := by decide +kernel
theorem cL_261 : mc_lawcd 261 = some (.iadd, 1) := by decide +kernel
theorem cL_262 : mc_lawcd 262 = some (.iaload, 1) := by decide +kernel
theorem cL_263 : mc_lawcd 263 = some (.aload_n 0, 1) := by decide +kernel
theorem cL_264 : mc_lawcd 264 = some (.iload 4, 2) := by decide +kernel
theorem cL_266 : mc_lawcd 266 = some (.iconst 2, 1) := by decide +kernel
theorem cL_267 : mc_lawcd 267 = some (.iadd, 1) := by decide +kernel
theorem cL_268 : mc_lawcd 268 = some (.iaload, 1) := by decide +kernel
theorem cL_269 : mc_lawcd 269 = some (.aload_n 0, 1) := by decide +kernel
theorem cL_270 : mc_lawcd 270 = some (.iload 4, 2) := by decide +kernel
theorem cL_272 : mc_lawcd 272 = some (.iconst 3, 1) := by decide +kernel
theorem cL_273 : mc_lawcd 273 = some (.iadd, 1) := by decide +kernel
theorem cL_274 : mc_lawcd 274 = some (.iaload, 1) := by decide +kernel
theorem cL_275 : mc_lawcd 275 = some (.aload_n 0, 1) := by decide +kernel
theorem cL_276 : mc_lawcd 276 = some (.iload 4, 2) := by decide +kernel
theorem cL_278 : mc_lawcd 278 = some (.iconst 4, 1) := by decide +kernel
theorem cL_279 : mc_lawcd 279 = some (.iadd, 1) := by decide +kernel
theorem cL_280 : mc_lawcd 280 = some (.iaload, 1) := by decide +kernel
theorem cL_281 : mc_lawcd 281 = some (.aload_n 0, 1) := by decide +kernel
theorem cL_282 : mc_lawcd 282 = some (.iload 4, 2) := by decide +kernel
theorem cL_284 : mc_lawcd 284 = some (.iconst 5, 1) := by decide +kernel
theorem cL_285 : mc_lawcd 285 = some (.iadd, 1) := by decide +kernel
theorem cL_286 : mc_lawcd 286 = some (.iaload, 1) := by decide +kernel
theorem cL_287 : mc_lawcd 287 = some (.invokevirtual 19, 3) := by decide +kernel
theorem cL_290 : mc_lawcd 290 = some (.pop, 1) := by decide +kernel
theorem cL_291 : mc_lawcd 291 = some (.aload_n 2, 1) := by decide +kernel
theorem cL_292 : mc_lawcd 292 = some (.aload_n 0, 1) := by decide +kernel
theorem cL_293 : mc_lawcd 293 = some (.iload 4, 2) := by decide +kernel
theorem cL_295 : mc_lawcd 295 = some (.iconst 1, 1) := by decide +kernel
theorem cL_296 : mc_lawcd 296 = some (.iadd, 1) := by decide +kernel
theorem cL_297 : mc_lawcd 297 = some (.iaload, 1) := by decide +kernel
theorem cL_298 : mc_lawcd 298 = some (.aload_n 0, 1) := by decide +kernel
theorem cL_299 : mc_lawcd 299 = some (.iload 4, 2) := by decide +kernel
theorem cL_301 : mc_lawcd 301 = some (.iconst 2, 1) := by decide +kernel
theorem cL_302 : mc_lawcd 302 = some (.iadd, 1) := by decide +kernel
theorem cL_303 : mc_lawcd 303 = some (.iaload, 1) := by decide +kernel
theorem cL_304 : mc_lawcd 304 = some (.aload_n 0, 1) := by decide +kernel
theorem cL_305 : mc_lawcd 305 = some (.iload 4, 2) := by decide +kernel
theorem cL_307 : mc_lawcd 307 = some (.iconst 3, 1) := by decide +kernel
theorem cL_308 : mc_lawcd 308 = some (.iadd, 1) := by decide +kernel
theorem cL_309 : mc_lawcd 309 = some (.iaload, 1) := by decide +kernel
theorem cL_310 : mc_lawcd 310 = some (.aload_n 0, 1) := by decide +kernel
theorem cL_311 : mc_lawcd 311 = some (.iload 4, 2) := by decide +kernel
theorem cL_313 : mc_lawcd 313 = some (.iconst 4, 1) := by decide +kernel
theorem cL_314 : mc_lawcd 314 = some (.iadd, 1) := by decide +kernel
theorem cL_315 : mc_lawcd 315 = some (.iaload, 1) := by decide +kernel
theorem cL_316 : mc_lawcd 316 = some (.aload_n 0, 1) := by decide +kernel
theorem cL_317 : mc_lawcd 317 = some (.iload 4, 2) := by decide +kernel
theorem cL_319 : mc_lawcd 319 = some (.iconst 5, 1) := by decide +kernel
theorem cL_320 : mc_lawcd 320 = some (.iadd, 1) := by decide +kernel
theorem cL_321 : mc_lawcd 321 = some (.iaload, 1) := by decide +kernel
theorem cL_322 : mc_lawcd 322 = some (.invokevirtual 23, 3) := by decide +kernel
theorem cL_325 : mc_lawcd 325 = some (.pop, 1) := by decide +kernel
theorem cL_326 : mc_lawcd 326 = some (.goto 1327, 3) := by decide +kernel
theorem cL_329 : mc_lawcd 329 = some (.aload_n 1, 1) := by decide +kernel
theorem cL_330 : mc_lawcd 330 = some (.aload_n 0, 1) := by decide +kernel
theorem cL_331 : mc_lawcd 331 = some (.iload 4, 2) := by decide +kernel
theorem cL_333 : mc_lawcd 333 = some (.iconst 1, 1) := by decide +kernel
theorem cL_334 : mc_lawcd 334 = some (.iadd, 1) := by decide +kernel
theorem cL_335 : mc_lawcd 335 = some (.iaload, 1) := by decide +kernel
theorem cL_336 : mc_lawcd 336 = some (.invokevirtual 24, 3) := by decide +kernel
theorem cL_339 : mc_lawcd 339 = some (.pop, 1) := by decide +kernel
theorem cL_340 : mc_lawcd 340 = some (.aload_n 2, 1) := by decide +kernel
theorem cL_341 : mc_lawcd 341 = some (.aload_n 0, 1) := by decide +kernel
theorem cL_342 : mc_lawcd 342 = some (.iload 4, 2) := by decide +kernel
theorem cL_344 : mc_lawcd 344 = some (.iconst 1, 1) := by decide +kernel
theorem cL_345 : mc_lawcd 345 = some (.iadd, 1) := by decide +kernel
theorem cL_346 : mc_lawcd 346 = some (.iaload, 1) := by decide +kernel
theorem cL_347 : mc_lawcd 347 = some (.invokevirtual 27, 3) := by decide +kernel
theorem cL_350 : mc_lawcd 350 = some (.pop, 1) := by decide +kernel
theorem cL_351 : mc_lawcd 351 = some (.goto 1302, 3) := by decide +kernel
theorem cL_354 : mc_lawcd 354 = some (.aload_n 1, 1) := by decide +kernel
theorem cL_355 : mc_lawcd 355 = some (.invokevirtual 28, 3) := by decide +kernel
theorem cL_358 : mc_lawcd 358 = some (.pop, 1) := by decide +kernel
theorem cL_359 : mc_lawcd 359 = some (.aload_n 2, 1) := by decide +kernel
theorem cL_360 : mc_lawcd 360 = some (.invokevirtual 32, 3) := by decide +kernel
theorem cL_363 : mc_lawcd 363 = some (.pop, 1) := by decide +kernel
theorem cL_364 : mc_lawcd 364 = some (.goto 1289, 3) := by decide +kernel
theorem cL_367 : mc_lawcd 367 = some (.aload_n 1, 1) := by decide +kernel
theorem cL_368 : mc_lawcd 368 = some (.invokevirtual 33, 3) := by decide +kernel
theorem cL_371 : mc_lawcd 371 = some (.pop, 1) := by decide +kernel
theorem cL_372 : mc_lawcd 372 = some (.aload_n 2, 1) := by decide +kernel
theorem cL_373 : mc_lawcd 373 = some (.invokevirtual 36, 3) := by decide +kernel
theorem cL_376 : mc_lawcd 376 = some (.pop, 1) := by decide +kernel
theorem cL_377 : mc_lawcd 377 = some (.goto 1276, 3) := by decide +kernel
theorem cL_380 : mc_lawcd 380 = some (.aload_n 1, 1) := by decide +kernel
theorem cL_381 : mc_lawcd 381 = some (.aload_n 0, 1) := by decide +kernel
theorem cL_382 : mc_lawcd 382 = some (.iload 4, 2) := by decide +kernel
theorem cL_384 : mc_lawcd 384 = some (.iconst 1, 1) := by decide +kernel
theorem cL_385 : mc_lawcd 385 = some (.iadd, 1) := by decide +kernel
theorem cL_386 : mc_lawcd 386 = some (.iaload, 1) := by decide +kernel
theorem cL_387 : mc_lawcd 387 = some (.invokevirtual 37, 3) := by decide +kernel
theorem cL_390 : mc_lawcd 390 = some (.pop, 1) := by decide +kernel
theorem cL_391 : mc_lawcd 391 = some (.aload_n 2, 1) := by decide +kernel
theorem cL_392 : mc_lawcd 392 = some (.aload_n 0, 1) := by decide +kernel
theorem cL_393 : mc_lawcd 393 = some (.iload 4, 2) := by decide +kernel
theorem cL_395 : mc_lawcd 395 = some (.iconst 1, 1) := by decide +kernel
theorem cL_396 : mc_lawcd 396 = some (.iadd, 1) := by decide +kernel
theorem cL_397 : mc_lawcd 397 = some (.iaload, 1) := by decide +kernel
theorem cL_398 : mc_lawcd 398 = some (.invokevirtual 40, 3) := by decide +kernel
theorem cL_401 : mc_lawcd 401 = some (.pop, 1) := by decide +kernel
theorem cL_402 : mc_lawcd 402 = some (.goto 1251, 3) := by decide +kernel
theorem cL_405 : mc_lawcd 405 = some (.aload_n 1, 1) := by decide +kernel
theorem cL_406 : mc_lawcd 406 = some (.aload_n 0, 1) := by decide +kernel
theorem cL_407 : mc_lawcd 407 = some (.iload 4, 2) := by decide +kernel
theorem cL_409 : mc_lawcd 409 = some (.iconst 1, 1) := by decide +kernel
theorem cL_410 : mc_lawcd 410 = some (.iadd, 1) := by decide +kernel
theorem cL_411 : mc_lawcd 411 = some (.iaload, 1) := by decide +kernel
theorem cL_412 : mc_lawcd 412 = some (.aload_n 0, 1) := by decide +kernel
theorem cL_413 : mc_lawcd 413 = some (.iload 4, 2) := by decide +kernel
theorem cL_415 : mc_lawcd 415 = some (.iconst 2, 1) := by decide +kernel
theorem cL_416 : mc_lawcd 416 = some (.iadd, 1) := by decide +kernel
theorem cL_417 : mc_lawcd 417 = some (.iaload, 1) := by decide +kernel
theorem cL_418 : mc_lawcd 418 = some (.aload_n 0, 1) := by decide +kernel
theorem cL_419 : mc_lawcd 419 = some (.iload 4, 2) := by decide +kernel
theorem cL_421 : mc_lawcd 421 = some (.iconst 3, 1) := by decide +kernel
theorem cL_422 : mc_lawcd 422 = some (.iadd, 1) := by decide +kernel
theorem cL_423 : mc_lawcd 423 = some (.iaload, 1) := by decide +kernel
theorem cL_424 : mc_lawcd 424 = some (.invokevirtual 41, 3) := by decide +kernel
theorem cL_427 : mc_lawcd 427 = some (.pop, 1) := by decide +kernel
theorem cL_428 : mc_lawcd 428 = some (.aload_n 2, 1) := by decide +kernel
theorem cL_429 : mc_lawcd 429 = some (.aload_n 0, 1) := by decide +kernel
theorem cL_430 : mc_lawcd 430 = some (.iload 4, 2) := by decide +kernel
theorem cL_432 : mc_lawcd 432 = some (.iconst 1, 1) := by decide +kernel
theorem cL_433 : mc_lawcd 433 = some (.iadd, 1) := by decide +kernel
theorem cL_434 : mc_lawcd 434 = some (.iaload, 1) := by decide +kernel
theorem cL_435 : mc_lawcd 435 = some (.aload_n 0, 1) := by decide +kernel
theorem cL_436 : mc_lawcd 436 = some (.iload 4, 2) := by decide +kernel
theorem cL_438 : mc_lawcd 438 = some (.iconst 2, 1) := by decide +kernel
theorem cL_439 : mc_lawcd 439 = some (.iadd, 1) := by decide +kernel
theorem cL_440 : mc_lawcd 440 = some (.iaload, 1) := by decide +kernel
theorem cL_441 : mc_lawcd 441 = some (.aload_n 0, 1) := by decide +kernel
theorem cL_442 : mc_lawcd 442 = some (.iload 4, 2) := by decide +kernel
theorem cL_444 : mc_lawcd 444 = some (.iconst 3, 1) := by decide +kernel
theorem cL_445 : mc_lawcd 445 = some (.iadd, 1) := by decide +kernel
theorem cL_446 : mc_lawcd 446 = some (.iaload, 1) := by decide +kernel
theorem cL_447 : mc_lawcd 447 = some (.invokevirtual 45, 3) := by decide +kernel
theorem cL_450 : mc_lawcd 450 = some (.pop, 1) := by decide +kernel
theorem cL_451 : mc_lawcd 451 = some (.goto 1202, 3) := by decide +kernel
theorem cL_454 : mc_lawcd 454 = some (.aload_n 1, 1) := by decide +kernel
theorem cL_455 : mc_lawcd 455 = some (.aload_n 0, 1) := by decide +kernel
theorem cL_456 : mc_lawcd 456 = some (.iload 4, 2) := by decide +kernel
theorem cL_458 : mc_lawcd 458 = some (.iconst 1, 1) := by decide +kernel
theorem cL_459 : mc_lawcd 459 = some (.iadd, 1) := by decide +kernel
theorem cL_460 : mc_lawcd 460 = some (.iaload, 1) := by decide +kernel
theorem cL_461 : mc_lawcd 461 = some (.aload_n 0, 1) := by decide +kernel
theorem cL_462 : mc_lawcd 462 = some (.iload 4, 2) := by decide +kernel
theorem cL_464 : mc_lawcd 464 = some (.iconst 2, 1) := by decide +kernel
theorem cL_465 : mc_lawcd 465 = some (.iadd, 1) := by decide +kernel
theorem cL_466 : mc_lawcd 466 = some (.iaload, 1) := by decide +kernel
theorem cL_467 : mc_lawcd 467 = some (.aload_n 0, 1) := by decide +kernel
theorem cL_468 : mc_lawcd 468 = some (.iload 4, 2) := by decide +kernel
theorem cL_470 : mc_lawcd 470 = some (.iconst 3, 1) := by decide +kernel
theorem cL_471 : mc_lawcd 471 = some (.iadd, 1) := by decide +kernel
theorem cL_472 : mc_lawcd 472 = some (.iaload, 1) := by decide +kernel
theorem cL_473 : mc_lawcd 473 = some (.invokevirtual 46, 3) := by decide +kernel
theorem cL_476 : mc_lawcd 476 = some (.pop, 1) := by decide +kernel
theorem cL_477 : mc_lawcd 477 = some (.aload_n 2, 1) := by decide +kernel
theorem cL_478 : mc_lawcd 478 = some (.aload_n 0, 1) := by decide +kernel
theorem cL_479 : mc_lawcd 479 = some (.iload 4, 2) := by decide +kernel
theorem cL_481 : mc_lawcd 481 = some (.iconst 1, 1) := by decide +kernel
theorem cL_482 : mc_lawcd 482 = some (.iadd, 1) := by decide +kernel
theorem cL_483 : mc_lawcd 483 = some (.iaload, 1) := by decide +kernel
theorem cL_484 : mc_lawcd 484 = some (.aload_n 0, 1) := by decide +kernel
theorem cL_485 : mc_lawcd 485 = some (.iload 4, 2) := by decide +kernel
theorem cL_487 : mc_lawcd 487 = some (.iconst 2, 1) := by decide +kernel
theorem cL_488 : mc_lawcd 488 = some (.iadd, 1) := by decide +kernel
theorem cL_489 : mc_lawcd 489 = some (.iaload, 1) := by decide +kernel
theorem cL_490 : mc_lawcd 490 = some (.aload_n 0, 1) := by decide +kernel
theorem cL_491 : mc_lawcd 491 = some (.iload 4, 2) := by decide +kernel
theorem cL_493 : mc_lawcd 493 = some (.iconst 3, 1) := by decide +kernel
theorem cL_494 : mc_lawcd 494 = some (.iadd, 1) := by decide +kernel
theorem cL_495 : mc_lawcd 495 = some (.iaload, 1) := by decide +kernel
theorem cL_496 : mc_lawcd 496 = some (.invokevirtual 49, 3) := by decide +kernel
theorem cL_499 : mc_lawcd 499 = some (.pop, 1) := by decide +kernel
theorem cL_500 : mc_lawcd 500 = some (.goto 1153, 3) := by decide +kernel
theorem cL_503 : mc_lawcd 503 = some (.aload_n 1, 1) := by decide +kernel
theorem cL_504 : mc_lawcd 504 = some (.invokevirtual 50, 3) := by decide +kernel
theorem cL_507 : mc_lawcd 507 = some (.pop2, 1) := by decide +kernel
theorem cL_508 : mc_lawcd 508 = some (.aload_n 2, 1) := by decide +kernel
theorem cL_509 : mc_lawcd 509 = some (.invokevirtual 54, 3) := by decide +kernel
theorem cL_512 : mc_lawcd 512 = some (.pop2, 1) := by decide +kernel
theorem cL_513 : mc_lawcd 513 = some (.goto 1140, 3) := by decide +kernel
theorem cL_516 : mc_lawcd 516 = some (.aload_n 1, 1) := by decide +kernel
theorem cL_517 : mc_lawcd 517 = some (.aload_n 0, 1) := by decide +kernel
theorem cL_518 : mc_lawcd 518 = some (.iload 4, 2) := by decide +kernel
theorem cL_520 : mc_lawcd 520 = some (.iconst 1, 1) := by decide +kernel
theorem cL_521 : mc_lawcd 521 = some (.iadd, 1) := by decide +kernel
theorem cL_522 : mc_lawcd 522 = some (.iaload, 1) := by decide +kernel
theorem cL_523 : mc_lawcd 523 = some (.aload_n 0, 1) := by decide +kernel
theorem cL_524 : mc_lawcd 524 = some (.iload 4, 2) := by decide +kernel
theorem cL_526 : mc_lawcd 526 = some (.iconst 2, 1) := by decide +kernel
theorem cL_527 : mc_lawcd 527 = some (.iadd, 1) := by decide +kernel
theorem cL_528 : mc_lawcd 528 = some (.iaload, 1) := by decide +kernel
theorem cL_529 : mc_lawcd 529 = some (.invokevirtual 55, 3) := by decide +kernel
theorem cL_532 : mc_lawcd 532 = some (.pop, 1) := by decide +kernel
theorem cL_533 : mc_lawcd 533 = some (.aload_n 2, 1) := by decide +kernel
theorem cL_534 : mc_lawcd 534 = some (.aload_n 0, 1) := by decide +kernel
theorem cL_535 : mc_lawcd 535 = some (.iload 4, 2) := by decide +kernel
theorem cL_537 : mc_lawcd 537 = some (.iconst 1, 1) := by decide +kernel
theorem cL_538 : mc_lawcd 538 = some (.iadd, 1) := by decide +kernel
theorem cL_539 : mc_lawcd 539 = some (.iaload, 1) := by decide +kernel
theorem cL_540 : mc_lawcd 540 = some (.aload_n 0, 1) := by decide +kernel
theorem cL_541 : mc_lawcd 541 = some (.iload 4, 2) := by decide +kernel
theorem cL_543 : mc_lawcd 543 = some (.iconst 2, 1) := by decide +kernel
theorem cL_544 : mc_lawcd 544 = some (.iadd, 1) := by decide +kernel
theorem cL_545 : mc_lawcd 545 = some (.iaload, 1) := by decide +kernel
theorem cL_546 : mc_lawcd 546 = some (.invokevirtual 59, 3) := by decide +kernel
theorem cL_549 : mc_lawcd 549 = some (.pop, 1) := by decide +kernel
theorem cL_550 : mc_lawcd 550 = some (.goto 1103, 3) := by decide +kernel
theorem cL_553 : mc_lawcd 553 = some (.aload_n 1, 1) := by decide +kernel
theorem cL_554 : mc_lawcd 554 = some (.aload_n 0, 1) := by decide +kernel
theorem cL_555 : mc_lawcd 555 = some (.iload 4, 2) := by decide +kernel
theorem cL_557 : mc_lawcd 557 = some (.iconst 1, 1) := by decide +kernel
theorem cL_558 : mc_lawcd 558 = some (.iadd, 1) := by decide +kernel
theorem cL_559 : mc_lawcd 559 = some (.iaload, 1) := by decide +kernel
theorem cL_560 : mc_lawcd 560 = some (.invokevirtual 60, 3) := by decide +kernel
theorem cL_563 : mc_lawcd 563 = some (.aload_n 2, 1) := by decide +kernel
theorem cL_564 : mc_lawcd 564 = some (.aload_n 0, 1) := by decide +kernel
theorem cL_565 : mc_lawcd 565 = some (.iload 4, 2) := by decide +kernel
theorem cL_567 : mc_lawcd 567 = some (.iconst 1, 1) := by decide +kernel
theorem cL_568 : mc_lawcd 568 = some (.iadd, 1) := by decide +kernel
theorem cL_569 : mc_lawcd 569 = some (.iaload, 1) := by decide +kernel
theorem cL_570 : mc_lawcd 570 = some (.invokevirtual 63, 3) := by decide +kernel
theorem cL_573 : mc_lawcd 573 = some (.if_icmp .eq 1080, 3) := by decide +kernel
theorem cL_576 : mc_lawcd 576 = some (.iconst 0, 1) := by decide +kernel
theorem cL_578 : mc_lawcd 578 = some (.aload_n 1, 1) := by decide +kernel
theorem cL_579 : mc_lawcd 579 = some (.aload_n 0, 1) := by decide +kernel
theorem cL_580 : mc_lawcd 580 = some (.iload 4, 2) := by decide +kernel
theorem cL_582 : mc_lawcd 582 = some (.iconst 1, 1) := by decide +kernel
theorem cL_583 : mc_lawcd 583 = some (.iadd, 1) := by decide +kernel
theorem cL_584 : mc_lawcd 584 = some (.iaload, 1) := by decide +kernel
theorem cL_585 : mc_lawcd 585 = some (.invokevirtual 64, 3) := by decide +kernel
theorem cL_588 : mc_lawcd 588 = some (.pop, 1) := by decide +kernel
theorem cL_589 : mc_lawcd 589 = some (.aload_n 2, 1) := by decide +kernel
theorem cL_590 : mc_lawcd 590 = some (.aload_n 0, 1) := by decide +kernel
theorem cL_591 : mc_lawcd 591 = some (.iload 4, 2) := by decide +kernel
theorem cL_593 : mc_lawcd 593 = some (.iconst 1, 1) := by decide +kernel
theorem cL_594 : mc_lawcd 594 = some (.iadd, 1) := by decide +kernel
theorem cL_595 : mc_lawcd 595 = some (.iaload, 1) := by decide +kernel
theorem cL_596 : mc_lawcd 596 = some (.invokevirtual 67, 3) := by decide +kernel
theorem cL_599 : mc_lawcd 599 = some (.pop, 1) := by decide +kernel
theorem cL_600 : mc_lawcd 600 = some (.goto 1053, 3) := by decide +kernel
theorem cL_603 : mc_lawcd 603 = some (.aload_n 1, 1) := by decide +kernel
theorem cL_604 : mc_lawcd 604 = some (.invokevirtual 68, 3) := by decide +kernel
theorem cL_607 : mc_lawcd 607 = some (.pop, 1) := by decide +kernel
theorem cL_608 : mc_lawcd 608 = some (.aload_n 2, 1) := by decide +kernel
theorem cL_609 : mc_lawcd 609 = some (.invokevirtual 71, 3) := by decide +kernel
theorem cL_612 : mc_lawcd 612 = some (.pop, 1) := by decide +kernel
theorem cL_613 : mc_lawcd 613 = some (.goto 1040, 3) := by decide +kernel
theorem cL_616 : mc_lawcd 616 = some (.aload_n 1, 1) := by decide +kernel
theorem cL_617 : mc_lawcd 617 = some (.invokevirtual 72, 3) := by decide +kernel
theorem cL_620 : mc_lawcd 620 = some (.pop, 1) := by decide +kernel
theorem cL_621 : mc_lawcd 621 = some (.aload_n 2, 1) := by decide +kernel
theorem cL_622 : mc_lawcd 622 = some (.invokevirtual 75, 3) := by decide +kernel
theorem cL_625 : mc_lawcd 625 = some (.pop, 1) := by decide +kernel
theorem cL_626 : mc_lawcd 626 = some (.goto 1027, 3) := by decide +kernel
theorem cL_629 : mc_lawcd 629 = some (.aload_n 1, 1) := by decide +kernel
theorem cL_630 : mc_lawcd 630 = some (.invokevirtual 76, 3) := by decide +kernel
theorem cL_633 : mc_lawcd 633 = some (.pop, 1) := by decide +kernel
theorem cL_634 : mc_lawcd 634 = some (.aload_n 2, 1) := by decide +kernel
theorem cL_635 : mc_lawcd 635 = some (.invokevirtual 79, 3) := by decide +kernel
theorem cL_638 : mc_lawcd 638 = some (.pop, 1) := by decide +kernel
theorem cL_639 : mc_lawcd 639 = some (.goto 1014, 3) := by decide +kernel
theorem cL_642 : mc_lawcd 642 = some (.aload_n 1, 1) := by decide +kernel
theorem cL_643 : mc_lawcd 643 = some (.invokevirtual 80, 3) := by decide +kernel
theorem cL_646 : mc_lawcd 646 = some (.pop, 1) := by decide +kernel
theorem cL_647 : mc_lawcd 647 = some (.aload_n 2, 1) := by decide +kernel
theorem cL_648 : mc_lawcd 648 = some (.invokevirtual 83, 3) := by decide +kernel
theorem cL_651 : mc_lawcd 651 = some (.pop, 1) := by decide +kernel
theorem cL_652 : mc_lawcd 652 = some (.goto 1001, 3) := by decide +kernel
theorem cL_655 : mc_lawcd 655 = some (.aload_n 1, 1) := by decide +kernel
theorem cL_656 : mc_lawcd 656 = some (.invokevirtual 84, 3) := by decide +kernel
theorem cL_659 : mc_lawcd 659 = some (.pop, 1) := by decide +kernel
theorem cL_660 : mc_lawcd 660 = some (.aload_n 2, 1) := by decide +kernel
theorem cL_661 : mc_lawcd 661 = some (.invokevirtual 87, 3) := by decide +kernel
theorem cL_664 : mc_lawcd 664 = some (.pop, 1) := by decide +kernel
theorem cL_665 : mc_lawcd 665 = some (.goto 988, 3) := by decide +kernel
theorem cL_668 : mc_lawcd 668 = some (.aload_n 1, 1) := by decide +kernel
theorem cL_669 : mc_lawcd 669 = some (.aload_n 0, 1) := by decide +kernel
theorem cL_670 : mc_lawcd 670 = some (.iload 4, 2) := by decide +kernel
theorem cL_672 : mc_lawcd 672 = some (.iconst 1, 1) := by decide +kernel
theorem cL_673 : mc_lawcd 673 = some (.iadd, 1) := by decide +kernel
theorem cL_674 : mc_lawcd 674 = some (.iaload, 1) := by decide +kernel
theorem cL_675 : mc_lawcd 675 = some (.aload_n 0, 1) := by decide +kernel
theorem cL_676 : mc_lawcd 676 = some (.iload 4, 2) := by decide +kernel
theorem cL_678 : mc_lawcd 678 = some (.iconst 2, 1) := by decide +kernel
theorem cL_679 : mc_lawcd 679 = some (.iadd, 1) := by decide +kernel
theorem cL_680 : mc_lawcd 680 = some (.iaload, 1) := by decide +kernel
theorem cL_681 : mc_lawcd 681 = some (.invokevirtual 88, 3) := by decide +kernel
theorem cL_684 : mc_lawcd 684 = some (.pop, 1) := by decide +kernel
theorem cL_685 : mc_lawcd 685 = some (.aload_n 2, 1) := by decide +kernel
theorem cL_686 : mc_lawcd 686 = some (.aload_n 0, 1) := by decide +kernel
theorem cL_687 : mc_lawcd 687 = some (.iload 4, 2) := by decide +kernel
theorem cL_689 : mc_lawcd 689 = some (.iconst 1, 1) := by decide +kernel
theorem cL_690 : mc_lawcd 690 = some (.iadd, 1) := by decide +kernel
theorem cL_691 : mc_lawcd 691 = some (.iaload, 1) := by decide +kernel
theorem cL_692 : mc_lawcd 692 = some (.aload_n 0, 1) := by decide +kernel
theorem cL_693 : mc_lawcd 693 = some (.iload 4, 2) := by decide +kernel
theorem cL_695 : mc_lawcd 695 = some (.iconst 2, 1) := by decide +kernel
theorem cL_696 : mc_lawcd 696 = some (.iadd, 1) := by decide +kernel
theorem cL_697 : mc_lawcd 697 = some (.iaload, 1) := by decide +kernel
theorem cL_698 : mc_lawcd 698 = some (.invokevirtual 92, 3) := by decide +kernel
theorem cL_701 : mc_lawcd 701 = some (.pop, 1) := by decide +kernel
theorem cL_702 : mc_lawcd 702 = some (.goto 951, 3) := by decide +kernel
theorem cL_705 : mc_lawcd 705 = some (.aload_n 1, 1) := by decide +kernel
theorem cL_706 : mc_lawcd 706 = some (.invokevirtual 93, 3) := by decide +kernel
theorem cL_709 : mc_lawcd 709 = some (.pop2, 1) := by decide +kernel
theorem cL_710 : mc_lawcd 710 = some (.aload_n 2, 1) := by decide +kernel
theorem cL_711 : mc_lawcd 711 = some (.invokevirtual 96, 3) := by decide +kernel
theorem cL_714 : mc_lawcd 714 = some (.pop2, 1) := by decide +kernel
theorem cL_715 : mc_lawcd 715 = some (.goto 938, 3) := by decide +kernel
theorem cL_718 : mc_lawcd 718 = some (.aload_n 1, 1) := by decide +kernel
theorem cL_719 : mc_lawcd 719 = some (.aload_n 0, 1) := by decide +kernel
theorem cL_720 : mc_lawcd 720 = some (.iload 4, 2) := by decide +kernel
theorem cL_722 : mc_lawcd 722 = some (.iconst 1, 1) := by decide +kernel
theorem cL_723 : mc_lawcd 723 = some (.iadd, 1) := by decide +kernel
theorem cL_724 : mc_lawcd 724 = some (.iaload, 1) := by decide +kernel
theorem cL_725 : mc_lawcd 725 = some (.aload_n 0, 1) := by decide +kernel
theorem cL_726 : mc_lawcd 726 = some (.iload 4, 2) := by decide +kernel
theorem cL_728 : mc_lawcd 728 = some (.iconst 2, 1) := by decide +kernel
theorem cL_729 : mc_lawcd 729 = some (.iadd, 1) := by decide +kernel
theorem cL_730 : mc_lawcd 730 = some (.iaload, 1) := by decide +kernel
theorem cL_731 : mc_lawcd 731 = some (.invokevirtual 97, 3) := by decide +kernel
theorem cL_734 : mc_lawcd 734 = some (.pop, 1) := by decide +kernel
theorem cL_735 : mc_lawcd 735 = some (.aload_n 2, 1) := by decide +kernel
theorem cL_736 : mc_lawcd 736 = some (.aload_n 0, 1) := by decide +kernel
theorem cL_737 : mc_lawcd 737 = some (.iload 4, 2) := by decide +kernel
theorem cL_739 : mc_lawcd 739 = some (.iconst 1, 1) := by decide +kernel
theorem cL_740 : mc_lawcd 740 = some (.iadd, 1) := by decide +kernel
theorem cL_741 : mc_lawcd 741 = some (.iaload, 1) := by decide +kernel
theorem cL_742 : mc_lawcd 742 = some (.aload_n 0, 1) := by decide +kernel
theorem cL_743 : mc_lawcd 743 = some (.iload 4, 2) := by decide +kernel
theorem cL_745 : mc_lawcd 745 = some (.iconst 2, 1) := by decide +kernel
theorem cL_746 : mc_lawcd 746 = some (.iadd, 1) := by decide +kernel
theorem cL_747 : mc_lawcd 747 = some (.iaload, 1) := by decide +kernel
theorem cL_748 : mc_lawcd 748 = some (.invokevirtual 100, 3) := by decide +kernel
theorem cL_751 : mc_lawcd 751 = some (.pop, 1) := by decide +kernel
theorem cL_752 : mc_lawcd 752 = some (.goto 901, 3) := by decide +kernel
theorem cL_755 : mc_lawcd 755 = some (.aload_n 1, 1) := by decide +kernel
theorem cL_756 : mc_lawcd 756 = some (.aload_n 0, 1) := by decide +kernel
theorem cL_757 : mc_lawcd 757 = some (.iload 4, 2) := by decide +kernel
theorem cL_759 : mc_lawcd 759 = some (.iconst 1, 1) := by decide +kernel
theorem cL_760 : mc_lawcd 760 = some (.iadd, 1) := by decide +kernel
theorem cL_761 : mc_lawcd 761 = some (.iaload, 1) := by decide +kernel
theorem cL_762 : mc_lawcd 762 = some (.aload_n 0, 1) := by decide +kernel
theorem cL_763 : mc_lawcd 763 = some (.iload 4, 2) := by decide +kernel
theorem cL_765 : mc_lawcd 765 = some (.iconst 2, 1) := by decide +kernel
theorem cL_766 : mc_lawcd 766 = some (.iadd, 1) := by decide +kernel
theorem cL_767 : mc_lawcd 767 = some (.iaload, 1) := by decide +kernel
theorem cL_768 : mc_lawcd 768 = some (.invokevirtual 101, 3) := by decide +kernel
theorem cL_771 : mc_lawcd 771 = some (.pop, 1) := by decide +kernel
theorem cL_772 : mc_lawcd 772 = some (.aload_n 2, 1) := by decide +kernel
theorem cL_773 : mc_lawcd 773 = some (.aload_n 0, 1) := by decide +kernel
theorem cL_774 : mc_lawcd 774 = some (.iload 4, 2) := by decide +kernel
theorem cL_776 : mc_lawcd 776 = some (.iconst 1, 1) := by decide +kernel
theorem cL_777 : mc_lawcd 777 = some (.iadd, 1) := by decide +kernel
theorem cL_778 : mc_lawcd 778 = some (.iaload, 1) := by decide +kernel
theorem cL_779 : mc_lawcd 779 = some (.aload_n 0, 1) := by decide +kernel
theorem cL_780 : mc_lawcd 780 = some (.iload 4, 2) := by decide +kernel
theorem cL_782 : mc_lawcd 782 = some (.iconst 2, 1) := by decide +kernel
theorem cL_783 : mc_lawcd 783 = some (.iadd, 1) := by decide +kernel
theorem cL_784 : mc_lawcd 784 = some (.iaload, 1) := by decide +kernel
theorem cL_785 : mc_lawcd 785 = some (.invokevirtual 104, 3) := by decide +kernel
theorem cL_788 : mc_lawcd 788 = some (.pop, 1) := by decide +kernel
theorem cL_789 : mc_lawcd 789 = some (.goto 864, 3) := by decide +kernel
theorem cL_792 : mc_lawcd 792 = some (.aload_n 1, 1) := by decide +kernel
theorem cL_793 : mc_lawcd 793 = some (.aload_n 0, 1) := by decide +kernel
theorem cL_794 : mc_lawcd 794 = some (.iload 4, 2) := by decide +kernel
theorem cL_796 : mc_lawcd 796 = some (.iconst 1, 1) := by decide +kernel
theorem cL_797 : mc_lawcd 797 = some (.iadd, 1) := by decide +kernel
theorem cL_798 : mc_lawcd 798 = some (.iaload, 1) := by decide +kernel
theorem cL_799 : mc_lawcd 799 = some (.aload_n 0, 1) := by decide +kernel
theorem cL_800 : mc_lawcd 800 = some (.iload 4, 2) := by decide +kernel
theorem cL_802 : mc_lawcd 802 = some (.iconst 2, 1) := by decide +kernel
theorem cL_803 : mc_lawcd 803 = some (.iadd, 1) := by decide +kernel
theorem cL_804 : mc_lawcd 804 = some (.iaload, 1) := by decide +kernel
theorem cL_805 : mc_lawcd 805 = some (.invokevirtual 105, 3) := by decide +kernel
theorem cL_808 : mc_lawcd 808 = some (.pop, 1) := by decide +kernel
theorem cL_809 : mc_lawcd 809 = some (.aload_n 2, 1) := by decide +kernel
theorem cL_810 : mc_lawcd 810 = some (.aload_n 0, 1) := by decide +kernel
theorem cL_811 : mc_lawcd 811 = some (.iload 4, 2) := by decide +kernel
theorem cL_813 : mc_lawcd 813 = some (.iconst 1, 1) := by decide +kernel
theorem cL_814 : mc_lawcd 814 = some (.iadd, 1) := by decide +kernel
theorem cL_815 : mc_lawcd 815 = some (.iaload, 1) := by decide +kernel
theorem cL_816 : mc_lawcd 816 = some (.aload_n 0, 1) := by decide +kernel
theorem cL_817 : mc_lawcd 817 = some (.iload 4, 2) := by decide +kernel
theorem cL_819 : mc_lawcd 819 = some (.iconst 2, 1) := by decide +kernel
theorem cL_820 : mc_lawcd 820 = some (.iadd, 1) := by decide +kernel
theorem cL_821 : mc_lawcd 821 = some (.iaload, 1) := by decide +kernel
theorem cL_822 : mc_lawcd 822 = some (.invokevirtual 108, 3) := by decide +kernel
theorem cL_825 : mc_lawcd 825 = some (.pop, 1) := by decide +kernel
theorem cL_826 : mc_lawcd 826 = some (.goto 827, 3) := by decide +kernel
theorem cL_829 : mc_lawcd 829 = some (.aload_n 1, 1) := by decide +kernel
theorem cL_830 : mc_lawcd 830 = some (.aload_n 0, 1) := by decide +kernel
theorem cL_831 : mc_lawcd 831 = some (.iload 4, 2) := by decide +kernel
theorem cL_833 : mc_lawcd 833 = some (.iconst 1, 1) := by decide +kernel
theorem cL_834 : mc_lawcd 834 = some (.iadd, 1) := by decide +kernel
theorem cL_835 : mc_lawcd 835 = some (.iaload, 1) := by decide +kernel
theorem cL_836 : mc_lawcd 836 = some (.aload_n 0, 1) := by decide +kernel
theorem cL_837 : mc_lawcd 837 = some (.iload 4, 2) := by decide +kernel
theorem cL_839 : mc_lawcd 839 = some (.iconst 2, 1) := by decide +kernel
theorem cL_840 : mc_lawcd 840 = some (.iadd, 1) := by decide +kernel
theorem cL_841 : mc_lawcd 841 = some (.iaload, 1) := by decide +kernel
theorem cL_842 : mc_lawcd 842 = some (.ifCond .eq 7, 3) := by decide +kernel
theorem cL_845 : mc_lawcd 845 = some (.iconst 1, 1) := by decide +kernel
theorem cL_846 : mc_lawcd 846 = some (.goto 4, 3) := by decide +kernel
theorem cL_849 : mc_lawcd 849 = some (.iconst 0, 1) := by decide +kernel
theorem cL_850 : mc_lawcd 850 = some (.invokevirtual 109, 3) := by decide +kernel
theorem cL_853 : mc_lawcd 853 = some (.pop, 1) := by decide +kernel
theorem cL_854 : mc_lawcd 854 = some (.aload_n 2, 1) := by decide +kernel
theorem cL_855 : mc_lawcd 855 = some (.aload_n 0, 1) := by decide +kernel
theorem cL_856 : mc_lawcd 856 = some (.iload 4, 2) := by decide +kernel
theorem cL_858 : mc_lawcd 858 = some (.iconst 1, 1) := by decide +kernel
theorem cL_859 : mc_lawcd 859 = some (.iadd, 1) := by decide +kernel
theorem cL_860 : mc_lawcd 860 = some (.iaload, 1) := by decide +kernel
theorem cL_861 : mc_lawcd 861 = some (.aload_n 0, 1) := by decide +kernel
theorem cL_862 : mc_lawcd 862 = some (.iload 4, 2) := by decide +kernel
theorem cL_864 : mc_lawcd 864 = some (.iconst 2, 1) := by decide +kernel
theorem cL_865 : mc_lawcd 865 = some (.iadd, 1) := by decide +kernel
theorem cL_866 : mc_lawcd 866 = some (.iaload, 1) := by decide +kernel
theorem cL_867 : mc_lawcd 867 = some (.ifCond .eq 7, 3) := by decide +kernel
theorem cL_870 : mc_lawcd 870 = some (.iconst 1, 1) := by decide +kernel
theorem cL_871 : mc_lawcd 871 = some (.goto 4, 3) := by decide +kernel
theorem cL_874 : mc_lawcd 874 = some (.iconst 0, 1) := by decide +kernel
theorem cL_875 : mc_lawcd 875 = some (.invokevirtual 113, 3) := by decide +kernel
theorem cL_878 : mc_lawcd 878 = some (.pop, 1) := by decide +kernel
theorem cL_879 : mc_lawcd 879 = some (.goto 774, 3) := by decide +kernel
theorem cL_882 : mc_lawcd 882 = some (.aload_n 1, 1) := by decide +kernel
theorem cL_883 : mc_lawcd 883 = some (.aload_n 0, 1) := by decide +kernel
theorem cL_884 : mc_lawcd 884 = some (.iload 4, 2) := by decide +kernel
theorem cL_886 : mc_lawcd 886 = some (.iconst 1, 1) := by decide +kernel
theorem cL_887 : mc_lawcd 887 = some (.iadd, 1) := by decide +kernel
theorem cL_888 : mc_lawcd 888 = some (.iaload, 1) := by decide +kernel
theorem cL_889 : mc_lawcd 889 = some (.aload_n 0, 1) := by decide +kernel
theorem cL_890 : mc_lawcd 890 = some (.iload 4, 2) := by decide +kernel
theorem cL_892 : mc_lawcd 892 = some (.iconst 2, 1) := by decide +kernel
theorem cL_893 : mc_lawcd 893 = some (.iadd, 1) := by decide +kernel
theorem cL_894 : mc_lawcd 894 = some (.iaload, 1) := by decide +kernel
theorem cL_895 : mc_lawcd 895 = some (.invokevirtual 114, 3) := by decide +kernel
theorem cL_898 : mc_lawcd 898 = some (.pop, 1) := by decide +kernel
theorem cL_899 : mc_lawcd 899 = some (.aload_n 2, 1) := by decide +kernel
theorem cL_900 : mc_lawcd 900 = some (.aload_n 0, 1) := by decide +kernel
theorem cL_901 : mc_lawcd 901 = some (.iload 4, 2) := by decide +kernel
theorem cL_903 : mc_lawcd 903 = some (.iconst 1, 1) := by decide +kernel
theorem cL_904 : mc_lawcd 904 = some (.iadd, 1) := by decide +kernel
theorem cL_905 : mc_lawcd 905 = some (.iaload, 1) := by decide +kernel
theorem cL_906 : mc_lawcd 906 = some (.aload_n 0, 1) := by decide +kernel
theorem cL_907 : mc_lawcd 907 = some (.iload 4, 2) := by decide +kernel
theorem cL_909 : mc_lawcd 909 = some (.iconst 2, 1) := by decide +kernel
theorem cL_910 : mc_lawcd 910 = some (.iadd, 1) := by decide +kernel
theorem cL_911 : mc_lawcd 911 = some (.iaload, 1) := by decide +kernel
theorem cL_912 : mc_lawcd 912 = some (.invokevirtual 117, 3) := by decide +kernel
theorem cL_915 : mc_lawcd 915 = some (.pop, 1) := by decide +kernel
theorem cL_916 : mc_lawcd 916 = some (.goto 737, 3) := by decide +kernel
theorem cL_919 : mc_lawcd 919 = some (.aload_n 1, 1) := by decide +kernel
theorem cL_920 : mc_lawcd 920 = some (.aload_n 0, 1) := by decide +kernel
theorem cL_921 : mc_lawcd 921 = some (.iload 4, 2) := by decide +kernel
theorem cL_923 : mc_lawcd 923 = some (.iconst 1, 1) := by decide +kernel
theorem cL_924 : mc_lawcd 924 = some (.iadd, 1) := by decide +kernel
theorem cL_925 : mc_lawcd 925 = some (.iaload, 1) := by decide +kernel
theorem cL_926 : mc_lawcd 926 = some (.invokevirtual 118, 3) := by decide +kernel
theorem cL_929 : mc_lawcd 929 = some (.pop, 1) := by decide +kernel
theorem cL_930 : mc_lawcd 930 = some (.aload_n 2, 1) := by decide +kernel
theorem cL_931 : mc_lawcd 931 = some (.aload_n 0, 1) := by decide +kernel
theorem cL_932 : mc_lawcd 932 = some (.iload 4, 2) := by decide +kernel
theorem cL_934 : mc_lawcd 934 = some (.iconst 1, 1) := by decide +kernel
theorem cL_935 : mc_lawcd 935 = some (.iadd, 1) := by decide +kernel
theorem cL_936 : mc_lawcd 936 = some (.iaload, 1) := by decide +kernel
theorem cL_937 : mc_lawcd 937 = some (.invokevirtual 121, 3) := by decide +kernel
theorem cL_940 : mc_lawcd 940 = some (.pop, 1) := by decide +kernel
theorem cL_941 : mc_lawcd 941 = some (.goto 712, 3) := by decide +kernel
theorem cL_944 : mc_lawcd 944 = some (.aload_n 1, 1) := by decide +kernel
theorem cL_945 : mc_lawcd 945 = some (.invokevirtual 122, 3) := by decide +kernel
theorem cL_948 : mc_lawcd 948 = some (.pop2, 1) := by decide +kernel
theorem cL_949 : mc_lawcd 949 = some (.aload_n 2, 1) := by decide +kernel
theorem cL_950 : mc_lawcd 950 = some (.invokevirtual 125, 3) := by decide +kernel
theorem cL_953 : mc_lawcd 953 = some (.pop2, 1) := by decide +kernel
theorem cL_954 : mc_lawcd 954 = some (.goto 699, 3) := by decide +kernel
theorem cL_957 : mc_lawcd 957 = some (.aload_n 1, 1) := by decide +kernel
theorem cL_958 : mc_lawcd 958 = some (.aload_n 0, 1) := by decide +kernel
theorem cL_959 : mc_lawcd 959 = some (.iload 4, 2) := by decide +kernel
theorem cL_961 : mc_lawcd 961 = some (.iconst 1, 1) := by decide +kernel
theorem cL_962 : mc_lawcd 962 = some (.iadd, 1) := by decide +kernel
theorem cL_963 : mc_lawcd 963 = some (.iaload, 1) := by decide +kernel
theorem cL_964 : mc_lawcd 964 = some (.aload_n 0, 1) := by decide +kernel
theorem cL_965 : mc_lawcd 965 = some (.iload 4, 2) := by decide +kernel
theorem cL_967 : mc_lawcd 967 = some (.iconst 2, 1) := by decide +kernel
theorem cL_968 : mc_lawcd 968 = some (.iadd, 1) := by decide +kernel
theorem cL_969 : mc_lawcd 969 = some (.iaload, 1) := by decide +kernel
theorem cL_970 : mc_lawcd 970 = some (.invokevirtual 126, 3) := by decide +kernel
theorem cL_973 : mc_lawcd 973 = some (.pop, 1) := by decide +kernel
theorem cL_974 : mc_lawcd 974 = some (.aload_n 2, 1) := by decide +kernel
theorem cL_975 : mc_lawcd 975 = some (.aload_n 0, 1) := by decide +kernel
theorem cL_976 : mc_lawcd 976 = some (.iload 4, 2) := by decide +kernel
theorem cL_978 : mc_lawcd 978 = some (.iconst 1, 1) := by decide +kernel
theorem cL_979 : mc_lawcd 979 = some (.iadd, 1) := by decide +kernel
theorem cL_980 : mc_lawcd 980 = some (.iaload, 1) := by decide +kernel
theorem cL_981 : mc_lawcd 981 = some (.aload_n 0, 1) := by decide +kernel
theorem cL_982 : mc_lawcd 982 = some (.iload 4, 2) := by decide +kernel
theorem cL_984 : mc_lawcd 984 = some (.iconst 2, 1) := by decide +kernel
theorem cL_985 : mc_lawcd 985 = some (.iadd, 1) := by decide +kernel
theorem cL_986 : mc_lawcd 986 = some (.iaload, 1) := by decide +kernel
theorem cL_987 : mc_lawcd 987 = some (.invokevirtual 129, 3) := by decide +kernel
theorem cL_990 : mc_lawcd 990 = some (.pop, 1) := by decide +kernel
theorem cL_991 : mc_lawcd 991 = some (.goto 662, 3) := by decide +kernel
theorem cL_994 : mc_lawcd 994 = some (.aload_n 1, 1) := by decide +kernel
theorem cL_995 : mc_lawcd 995 = some (.aload_n 0, 1) := by decide +kernel
theorem cL_996 : mc_lawcd 996 = some (.iload 4, 2) := by decide +kernel
theorem cL_998 : mc_lawcd 998 = some (.iconst 1, 1) := by decide +kernel
theorem cL_999 : mc_lawcd 999 = some (.iadd, 1) := by decide +kernel
theorem cL_1000 : mc_lawcd 1000 = some (.iaload, 1) := by decide +kernel
theorem cL_1001 : mc_lawcd 1001 = some (.invokevirtual 130, 3) := by decide +kernel
theorem cL_1004 : mc_lawcd 1004 = some (.pop2, 1) := by decide +kernel
theorem cL_1005 : mc_lawcd 1005 = some (.aload_n 2, 1) := by decide +kernel
theorem cL_1006 : mc_lawcd 1006 = some (.aload_n 0, 1) := by decide +kernel
theorem cL_1007 : mc_lawcd 1007 = some (.iload 4, 2) := by decide +kernel
theorem cL_1009 : mc_lawcd 1009 = some (.iconst 1, 1) := by decide +kernel
theorem cL_1010 : mc_lawcd 1010 = some (.iadd, 1) := by decide +kernel
theorem cL_1011 : mc_lawcd 1011 = some (.iaload, 1) := by decide +kernel
theorem cL_1012 : mc_lawcd 1012 = some (.invokevirtual 134, 3) := by decide +kernel
theorem cL_1015 : mc_lawcd 1015 = some (.pop2, 1) := by decide +kernel
theorem cL_1016 : mc_lawcd 1016 = some (.goto 637, 3) := by decide +kernel
theorem cL_1019 : mc_lawcd 1019 = some (.aload_n 1, 1) := by decide +kernel
theorem cL_1020 : mc_lawcd 1020 = some (.aload_n 0, 1) := by decide +kernel
theorem cL_1021 : mc_lawcd 1021 = some (.iload 4, 2) := by decide +kernel
theorem cL_1023 : mc_lawcd 1023 = some (.iconst 1, 1) := by decide +kernel
theorem cL_1024 : mc_lawcd 1024 = some (.iadd, 1) := by decide +kernel
theorem cL_1025 : mc_lawcd 1025 = some (.iaload, 1) := by decide +kernel
theorem cL_1026 : mc_lawcd 1026 = some (.aload_n 0, 1) := by decide +kernel
theorem cL_1027 : mc_lawcd 1027 = some (.iload 4, 2) := by decide +kernel
theorem cL_1029 : mc_lawcd 1029 = some (.iconst 2, 1) := by decide +kernel
theorem cL_1030 : mc_lawcd 1030 = some (.iadd, 1) := by decide +kernel
theorem cL_1031 : mc_lawcd 1031 = some (.iaload, 1) := by decide +kernel
theorem cL_1032 : mc_lawcd 1032 = some (.invokevirtual 135, 3) := by decide +kernel
theorem cL_1035 : mc_lawcd 1035 = some (.pop, 1) := by decide +kernel
theorem cL_1036 : mc_lawcd 1036 = some (.aload_n 2, 1) := by decide +kernel
theorem cL_1037 : mc_lawcd 1037 = some (.aload_n 0, 1) := by decide +kernel
theorem cL_1038 : mc_lawcd 1038 = some (.iload 4, 2) := by decide +kernel
theorem cL_1040 : mc_lawcd 1040 = some (.iconst 1, 1) := by decide +kernel
theorem cL_1041 : mc_lawcd 1041 = some (.iadd, 1) := by decide +kernel
theorem cL_1042 : mc_lawcd 1042 = some (.iaload, 1) := by decide +kernel
theorem cL_1043 : mc_lawcd 1043 = some (.aload_n 0, 1) := by decide +kernel
theorem cL_1044 : mc_lawcd 1044 = some (.iload 4, 2) := by decide +kernel
theorem cL_1046 : mc_lawcd 1046 = some (.iconst 2, 1) := by decide +kernel
theorem cL_1047 : mc_lawcd 1047 = some (.iadd, 1) := by decide +kernel
theorem cL_1048 : mc_lawcd 1048 = some (.iaload, 1) := by decide +kernel
theorem cL_1049 : mc_lawcd 1049 = some (.invokevirtual 138, 3) := by decide +kernel
theorem cL_1052 : mc_lawcd 1052 = some (.pop, 1) := by decide +kernel
theorem cL_1053 : mc_lawcd 1053 = some (.goto 600, 3) := by decide +kernel
theorem cL_1056 : mc_lawcd 1056 = some (.aload_n 1, 1) := by decide +kernel
theorem cL_1057 : mc_lawcd 1057 = some (.aload_n 0, 1) := by decide +kernel
theorem cL_1058 : mc_lawcd 1058 = some (.iload 4, 2) := by decide +kernel
theorem cL_1060 : mc_lawcd 1060 = some (.iconst 1, 1) := by decide +kernel
theorem cL_1061 : mc_lawcd 1061 = some (.iadd, 1) := by decide +kernel
theorem cL_1062 : mc_lawcd 1062 = some (.iaload, 1) := by decide +kernel
theorem cL_1063 : mc_lawcd 1063 = some (.aload_n 0, 1) := by decide +kernel
theorem cL_1064 : mc_lawcd 1064 = some (.iload 4, 2) := by decide +kernel
theorem cL_1066 : mc_lawcd 1066 = some (.iconst 2, 1) := by decide +kernel
theorem cL_1067 : mc_lawcd 1067 = some (.iadd, 1) := by decide +kernel
theorem cL_1068 : mc_lawcd 1068 = some (.iaload, 1) := by decide +kernel
theorem cL_1069 : mc_lawcd 1069 = some (.ifCond .eq 7, 3) := by decide +kernel
theorem cL_1072 : mc_lawcd 1072 = some (.iconst 1, 1) := by decide +kernel
theorem cL_1073 : mc_lawcd 1073 = some (.goto 4, 3) := by decide +kernel
theorem cL_1076 : mc_lawcd 1076 = some (.iconst 0, 1) := by decide +kernel
theorem cL_1077 : mc_lawcd 1077 = some (.invokevirtual 139, 3) := by decide +kernel
theorem cL_1080 : mc_lawcd 1080 = some (.pop, 1) := by decide +kernel
theorem cL_1081 : mc_lawcd 1081 = some (.aload_n 2, 1) := by decide +kernel
theorem cL_1082 : mc_lawcd 1082 = some (.aload_n 0, 1) := by decide +kernel
theorem cL_1083 : mc_lawcd 1083 = some (.iload 4, 2) := by decide +kernel
theorem cL_1085 : mc_lawcd 1085 = some (.iconst 1, 1) := by decide +kernel
theorem cL_1086 : mc_lawcd 1086 = some (.iadd, 1) := by decide +kernel
theorem cL_1087 : mc_lawcd 1087 = some (.iaload, 1) := by decide +kernel
theorem cL_1088 : mc_lawcd 1088 = some (.aload_n 0, 1) := by decide +kernel
theorem cL_1089 : mc_lawcd 1089 = some (.iload 4, 2) := by decide +kernel
theorem cL_1091 : mc_lawcd 1091 = some (.iconst 2, 1) := by decide +kernel
theorem cL_1092 : mc_lawcd 1092 = some (.iadd, 1) := by decide +kernel
theorem cL_1093 : mc_lawcd 1093 = some (.iaload, 1) := by decide +kernel
theorem cL_1094 : mc_lawcd 1094 = some (.ifCond .eq 7, 3) := by decide +kernel
theorem cL_1097 : mc_lawcd 1097 = some (.iconst 1, 1) := by decide +kernel
theorem cL_1098 : mc_lawcd 1098 = some (.goto 4, 3) := by decide +kernel
theorem cL_1101 : mc_lawcd 1101 = some (.iconst 0, 1) := by decide +kernel
theorem cL_1102 : mc_lawcd 1102 = some (.invokevirtual 142, 3) := by decide +kernel
theorem cL_1105 : mc_lawcd 1105 = some (.pop, 1) := by decide +kernel
theorem cL_1106 : mc_lawcd 1106 = some (.goto 547, 3) := by decide +kernel
theorem cL_1109 : mc_lawcd 1109 = some (.aload_n 1, 1) := by decide +kernel
theorem cL_1110 : mc_lawcd 1110 = some (.aload_n 0, 1) := by decide +kernel
theorem cL_1111 : mc_lawcd 1111 = some (.iload 4, 2) := by decide +kernel
theorem cL_1113 : mc_lawcd 1113 = some (.iconst 1, 1) := by decide +kernel
theorem cL_1114 : mc_lawcd 1114 = some (.iadd, 1) := by decide +kernel
theorem cL_1115 : mc_lawcd 1115 = some (.iaload, 1) := by decide +kernel
theorem cL_1116 : mc_lawcd 1116 = some (.aload_n 0, 1) := by decide +kernel
theorem cL_1117 : mc_lawcd 1117 = some (.iload 4, 2) := by decide +kernel
theorem cL_1119 : mc_lawcd 1119 = some (.iconst 2, 1) := by decide +kernel
theorem cL_1120 : mc_lawcd 1120 = some (.iadd, 1) := by decide +kernel
theorem cL_1121 : mc_lawcd 1121 = some (.iaload, 1) := by decide +kernel
theorem cL_1122 : mc_lawcd 1122 = some (.ifCond .eq 7, 3) := by decide +kernel
theorem cL_1125 : mc_lawcd 1125 = some (.iconst 1, 1) := by decide +kernel
theorem cL_1126 : mc_lawcd 1126 = some (.goto 4, 3) := by decide +kernel
theorem cL_1129 : mc_lawcd 1129 = some (.iconst 0, 1) := by decide +kernel
theorem cL_1130 : mc_lawcd 1130 = some (.invokevirtual 143, 3) := by decide +kernel
theorem cL_1133 : mc_lawcd 1133 = some (.pop, 1) := by decide +kernel
theorem cL_1134 : mc_lawcd 1134 = some (.aload_n 2, 1) := by decide +kernel
theorem cL_1135 : mc_lawcd 1135 = some (.aload_n 0, 1) := by decide +kernel
theorem cL_1136 : mc_lawcd 1136 = some (.iload 4, 2) := by decide +kernel
theorem cL_1138 : mc_lawcd 1138 = some (.iconst 1, 1) := by decide +kernel
theorem cL_1139 : mc_lawcd 1139 = some (.iadd, 1) := by decide +kernel
theorem cL_1140 : mc_lawcd 1140 = some (.iaload, 1) := by decide +kernel
theorem cL_1141 : mc_lawcd 1141 = some (.aload_n 0, 1) := by decide +kernel
theorem cL_1142 : mc_lawcd 1142 = some (.iload 4, 2) := by decide +kernel
theorem cL_1144 : mc_lawcd 1144 = some (.iconst 2, 1) := by decide +kernel
theorem cL_1145 : mc_lawcd 1145 = some (.iadd, 1) := by decide +kernel
theorem cL_1146 : mc_lawcd 1146 = some (.iaload, 1) := by decide +kernel
theorem cL_1147 : mc_lawcd 1147 = some (.ifCond .eq 7, 3) := by decide +kernel
theorem cL_1150 : mc_lawcd 1150 = some (.iconst 1, 1) := by decide +kernel
theorem cL_1151 : mc_lawcd 1151 = some (.goto 4, 3) := by decide +kernel
theorem cL_1154 : mc_lawcd 1154 = some (.iconst 0, 1) := by decide +kernel
theorem cL_1155 : mc_lawcd 1155 = some (.invokevirtual 146, 3) := by decide +kernel
theorem cL_1158 : mc_lawcd 1158 = some (.pop, 1) := by decide +kernel
theorem cL_1159 : mc_lawcd 1159 = some (.goto 494, 3) := by decide +kernel
theorem cL_1162 : mc_lawcd 1162 = some (.aload_n 1, 1) := by decide +kernel
theorem cL_1163 : mc_lawcd 1163 = some (.invokevirtual 147, 3) := by decide +kernel
theorem cL_1166 : mc_lawcd 1166 = some (.pop, 1) := by decide +kernel
theorem cL_1167 : mc_lawcd 1167 = some (.aload_n 2, 1) := by decide +kernel
theorem cL_1168 : mc_lawcd 1168 = some (.invokevirtual 150, 3) := by decide +kernel
theorem cL_1171 : mc_lawcd 1171 = some (.pop, 1) := by decide +kernel
theorem cL_1172 : mc_lawcd 1172 = some (.goto 481, 3) := by decide +kernel
theorem cL_1175 : mc_lawcd 1175 = some (.aload_n 1, 1) := by decide +kernel
theorem cL_1176 : mc_lawcd 1176 = some (.aload_n 0, 1) := by decide +kernel
theorem cL_1177 : mc_lawcd 1177 = some (.iload 4, 2) := by decide +kernel
theorem cL_1179 : mc_lawcd 1179 = some (.iconst 1, 1) := by decide +kernel
theorem cL_1180 : mc_lawcd 1180 = some (.iadd, 1) := by decide +kernel
theorem cL_1181 : mc_lawcd 1181 = some (.iaload, 1) := by decide +kernel
theorem cL_1182 : mc_lawcd 1182 = some (.invokevirtual 151, 3) := by decide +kernel
theorem cL_1185 : mc_lawcd 1185 = some (.pop, 1) := by decide +kernel
theorem cL_1186 : mc_lawcd 1186 = some (.aload_n 2, 1) := by decide +kernel
theorem cL_1187 : mc_lawcd 1187 = some (.aload_n 0, 1) := by decide +kernel
theorem cL_1188 : mc_lawcd 1188 = some (.iload 4, 2) := by decide +kernel
theorem cL_1190 : mc_lawcd 1190 = some (.iconst 1, 1) := by decide +kernel
theorem cL_1191 : mc_lawcd 1191 = some (.iadd, 1) := by decide +kernel
theorem cL_1192 : mc_lawcd 1192 = some (.iaload, 1) := by decide +kernel
theorem cL_1193 : mc_lawcd 1193 = some (.invokevirtual 154, 3) := by decide +kernel
theorem cL_1196 : mc_lawcd 1196 = some (.pop, 1) := by decide +kernel
theorem cL_1197 : mc_lawcd 1197 = some (.goto 456, 3) := by decide +kernel
theorem cL_1200 : mc_lawcd 1200 = some (.aload_n 1, 1) := by decide +kernel
theorem cL_1201 : mc_lawcd 1201 = some (.aload_n 0, 1) := by decide +kernel
theorem cL_1202 : mc_lawcd 1202 = some (.iload 4, 2) := by decide +kernel
theorem cL_1204 : mc_lawcd 1204 = some (.iconst 1, 1) := by decide +kernel
theorem cL_1205 : mc_lawcd 1205 = some (.iadd, 1) := by decide +kernel
theorem cL_1206 : mc_lawcd 1206 = some (.iaload, 1) := by decide +kernel
theorem cL_1207 : mc_lawcd 1207 = some (.invokevirtual 155, 3) := by decide +kernel
theorem cL_1210 : mc_lawcd 1210 = some (.pop, 1) := by decide +kernel
theorem cL_1211 : mc_lawcd 1211 = some (.aload_n 2, 1) := by decide +kernel
theorem cL_1212 : mc_lawcd 1212 = some (.aload_n 0, 1) := by decide +kernel
theorem cL_1213 : mc_lawcd 1213 = some (.iload 4, 2) := by decide +kernel
theorem cL_1215 : mc_lawcd 1215 = some (.iconst 1, 1) := by decide +kernel
theorem cL_1216 : mc_lawcd 1216 = some (.iadd, 1) := by decide +kernel
theorem cL_1217 : mc_lawcd 1217 = some (.iaload, 1) := by decide +kernel
theorem cL_1218 : mc_lawcd 1218 = some (.invokevirtual 158, 3) := by decide +kernel
theorem cL_1221 : mc_lawcd 1221 = some (.pop, 1) := by decide +kernel
theorem cL_1222 : mc_lawcd 1222 = some (.goto 431, 3) := by decide +kernel
theorem cL_1225 : mc_lawcd 1225 = some (.aload_n 1, 1) := by decide +kernel
theorem cL_1226 : mc_lawcd 1226 = some (.aload_n 0, 1) := by decide +kernel
theorem cL_1227 : mc_lawcd 1227 = some (.iload 4, 2) := by decide +kernel
theorem cL_1229 : mc_lawcd 1229 = some (.iconst 1, 1) := by decide +kernel
theorem cL_1230 : mc_lawcd 1230 = some (.iadd, 1) := by decide +kernel
theorem cL_1231 : mc_lawcd 1231 = some (.iaload, 1) := by decide +kernel
theorem cL_1232 : mc_lawcd 1232 = some (.invokevirtual 159, 3) := by decide +kernel
theorem cL_1235 : mc_lawcd 1235 = some (.pop, 1) := by decide +kernel
theorem cL_1236 : mc_lawcd 1236 = some (.aload_n 2, 1) := by decide +kernel
theorem cL_1237 : mc_lawcd 1237 = some (.aload_n 0, 1) := by decide +kernel
theorem cL_1238 : mc_lawcd 1238 = some (.iload 4, 2) := by decide +kernel
theorem cL_1240 : mc_lawcd 1240 = some (.iconst 1, 1) := by decide +kernel
theorem cL_1241 : mc_lawcd 1241 = some (.iadd, 1) := by decide +kernel
theorem cL_1242 : mc_lawcd 1242 = some (.iaload, 1) := by decide +kernel
theorem cL_1243 : mc_lawcd 1243 = some (.invokevirtual 162, 3) := by decide +kernel
theorem cL_1246 : mc_lawcd 1246 = some (.pop, 1) := by decide +kernel
theorem cL_1247 : mc_lawcd 1247 = some (.goto 406, 3) := by decide +kernel
theorem cL_1250 : mc_lawcd 1250 = some (.aload_n 1, 1) := by decide +kernel
theorem cL_1251 : mc_lawcd 1251 = some (.invokevirtual 163, 3) := by decide +kernel
theorem cL_1254 : mc_lawcd 1254 = some (.pop, 1) := by decide +kernel
theorem cL_1255 : mc_lawcd 1255 = some (.aload_n 2, 1) := by decide +kernel
theorem cL_1256 : mc_lawcd 1256 = some (.invokevirtual 166, 3) := by decide +kernel
theorem cL_1259 : mc_lawcd 1259 = some (.pop, 1) := by decide +kernel
theorem cL_1260 : mc_lawcd 1260 = some (.goto 393, 3) := by decide +kernel
theorem cL_1263 : mc_lawcd 1263 = some (.aload_n 1, 1) := by decide +kernel
theorem cL_1264 : mc_lawcd 1264 = some (.aload_n 0, 1) := by decide +kernel
theorem cL_1265 : mc_lawcd 1265 = some (.iload 4, 2) := by decide +kernel
theorem cL_1267 : mc_lawcd 1267 = some (.iconst 1, 1) := by decide +kernel
theorem cL_1268 : mc_lawcd 1268 = some (.iadd, 1) := by decide +kernel
theorem cL_1269 : mc_lawcd 1269 = some (.iaload, 1) := by decide +kernel
theorem cL_1270 : mc_lawcd 1270 = some (.aload_n 0, 1) := by decide +kernel
theorem cL_1271 : mc_lawcd 1271 = some (.iload 4, 2) := by decide +kernel
theorem cL_1273 : mc_lawcd 1273 = some (.iconst 2, 1) := by decide +kernel
theorem cL_1274 : mc_lawcd 1274 = some (.iadd, 1) := by decide +kernel
theorem cL_1275 : mc_lawcd 1275 = some (.iaload, 1) := by decide +kernel
theorem cL_1276 : mc_lawcd 1276 = some (.ifCond .eq 7, 3) := by decide +kernel
theorem cL_1279 : mc_lawcd 1279 = some (.iconst 1, 1) := by decide +kernel
theorem cL_1280 : mc_lawcd 1280 = some (.goto 4, 3) := by decide +kernel
theorem cL_1283 : mc_lawcd 1283 = some (.iconst 0, 1) := by decide +kernel
theorem cL_1284 : mc_lawcd 1284 = some (.invokevirtual 167, 3) := by decide +kernel
theorem cL_1287 : mc_lawcd 1287 = some (.pop, 1) := by decide +kernel
theorem cL_1288 : mc_lawcd 1288 = some (.aload_n 2, 1) := by decide +kernel
theorem cL_1289 : mc_lawcd 1289 = some (.aload_n 0, 1) := by decide +kernel
theorem cL_1290 : mc_lawcd 1290 = some (.iload 4, 2) := by decide +kernel
theorem cL_1292 : mc_lawcd 1292 = some (.iconst 1, 1) := by decide +kernel
theorem cL_1293 : mc_lawcd 1293 = some (.iadd, 1) := by decide +kernel
theorem cL_1294 : mc_lawcd 1294 = some (.iaload, 1) := by decide +kernel
theorem cL_1295 : mc_lawcd 1295 = some (.aload_n 0, 1) := by decide +kernel
theorem cL_1296 : mc_lawcd 1296 = some (.iload 4, 2) := by decide +kernel
theorem cL_1298 : mc_lawcd 1298 = some (.iconst 2, 1) := by decide +kernel
theorem cL_1299 : mc_lawcd 1299 = some (.iadd, 1) := by decide +kernel
theorem cL_1300 : mc_lawcd 1300 = some (.iaload, 1) := by decide +kernel
theorem cL_1301 : mc_lawcd 1301 = some (.ifCond .eq 7, 3) := by decide +kernel
theorem cL_1304 : mc_lawcd 1304 = some (.iconst 1, 1) := by decide +kernel
theorem cL_1305 : mc_lawcd 1305 = some (.goto 4, 3) := by decide +kernel
theorem cL_1308 : mc_lawcd 1308 = some (.iconst 0, 1) := by decide +kernel
theorem cL_1309 : mc_lawcd 1309 = some (.invokevirtual 170, 3) := by decide +kernel
theorem cL_1312 : mc_lawcd 1312 = some (.pop, 1) := by decide +kernel
theorem cL_1313 : mc_lawcd 1313 = some (.goto 340, 3) := by decide +kernel
theorem cL_1316 : mc_lawcd 1316 = some (.aload_n 1, 1) := by decide +kernel
theorem cL_1317 : mc_lawcd 1317 = some (.invokevirtual 171, 3) := by decide +kernel
theorem cL_1320 : mc_lawcd 1320 = some (.pop, 1) := by decide +kernel
theorem cL_1321 : mc_lawcd 1321 = some (.aload_n 2, 1) := by decide +kernel
theorem cL_1322 : mc_lawcd 1322 = some (.invokevirtual 174, 3) := by decide +kernel
theorem cL_1325 : mc_lawcd 1325 = some (.pop, 1) := by decide +kernel
theorem cL_1326 : mc_lawcd 1326 = some (.goto 327, 3) := by decide +kernel
theorem cL_1329 : mc_lawcd 1329 = some (.aload_n 1, 1) := by decide +kernel
theorem cL_1330 : mc_lawcd 1330 = some (.invokevirtual 175, 3) := by decide +kernel
theorem cL_1333 : mc_lawcd 1333 = some (.pop, 1) := by decide +kernel
theorem cL_1334 : mc_lawcd 1334 = some (.aload_n 2, 1) := by decide +kernel
theorem cL_1335 : mc_lawcd 1335 = some (.invokevirtual 178, 3) := by decide +kernel
theorem cL_1338 : mc_lawcd 1338 = some (.pop, 1) := by decide +kernel
theorem cL_1339 : mc_lawcd 1339 = some (.goto 314, 3) := by decide +kernel
theorem cL_1342 : mc_lawcd 1342 = some (.aload_n 1, 1) := by decide +kernel
theorem cL_1343 : mc_lawcd 1343 = some (.aload_n 0, 1) := by decide +kernel
theorem cL_1344 : mc_lawcd 1344 = some (.iload 4, 2) := by decide +kernel
theorem cL_1346 : mc_lawcd 1346 = some (.iconst 1, 1) := by decide +kernel
theorem cL_1347 : mc_lawcd 1347 = some (.iadd, 1) := by decide +kernel
theorem cL_1348 : mc_lawcd 1348 = some (.iaload, 1) := by decide +kernel
theorem cL_1349 : mc_lawcd 1349 = some (.invokevirtual 179, 3) := by decide +kernel
theorem cL_1352 : mc_lawcd 1352 = some (.pop, 1) := by decide +kernel
theorem cL_1353 : mc_lawcd 1353 = some (.aload_n 2, 1) := by decide +kernel
theorem cL_1354 : mc_lawcd 1354 = some (.aload_n 0, 1) := by decide +kernel
theorem cL_1355 : mc_lawcd 1355 = some (.iload 4, 2) := by decide +kernel
theorem cL_1357 : mc_lawcd 1357 = some (.iconst 1, 1) := by decide +kernel
theorem cL_1358 : mc_lawcd 1358 = some (.iadd, 1) := by decide +kernel
theorem cL_1359 : mc_lawcd 1359 = some (.iaload, 1) := by decide +kernel
theorem cL_1360 : mc_lawcd 1360 = some (.invokevirtual 182, 3) := by decide +kernel
theorem cL_1363 : mc_lawcd 1363 = some (.pop, 1) := by decide +kernel
theorem cL_1364 : mc_lawcd 1364 = some (.goto 289, 3) := by decide +kernel
theorem cL_1367 : mc_lawcd 1367 = some (.aload_n 1, 1) := by decide +kernel
theorem cL_1368 : mc_lawcd 1368 = some (.aload_n 0, 1) := by decide +kernel
theorem cL_1369 : mc_lawcd 1369 = some (.iload 4, 2) := by decide +kernel
theorem cL_1371 : mc_lawcd 1371 = some (.iconst 1, 1) := by decide +kernel
theorem cL_1372 : mc_lawcd 1372 = some (.iadd, 1) := by decide +kernel
theorem cL_1373 : mc_lawcd 1373 = some (.iaload, 1) := by decide +kernel
theorem cL_1374 : mc_lawcd 1374 = some (.aload_n 0, 1) := by decide +kernel
theorem cL_1375 : mc_lawcd 1375 = some (.iload 4, 2) := by decide +kernel
theorem cL_1377 : mc_lawcd 1377 = some (.iconst 2, 1) := by decide +kernel
theorem cL_1378 : mc_lawcd 1378 = some (.iadd, 1) := by decide +kernel
theorem cL_1379 : mc_lawcd 1379 = some (.iaload, 1) := by decide +kernel
theorem cL_1380 : mc_lawcd 1380 = some (.invokevirtual 183, 3) := by decide +kernel
theorem cL_1383 : mc_lawcd 1383 = some (.pop, 1) := by decide +kernel
theorem cL_1384 : mc_lawcd 1384 = some (.aload_n 2, 1) := by decide +kernel
theorem cL_1385 : mc_lawcd 1385 = some (.aload_n 0, 1) := by decide +kernel
theorem cL_1386 : mc_lawcd 1386 = some (.iload 4, 2) := by decide +kernel
theorem cL_1388 : mc_lawcd 1388 = some (.iconst 1, 1) := by decide +kernel
theorem cL_1389 : mc_lawcd 1389 = some (.iadd, 1) := by decide +kernel
theorem cL_1390 : mc_lawcd 1390 = some (.iaload, 1) := by decide +kernel
theorem cL_1391 : mc_lawcd 1391 = some (.aload_n 0, 1) := by decide +kernel
theorem cL_1392 : mc_lawcd 1392 = some (.iload 4, 2) := by decide +kernel
theorem cL_1394 : mc_lawcd 1394 = some (.iconst 2, 1) := by decide +kernel
theorem cL_1395 : mc_lawcd 1395 = some (.iadd, 1) := by decide +kernel
theorem cL_1396 : mc_lawcd 1396 = some (.iaload, 1) := by decide +kernel
theorem cL_1397 : mc_lawcd 1397 = some (.invokevirtual 186, 3) := by decide +kernel
theorem cL_1400 : mc_lawcd 1400 = some (.pop, 1) := by decide +kernel
theorem cL_1401 : mc_lawcd 1401 = some (.goto 252, 3) := by decide +kernel
theorem cL_1404 : mc_lawcd 1404 = some (.aload_n 1, 1) := by decide +kernel
theorem cL_1405 : mc_lawcd 1405 = some (.aload_n 0, 1) := by decide +kernel
theorem cL_1406 : mc_lawcd 1406 = some (.iload 4, 2) := by decide +kernel
theorem cL_1408 : mc_lawcd 1408 = some (.iconst 1, 1) := by decide +kernel
theorem cL_1409 : mc_lawcd 1409 = some (.iadd, 1) := by decide +kernel
theorem cL_1410 : mc_lawcd 1410 = some (.iaload, 1) := by decide +kernel
theorem cL_1411 : mc_lawcd 1411 = some (.invokevirtual 187, 3) := by decide +kernel
theorem cL_1414 : mc_lawcd 1414 = some (.pop, 1) := by decide +kernel
theorem cL_1415 : mc_lawcd 1415 = some (.aload_n 2, 1) := by decide +kernel
theorem cL_1416 : mc_lawcd 1416 = some (.aload_n 0, 1) := by decide +kernel
theorem cL_1417 : mc_lawcd 1417 = some (.iload 4, 2) := by decide +kernel
theorem cL_1419 : mc_lawcd 1419 = some (.iconst 1, 1) := by decide +kernel
theorem cL_1420 : mc_lawcd 1420 = some (.iadd, 1) := by decide +kernel
theorem cL_1421 : mc_lawcd 1421 = some (.iaload, 1) := by decide +kernel
theorem cL_1422 : mc_lawcd 1422 = some (.invokevirtual 191, 3) := by decide +kernel
theorem cL_1425 : mc_lawcd 1425 = some (.pop, 1) := by decide +kernel
theorem cL_1426 : mc_lawcd 1426 = some (.goto 227, 3) := by decide +kernel
theorem cL_1429 : mc_lawcd 1429 = some (.aload_n 1, 1) := by decide +kernel
theorem cL_1430 : mc_lawcd 1430 = some (.aload_n 0, 1) := by decide +kernel
theorem cL_1431 : mc_lawcd 1431 = some (.iload 4, 2) := by decide +kernel
theorem cL_1433 : mc_lawcd 1433 = some (.iconst 1, 1) := by decide +kernel
theorem cL_1434 : mc_lawcd 1434 = some (.iadd, 1) := by decide +kernel
theorem cL_1435 : mc_lawcd 1435 = some (.iaload, 1) := by decide +kernel
theorem cL_1436 : mc_lawcd 1436 = some (.invokevirtual 192, 3) := by decide +kernel
theorem cL_1439 : mc_lawcd 1439 = some (.pop, 1) := by decide +kernel
theorem cL_1440 : mc_lawcd 1440 = some (.aload_n 2, 1) := by decide +kernel
theorem cL_1441 : mc_lawcd 1441 = some (.aload_n 0, 1) := by decide +kernel
theorem cL_1442 : mc_lawcd 1442 = some (.iload 4, 2) := by decide +kernel
theorem cL_1444 : mc_lawcd 1444 = some (.iconst 1, 1) := by decide +kernel
theorem cL_1445 : mc_lawcd 1445 = some (.iadd, 1) := by decide +kernel
theorem cL_1446 : mc_lawcd 1446 = some (.iaload, 1) := by decide +kernel
theorem cL_1447 : mc_lawcd 1447 = some (.invokevirtual 195, 3) := by decide +kernel
theorem cL_1450 : mc_lawcd 1450 = some (.pop, 1) := by decide +kernel
theorem cL_1451 : mc_lawcd 1451 = some (.goto 202, 3) := by decide +kernel
theorem cL_1454 : mc_lawcd 1454 = some (.aload_n 1, 1) := by decide +kernel
theorem cL_1455 : mc_lawcd 1455 = some (.invokevirtual 196, 3) := by decide +kernel
theorem cL_1458 : mc_lawcd 1458 = some (.pop, 1) := by decide +kernel
theorem cL_1459 : mc_lawcd 1459 = some (.aload_n 2, 1) := by decide +kernel
theorem cL_1460 : mc_lawcd 1460 = some (.invokevirtual 199, 3) := by decide +kernel
theorem cL_1463 : mc_lawcd 1463 = some (.pop, 1) := by decide +kernel
theorem cL_1464 : mc_lawcd 1464 = some (.goto 189, 3) := by decide +kernel
theorem cL_1467 : mc_lawcd 1467 = some (.aload_n 1, 1) := by decide +kernel
theorem cL_1468 : mc_lawcd 1468 = some (.aload_n 0, 1) := by decide +kernel
theorem cL_1469 : mc_lawcd 1469 = some (.iload 4, 2) := by decide +kernel
theorem cL_1471 : mc_lawcd 1471 = some (.iconst 1, 1) := by decide +kernel
theorem cL_1472 : mc_lawcd 1472 = some (.iadd, 1) := by decide +kernel
theorem cL_1473 : mc_lawcd 1473 = some (.iaload, 1) := by decide +kernel
theorem cL_1474 : mc_lawcd 1474 = some (.aload_n 0, 1) := by decide +kernel
theorem cL_1475 : mc_lawcd 1475 = some (.iload 4, 2) := by decide +kernel
theorem cL_1477 : mc_lawcd 1477 = some (.iconst 2, 1) := by decide +kernel
theorem cL_1478 : mc_lawcd 1478 = some (.iadd, 1) := by decide +kernel
theorem cL_1479 : mc_lawcd 1479 = some (.iaload, 1) := by decide +kernel
theorem cL_1480 : mc_lawcd 1480 = some (.invokevirtual 200, 3) := by decide +kernel
theorem cL_1483 : mc_lawcd 1483 = some (.pop, 1) := by decide +kernel
theorem cL_1484 : mc_lawcd 1484 = some (.aload_n 2, 1) := by decide +kernel
theorem cL_1485 : mc_lawcd 1485 = some (.aload_n 0, 1) := by decide +kernel
theorem cL_1486 : mc_lawcd 1486 = some (.iload 4, 2) := by decide +kernel
theorem cL_1488 : mc_lawcd 1488 = some (.iconst 1, 1) := by decide +kernel
theorem cL_1489 : mc_lawcd 1489 = some (.iadd, 1) := by decide +kernel
theorem cL_1490 : mc_lawcd 1490 = some (.iaload, 1) := by decide +kernel
theorem cL_1491 : mc_lawcd 1491 = some (.aload_n 0, 1) := by decide +kernel
theorem cL_1492 : mc_lawcd 1492 = some (.iload 4, 2) := by decide +kernel
theorem cL_1494 : mc_lawcd 1494 = some (.iconst 2, 1) := by decide +kernel
theorem cL_1495 : mc_lawcd 1495 = some (.iadd, 1) := by decide +kernel
theorem cL_1496 : mc_lawcd 1496 = some (.iaload, 1) := by decide +kernel
theorem cL_1497 : mc_lawcd 1497 = some (.invokevirtual 203, 3) := by decide +kernel
theorem cL_1500 : mc_lawcd 1500 = some (.pop, 1) := by decide +kernel
theorem cL_1501 : mc_lawcd 1501 = some (.goto 152, 3) := by decide +kernel
theorem cL_1504 : mc_lawcd 1504 = some (.aload_n 1, 1) := by decide +kernel
theorem cL_1505 : mc_lawcd 1505 = some (.invokevirtual 204, 3) := by decide +kernel
theorem cL_1508 : mc_lawcd 1508 = some (.pop, 1) := by decide +kernel
theorem cL_1509 : mc_lawcd 1509 = some (.aload_n 2, 1) := by decide +kernel
theorem cL_1510 : mc_lawcd 1510 = some (.invokevirtual 208, 3) := by decide +kernel
theorem cL_1513 : mc_lawcd 1513 = some (.pop, 1) := by decide +kernel
theorem cL_1514 : mc_lawcd 1514 = some (.goto 139, 3) := by decide +kernel
theorem cL_1517 : mc_lawcd 1517 = some (.aload_n 1, 1) := by decide +kernel
theorem cL_1518 : mc_lawcd 1518 = some (.invokevirtual 209, 3) := by decide +kernel
theorem cL_1521 : mc_lawcd 1521 = some (.pop2, 1) := by decide +kernel
theorem cL_1522 : mc_lawcd 1522 = some (.aload_n 2, 1) := by decide +kernel
theorem cL_1523 : mc_lawcd 1523 = some (.invokevirtual 212, 3) := by decide +kernel
theorem cL_1526 : mc_lawcd 1526 = some (.pop2, 1) := by decide +kernel
theorem cL_1527 : mc_lawcd 1527 = some (.goto 126, 3) := by decide +kernel
theorem cL_1530 : mc_lawcd 1530 = some (.aload_n 1, 1) := by decide +kernel
theorem cL_1531 : mc_lawcd 1531 = some (.aload_n 0, 1) := by decide +kernel
theorem cL_1532 : mc_lawcd 1532 = some (.iload 4, 2) := by decide +kernel
theorem cL_1534 : mc_lawcd 1534 = some (.iconst 1, 1) := by decide +kernel
theorem cL_1535 : mc_lawcd 1535 = some (.iadd, 1) := by decide +kernel
theorem cL_1536 : mc_lawcd 1536 = some (.iaload, 1) := by decide +kernel
theorem cL_1537 : mc_lawcd 1537 = some (.i2l, 1) := by decide +kernel
theorem cL_1538 : mc_lawcd 1538 = some (.bipush 32, 2) := by decide +kernel
theorem cL_1540 : mc_lawcd 1540 = some (.lshl, 1) := by decide +kernel
theorem cL_1541 : mc_lawcd 1541 = some (.aload_n 0, 1) := by decide +kernel
theorem cL_1542 : mc_lawcd 1542 = some (.iload 4, 2) := by decide +kernel
theorem cL_1544 : mc_lawcd 1544 = some (.iconst 2, 1) := by decide +kernel
theorem cL_1545 : mc_lawcd 1545 = some (.iadd, 1) := by decide +kernel
theorem cL_1546 : mc_lawcd 1546 = some (.iaload, 1) := by decide +kernel
theorem cL_1547 : mc_lawcd 1547 = some (.i2l, 1) := by decide +kernel
theorem cL_1548 : mc_lawcd 1548 = some (.ldc2_w 213, 3) := by decide +kernel
theorem cL_1551 : mc_lawcd 1551 = some (.land, 1) := by decide +kernel
theorem cL_1552 : mc_lawcd 1552 = some (.lor, 1) := by decide +kernel
theorem cL_1553 : mc_lawcd 1553 = some (.invokevirtual 215, 3) := by decide +kernel
theorem cL_1556 : mc_lawcd 1556 = some (.pop, 1) := by decide +kernel
theorem cL_1557 : mc_lawcd 1557 = some (.aload_n 2, 1) := by decide +kernel
theorem cL_1558 : mc_lawcd 1558 = some (.aload_n 0, 1) := by decide +kernel
theorem cL_1559 : mc_lawcd 1559 = some (.iload 4, 2) := by decide +kernel
theorem cL_1561 : mc_lawcd 1561 = some (.iconst 1, 1) := by decide +kernel
theorem cL_1562 : mc_lawcd 1562 = some (.iadd, 1) := by decide +kernel
theorem cL_1563 : mc_lawcd 1563 = some (.iaload, 1) := by decide +kernel
theorem cL_1564 : mc_lawcd 1564 = some (.i2l, 1) := by decide +kernel
theorem cL_1565 : mc_lawcd 1565 = some (.bipush 32, 2) := by decide +kernel
theorem cL_1567 : mc_lawcd 1567 = some (.lshl, 1) := by decide +kernel
theorem cL_1568 : mc_lawcd 1568 = some (.aload_n 0, 1) := by decide +kernel
theorem cL_1569 : mc_lawcd 1569 = some (.iload 4, 2) := by decide +kernel
theorem cL_1571 : mc_lawcd 1571 = some (.iconst 2, 1) := by decide +kernel
theorem cL_1572 : mc_lawcd 1572 = some (.iadd, 1) := by decide +kernel
theorem cL_1573 : mc_lawcd 1573 = some (.iaload, 1) := by decide +kernel
theorem cL_1574 : mc_lawcd 1574 = some (.i2l, 1) := by decide +kernel
theorem cL_1575 : mc_lawcd 1575 = some (.ldc2_w 213, 3) := by decide +kernel
theorem cL_1578 : mc_lawcd 1578 = some (.land, 1) := by decide +kernel
theorem cL_1579 : mc_lawcd 1579 = some (.lor, 1) := by decide +kernel
theorem cL_1580 : mc_lawcd 1580 = some (.invokevirtual 219, 3) := by decide +kernel
theorem cL_1583 : mc_lawcd 1583 = some (.pop, 1) := by decide +kernel
theorem cL_1584 : mc_lawcd 1584 = some (.goto 69, 3) := by decide +kernel
theorem cL_1587 : mc_lawcd 1587 = some (.aload_n 1, 1) := by decide +kernel
theorem cL_1588 : mc_lawcd 1588 = some (.aload_n 0, 1) := by decide +kernel
theorem cL_1589 : mc_lawcd 1589 = some (.iload 4, 2) := by decide +kernel
theorem cL_1591 : mc_lawcd 1591 = some (.iconst 1, 1) := by decide +kernel
theorem cL_1592 : mc_lawcd 1592 = some (.iadd, 1) := by decide +kernel
theorem cL_1593 : mc_lawcd 1593 = some (.iaload, 1) := by decide +kernel
theorem cL_1594 : mc_lawcd 1594 = some (.aload_n 3, 1) := by decide +kernel
theorem cL_1598 : mc_lawcd 1598 = some (.istore 5, 2) := by decide +kernel
theorem cL_1600 : mc_lawcd 1600 = some (.aload_n 2, 1) := by decide +kernel
theorem cL_1601 : mc_lawcd 1601 = some (.aload_n 0, 1) := by decide +kernel
theorem cL_1602 : mc_lawcd 1602 = some (.iload 4, 2) := by decide +kernel
theorem cL_1604 : mc_lawcd 1604 = some (.iconst 1, 1) := by decide +kernel
theorem cL_1605 : mc_lawcd 1605 = some (.iadd, 1) := by decide +kernel
theorem cL_1606 : mc_lawcd 1606 = some (.iaload, 1) := by decide +kernel
theorem cL_1607 : mc_lawcd 1607 = some (.invokevirtual 225, 3) := by decide +kernel
theorem cL_1610 : mc_lawcd 1610 = some (.istore 6, 2) := by decide +kernel
theorem cL_1612 : mc_lawcd 1612 = some (.goto 41, 3) := by decide +kernel
theorem cL_1615 : mc_lawcd 1615 = some (.aload_n 1, 1) := by decide +kernel
theorem cL_1616 : mc_lawcd 1616 = some (.aload_n 0, 1) := by decide +kernel
theorem cL_1617 : mc_lawcd 1617 = some (.iload 4, 2) := by decide +kernel
theorem cL_1619 : mc_lawcd 1619 = some (.iconst 1, 1) := by decide +kernel
theorem cL_1620 : mc_lawcd 1620 = some (.iadd, 1) := by decide +kernel
theorem cL_1621 : mc_lawcd 1621 = some (.iaload, 1) := by decide +kernel
theorem cL_1622 : mc_lawcd 1622 = some (.invokevirtual 226, 3) := by decide +kernel
theorem cL_1625 : mc_lawcd 1625 = some (.pop, 1) := by decide +kernel
theorem cL_1626 : mc_lawcd 1626 = some (.aload_n 2, 1) := by decide +kernel
theorem cL_1627 : mc_lawcd 1627 = some (.aload_n 0, 1) := by decide +kernel
theorem cL_1628 : mc_lawcd 1628 = some (.iload 4, 2) := by decide +kernel
theorem cL_1630 : mc_lawcd 1630 = some (.iconst 1, 1) := by decide +kernel
theorem cL_1631 : mc_lawcd 1631 = some (.iadd, 1) := by decide +kernel
theorem cL_1632 : mc_lawcd 1632 = some (.iaload, 1) := by decide +kernel
theorem cL_1633 : mc_lawcd 1633 = some (.invokevirtual 229, 3) := by decide +kernel
theorem cL_1636 : mc_lawcd 1636 = some (.pop, 1) := by decide +kernel
theorem cL_1637 : mc_lawcd 1637 = some (.goto 16, 3) := by decide +kernel
theorem cL_1640 : mc_lawcd 1640 = some (.aload_n 1, 1) := by decide +kernel
theorem cL_1641 : mc_lawcd 1641 = some (.invokevirtual 230, 3) := by decide +kernel
theorem cL_1644 : mc_lawcd 1644 = some (.pop, 1) := by decide +kernel
theorem cL_1645 : mc_lawcd 1645 = some (.aload_n 2, 1) := by decide +kernel
theorem cL_1646 : mc_lawcd 1646 = some (.invokevirtual 233, 3) := by decide +kernel
theorem cL_1649 : mc_lawcd 1649 = some (.pop, 1) := by decide +kernel
theorem cL_1650 : mc_lawcd 1650 = some (.goto 3, 3) := by decide +kernel
theorem cL_1653 : mc_lawcd 1653 = some (.iinc 4 6, 3) := by decide +kernel
theorem cL_1656 : mc_lawcd 1656 = some (.goto (-1633), 3) := by decide +kernel
theorem cL_1659 : mc_lawcd 1659 = some (.iconst 1, 1) := by decide +kernel
theorem cL_1660 : mc_lawcd 1660 = some (.ireturn, 1) := by decide +kernel
set_option maxHeartbeats 4000000 in
theorem wl_c0 {kt : Nat → Option mc_E} {CB SB : Nat} {X : mc_S → Prop} {T : wq_T} {H : wq_H} {Len x m o : Nat} {i : Int} (hX : wlX kt CB SB X) (hb : T.2.1 ≤ CB ∧ T.2.2.1 ≤ SB) (hI : wlJ Len x m o T H) (hL : Len ≤ 3072) (hi : 0 ≤ i ∧ i + 6 ≤ Len) (hb2 : T.2.1 + 20 ≤ CB ∧ T.2.2.1 + 500 ≤ SB)  (next : ∀ T' H', wlJ Len x m o T' H' → T'.2.1 ≤ T.2.1 + 20 → T'.2.2.1 ≤ T.2.2.1 + 500 → WL kt CB SB X 1653 (wlL i x m o) [] T' H') : WL kt CB SB X 256 (wlL i x m o) [] T H := by
  obtain ⟨⟨hW, g0, gx, gm, go, hK, hr⟩, hXI, hY1, hY2⟩ := hI
  refine wl_of hX hb cL_256 (rw_aload_n (pc' := 257) (v := .ref x) rfl rfl rfl ?_)
  refine wl_of hX hb cL_257 (rw_aload_n (pc' := 258) (v := .ref 0) rfl rfl rfl ?_)
  refine wl_of hX hb cL_258 (rw_iload (pc' := 260) (z := i) rfl rfl ?_)
  refine wl_of hX hb cL_260 (rw_iconst (pc' := 261) rfl ?_)
  refine wl_of hX hb cL_261 (rw_iadd (pc' := 262) rfl ?_)
  refine wl_of hX hb cL_262 (xa_I (so := 0) (pc' := 263) (a := 0) hW g0 (wsh_s _) (by omega) (wty_s _ _) (by omega) (by omega) rfl (fun b1141 b1142 => ?_))
  refine wl_of hX hb cL_263 (rw_aload_n (pc' := 264) (v := .ref 0) rfl rfl rfl ?_)
  refine wl_of hX hb cL_264 (rw_iload (pc' := 266) (z := i) rfl rfl ?_)
  refine wl_of hX hb cL_266 (rw_iconst (pc' := 267) rfl ?_)
  refine wl_of hX hb cL_267 (rw_iadd (pc' := 268) rfl ?_)
  refine wl_of hX hb cL_268 (xa_I (so := 0) (pc' := 269) (a := 0) hW g0 (wsh_s _) (by omega) (wty_s _ _) (by omega) (by omega) rfl (fun b1143 b1144 => ?_))
  refine wl_of hX hb cL_269 (rw_aload_n (pc' := 270) (v := .ref 0) rfl rfl rfl ?_)
  refine wl_of hX hb cL_270 (rw_iload (pc' := 272) (z := i) rfl rfl ?_)
  refine wl_of hX hb cL_272 (rw_iconst (pc' := 273) rfl ?_)
  refine wl_of hX hb cL_273 (rw_iadd (pc' := 274) rfl ?_)
  refine wl_of hX hb cL_274 (xa_I (so := 0) (pc' := 275) (a := 0) hW g0 (wsh_s _) (by omega) (wty_s _ _) (by omega) (by omega) rfl (fun b1145 b1146 => ?_))
  refine wl_of hX hb cL_275 (rw_aload_n (pc' := 276) (v := .ref 0) rfl rfl rfl ?_)
  refine wl_of hX hb cL_276 (rw_iload (pc' := 278) (z := i) rfl rfl ?_)
  refine wl_of hX hb cL_278 (rw_iconst (pc' := 279) rfl ?_)
  refine wl_of hX hb cL_279 (rw_iadd (pc' := 280) rfl ?_)
  refine wl_of hX hb cL_280 (xa_I (so := 0) (pc' := 281) (a := 0) hW g0 (wsh_s _) (by omega) (wty_s _ _) (by omega) (by omega) rfl (fun b1147 b1148 => ?_))
  refine wl_of hX hb cL_281 (rw_aload_n (pc' := 282) (v := .ref 0) rfl rfl rfl ?_)
  refine wl_of hX hb cL_282 (rw_iload (pc' := 284) (z := i) rfl rfl ?_)
  refine wl_of hX hb cL_284 (rw_iconst (pc' := 285) rfl ?_)
  refine wl_of hX hb cL_285 (rw_iadd (pc' := 286) rfl ?_)
  refine wl_of hX hb cL_286 (xa_I (so := 0) (pc' := 287) (a := 0) hW g0 (wsh_s _) (by omega) (wty_s _ _) (by omega) (by omega) rfl (fun b1149 b1150 => ?_))
  obtain ⟨B, tc, tm, cu, dr, C8, e8, d8, n8, g8, e0, gtc, htc, em, gtm, htm, ecu, gcu, edr, gdr, hcu, hdr, hdec, hded, hsp, hC1, hC2, hcu8, hrb8, hcg8, hmn8, hE, hZ, hn8, -⟩ := hXI
  have hN3 := RB_n3 hrb8
  have hE13 : ∀ h : Nat, h < 24 → 0 ≤ e8 13 h ∧ e8 13 h ≤ 100 := fun k hk => by
    obtain ⟨s, h1, h2, h3⟩ := hcu8.1.2.2.1
    exact ⟨(h3 k hk).1, (h3 k hk).2.1⟩
  have hE0 : e8 0 3 = d8 0 3 ∧ e8 0 0 = d8 0 0 := by
    have h := hE 0 (by decide)
    exact ⟨congrFun h 3, congrFun h 0⟩
  have u1151 := CU_k hcu8
  have h1152 : CY T H cu (d8 0 3) g8 (H cu 17) := ⟨hcg8, rfl⟩
  have h1153 : RY T H m (d8 0 3) g8 (H m 32) := ⟨hmn8, rfl⟩
  obtain ⟨t9, ht9⟩ : ∃ t : Int, t = H x 9 := ⟨_, rfl⟩
  obtain ⟨y9, hy9⟩ : ∃ y : Int, y = H 0 ((i + 5).toNat) := ⟨_, rfl⟩
  obtain ⟨d1, hd1⟩ : ∃ y : Int, y = H 0 ((i + 1).toNat) := ⟨_, rfl⟩
  obtain ⟨d2, hd2⟩ : ∃ y : Int, y = H 0 ((i + 2).toNat) := ⟨_, rfl⟩
  obtain ⟨d3, hd3⟩ : ∃ y : Int, y = H 0 ((i + 3).toNat) := ⟨_, rfl⟩
  obtain ⟨d4, hd4⟩ : ∃ y : Int, y = H 0 ((i + 4).toNat) := ⟨_, rfl⟩
  obtain ⟨d5, hd5⟩ : ∃ y : Int, y = H 0 ((i + 5).toNat) := ⟨_, rfl⟩
  refine wl_of hX hb cL_287 (xc_V (pc' := 290) (r := x) (as := [vI (H 0 ((i + 1).toNat)), vI (H 0 ((i + 2).toNat)), vI (H 0 ((i + 3).toNat)), vI (H 0 ((i + 4).toNat)), vI (H 0 ((i + 5).toNat))]) (st := []) (lm_11_19) rfl rfl (Nat.le_of_ble_eq_true rfl) hW gx sh_1 (by decide) rfl (by decide) (u_9 (B := B) (t := t9) (b1 := d1) (b2 := d2) (b3 := d3) (b4 := d4) (b5 := d5) hW gx ⟨by omega, by omega⟩ ⟨by omega, by omega⟩ ⟨by omega, by omega⟩ ⟨by omega, by omega⟩ ⟨by omega, by omega⟩ e0 gtc (by omega) (by omega) (by omega) (by omega) (by omega) (by omega) htc) (fun R1154 T1155 H1156 p1157 => ?_))
  obtain ⟨e1158, w1160, f1161, z1162, e1159, b1163, p1164⟩ := p1157
  subst e1158
  subst e1159
  rcases p1164 with ⟨a1165, a1166, a1167, a1168⟩ | ⟨a1169, a1170, a1171, a1172, a1173⟩
  · show WL _ _ _ _ 290 [(4, vI i), (3, .ref o), (2, .ref m), (1, .ref x), (0, .ref 0)] [vI z1162] _ H1156
    refine wl_of hX hb cL_290 (rw_pop (pc' := 291) rfl rfl ?_)
    refine wl_of hX hb cL_291 (rw_aload_n (pc' := 292) (v := .ref m) rfl rfl rfl ?_)
    refine wl_of hX hb cL_292 (rw_aload_n (pc' := 293) (v := .ref 0) rfl rfl rfl ?_)
    refine wl_of hX hb cL_293 (rw_iload (pc' := 295) (z := i) rfl rfl ?_)
    refine wl_of hX hb cL_295 (rw_iconst (pc' := 296) rfl ?_)
    refine wl_of hX hb cL_296 (rw_iadd (pc' := 297) rfl ?_)
    have k1176 : H1156 0 ((i + 1).toNat) = H 0 ((i + 1).toNat) := (f1161 0 ((i + 1).toNat) _ g0 (wmem_s rfl))
    refine wl_of hX hb cL_297 (xa_I (so := 0) (pc' := 298) (a := 0) w1160 g0 (wsh_s _) (by omega) (wty_s _ _) (by omega) (by omega) rfl (fun b1174 b1175 => ?_))
    refine wl_of hX hb cL_298 (rw_aload_n (pc' := 299) (v := .ref 0) rfl rfl rfl ?_)
    refine wl_of hX hb cL_299 (rw_iload (pc' := 301) (z := i) rfl rfl ?_)
    refine wl_of hX hb cL_301 (rw_iconst (pc' := 302) rfl ?_)
    refine wl_of hX hb cL_302 (rw_iadd (pc' := 303) rfl ?_)
    have k1179 : H1156 0 ((i + 2).toNat) = H 0 ((i + 2).toNat) := (f1161 0 ((i + 2).toNat) _ g0 (wmem_s rfl))
    refine wl_of hX hb cL_303 (xa_I (so := 0) (pc' := 304) (a := 0) w1160 g0 (wsh_s _) (by omega) (wty_s _ _) (by omega) (by omega) rfl (fun b1177 b1178 => ?_))
    refine wl_of hX hb cL_304 (rw_aload_n (pc' := 305) (v := .ref 0) rfl rfl rfl ?_)
    refine wl_of hX hb cL_305 (rw_iload (pc' := 307) (z := i) rfl rfl ?_)
    refine wl_of hX hb cL_307 (rw_iconst (pc' := 308) rfl ?_)
    refine wl_of hX hb cL_308 (rw_iadd (pc' := 309) rfl ?_)
    have k1182 : H1156 0 ((i + 3).toNat) = H 0 ((i + 3).toNat) := (f1161 0 ((i + 3).toNat) _ g0 (wmem_s rfl))
    refine wl_of hX hb cL_309 (xa_I (so := 0) (pc' := 310) (a := 0) w1160 g0 (wsh_s _) (by omega) (wty_s _ _) (by omega) (by omega) rfl (fun b1180 b1181 => ?_))
    refine wl_of hX hb cL_310 (rw_aload_n (pc' := 311) (v := .ref 0) rfl rfl rfl ?_)
    refine wl_of hX hb cL_311 (rw_iload (pc' := 313) (z := i) rfl rfl ?_)
    refine wl_of hX hb cL_313 (rw_iconst (pc' := 314) rfl ?_)
    refine wl_of hX hb cL_314 (rw_iadd (pc' := 315) rfl ?_)
    have k1185 : H1156 0 ((i + 4).toNat) = H 0 ((i + 4).toNat) := (f1161 0 ((i + 4).toNat) _ g0 (wmem_s rfl))
    refine wl_of hX hb cL_315 (xa_I (so := 0) (pc' := 316) (a := 0) w1160 g0 (wsh_s _) (by omega) (wty_s _ _) (by omega) (by omega) rfl (fun b1183 b1184 => ?_))
    refine wl_of hX hb cL_316 (rw_aload_n (pc' := 317) (v := .ref 0) rfl rfl rfl ?_)
    refine wl_of hX hb cL_317 (rw_iload (pc' := 319) (z := i) rfl rfl ?_)
    refine wl_of hX hb cL_319 (rw_iconst (pc' := 320) rfl ?_)
    refine wl_of hX hb cL_320 (rw_iadd (pc' := 321) rfl ?_)
    have k1188 : H1156 0 ((i + 5).toNat) = H 0 ((i + 5).toNat) := (f1161 0 ((i + 5).toNat) _ g0 (wmem_s rfl))
    refine wl_of hX hb cL_321 (xa_I (so := 0) (pc' := 322) (a := 0) w1160 g0 (wsh_s _) (by omega) (wty_s _ _) (by omega) (by omega) rfl (fun b1186 b1187 => ?_))
    have k1189 : wKI H1156 m = wKI H m := (wKI_fr hW gm f1161 rfl)
    have k1190 : H1156 m 6 = H m 6 := (f1161 m 6 _ gm rfl)
    have k1191 : H1156 x 11 = H x 11 := (f1161 x 11 _ gx rfl)
    have k1192 : H1156 m 13 = H m 13 := (f1161 m 13 _ gm rfl)
    have k1193 : H1156 x 8 = H x 8 := (f1161 x 8 _ gx rfl)
    have k1194 : H1156 m 3 = H m 3 := (f1161 m 3 _ gm rfl)
    have k1195 : H1156 m 5 = H m 5 := (f1161 m 5 _ gm rfl)
    have q1196 : H1156 m 5 = (tm : Int) := k1195.trans em
    have h1197 : TM T H1156 tm B := (TM_fr hW gtm f1161 rfl htm)
    refine wl_of hX hb cL_322 (xc_V (pc' := 325) (r := m) (as := [vI (H1156 0 ((i + 1).toNat)), vI (H1156 0 ((i + 2).toNat)), vI (H1156 0 ((i + 3).toNat)), vI (H1156 0 ((i + 4).toNat)), vI (H1156 0 ((i + 5).toNat))]) (st := []) (lm_11_23) rfl rfl (Nat.le_of_ble_eq_true rfl) w1160 gm sh_42 (by decide) rfl (by decide) (u_168 (B := B) (t := t9) (b1 := d1) (b2 := d2) (b3 := d3) (b4 := d4) (b5 := d5) w1160 gm ⟨by omega, by omega⟩ ⟨by omega, by omega⟩ ⟨by omega, by omega⟩ ⟨by omega, by omega⟩ ⟨by omega, by omega⟩ q1196 gtm (by omega) (by omega) (by omega) (by omega) (by omega) (by omega) h1197) (fun R1198 T1199 H1200 p1201 => ?_))
    obtain ⟨e1202, w1204, f1205, z1206, e1203, b1207, p1208⟩ := p1201
    subst e1202
    subst e1203
    rcases p1208 with ⟨a1209, a1210, a1211, a1212⟩ | ⟨a1213, a1214, a1215, a1216, a1217⟩
    · show WL _ _ _ _ 325 [(4, vI i), (3, .ref o), (2, .ref m), (1, .ref x), (0, .ref 0)] [vI z1206] _ H1200
      refine wl_of hX hb cL_325 (rw_pop (pc' := 326) rfl rfl ?_)
      refine wl_of hX hb cL_326 (rw_goto (p1 := 1653) (by decide) ?_)
      have k1218 : wKI H1200 m = wKI H1156 m := (wKI_fr w1160 gm f1205 rfl)
      have k1219 : H1200 x 9 = H1156 x 9 := (f1205 x 9 _ gx rfl)
      have k1220 : H1200 x 11 = H1156 x 11 := (f1205 x 11 _ gx rfl)
      have k1221 : H1200 m 13 = H1156 m 13 := (f1205 m 13 _ gm rfl)
      have k1222 : H1200 x 8 = H1156 x 8 := (f1205 x 8 _ gx rfl)
      have k1223 : H1200 m 3 = H1156 m 3 := (f1205 m 3 _ gm rfl)
      have k1224 : H1200 x 0 = H x 0 := ((f1205 x 0 _ gx rfl).trans (f1161 x 0 _ gx rfl))
      have q1225 : H1200 x 0 = (tc : Int) := k1224.trans e0
      have k1226 : H1200 m 5 = H1156 m 5 := (f1205 m 5 _ gm rfl)
      have q1227 : H1200 m 5 = (tm : Int) := k1226.trans q1196
      have k1228 : H1200 x 6 = H x 6 := ((f1205 x 6 _ gx rfl).trans (f1161 x 6 _ gx rfl))
      have q1229 : H1200 x 6 = (cu : Int) := k1228.trans ecu
      have k1230 : H1200 x 7 = H x 7 := ((f1205 x 7 _ gx rfl).trans (f1161 x 7 _ gx rfl))
      have q1231 : H1200 x 7 = (dr : Int) := k1230.trans edr
      have h1232 : TP T H1200 tc B := (TP_fr w1160 gtc f1205 rfl a1168)
      have h1233 : DD T H1200 cu  := (DD_fr w1160 gcu f1205 rfl (DD_fr hW gcu f1161 rfl hcu))
      have h1234 : DD T H1200 dr  := (DD_fr w1160 gdr f1205 rfl (DD_fr hW gdr f1161 rfl hdr))
      have h1235 : DE T H1200 cu  := (DE_fr w1160 gcu f1205 rfl (DE_fr hW gcu f1161 rfl hdec))
      have h1236 : DE T H1200 dr  := (DE_fr w1160 gdr f1205 rfl (DE_fr hW gdr f1161 rfl hded))
      have h1237 : SP T H1200 x C8 := (SP_fr w1160 gx f1205 rfl (SP_fr hW gx f1161 rfl hsp))
      have h1238 : CU T H1200 cu e8 d8 n8 := (CU_fr w1160 gcu f1205 rfl (CU_fr hW gcu f1161 rfl hcu8))
      have h1239 : CY T H1200 cu (d8 0 3) g8 (H cu 17) := (CY_fr w1160 gcu f1205 rfl (CY_fr hW gcu f1161 rfl h1152))
      have h1240 : RY T H1200 m (d8 0 3) g8 (H m 32) := (RY_fr w1160 gm f1205 rfl (RY_fr hW gm f1161 rfl h1153))
      have h1241 : RB T H1200 m e8 d8 := (RB_fr w1160 gm f1205 rfl (RB_fr hW gm f1161 rfl hrb8))
      exact WL.loc hX (by simp) (next T H1200 ⟨⟨w1204, g0, gx, gm, go, by omega, by omega⟩, ⟨_, tc, tm, cu, dr, _, _, _, _, _, q1225, gtc, h1232, q1227, gtm, a1212, q1229, gcu, q1231, gdr, h1233, h1234, h1235, h1236, h1237, hC1, hC2, h1238, h1241, (h1239).1, (h1240).1, hE, hZ, (by omega), gm⟩, by omega, by omega⟩ (by omega) (by omega))
    · exfalso
      omega
  · show WL _ _ _ _ 290 [(4, vI i), (3, .ref o), (2, .ref m), (1, .ref x), (0, .ref 0)] [vI z1162] _ H1156
    refine wl_of hX hb cL_290 (rw_pop (pc' := 291) rfl rfl ?_)
    refine wl_of hX hb cL_291 (rw_aload_n (pc' := 292) (v := .ref m) rfl rfl rfl ?_)
    refine wl_of hX hb cL_292 (rw_aload_n (pc' := 293) (v := .ref 0) rfl rfl rfl ?_)
    refine wl_of hX hb cL_293 (rw_iload (pc' := 295) (z := i) rfl rfl ?_)
    refine wl_of hX hb cL_295 (rw_iconst (pc' := 296) rfl ?_)
    refine wl_of hX hb cL_296 (rw_iadd (pc' := 297) rfl ?_)
    have k1244 : H1156 0 ((i + 1).toNat) = H 0 ((i + 1).toNat) := (f1161 0 ((i + 1).toNat) _ g0 (wmem_s rfl))
    refine wl_of hX hb cL_297 (xa_I (so := 0) (pc' := 298) (a := 0) w1160 g0 (wsh_s _) (by omega) (wty_s _ _) (by omega) (by omega) rfl (fun b1242 b1243 => ?_))
    refine wl_of hX hb cL_298 (rw_aload_n (pc' := 299) (v := .ref 0) rfl rfl rfl ?_)
    refine wl_of hX hb cL_299 (rw_iload (pc' := 301) (z := i) rfl rfl ?_)
    refine wl_of hX hb cL_301 (rw_iconst (pc' := 302) rfl ?_)
    refine wl_of hX hb cL_302 (rw_iadd (pc' := 303) rfl ?_)
    have k1247 : H1156 0 ((i + 2).toNat) = H 0 ((i + 2).toNat) := (f1161 0 ((i + 2).toNat) _ g0 (wmem_s rfl))
    refine wl_of hX hb cL_303 (xa_I (so := 0) (pc' := 304) (a := 0) w1160 g0 (wsh_s _) (by omega) (wty_s _ _) (by omega) (by omega) rfl (fun b1245 b1246 => ?_))
    refine wl_of hX hb cL_304 (rw_aload_n (pc' := 305) (v := .ref 0) rfl rfl rfl ?_)
    refine wl_of hX hb cL_305 (rw_iload (pc' := 307) (z := i) rfl rfl ?_)
    refine wl_of hX hb cL_307 (rw_iconst (pc' := 308) rfl ?_)
    refine wl_of hX hb cL_308 (rw_iadd (pc' := 309) rfl ?_)
    have k1250 : H1156 0 ((i + 3).toNat) = H 0 ((i + 3).toNat) := (f1161 0 ((i + 3).toNat) _ g0 (wmem_s rfl))
    refine wl_of hX hb cL_309 (xa_I (so := 0) (pc' := 310) (a := 0) w1160 g0 (wsh_s _) (by omega) (wty_s _ _) (by omega) (by omega) rfl (fun b1248 b1249 => ?_))
    refine wl_of hX hb cL_310 (rw_aload_n (pc' := 311) (v := .ref 0) rfl rfl rfl ?_)
    refine wl_of hX hb cL_311 (rw_iload (pc' := 313) (z := i) rfl rfl ?_)
    refine wl_of hX hb cL_313 (rw_iconst (pc' := 314) rfl ?_)
    refine wl_of hX hb cL_314 (rw_iadd (pc' := 315) rfl ?_)
    have k1253 : H1156 0 ((i + 4).toNat) = H 0 ((i + 4).toNat) := (f1161 0 ((i + 4).toNat) _ g0 (wmem_s rfl))
    refine wl_of hX hb cL_315 (xa_I (so := 0) (pc' := 316) (a := 0) w1160 g0 (wsh_s _) (by omega) (wty_s _ _) (by omega) (by omega) rfl (fun b1251 b1252 => ?_))
    refine wl_of hX hb cL_316 (rw_aload_n (pc' := 317) (v := .ref 0) rfl rfl rfl ?_)
    refine wl_of hX hb cL_317 (rw_iload (pc' := 319) (z := i) rfl rfl ?_)
    refine wl_of hX hb cL_319 (rw_iconst (pc' := 320) rfl ?_)
    refine wl_of hX hb cL_320 (rw_iadd (pc' := 321) rfl ?_)
    have k1256 : H1156 0 ((i + 5).toNat) = H 0 ((i + 5).toNat) := (f1161 0 ((i + 5).toNat) _ g0 (wmem_s rfl))
    refine wl_of hX hb cL_321 (xa_I (so := 0) (pc' := 322) (a := 0) w1160 g0 (wsh_s _) (by omega) (wty_s _ _) (by omega) (by omega) rfl (fun b1254 b1255 => ?_))
    have k1257 : wKI H1156 m = wKI H m := (wKI_fr hW gm f1161 rfl)
    have k1258 : H1156 m 6 = H m 6 := (f1161 m 6 _ gm rfl)
    have k1259 : H1156 x 11 = H x 11 := (f1161 x 11 _ gx rfl)
    have k1260 : H1156 m 13 = H m 13 := (f1161 m 13 _ gm rfl)
    have k1261 : H1156 x 8 = H x 8 := (f1161 x 8 _ gx rfl)
    have k1262 : H1156 m 3 = H m 3 := (f1161 m 3 _ gm rfl)
    have k1263 : H1156 m 5 = H m 5 := (f1161 m 5 _ gm rfl)
    have q1264 : H1156 m 5 = (tm : Int) := k1263.trans em
    have h1265 : TM T H1156 tm B := (TM_fr hW gtm f1161 rfl htm)
    refine wl_of hX hb cL_322 (xc_V (pc' := 325) (r := m) (as := [vI (H1156 0 ((i + 1).toNat)), vI (H1156 0 ((i + 2).toNat)), vI (H1156 0 ((i + 3).toNat)), vI (H1156 0 ((i + 4).toNat)), vI (H1156 0 ((i + 5).toNat))]) (st := []) (lm_11_23) rfl rfl (Nat.le_of_ble_eq_true rfl) w1160 gm sh_42 (by decide) rfl (by decide) (u_168 (B := B) (t := t9) (b1 := d1) (b2 := d2) (b3 := d3) (b4 := d4) (b5 := d5) w1160 gm ⟨by omega, by omega⟩ ⟨by omega, by omega⟩ ⟨by omega, by omega⟩ ⟨by omega, by omega⟩ ⟨by omega, by omega⟩ q1264 gtm (by omega) (by omega) (by omega) (by omega) (by omega) (by omega) h1265) (fun R1266 T1267 H1268 p1269 => ?_))
    obtain ⟨e1270, w1272, f1273, z1274, e1271, b1275, p1276⟩ := p1269
    subst e1270
    subst e1271
    rcases p1276 with ⟨a1277, a1278, a1279, a1280⟩ | ⟨a1281, a1282, a1283, a1284, a1285⟩
    · exfalso
      omega
    · show WL _ _ _ _ 325 [(4, vI i), (3, .ref o), (2, .ref m), (1, .ref x), (0, .ref 0)] [vI z1274] _ H1268
      refine wl_of hX hb cL_325 (rw_pop (pc' := 326) rfl rfl ?_)
      refine wl_of hX hb cL_326 (rw_goto (p1 := 1653) (by decide) ?_)
      have k1286 : wKI H1268 m = wKI H1156 m := (wKI_fr w1160 gm f1273 rfl)
      have k1287 : H1268 x 9 = H1156 x 9 := (f1273 x 9 _ gx rfl)
      have k1288 : H1268 x 11 = H1156 x 11 := (f1273 x 11 _ gx rfl)
      have k1289 : H1268 m 13 = H1156 m 13 := (f1273 m 13 _ gm rfl)
      have k1290 : H1268 x 8 = H1156 x 8 := (f1273 x 8 _ gx rfl)
      have k1291 : H1268 m 3 = H1156 m 3 := (f1273 m 3 _ gm rfl)
      have k1292 : H1268 x 0 = H x 0 := ((f1273 x 0 _ gx rfl).trans (f1161 x 0 _ gx rfl))
      have q1293 : H1268 x 0 = (tc : Int) := k1292.trans e0
      have k1294 : H1268 m 5 = H1156 m 5 := (f1273 m 5 _ gm rfl)
      have q1295 : H1268 m 5 = (tm : Int) := k1294.trans q1264
      have k1296 : H1268 x 6 = H x 6 := ((f1273 x 6 _ gx rfl).trans (f1161 x 6 _ gx rfl))
      have q1297 : H1268 x 6 = (cu : Int) := k1296.trans ecu
      have k1298 : H1268 x 7 = H x 7 := ((f1273 x 7 _ gx rfl).trans (f1161 x 7 _ gx rfl))
      have q1299 : H1268 x 7 = (dr : Int) := k1298.trans edr
      have h1300 : TP T H1268 tc (xfk B t9 d1 d2 d3 d4 d5 20) := (TP_fr w1160 gtc f1273 rfl a1173)
      have h1301 : DD T H1268 cu  := (DD_fr w1160 gcu f1273 rfl (DD_fr hW gcu f1161 rfl hcu))
      have h1302 : DD T H1268 dr  := (DD_fr w1160 gdr f1273 rfl (DD_fr hW gdr f1161 rfl hdr))
      have h1303 : DE T H1268 cu  := (DE_fr w1160 gcu f1273 rfl (DE_fr hW gcu f1161 rfl hdec))
      have h1304 : DE T H1268 dr  := (DE_fr w1160 gdr f1273 rfl (DE_fr hW gdr f1161 rfl hded))
      have h1305 : SP T H1268 x C8 := (SP_fr w1160 gx f1273 rfl (SP_fr hW gx f1161 rfl hsp))
      have h1306 : CU T H1268 cu e8 d8 n8 := (CU_fr w1160 gcu f1273 rfl (CU_fr hW gcu f1161 rfl hcu8))
      have h1307 : CY T H1268 cu (d8 0 3) g8 (H cu 17) := (CY_fr w1160 gcu f1273 rfl (CY_fr hW gcu f1161 rfl h1152))
      have h1308 : RY T H1268 m (d8 0 3) g8 (H m 32) := (RY_fr w1160 gm f1273 rfl (RY_fr hW gm f1161 rfl h1153))
      have h1309 : RB T H1268 m e8 d8 := (RB_fr w1160 gm f1273 rfl (RB_fr hW gm f1161 rfl hrb8))
      exact WL.loc hX (by simp) (next T H1268 ⟨⟨w1272, g0, gx, gm, go, by omega, by omega⟩, ⟨_, tc, tm, cu, dr, _, _, _, _, _, q1293, gtc, h1300, q1295, gtm, a1285, q1297, gcu, q1299, gdr, h1301, h1302, h1303, h1304, h1305, hC1, hC2, h1306, h1309, (h1307).1, (h1308).1, hE, hZ, (by omega), gm⟩, by omega, by omega⟩ (by omega) (by omega))
set_option maxHeartbeats 4000000 in
theorem wl_c1 {kt : Nat → Option mc_E} {CB SB : Nat} {X : mc_S → Prop} {T : wq_T} {H : wq_H} {Len x m o : Nat} {i : Int} (hX : wlX kt CB SB X) (hb : T.2.1 ≤ CB ∧ T.2.2.1 ≤ SB) (hI : wlJ Len x m o T H) (hL : Len ≤ 3072) (hi : 0 ≤ i ∧ i + 6 ≤ Len) (hb2 : T.2.1 + 20 ≤ CB ∧ T.2.2.1 + 500 ≤ SB)  (next : ∀ T' H', wlJ Len x m o T' H' → T'.2.1 ≤ T.2.1 + 20 → T'.2.2.1 ≤ T.2.2.1 + 500 → WL kt CB SB X 1653 (wlL i x m o) [] T' H') : WL kt CB SB X 329 (wlL i x m o) [] T H := by
  obtain ⟨⟨hW, g0, gx, gm, go, hK, hr⟩, hXI, hY1, hY2⟩ := hI
  refine wl_of hX hb cL_329 (rw_aload_n (pc' := 330) (v := .ref x) rfl rfl rfl ?_)
  refine wl_of hX hb cL_330 (rw_aload_n (pc' := 331) (v := .ref 0) rfl rfl rfl ?_)
  refine wl_of hX hb cL_331 (rw_iload (pc' := 333) (z := i) rfl rfl ?_)
  refine wl_of hX hb cL_333 (rw_iconst (pc' := 334) rfl ?_)
  refine wl_of hX hb cL_334 (rw_iadd (pc' := 335) rfl ?_)
  refine wl_of hX hb cL_335 (xa_I (so := 0) (pc' := 336) (a := 0) hW g0 (wsh_s _) (by omega) (wty_s _ _) (by omega) (by omega) rfl (fun b1310 b1311 => ?_))
  obtain ⟨B, tc, tm, cu, dr, C8, e8, d8, n8, g8, e0, gtc, htc, em, gtm, htm, ecu, gcu, edr, gdr, hcu, hdr, hdec, hded, hsp, hC1, hC2, hcu8, hrb8, hcg8, hmn8, hE, hZ, hn8, -⟩ := hXI
  have hN3 := RB_n3 hrb8
  have hE13 : ∀ h : Nat, h < 24 → 0 ≤ e8 13 h ∧ e8 13 h ≤ 100 := fun k hk => by
    obtain ⟨s, h1, h2, h3⟩ := hcu8.1.2.2.1
    exact ⟨(h3 k hk).1, (h3 k hk).2.1⟩
  have hE0 : e8 0 3 = d8 0 3 ∧ e8 0 0 = d8 0 0 := by
    have h := hE 0 (by decide)
    exact ⟨congrFun h 3, congrFun h 0⟩
  have u1312 := CU_k hcu8
  have h1313 : CY T H cu (d8 0 3) g8 (H cu 17) := ⟨hcg8, rfl⟩
  have h1314 : RY T H m (d8 0 3) g8 (H m 32) := ⟨hmn8, rfl⟩
  obtain ⟨t9, ht9⟩ : ∃ t : Int, t = H x 9 := ⟨_, rfl⟩
  obtain ⟨y9, hy9⟩ : ∃ y : Int, y = H 0 ((i + 1).toNat) := ⟨_, rfl⟩
  obtain ⟨r1315, q1316, g1317⟩ := hW.ref gx (t' := 3) (n := 13) (j := 1) (p := 0) (q := 0) rfl (by decide) rfl
  refine wl_of hX hb cL_336 (xc_V (pc' := 339) (r := x) (as := [vI (H 0 ((i + 1).toNat))]) (st := []) (lm_11_24) rfl rfl (Nat.le_of_ble_eq_true rfl) hW gx sh_1 (by decide) rfl (by decide) (u_11 (B := B) (y := y9) (eU := e8) (dU := d8) (nU := n8) (nY := ((d8 0 3))) (gY := g8) (cY := ((H cu 17))) (C := C8) hW gx ⟨by omega, by omega⟩ e0 gtc q1316 g1317 ecu gcu edr gdr (by omega) (by assumption) (by assumption) (by omega) (by omega) htc hdr hded hcu8 h1313 hsp) (fun R1318 T1319 H1320 p1321 => ?_))
  obtain ⟨e1322, w1324, f1325, z1326, e1323, b1327, p1328⟩ := p1321
  subst e1322
  subst e1323
  rcases p1328 with ⟨a1329, a1330, a1331, a1332, a1333, a1334, a1335, a1336, a1337, a1338, a1339⟩ | ⟨a1340, a1341, a1342, a1343, a1344, a1345, a1346, a1347, a1348, a1349, a1350, a1351, a1352⟩ | ⟨a1353, a1354, a1355, a1356, a1357, a1358, a1359, a1360, a1361, a1362, a1363, a1364, a1365⟩
  · show WL _ _ _ _ 339 [(4, vI i), (3, .ref o), (2, .ref m), (1, .ref x), (0, .ref 0)] [vI z1326] _ H1320
    have u1366 := CU_k a1337
    refine wl_of hX hb cL_339 (rw_pop (pc' := 340) rfl rfl ?_)
    refine wl_of hX hb cL_340 (rw_aload_n (pc' := 341) (v := .ref m) rfl rfl rfl ?_)
    refine wl_of hX hb cL_341 (rw_aload_n (pc' := 342) (v := .ref 0) rfl rfl rfl ?_)
    refine wl_of hX hb cL_342 (rw_iload (pc' := 344) (z := i) rfl rfl ?_)
    refine wl_of hX hb cL_344 (rw_iconst (pc' := 345) rfl ?_)
    refine wl_of hX hb cL_345 (rw_iadd (pc' := 346) rfl ?_)
    have k1369 : H1320 0 ((i + 1).toNat) = H 0 ((i + 1).toNat) := (f1325 0 ((i + 1).toNat) _ g0 (wmem_s rfl))
    refine wl_of hX hb cL_346 (xa_I (so := 0) (pc' := 347) (a := 0) w1324 g0 (wsh_s _) (by omega) (wty_s _ _) (by omega) (by omega) rfl (fun b1367 b1368 => ?_))
    have k1370 : wKI H1320 m = wKI H m := (wKI_fr hW gm f1325 rfl)
    have k1371 : H1320 m 6 = H m 6 := (f1325 m 6 _ gm rfl)
    have k1372 : H1320 m 13 = H m 13 := (f1325 m 13 _ gm rfl)
    have k1373 : H1320 m 3 = H m 3 := (f1325 m 3 _ gm rfl)
    have k1374 : H1320 m 5 = H m 5 := (f1325 m 5 _ gm rfl)
    have q1375 : H1320 m 5 = (tm : Int) := k1374.trans em
    have h1376 : TM T H1320 tm B := (TM_fr hW gtm f1325 rfl htm)
    have h1377 : RB T H1320 m e8 d8 := (RB_fr hW gm f1325 rfl hrb8)
    have h1378 : RY T H1320 m (d8 0 3) g8 (H m 32) := (RY_fr hW gm f1325 rfl h1314)
    refine wl_of hX hb cL_347 (xc_V (pc' := 350) (r := m) (as := [vI (H1320 0 ((i + 1).toNat))]) (st := []) lm_11_27 rfl rfl (Nat.le_of_ble_eq_true rfl) w1324 gm sh_42 (by decide) rfl (by decide) (u_169 (B := B) (y := y9) w1324 gm ⟨by omega, by omega⟩ q1375 gtm (by omega) (by omega) h1376) (fun R9 T9 H9 p9 => ?_))
    obtain ⟨mT, nT, zT, w9, f9, z9, e9, b9, pa⟩ := p9
    subst e9
    have k1379 : H9 x 9 = H1320 x 9 := (f9 x 9 _ gx rfl)
    have k1380 : H9 x 11 = H1320 x 11 := (f9 x 11 _ gx rfl)
    have k1381 : H9 x 8 = H1320 x 8 := (f9 x 8 _ gx rfl)
    have k1382 : H9 x 0 = H x 0 := ((f9 x 0 _ gx rfl).trans (f1325 x 0 _ gx rfl))
    have q1383 : H9 x 0 = (tc : Int) := k1382.trans e0
    have k1384 : H9 m 5 = H1320 m 5 := (f9 m 5 _ gm rfl)
    have q1385 : H9 m 5 = (tm : Int) := k1384.trans q1375
    have k1386 : H9 x 6 = H1320 x 6 := (f9 x 6 _ gx rfl)
    have q1387 : H9 x 6 = (cu : Int) := k1386.trans a1333
    have k1388 : H9 x 7 = H1320 x 7 := (f9 x 7 _ gx rfl)
    have q1389 : H9 x 7 = (dr : Int) := k1388.trans a1334
    have h1390 : TP T H9 tc B := (TP_fr w1324 gtc f9 rfl (TP_fr hW gtc f1325 rfl htc))
    have h1391 : TM T H9 tm B := (TM_fr w1324 gtm f9 rfl h1376)
    have h1392 : DD T H9 cu  := (DD_fr w1324 gcu f9 rfl (DD_fr hW gcu f1325 rfl hcu))
    have h1393 : DD T H9 dr  := (DD_fr w1324 gdr f9 rfl (DD_fr hW gdr f1325 rfl hdr))
    have h1394 : DE T H9 cu  := (DE_fr w1324 gcu f9 rfl (DE_fr hW gcu f1325 rfl hdec))
    have h1395 : DE T H9 dr  := (DE_fr w1324 gdr f9 rfl (DE_fr hW gdr f1325 rfl hded))
    have h1396 : SP T H9 x C8 := (SP_fr w1324 gx f9 rfl a1339)
    have h1397 : CU T H9 cu e8 d8 n8 := (CU_fr w1324 gcu f9 rfl a1337)
    have h1398 : CY T H9 cu ((d8 0 3)) g8 ((H cu 17)) := (CY_fr w1324 gcu f9 rfl a1338)
    have hb : T9.2.1 ≤ CB ∧ T9.2.2.1 ≤ SB := ⟨by omega, by omega⟩
    rcases pa with ⟨y0, y1, y2, y3, y4, y5, y6, y7, rv9, yM⟩ | ⟨y0, y1, y2, y3, y4, y5, y6, y7, y8, rv9, yM⟩ | ⟨y0, y1, y2, y3, y4, y5, y6, y7, y8, y9b, yR, yY, rv9⟩
    · show WL _ _ _ _ 350 [(4, vI i), (3, .ref o), (2, .ref m), (1, .ref x), (0, .ref 0)] [vI z9] _ H9
      have hXI9 : XI T9 H9 x m := ⟨_, tc, tm, cu, dr, _, _, _, _, _, q1383, mT _ _ gtc, h1390, q1385, mT _ _ gtm, h1391, q1387, mT _ _ gcu, q1389, mT _ _ gdr, DD_mono mT h1392, DD_mono mT h1393, h1394, h1395, SP_mono rv9 h1396, hC1, hC2, CU_mono mT h1397, (RB_keep mT yM h1377), CG_mono mT (h1398).1, (RY_keep mT yM h1378).1, hE, hZ, (by omega), mT _ _ gm⟩
      have g0 := mT _ _ g0
      have gx := mT _ _ gx
      have gm := mT _ _ gm
      have go := mT _ _ go
      refine wl_of hX hb cL_350 (rw_pop (pc' := 351) rfl rfl ?_)
      refine wl_of hX hb cL_351 (rw_goto (p1 := 1653) (by decide) ?_)
      exact WL.loc hX (by simp) (next T9 H9 ⟨⟨w9, g0, gx, gm, go, by omega, by omega⟩, hXI9, by omega, by omega⟩ (by omega) (by omega))
    · show WL _ _ _ _ 350 [(4, vI i), (3, .ref o), (2, .ref m), (1, .ref x), (0, .ref 0)] [vI z9] _ H9
      have hXI9 : XI T9 H9 x m := ⟨_, tc, tm, cu, dr, _, _, _, _, _, q1383, mT _ _ gtc, h1390, q1385, mT _ _ gtm, h1391, q1387, mT _ _ gcu, q1389, mT _ _ gdr, DD_mono mT h1392, DD_mono mT h1393, h1394, h1395, SP_mono rv9 h1396, hC1, hC2, CU_mono mT h1397, (RB_keep mT yM h1377), CG_mono mT (h1398).1, (RY_keep mT yM h1378).1, hE, hZ, (by omega), mT _ _ gm⟩
      have g0 := mT _ _ g0
      have gx := mT _ _ gx
      have gm := mT _ _ gm
      have go := mT _ _ go
      refine wl_of hX hb cL_350 (rw_pop (pc' := 351) rfl rfl ?_)
      refine wl_of hX hb cL_351 (rw_goto (p1 := 1653) (by decide) ?_)
      exact WL.loc hX (by simp) (next T9 H9 ⟨⟨w9, g0, gx, gm, go, by omega, by omega⟩, hXI9, by omega, by omega⟩ (by omega) (by omega))
    · show WL _ _ _ _ 350 [(4, vI i), (3, .ref o), (2, .ref m), (1, .ref x), (0, .ref 0)] [vI z9] _ H9
      exfalso
      omega
  · show WL _ _ _ _ 339 [(4, vI i), (3, .ref o), (2, .ref m), (1, .ref x), (0, .ref 0)] [vI z1326] _ H1320
    have u1399 := CU_k a1350
    refine wl_of hX hb cL_339 (rw_pop (pc' := 340) rfl rfl ?_)
    refine wl_of hX hb cL_340 (rw_aload_n (pc' := 341) (v := .ref m) rfl rfl rfl ?_)
    refine wl_of hX hb cL_341 (rw_aload_n (pc' := 342) (v := .ref 0) rfl rfl rfl ?_)
    refine wl_of hX hb cL_342 (rw_iload (pc' := 344) (z := i) rfl rfl ?_)
    refine wl_of hX hb cL_344 (rw_iconst (pc' := 345) rfl ?_)
    refine wl_of hX hb cL_345 (rw_iadd (pc' := 346) rfl ?_)
    have k1402 : H1320 0 ((i + 1).toNat) = H 0 ((i + 1).toNat) := (f1325 0 ((i + 1).toNat) _ g0 (wmem_s rfl))
    refine wl_of hX hb cL_346 (xa_I (so := 0) (pc' := 347) (a := 0) w1324 g0 (wsh_s _) (by omega) (wty_s _ _) (by omega) (by omega) rfl (fun b1400 b1401 => ?_))
    have k1403 : wKI H1320 m = wKI H m := (wKI_fr hW gm f1325 rfl)
    have k1404 : H1320 m 6 = H m 6 := (f1325 m 6 _ gm rfl)
    have k1405 : H1320 m 13 = H m 13 := (f1325 m 13 _ gm rfl)
    have k1406 : H1320 m 3 = H m 3 := (f1325 m 3 _ gm rfl)
    have k1407 : H1320 m 5 = H m 5 := (f1325 m 5 _ gm rfl)
    have q1408 : H1320 m 5 = (tm : Int) := k1407.trans em
    have h1409 : TM T H1320 tm B := (TM_fr hW gtm f1325 rfl htm)
    have h1410 : RB T H1320 m e8 d8 := (RB_fr hW gm f1325 rfl hrb8)
    have h1411 : RY T H1320 m (d8 0 3) g8 (H m 32) := (RY_fr hW gm f1325 rfl h1314)
    refine wl_of hX hb cL_347 (xc_V (pc' := 350) (r := m) (as := [vI (H1320 0 ((i + 1).toNat))]) (st := []) lm_11_27 rfl rfl (Nat.le_of_ble_eq_true rfl) w1324 gm sh_42 (by decide) rfl (by decide) (u_169 (B := B) (y := y9) w1324 gm ⟨by omega, by omega⟩ q1408 gtm (by omega) (by omega) h1409) (fun R9 T9 H9 p9 => ?_))
    obtain ⟨mT, nT, zT, w9, f9, z9, e9, b9, pa⟩ := p9
    subst e9
    have k1412 : H9 x 9 = H1320 x 9 := (f9 x 9 _ gx rfl)
    have k1413 : H9 x 11 = H1320 x 11 := (f9 x 11 _ gx rfl)
    have k1414 : H9 x 8 = H1320 x 8 := (f9 x 8 _ gx rfl)
    have k1415 : H9 x 0 = H x 0 := ((f9 x 0 _ gx rfl).trans (f1325 x 0 _ gx rfl))
    have q1416 : H9 x 0 = (tc : Int) := k1415.trans e0
    have k1417 : H9 m 5 = H1320 m 5 := (f9 m 5 _ gm rfl)
    have q1418 : H9 m 5 = (tm : Int) := k1417.trans q1408
    have k1419 : H9 x 6 = H1320 x 6 := (f9 x 6 _ gx rfl)
    have q1420 : H9 x 6 = (cu : Int) := k1419.trans a1347
    have k1421 : H9 x 7 = H1320 x 7 := (f9 x 7 _ gx rfl)
    have q1422 : H9 x 7 = (dr : Int) := k1421.trans a1348
    have h1423 : TP T H9 tc B := (TP_fr w1324 gtc f9 rfl (TP_fr hW gtc f1325 rfl htc))
    have h1424 : TM T H9 tm B := (TM_fr w1324 gtm f9 rfl h1409)
    have h1425 : DD T H9 cu  := (DD_fr w1324 gcu f9 rfl (DD_fr hW gcu f1325 rfl hcu))
    have h1426 : DD T H9 dr  := (DD_fr w1324 gdr f9 rfl (DD_fr hW gdr f1325 rfl hdr))
    have h1427 : DE T H9 cu  := (DE_fr w1324 gcu f9 rfl (DE_fr hW gcu f1325 rfl hdec))
    have h1428 : DE T H9 dr  := (DE_fr w1324 gdr f9 rfl (DE_fr hW gdr f1325 rfl hded))
    have h1429 : SP T H9 x C8 := (SP_fr w1324 gx f9 rfl a1352)
    have h1430 : CU T H9 cu e8 d8 n8 := (CU_fr w1324 gcu f9 rfl a1350)
    have h1431 : CY T H9 cu ((d8 0 3)) g8 ((H cu 17)) := (CY_fr w1324 gcu f9 rfl a1351)
    have hb : T9.2.1 ≤ CB ∧ T9.2.2.1 ≤ SB := ⟨by omega, by omega⟩
    rcases pa with ⟨y0, y1, y2, y3, y4, y5, y6, y7, rv9, yM⟩ | ⟨y0, y1, y2, y3, y4, y5, y6, y7, y8, rv9, yM⟩ | ⟨y0, y1, y2, y3, y4, y5, y6, y7, y8, y9b, yR, yY, rv9⟩
    · show WL _ _ _ _ 350 [(4, vI i), (3, .ref o), (2, .ref m), (1, .ref x), (0, .ref 0)] [vI z9] _ H9
      have hXI9 : XI T9 H9 x m := ⟨_, tc, tm, cu, dr, _, _, _, _, _, q1416, mT _ _ gtc, h1423, q1418, mT _ _ gtm, h1424, q1420, mT _ _ gcu, q1422, mT _ _ gdr, DD_mono mT h1425, DD_mono mT h1426, h1427, h1428, SP_mono rv9 h1429, hC1, hC2, CU_mono mT h1430, (RB_keep mT yM h1410), CG_mono mT (h1431).1, (RY_keep mT yM h1411).1, hE, hZ, (by omega), mT _ _ gm⟩
      have g0 := mT _ _ g0
      have gx := mT _ _ gx
      have gm := mT _ _ gm
      have go := mT _ _ go
      refine wl_of hX hb cL_350 (rw_pop (pc' := 351) rfl rfl ?_)
      refine wl_of hX hb cL_351 (rw_goto (p1 := 1653) (by decide) ?_)
      exact WL.loc hX (by simp) (next T9 H9 ⟨⟨w9, g0, gx, gm, go, by omega, by omega⟩, hXI9, by omega, by omega⟩ (by omega) (by omega))
    · show WL _ _ _ _ 350 [(4, vI i), (3, .ref o), (2, .ref m), (1, .ref x), (0, .ref 0)] [vI z9] _ H9
      have hXI9 : XI T9 H9 x m := ⟨_, tc, tm, cu, dr, _, _, _, _, _, q1416, mT _ _ gtc, h1423, q1418, mT _ _ gtm, h1424, q1420, mT _ _ gcu, q1422, mT _ _ gdr, DD_mono mT h1425, DD_mono mT h1426, h1427, h1428, SP_mono rv9 h1429, hC1, hC2, CU_mono mT h1430, (RB_keep mT yM h1410), CG_mono mT (h1431).1, (RY_keep mT yM h1411).1, hE, hZ, (by omega), mT _ _ gm⟩
      have g0 := mT _ _ g0
      have gx := mT _ _ gx
      have gm := mT _ _ gm
      have go := mT _ _ go
      refine wl_of hX hb cL_350 (rw_pop (pc' := 351) rfl rfl ?_)
      refine wl_of hX hb cL_351 (rw_goto (p1 := 1653) (by decide) ?_)
      exact WL.loc hX (by simp) (next T9 H9 ⟨⟨w9, g0, gx, gm, go, by omega, by omega⟩, hXI9, by omega, by omega⟩ (by omega) (by omega))
    · show WL _ _ _ _ 350 [(4, vI i), (3, .ref o), (2, .ref m), (1, .ref x), (0, .ref 0)] [vI z9] _ H9
      exfalso
      omega
  · show WL _ _ _ _ 339 [(4, vI i), (3, .ref o), (2, .ref m), (1, .ref x), (0, .ref 0)] [vI z1326] _ H1320
    have u1432 := CU_k a1363
    refine wl_of hX hb cL_339 (rw_pop (pc' := 340) rfl rfl ?_)
    refine wl_of hX hb cL_340 (rw_aload_n (pc' := 341) (v := .ref m) rfl rfl rfl ?_)
    refine wl_of hX hb cL_341 (rw_aload_n (pc' := 342) (v := .ref 0) rfl rfl rfl ?_)
    refine wl_of hX hb cL_342 (rw_iload (pc' := 344) (z := i) rfl rfl ?_)
    refine wl_of hX hb cL_344 (rw_iconst (pc' := 345) rfl ?_)
    refine wl_of hX hb cL_345 (rw_iadd (pc' := 346) rfl ?_)
    have k1435 : H1320 0 ((i + 1).toNat) = H 0 ((i + 1).toNat) := (f1325 0 ((i + 1).toNat) _ g0 (wmem_s rfl))
    refine wl_of hX hb cL_346 (xa_I (so := 0) (pc' := 347) (a := 0) w1324 g0 (wsh_s _) (by omega) (wty_s _ _) (by omega) (by omega) rfl (fun b1433 b1434 => ?_))
    have k1436 : wKI H1320 m = wKI H m := (wKI_fr hW gm f1325 rfl)
    have k1437 : H1320 m 6 = H m 6 := (f1325 m 6 _ gm rfl)
    have k1438 : H1320 m 13 = H m 13 := (f1325 m 13 _ gm rfl)
    have k1439 : H1320 m 3 = H m 3 := (f1325 m 3 _ gm rfl)
    have k1440 : H1320 m 5 = H m 5 := (f1325 m 5 _ gm rfl)
    have q1441 : H1320 m 5 = (tm : Int) := k1440.trans em
    have h1442 : TM T H1320 tm B := (TM_fr hW gtm f1325 rfl htm)
    have h1443 : RB T H1320 m e8 d8 := (RB_fr hW gm f1325 rfl hrb8)
    have h1444 : RY T H1320 m (d8 0 3) g8 (H m 32) := (RY_fr hW gm f1325 rfl h1314)
    refine wl_of hX hb cL_347 (xc_V (pc' := 350) (r := m) (as := [vI (H1320 0 ((i + 1).toNat))]) (st := []) lm_11_27 rfl rfl (Nat.le_of_ble_eq_true rfl) w1324 gm sh_42 (by decide) rfl (by decide) (u_169 (B := B) (y := y9) w1324 gm ⟨by omega, by omega⟩ q1441 gtm (by omega) (by omega) h1442) (fun R9 T9 H9 p9 => ?_))
    obtain ⟨mT, nT, zT, w9, f9, z9, e9, b9, pa⟩ := p9
    subst e9
    have k1445 : H9 x 9 = H1320 x 9 := (f9 x 9 _ gx rfl)
    have k1446 : H9 x 11 = H1320 x 11 := (f9 x 11 _ gx rfl)
    have k1447 : H9 x 8 = H1320 x 8 := (f9 x 8 _ gx rfl)
    have k1448 : H9 x 0 = H x 0 := ((f9 x 0 _ gx rfl).trans (f1325 x 0 _ gx rfl))
    have q1449 : H9 x 0 = (tc : Int) := k1448.trans e0
    have k1450 : H9 m 5 = H1320 m 5 := (f9 m 5 _ gm rfl)
    have q1451 : H9 m 5 = (tm : Int) := k1450.trans q1441
    have k1452 : H9 x 6 = H1320 x 6 := (f9 x 6 _ gx rfl)
    have q1453 : H9 x 6 = (dr : Int) := k1452.trans a1359
    have k1454 : H9 x 7 = H1320 x 7 := (f9 x 7 _ gx rfl)
    have q1455 : H9 x 7 = (cu : Int) := k1454.trans a1360
    have h1456 : TP T H9 tc B := (TP_fr w1324 gtc f9 rfl (TP_fr hW gtc f1325 rfl htc))
    have h1457 : TM T H9 tm B := (TM_fr w1324 gtm f9 rfl h1442)
    have h1458 : DD T H9 dr  := (DD_fr w1324 gdr f9 rfl (DD_fr hW gdr f1325 rfl hdr))
    have h1459 : DD T H9 cu  := (DD_fr w1324 gcu f9 rfl (DD_fr hW gcu f1325 rfl hcu))
    have h1460 : DE T H9 dr  := (DE_fr w1324 gdr f9 rfl (DE_fr hW gdr f1325 rfl hded))
    have h1461 : DE T H9 cu  := (DE_fr w1324 gcu f9 rfl (DE_fr hW gcu f1325 rfl hdec))
    have h1462 : SP T H9 x (fun a => !(C8 a)) := (SP_fr w1324 gx f9 rfl a1365)
    have h1463 : CU T H9 dr (xset (xparse B y9).2) (xset (xparse B y9).2) (xlots (xset (xparse B y9).2)) := (CU_fr w1324 gdr f9 rfl a1363)
    have h1464 : CY T H9 dr ((xparse B y9).2 0 3) (fun _ => 0) 0 := (CY_fr w1324 gdr f9 rfl a1364)
    have hb : T9.2.1 ≤ CB ∧ T9.2.2.1 ≤ SB := ⟨by omega, by omega⟩
    rcases pa with ⟨y0, y1, y2, y3, y4, y5, y6, y7, rv9, yM⟩ | ⟨y0, y1, y2, y3, y4, y5, y6, y7, y8, rv9, yM⟩ | ⟨y0, y1, y2, y3, y4, y5, y6, y7, y8, y9b, yR, yY, rv9⟩
    · show WL _ _ _ _ 350 [(4, vI i), (3, .ref o), (2, .ref m), (1, .ref x), (0, .ref 0)] [vI z9] _ H9
      exfalso
      omega
    · show WL _ _ _ _ 350 [(4, vI i), (3, .ref o), (2, .ref m), (1, .ref x), (0, .ref 0)] [vI z9] _ H9
      exfalso
      omega
    · show WL _ _ _ _ 350 [(4, vI i), (3, .ref o), (2, .ref m), (1, .ref x), (0, .ref 0)] [vI z9] _ H9
      have hXI9 : XI T9 H9 x m := ⟨_, tc, tm, dr, cu, _, _, _, _, _, q1449, mT _ _ gtc, h1456, q1451, mT _ _ gtm, h1457, q1453, mT _ _ gdr, q1455, mT _ _ gcu, DD_mono mT h1458, DD_mono mT h1459, h1460, h1461, SP_mono rv9 h1462, (by show (!(C8 dr)) = true; rw [hC2]; rfl), (by show (!(C8 cu)) = false; rw [hC1]; rfl), CU_mono mT h1463, yR, CG_mono mT (h1464).1, (yY).1, (fun _ _ => rfl), (fun h h1 h2 => xset_z h1 h2), (Or.inr rfl), mT _ _ gm⟩
      have g0 := mT _ _ g0
      have gx := mT _ _ gx
      have gm := mT _ _ gm
      have go := mT _ _ go
      refine wl_of hX hb cL_350 (rw_pop (pc' := 351) rfl rfl ?_)
      refine wl_of hX hb cL_351 (rw_goto (p1 := 1653) (by decide) ?_)
      exact WL.loc hX (by simp) (next T9 H9 ⟨⟨w9, g0, gx, gm, go, by omega, by omega⟩, hXI9, by omega, by omega⟩ (by omega) (by omega))
set_option maxHeartbeats 4000000 in
theorem wl_c2 {kt : Nat → Option mc_E} {CB SB : Nat} {X : mc_S → Prop} {T : wq_T} {H : wq_H} {Len x m o : Nat} {i : Int} (hX : wlX kt CB SB X) (hb : T.2.1 ≤ CB ∧ T.2.2.1 ≤ SB) (hI : wlJ Len x m o T H) (hL : Len ≤ 3072) (hi : 0 ≤ i ∧ i + 6 ≤ Len) (hb2 : T.2.1 + 20 ≤ CB ∧ T.2.2.1 + 500 ≤ SB)  (next : ∀ T' H', wlJ Len x m o T' H' → T'.2.1 ≤ T.2.1 + 20 → T'.2.2.1 ≤ T.2.2.1 + 500 → WL kt CB SB X 1653 (wlL i x m o) [] T' H') : WL kt CB SB X 354 (wlL i x m o) [] T H := by
  obtain ⟨⟨hW, g0, gx, gm, go, hK, hr⟩, hXI, hY1, hY2⟩ := hI
  refine wl_of hX hb cL_354 (rw_aload_n (pc' := 355) (v := .ref x) rfl rfl rfl ?_)
  refine wl_of hX hb cL_355 (xc_V (pc' := 358) (r := x) (as := []) (st := []) (lm_11_28) rfl rfl (Nat.le_of_ble_eq_true rfl) hW gx sh_1 (by decide) rfl (by decide) (s_52 hW gx) (fun R1465 T1466 H1467 p1468 => ?_))
  obtain ⟨e1469, e1471, z1472, e1470, b1473⟩ := p1468
  subst e1469
  subst e1470
  subst e1471
  show WL _ _ _ _ 358 [(4, vI i), (3, .ref o), (2, .ref m), (1, .ref x), (0, .ref 0)] [vI z1472] _ H
  refine wl_of hX hb cL_358 (rw_pop (pc' := 359) rfl rfl ?_)
  refine wl_of hX hb cL_359 (rw_aload_n (pc' := 360) (v := .ref m) rfl rfl rfl ?_)
  refine wl_of hX hb cL_360 (xc_V (pc' := 363) (r := m) (as := []) (st := []) (lm_11_32) rfl rfl (Nat.le_of_ble_eq_true rfl) hW gm sh_42 (by decide) rfl (by decide) (s_210 hW gm (by omega)) (fun R1474 T1475 H1476 p1477 => ?_))
  obtain ⟨e1478, w1480, f1481, z1483, e1479, b1484, p1482⟩ := p1477
  subst e1478
  subst e1479
  show WL _ _ _ _ 363 [(4, vI i), (3, .ref o), (2, .ref m), (1, .ref x), (0, .ref 0)] [vI z1483] _ H1476
  refine wl_of hX hb cL_363 (rw_pop (pc' := 364) rfl rfl ?_)
  refine wl_of hX hb cL_364 (rw_goto (p1 := 1653) (by decide) ?_)
  have k1485 : H1476 x 9 = H x 9 := (f1481 x 9 _ gx rfl)
  have k1486 : H1476 m 6 = H m 6 := (f1481 m 6 _ gm rfl)
  have k1487 : H1476 x 11 = H x 11 := (f1481 x 11 _ gx rfl)
  have k1488 : H1476 m 13 = H m 13 := (f1481 m 13 _ gm rfl)
  have k1489 : H1476 x 8 = H x 8 := (f1481 x 8 _ gx rfl)
  have k1490 : H1476 m 3 = H m 3 := (f1481 m 3 _ gm rfl)
  have h1491 : XI T H1476 x m := (XI_fr hW gx f1481 rfl hXI)
  exact WL.loc hX (by simp) (next T H1476 ⟨⟨w1480, g0, gx, gm, go, by omega, by omega⟩, h1491, by omega, by omega⟩ (by omega) (by omega))
set_option maxHeartbeats 4000000 in
theorem wl_c3 {kt : Nat → Option mc_E} {CB SB : Nat} {X : mc_S → Prop} {T : wq_T} {H : wq_H} {Len x m o : Nat} {i : Int} (hX : wlX kt CB SB X) (hb : T.2.1 ≤ CB ∧ T.2.2.1 ≤ SB) (hI : wlJ Len x m o T H) (hL : Len ≤ 3072) (hi : 0 ≤ i ∧ i + 6 ≤ Len) (hb2 : T.2.1 + 20 ≤ CB ∧ T.2.2.1 + 500 ≤ SB)  (next : ∀ T' H', wlJ Len x m o T' H' → T'.2.1 ≤ T.2.1 + 20 → T'.2.2.1 ≤ T.2.2.1 + 500 → WL kt CB SB X 1653 (wlL i x m o) [] T' H') : WL kt CB SB X 367 (wlL i x m o) [] T H := by
  obtain ⟨⟨hW, g0, gx, gm, go, hK, hr⟩, hXI, hY1, hY2⟩ := hI
  refine wl_of hX hb cL_367 (rw_aload_n (pc' := 368) (v := .ref x) rfl rfl rfl ?_)
  refine wl_of hX hb cL_368 (xc_V (pc' := 371) (r := x) (as := []) (st := []) (lm_11_33) rfl rfl (Nat.le_of_ble_eq_true rfl) hW gx sh_1 (by decide) rfl (by decide) (s_53 hW gx) (fun R1492 T1493 H1494 p1495 => ?_))
  obtain ⟨e1496, e1498, z1499, e1497, b1500⟩ := p1495
  subst e1496
  subst e1497
  subst e1498
  show WL _ _ _ _ 371 [(4, vI i), (3, .ref o), (2, .ref m), (1, .ref x), (0, .ref 0)] [vI z1499] _ H
  refine wl_of hX hb cL_371 (rw_pop (pc' := 372) rfl rfl ?_)
  refine wl_of hX hb cL_372 (rw_aload_n (pc' := 373) (v := .ref m) rfl rfl rfl ?_)
  refine wl_of hX hb cL_373 (xc_V (pc' := 376) (r := m) (as := []) (st := []) (lm_11_36) rfl rfl (Nat.le_of_ble_eq_true rfl) hW gm sh_42 (by decide) rfl (by decide) (s_211 hW gm (by omega)) (fun R1501 T1502 H1503 p1504 => ?_))
  obtain ⟨e1505, w1507, f1508, z1510, e1506, b1511, p1509⟩ := p1504
  subst e1505
  subst e1506
  show WL _ _ _ _ 376 [(4, vI i), (3, .ref o), (2, .ref m), (1, .ref x), (0, .ref 0)] [vI z1510] _ H1503
  refine wl_of hX hb cL_376 (rw_pop (pc' := 377) rfl rfl ?_)
  refine wl_of hX hb cL_377 (rw_goto (p1 := 1653) (by decide) ?_)
  have k1512 : H1503 x 9 = H x 9 := (f1508 x 9 _ gx rfl)
  have k1513 : H1503 m 6 = H m 6 := (f1508 m 6 _ gm rfl)
  have k1514 : H1503 x 11 = H x 11 := (f1508 x 11 _ gx rfl)
  have k1515 : H1503 m 13 = H m 13 := (f1508 m 13 _ gm rfl)
  have k1516 : H1503 x 8 = H x 8 := (f1508 x 8 _ gx rfl)
  have k1517 : H1503 m 3 = H m 3 := (f1508 m 3 _ gm rfl)
  have h1518 : XI T H1503 x m := (XI_fr hW gx f1508 rfl hXI)
  exact WL.loc hX (by simp) (next T H1503 ⟨⟨w1507, g0, gx, gm, go, by omega, by omega⟩, h1518, by omega, by omega⟩ (by omega) (by omega))
set_option maxHeartbeats 4000000 in
theorem wl_c4 {kt : Nat → Option mc_E} {CB SB : Nat} {X : mc_S → Prop} {T : wq_T} {H : wq_H} {Len x m o : Nat} {i : Int} (hX : wlX kt CB SB X) (hb : T.2.1 ≤ CB ∧ T.2.2.1 ≤ SB) (hI : wlJ Len x m o T H) (hL : Len ≤ 3072) (hi : 0 ≤ i ∧ i + 6 ≤ Len) (hb2 : T.2.1 + 20 ≤ CB ∧ T.2.2.1 + 500 ≤ SB)  (next : ∀ T' H', wlJ Len x m o T' H' → T'.2.1 ≤ T.2.1 + 20 → T'.2.2.1 ≤ T.2.2.1 + 500 → WL kt CB SB X 1653 (wlL i x m o) [] T' H') : WL kt CB SB X 380 (wlL i x m o) [] T H := by
  obtain ⟨⟨hW, g0, gx, gm, go, hK, hr⟩, hXI, hY1, hY2⟩ := hI
  refine wl_of hX hb cL_380 (rw_aload_n (pc' := 381) (v := .ref x) rfl rfl rfl ?_)
  refine wl_of hX hb cL_381 (rw_aload_n (pc' := 382) (v := .ref 0) rfl rfl rfl ?_)
  refine wl_of hX hb cL_382 (rw_iload (pc' := 384) (z := i) rfl rfl ?_)
  refine wl_of hX hb cL_384 (rw_iconst (pc' := 385) rfl ?_)
  refine wl_of hX hb cL_385 (rw_iadd (pc' := 386) rfl ?_)
  refine wl_of hX hb cL_386 (xa_I (so := 0) (pc' := 387) (a := 0) hW g0 (wsh_s _) (by omega) (wty_s _ _) (by omega) (by omega) rfl (fun b1519 b1520 => ?_))
  refine wl_of hX hb cL_387 (xc_V (pc' := 390) (r := x) (as := [vI (H 0 ((i + 1).toNat))]) (st := []) (lm_11_37) rfl rfl (Nat.le_of_ble_eq_true rfl) hW gx sh_1 (by decide) rfl (by decide) (s_54 hW gx ⟨by omega, by omega⟩) (fun R1521 T1522 H1523 p1524 => ?_))
  obtain ⟨e1525, w1527, f1528, z1529, e1526, b1530⟩ := p1524
  subst e1525
  subst e1526
  show WL _ _ _ _ 390 [(4, vI i), (3, .ref o), (2, .ref m), (1, .ref x), (0, .ref 0)] [vI z1529] _ H1523
  refine wl_of hX hb cL_390 (rw_pop (pc' := 391) rfl rfl ?_)
  refine wl_of hX hb cL_391 (rw_aload_n (pc' := 392) (v := .ref m) rfl rfl rfl ?_)
  refine wl_of hX hb cL_392 (rw_aload_n (pc' := 393) (v := .ref 0) rfl rfl rfl ?_)
  refine wl_of hX hb cL_393 (rw_iload (pc' := 395) (z := i) rfl rfl ?_)
  refine wl_of hX hb cL_395 (rw_iconst (pc' := 396) rfl ?_)
  refine wl_of hX hb cL_396 (rw_iadd (pc' := 397) rfl ?_)
  have k1533 : H1523 0 ((i + 1).toNat) = H 0 ((i + 1).toNat) := (f1528 0 ((i + 1).toNat) _ g0 (wmem_s rfl))
  refine wl_of hX hb cL_397 (xa_I (so := 0) (pc' := 398) (a := 0) w1527 g0 (wsh_s _) (by omega) (wty_s _ _) (by omega) (by omega) rfl (fun b1531 b1532 => ?_))
  have k1534 : wKI H1523 m = wKI H m := (wKI_fr hW gm f1528 rfl)
  have k1535 : H1523 x 9 = H x 9 := (f1528 x 9 _ gx rfl)
  have k1536 : H1523 m 6 = H m 6 := (f1528 m 6 _ gm rfl)
  have k1537 : H1523 x 11 = H x 11 := (f1528 x 11 _ gx rfl)
  have k1538 : H1523 m 13 = H m 13 := (f1528 m 13 _ gm rfl)
  have k1539 : H1523 x 8 = H x 8 := (f1528 x 8 _ gx rfl)
  have k1540 : H1523 m 3 = H m 3 := (f1528 m 3 _ gm rfl)
  refine wl_of hX hb cL_398 (xc_V (pc' := 401) (r := m) (as := [vI (H1523 0 ((i + 1).toNat))]) (st := []) (lm_11_40) rfl rfl (Nat.le_of_ble_eq_true rfl) w1527 gm sh_42 (by decide) rfl (by decide) (s_212 w1527 gm ⟨by omega, by omega⟩ (by omega)) (fun R1541 T1542 H1543 p1544 => ?_))
  obtain ⟨e1545, w1547, f1548, z1550, e1546, b1551, p1549⟩ := p1544
  subst e1545
  subst e1546
  show WL _ _ _ _ 401 [(4, vI i), (3, .ref o), (2, .ref m), (1, .ref x), (0, .ref 0)] [vI z1550] _ H1543
  refine wl_of hX hb cL_401 (rw_pop (pc' := 402) rfl rfl ?_)
  refine wl_of hX hb cL_402 (rw_goto (p1 := 1653) (by decide) ?_)
  have k1552 : H1543 x 9 = H1523 x 9 := (f1548 x 9 _ gx rfl)
  have k1553 : H1543 m 6 = H1523 m 6 := (f1548 m 6 _ gm rfl)
  have k1554 : H1543 x 11 = H1523 x 11 := (f1548 x 11 _ gx rfl)
  have k1555 : H1543 m 13 = H1523 m 13 := (f1548 m 13 _ gm rfl)
  have k1556 : H1543 x 8 = H1523 x 8 := (f1548 x 8 _ gx rfl)
  have k1557 : H1543 m 3 = H1523 m 3 := (f1548 m 3 _ gm rfl)
  have h1558 : XI T H1543 x m := (XI_fr w1527 gx f1548 rfl (XI_fr hW gx f1528 rfl hXI))
  exact WL.loc hX (by simp) (next T H1543 ⟨⟨w1547, g0, gx, gm, go, by omega, by omega⟩, h1558, by omega, by omega⟩ (by omega) (by omega))
set_option maxHeartbeats 4000000 in
theorem wl_c5 {kt : Nat → Option mc_E} {CB SB : Nat} {X : mc_S → Prop} {T : wq_T} {H : wq_H} {Len x m o : Nat} {i : Int} (hX : wlX kt CB SB X) (hb : T.2.1 ≤ CB ∧ T.2.2.1 ≤ SB) (hI : wlJ Len x m o T H) (hL : Len ≤ 3072) (hi : 0 ≤ i ∧ i + 6 ≤ Len) (hb2 : T.2.1 + 20 ≤ CB ∧ T.2.2.1 + 500 ≤ SB)  (next : ∀ T' H', wlJ Len x m o T' H' → T'.2.1 ≤ T.2.1 + 20 → T'.2.2.1 ≤ T.2.2.1 + 500 → WL kt CB SB X 1653 (wlL i x m o) [] T' H') : WL kt CB SB X 405 (wlL i x m o) [] T H := by
  obtain ⟨⟨hW, g0, gx, gm, go, hK, hr⟩, hXI, hY1, hY2⟩ := hI
  refine wl_of hX hb cL_405 (rw_aload_n (pc' := 406) (v := .ref x) rfl rfl rfl ?_)
  refine wl_of hX hb cL_406 (rw_aload_n (pc' := 407) (v := .ref 0) rfl rfl rfl ?_)
  refine wl_of hX hb cL_407 (rw_iload (pc' := 409) (z := i) rfl rfl ?_)
  refine wl_of hX hb cL_409 (rw_iconst (pc' := 410) rfl ?_)
  refine wl_of hX hb cL_410 (rw_iadd (pc' := 411) rfl ?_)
  refine wl_of hX hb cL_411 (xa_I (so := 0) (pc' := 412) (a := 0) hW g0 (wsh_s _) (by omega) (wty_s _ _) (by omega) (by omega) rfl (fun b1559 b1560 => ?_))
  refine wl_of hX hb cL_412 (rw_aload_n (pc' := 413) (v := .ref 0) rfl rfl rfl ?_)
  refine wl_of hX hb cL_413 (rw_iload (pc' := 415) (z := i) rfl rfl ?_)
  refine wl_of hX hb cL_415 (rw_iconst (pc' := 416) rfl ?_)
  refine wl_of hX hb cL_416 (rw_iadd (pc' := 417) rfl ?_)
  refine wl_of hX hb cL_417 (xa_I (so := 0) (pc' := 418) (a := 0) hW g0 (wsh_s _) (by omega) (wty_s _ _) (by omega) (by omega) rfl (fun b1561 b1562 => ?_))
  refine wl_of hX hb cL_418 (rw_aload_n (pc' := 419) (v := .ref 0) rfl rfl rfl ?_)
  refine wl_of hX hb cL_419 (rw_iload (pc' := 421) (z := i) rfl rfl ?_)
  refine wl_of hX hb cL_421 (rw_iconst (pc' := 422) rfl ?_)
  refine wl_of hX hb cL_422 (rw_iadd (pc' := 423) rfl ?_)
  refine wl_of hX hb cL_423 (xa_I (so := 0) (pc' := 424) (a := 0) hW g0 (wsh_s _) (by omega) (wty_s _ _) (by omega) (by omega) rfl (fun b1563 b1564 => ?_))
  refine wl_of hX hb cL_424 (xc_V (pc' := 427) (r := x) (as := [vI (H 0 ((i + 1).toNat)), vI (H 0 ((i + 2).toNat)), vI (H 0 ((i + 3).toNat))]) (st := []) (lm_11_41) rfl rfl (Nat.le_of_ble_eq_true rfl) hW gx sh_1 (by decide) rfl (by decide) (s_56 hW gx ⟨by omega, by omega⟩ ⟨by omega, by omega⟩ ⟨by omega, by omega⟩) (fun R1565 T1566 H1567 p1568 => ?_))
  obtain ⟨e1569, w1571, f1572, z1573, e1570, b1574⟩ := p1568
  subst e1569
  subst e1570
  show WL _ _ _ _ 427 [(4, vI i), (3, .ref o), (2, .ref m), (1, .ref x), (0, .ref 0)] [vI z1573] _ H1567
  refine wl_of hX hb cL_427 (rw_pop (pc' := 428) rfl rfl ?_)
  refine wl_of hX hb cL_428 (rw_aload_n (pc' := 429) (v := .ref m) rfl rfl rfl ?_)
  refine wl_of hX hb cL_429 (rw_aload_n (pc' := 430) (v := .ref 0) rfl rfl rfl ?_)
  refine wl_of hX hb cL_430 (rw_iload (pc' := 432) (z := i) rfl rfl ?_)
  refine wl_of hX hb cL_432 (rw_iconst (pc' := 433) rfl ?_)
  refine wl_of hX hb cL_433 (rw_iadd (pc' := 434) rfl ?_)
  have k1577 : H1567 0 ((i + 1).toNat) = H 0 ((i + 1).toNat) := (f1572 0 ((i + 1).toNat) _ g0 (wmem_s rfl))
  refine wl_of hX hb cL_434 (xa_I (so := 0) (pc' := 435) (a := 0) w1571 g0 (wsh_s _) (by omega) (wty_s _ _) (by omega) (by omega) rfl (fun b1575 b1576 => ?_))
  refine wl_of hX hb cL_435 (rw_aload_n (pc' := 436) (v := .ref 0) rfl rfl rfl ?_)
  refine wl_of hX hb cL_436 (rw_iload (pc' := 438) (z := i) rfl rfl ?_)
  refine wl_of hX hb cL_438 (rw_iconst (pc' := 439) rfl ?_)
  refine wl_of hX hb cL_439 (rw_iadd (pc' := 440) rfl ?_)
  have k1580 : H1567 0 ((i + 2).toNat) = H 0 ((i + 2).toNat) := (f1572 0 ((i + 2).toNat) _ g0 (wmem_s rfl))
  refine wl_of hX hb cL_440 (xa_I (so := 0) (pc' := 441) (a := 0) w1571 g0 (wsh_s _) (by omega) (wty_s _ _) (by omega) (by omega) rfl (fun b1578 b1579 => ?_))
  refine wl_of hX hb cL_441 (rw_aload_n (pc' := 442) (v := .ref 0) rfl rfl rfl ?_)
  refine wl_of hX hb cL_442 (rw_iload (pc' := 444) (z := i) rfl rfl ?_)
  refine wl_of hX hb cL_444 (rw_iconst (pc' := 445) rfl ?_)
  refine wl_of hX hb cL_445 (rw_iadd (pc' := 446) rfl ?_)
  have k1583 : H1567 0 ((i + 3).toNat) = H 0 ((i + 3).toNat) := (f1572 0 ((i + 3).toNat) _ g0 (wmem_s rfl))
  refine wl_of hX hb cL_446 (xa_I (so := 0) (pc' := 447) (a := 0) w1571 g0 (wsh_s _) (by omega) (wty_s _ _) (by omega) (by omega) rfl (fun b1581 b1582 => ?_))
  have k1584 : wKI H1567 m = wKI H m := (wKI_fr hW gm f1572 rfl)
  have k1585 : H1567 x 9 = H x 9 := (f1572 x 9 _ gx rfl)
  have k1586 : H1567 m 6 = H m 6 := (f1572 m 6 _ gm rfl)
  have k1587 : H1567 x 11 = H x 11 := (f1572 x 11 _ gx rfl)
  have k1588 : H1567 m 13 = H m 13 := (f1572 m 13 _ gm rfl)
  have k1589 : H1567 x 8 = H x 8 := (f1572 x 8 _ gx rfl)
  have k1590 : H1567 m 3 = H m 3 := (f1572 m 3 _ gm rfl)
  refine wl_of hX hb cL_447 (xc_V (pc' := 450) (r := m) (as := [vI (H1567 0 ((i + 1).toNat)), vI (H1567 0 ((i + 2).toNat)), vI (H1567 0 ((i + 3).toNat))]) (st := []) (lm_11_45) rfl rfl (Nat.le_of_ble_eq_true rfl) w1571 gm sh_42 (by decide) rfl (by decide) (s_214 w1571 gm ⟨by omega, by omega⟩ ⟨by omega, by omega⟩ ⟨by omega, by omega⟩ (by omega)) (fun R1591 T1592 H1593 p1594 => ?_))
  obtain ⟨e1595, w1597, f1598, z1600, e1596, b1601, p1599⟩ := p1594
  subst e1595
  subst e1596
  show WL _ _ _ _ 450 [(4, vI i), (3, .ref o), (2, .ref m), (1, .ref x), (0, .ref 0)] [vI z1600] _ H1593
  refine wl_of hX hb cL_450 (rw_pop (pc' := 451) rfl rfl ?_)
  refine wl_of hX hb cL_451 (rw_goto (p1 := 1653) (by decide) ?_)
  have k1602 : H1593 x 9 = H1567 x 9 := (f1598 x 9 _ gx rfl)
  have k1603 : H1593 m 6 = H1567 m 6 := (f1598 m 6 _ gm rfl)
  have k1604 : H1593 x 11 = H1567 x 11 := (f1598 x 11 _ gx rfl)
  have k1605 : H1593 m 13 = H1567 m 13 := (f1598 m 13 _ gm rfl)
  have k1606 : H1593 x 8 = H1567 x 8 := (f1598 x 8 _ gx rfl)
  have k1607 : H1593 m 3 = H1567 m 3 := (f1598 m 3 _ gm rfl)
  have h1608 : XI T H1593 x m := (XI_fr w1571 gx f1598 rfl (XI_fr hW gx f1572 rfl hXI))
  exact WL.loc hX (by simp) (next T H1593 ⟨⟨w1597, g0, gx, gm, go, by omega, by omega⟩, h1608, by omega, by omega⟩ (by omega) (by omega))
set_option maxHeartbeats 4000000 in
theorem wl_c6 {kt : Nat → Option mc_E} {CB SB : Nat} {X : mc_S → Prop} {T : wq_T} {H : wq_H} {Len x m o : Nat} {i : Int} (hX : wlX kt CB SB X) (hb : T.2.1 ≤ CB ∧ T.2.2.1 ≤ SB) (hI : wlJ Len x m o T H) (hL : Len ≤ 3072) (hi : 0 ≤ i ∧ i + 6 ≤ Len) (hb2 : T.2.1 + 20 ≤ CB ∧ T.2.2.1 + 500 ≤ SB)  (next : ∀ T' H', wlJ Len x m o T' H' → T'.2.1 ≤ T.2.1 + 20 → T'.2.2.1 ≤ T.2.2.1 + 500 → WL kt CB SB X 1653 (wlL i x m o) [] T' H') : WL kt CB SB X 454 (wlL i x m o) [] T H := by
  obtain ⟨⟨hW, g0, gx, gm, go, hK, hr⟩, hXI, hY1, hY2⟩ := hI
  refine wl_of hX hb cL_454 (rw_aload_n (pc' := 455) (v := .ref x) rfl rfl rfl ?_)
  refine wl_of hX hb cL_455 (rw_aload_n (pc' := 456) (v := .ref 0) rfl rfl rfl ?_)
  refine wl_of hX hb cL_456 (rw_iload (pc' := 458) (z := i) rfl rfl ?_)
  refine wl_of hX hb cL_458 (rw_iconst (pc' := 459) rfl ?_)
  refine wl_of hX hb cL_459 (rw_iadd (pc' := 460) rfl ?_)
  refine wl_of hX hb cL_460 (xa_I (so := 0) (pc' := 461) (a := 0) hW g0 (wsh_s _) (by omega) (wty_s _ _) (by omega) (by omega) rfl (fun b1609 b1610 => ?_))
  refine wl_of hX hb cL_461 (rw_aload_n (pc' := 462) (v := .ref 0) rfl rfl rfl ?_)
  refine wl_of hX hb cL_462 (rw_iload (pc' := 464) (z := i) rfl rfl ?_)
  refine wl_of hX hb cL_464 (rw_iconst (pc' := 465) rfl ?_)
  refine wl_of hX hb cL_465 (rw_iadd (pc' := 466) rfl ?_)
  refine wl_of hX hb cL_466 (xa_I (so := 0) (pc' := 467) (a := 0) hW g0 (wsh_s _) (by omega) (wty_s _ _) (by omega) (by omega) rfl (fun b1611 b1612 => ?_))
  refine wl_of hX hb cL_467 (rw_aload_n (pc' := 468) (v := .ref 0) rfl rfl rfl ?_)
  refine wl_of hX hb cL_468 (rw_iload (pc' := 470) (z := i) rfl rfl ?_)
  refine wl_of hX hb cL_470 (rw_iconst (pc' := 471) rfl ?_)
  refine wl_of hX hb cL_471 (rw_iadd (pc' := 472) rfl ?_)
  refine wl_of hX hb cL_472 (xa_I (so := 0) (pc' := 473) (a := 0) hW g0 (wsh_s _) (by omega) (wty_s _ _) (by omega) (by omega) rfl (fun b1613 b1614 => ?_))
  refine wl_of hX hb cL_473 (xc_V (pc' := 476) (r := x) (as := [vI (H 0 ((i + 1).toNat)), vI (H 0 ((i + 2).toNat)), vI (H 0 ((i + 3).toNat))]) (st := []) (lm_11_46) rfl rfl (Nat.le_of_ble_eq_true rfl) hW gx sh_1 (by decide) rfl (by decide) (s_59 hW gx ⟨by omega, by omega⟩ ⟨by omega, by omega⟩ ⟨by omega, by omega⟩) (fun R1615 T1616 H1617 p1618 => ?_))
  obtain ⟨e1619, w1621, f1622, z1623, e1620, b1624⟩ := p1618
  subst e1619
  subst e1620
  show WL _ _ _ _ 476 [(4, vI i), (3, .ref o), (2, .ref m), (1, .ref x), (0, .ref 0)] [vI z1623] _ H1617
  refine wl_of hX hb cL_476 (rw_pop (pc' := 477) rfl rfl ?_)
  refine wl_of hX hb cL_477 (rw_aload_n (pc' := 478) (v := .ref m) rfl rfl rfl ?_)
  refine wl_of hX hb cL_478 (rw_aload_n (pc' := 479) (v := .ref 0) rfl rfl rfl ?_)
  refine wl_of hX hb cL_479 (rw_iload (pc' := 481) (z := i) rfl rfl ?_)
  refine wl_of hX hb cL_481 (rw_iconst (pc' := 482) rfl ?_)
  refine wl_of hX hb cL_482 (rw_iadd (pc' := 483) rfl ?_)
  have k1627 : H1617 0 ((i + 1).toNat) = H 0 ((i + 1).toNat) := (f1622 0 ((i + 1).toNat) _ g0 (wmem_s rfl))
  refine wl_of hX hb cL_483 (xa_I (so := 0) (pc' := 484) (a := 0) w1621 g0 (wsh_s _) (by omega) (wty_s _ _) (by omega) (by omega) rfl (fun b1625 b1626 => ?_))
  refine wl_of hX hb cL_484 (rw_aload_n (pc' := 485) (v := .ref 0) rfl rfl rfl ?_)
  refine wl_of hX hb cL_485 (rw_iload (pc' := 487) (z := i) rfl rfl ?_)
  refine wl_of hX hb cL_487 (rw_iconst (pc' := 488) rfl ?_)
  refine wl_of hX hb cL_488 (rw_iadd (pc' := 489) rfl ?_)
  have k1630 : H1617 0 ((i + 2).toNat) = H 0 ((i + 2).toNat) := (f1622 0 ((i + 2).toNat) _ g0 (wmem_s rfl))
  refine wl_of hX hb cL_489 (xa_I (so := 0) (pc' := 490) (a := 0) w1621 g0 (wsh_s _) (by omega) (wty_s _ _) (by omega) (by omega) rfl (fun b1628 b1629 => ?_))
  refine wl_of hX hb cL_490 (rw_aload_n (pc' := 491) (v := .ref 0) rfl rfl rfl ?_)
  refine wl_of hX hb cL_491 (rw_iload (pc' := 493) (z := i) rfl rfl ?_)
  refine wl_of hX hb cL_493 (rw_iconst (pc' := 494) rfl ?_)
  refine wl_of hX hb cL_494 (rw_iadd (pc' := 495) rfl ?_)
  have k1633 : H1617 0 ((i + 3).toNat) = H 0 ((i + 3).toNat) := (f1622 0 ((i + 3).toNat) _ g0 (wmem_s rfl))
  refine wl_of hX hb cL_495 (xa_I (so := 0) (pc' := 496) (a := 0) w1621 g0 (wsh_s _) (by omega) (wty_s _ _) (by omega) (by omega) rfl (fun b1631 b1632 => ?_))
  have k1634 : wKI H1617 m = wKI H m := (wKI_fr hW gm f1622 rfl)
  have k1635 : H1617 x 9 = H x 9 := (f1622 x 9 _ gx rfl)
  have k1636 : H1617 m 6 = H m 6 := (f1622 m 6 _ gm rfl)
  have k1637 : H1617 x 11 = H x 11 := (f1622 x 11 _ gx rfl)
  have k1638 : H1617 m 13 = H m 13 := (f1622 m 13 _ gm rfl)
  have k1639 : H1617 x 8 = H x 8 := (f1622 x 8 _ gx rfl)
  have k1640 : H1617 m 3 = H m 3 := (f1622 m 3 _ gm rfl)
  refine wl_of hX hb cL_496 (xc_V (pc' := 499) (r := m) (as := [vI (H1617 0 ((i + 1).toNat)), vI (H1617 0 ((i + 2).toNat)), vI (H1617 0 ((i + 3).toNat))]) (st := []) (lm_11_49) rfl rfl (Nat.le_of_ble_eq_true rfl) w1621 gm sh_42 (by decide) rfl (by decide) (s_217 w1621 gm ⟨by omega, by omega⟩ ⟨by omega, by omega⟩ ⟨by omega, by omega⟩ (by omega)) (fun R1641 T1642 H1643 p1644 => ?_))
  obtain ⟨e1645, w1647, f1648, z1650, e1646, b1651, p1649⟩ := p1644
  subst e1645
  subst e1646
  show WL _ _ _ _ 499 [(4, vI i), (3, .ref o), (2, .ref m), (1, .ref x), (0, .ref 0)] [vI z1650] _ H1643
  refine wl_of hX hb cL_499 (rw_pop (pc' := 500) rfl rfl ?_)
  refine wl_of hX hb cL_500 (rw_goto (p1 := 1653) (by decide) ?_)
  have k1652 : H1643 x 9 = H1617 x 9 := (f1648 x 9 _ gx rfl)
  have k1653 : H1643 m 6 = H1617 m 6 := (f1648 m 6 _ gm rfl)
  have k1654 : H1643 x 11 = H1617 x 11 := (f1648 x 11 _ gx rfl)
  have k1655 : H1643 m 13 = H1617 m 13 := (f1648 m 13 _ gm rfl)
  have k1656 : H1643 x 8 = H1617 x 8 := (f1648 x 8 _ gx rfl)
  have k1657 : H1643 m 3 = H1617 m 3 := (f1648 m 3 _ gm rfl)
  have h1658 : XI T H1643 x m := (XI_fr w1621 gx f1648 rfl (XI_fr hW gx f1622 rfl hXI))
  exact WL.loc hX (by simp) (next T H1643 ⟨⟨w1647, g0, gx, gm, go, by omega, by omega⟩, h1658, by omega, by omega⟩ (by omega) (by omega))
set_option maxHeartbeats 4000000 in
theorem wl_c7 {kt : Nat → Option mc_E} {CB SB : Nat} {X : mc_S → Prop} {T : wq_T} {H : wq_H} {Len x m o : Nat} {i : Int} (hX : wlX kt CB SB X) (hb : T.2.1 ≤ CB ∧ T.2.2.1 ≤ SB) (hI : wlJ Len x m o T H) (hL : Len ≤ 3072) (hi : 0 ≤ i ∧ i + 6 ≤ Len) (hb2 : T.2.1 + 20 ≤ CB ∧ T.2.2.1 + 500 ≤ SB)  (next : ∀ T' H', wlJ Len x m o T' H' → T'.2.1 ≤ T.2.1 + 20 → T'.2.2.1 ≤ T.2.2.1 + 500 → WL kt CB SB X 1653 (wlL i x m o) [] T' H') : WL kt CB SB X 503 (wlL i x m o) [] T H := by
  obtain ⟨⟨hW, g0, gx, gm, go, hK, hr⟩, hXI, hY1, hY2⟩ := hI
  refine wl_of hX hb cL_503 (rw_aload_n (pc' := 504) (v := .ref x) rfl rfl rfl ?_)
  refine wl_of hX hb cL_504 (xc_V (pc' := 507) (r := x) (as := []) (st := []) (lm_11_50) rfl rfl (Nat.le_of_ble_eq_true rfl) hW gx sh_1 (by decide) rfl (by decide) (s_61 hW gx) (fun R1659 T1660 H1661 p1662 => ?_))
  obtain ⟨e1663, w1665, f1666, z1667, e1664, b1668⟩ := p1662
  subst e1663
  subst e1664
  show WL _ _ _ _ 507 [(4, vI i), (3, .ref o), (2, .ref m), (1, .ref x), (0, .ref 0)] [vL z1667] _ H1661
  refine wl_of hX hb cL_507 (rw_pop2 (pc' := 508) rfl rfl ?_)
  refine wl_of hX hb cL_508 (rw_aload_n (pc' := 509) (v := .ref m) rfl rfl rfl ?_)
  have k1669 : wKI H1661 m = wKI H m := (wKI_fr hW gm f1666 rfl)
  have k1670 : H1661 x 9 = H x 9 := (f1666 x 9 _ gx rfl)
  have k1671 : H1661 m 6 = H m 6 := (f1666 m 6 _ gm rfl)
  have k1672 : H1661 x 11 = H x 11 := (f1666 x 11 _ gx rfl)
  have k1673 : H1661 m 13 = H m 13 := (f1666 m 13 _ gm rfl)
  have k1674 : H1661 x 8 = H x 8 := (f1666 x 8 _ gx rfl)
  have k1675 : H1661 m 3 = H m 3 := (f1666 m 3 _ gm rfl)
  refine wl_of hX hb cL_509 (xc_V (pc' := 512) (r := m) (as := []) (st := []) (lm_11_54) rfl rfl (Nat.le_of_ble_eq_true rfl) w1665 gm sh_42 (by decide) rfl (by decide) (s_219 w1665 gm (by omega)) (fun R1676 T1677 H1678 p1679 => ?_))
  obtain ⟨e1680, w1682, f1683, z1685, e1681, b1686, p1684⟩ := p1679
  subst e1680
  subst e1681
  show WL _ _ _ _ 512 [(4, vI i), (3, .ref o), (2, .ref m), (1, .ref x), (0, .ref 0)] [vL z1685] _ H1678
  refine wl_of hX hb cL_512 (rw_pop2 (pc' := 513) rfl rfl ?_)
  refine wl_of hX hb cL_513 (rw_goto (p1 := 1653) (by decide) ?_)
  have k1687 : H1678 x 9 = H1661 x 9 := (f1683 x 9 _ gx rfl)
  have k1688 : H1678 m 6 = H1661 m 6 := (f1683 m 6 _ gm rfl)
  have k1689 : H1678 x 11 = H1661 x 11 := (f1683 x 11 _ gx rfl)
  have k1690 : H1678 m 13 = H1661 m 13 := (f1683 m 13 _ gm rfl)
  have k1691 : H1678 x 8 = H1661 x 8 := (f1683 x 8 _ gx rfl)
  have k1692 : H1678 m 3 = H1661 m 3 := (f1683 m 3 _ gm rfl)
  have h1693 : XI T H1678 x m := (XI_fr w1665 gx f1683 rfl (XI_fr hW gx f1666 rfl hXI))
  exact WL.loc hX (by simp) (next T H1678 ⟨⟨w1682, g0, gx, gm, go, by omega, by omega⟩, h1693, by omega, by omega⟩ (by omega) (by omega))
set_option maxHeartbeats 4000000 in
theorem wl_c8 {kt : Nat → Option mc_E} {CB SB : Nat} {X : mc_S → Prop} {T : wq_T} {H : wq_H} {Len x m o : Nat} {i : Int} (hX : wlX kt CB SB X) (hb : T.2.1 ≤ CB ∧ T.2.2.1 ≤ SB) (hI : wlJ Len x m o T H) (hL : Len ≤ 3072) (hi : 0 ≤ i ∧ i + 6 ≤ Len) (hb2 : T.2.1 + 20 ≤ CB ∧ T.2.2.1 + 500 ≤ SB)  (next : ∀ T' H', wlJ Len x m o T' H' → T'.2.1 ≤ T.2.1 + 20 → T'.2.2.1 ≤ T.2.2.1 + 500 → WL kt CB SB X 1653 (wlL i x m o) [] T' H') : WL kt CB SB X 516 (wlL i x m o) [] T H := by
  obtain ⟨⟨hW, g0, gx, gm, go, hK, hr⟩, hXI, hY1, hY2⟩ := hI
  refine wl_of hX hb cL_516 (rw_aload_n (pc' := 517) (v := .ref x) rfl rfl rfl ?_)
  refine wl_of hX hb cL_517 (rw_aload_n (pc' := 518) (v := .ref 0) rfl rfl rfl ?_)
  refine wl_of hX hb cL_518 (rw_iload (pc' := 520) (z := i) rfl rfl ?_)
  refine wl_of hX hb cL_520 (rw_iconst (pc' := 521) rfl ?_)
  refine wl_of hX hb cL_521 (rw_iadd (pc' := 522) rfl ?_)
  refine wl_of hX hb cL_522 (xa_I (so := 0) (pc' := 523) (a := 0) hW g0 (wsh_s _) (by omega) (wty_s _ _) (by omega) (by omega) rfl (fun b1694 b1695 => ?_))
  refine wl_of hX hb cL_523 (rw_aload_n (pc' := 524) (v := .ref 0) rfl rfl rfl ?_)
  refine wl_of hX hb cL_524 (rw_iload (pc' := 526) (z := i) rfl rfl ?_)
  refine wl_of hX hb cL_526 (rw_iconst (pc' := 527) rfl ?_)
  refine wl_of hX hb cL_527 (rw_iadd (pc' := 528) rfl ?_)
  refine wl_of hX hb cL_528 (xa_I (so := 0) (pc' := 529) (a := 0) hW g0 (wsh_s _) (by omega) (wty_s _ _) (by omega) (by omega) rfl (fun b1696 b1697 => ?_))
  obtain ⟨B, tc, tm, cu, dr, C8, e8, d8, n8, g8, e0, gtc, htc, em, gtm, htm, ecu, gcu, edr, gdr, hcu, hdr, hdec, hded, hsp, hC1, hC2, hcu8, hrb8, hcg8, hmn8, hE, hZ, hn8, -⟩ := hXI
  have hN3 := RB_n3 hrb8
  have hE13 : ∀ h : Nat, h < 24 → 0 ≤ e8 13 h ∧ e8 13 h ≤ 100 := fun k hk => by
    obtain ⟨s, h1, h2, h3⟩ := hcu8.1.2.2.1
    exact ⟨(h3 k hk).1, (h3 k hk).2.1⟩
  have hE0 : e8 0 3 = d8 0 3 ∧ e8 0 0 = d8 0 0 := by
    have h := hE 0 (by decide)
    exact ⟨congrFun h 3, congrFun h 0⟩
  have u1698 := CU_k hcu8
  have h1699 : CY T H cu (d8 0 3) g8 (H cu 17) := ⟨hcg8, rfl⟩
  have h1700 : RY T H m (d8 0 3) g8 (H m 32) := ⟨hmn8, rfl⟩
  obtain ⟨t9, ht9⟩ : ∃ t : Int, t = H x 9 := ⟨_, rfl⟩
  obtain ⟨y9, hy9⟩ : ∃ y : Int, y = H 0 ((i + 2).toNat) := ⟨_, rfl⟩
  refine wl_of hX hb cL_529 (xc_V (pc' := 532) (r := x) (as := [vI (H 0 ((i + 1).toNat)), vI (H 0 ((i + 2).toNat))]) (st := []) (lm_11_55) rfl rfl (Nat.le_of_ble_eq_true rfl) hW gx sh_1 (by decide) rfl (by decide) (u_62 (e := e8) (d := d8) (n := n8) (nY := ((d8 0 3))) (gY := g8) (cY := ((H cu 17))) hW gx ⟨by omega, by omega⟩ ⟨by omega, by omega⟩ ecu gcu (by omega) (by omega) (by omega) hcu8 h1699 hcu) (fun R1701 T1702 H1703 p1704 => ?_))
  obtain ⟨e1705, w1707, f1708, z1709, e1706, b1710, p1711⟩ := p1704
  subst e1705
  subst e1706
  rcases p1711 with ⟨a1712, a1713, a1714⟩ | ⟨a1715, a1716, a1717⟩
  · show WL _ _ _ _ 532 [(4, vI i), (3, .ref o), (2, .ref m), (1, .ref x), (0, .ref 0)] [vI z1709] _ H1703
    refine wl_of hX hb cL_532 (rw_pop (pc' := 533) rfl rfl ?_)
    refine wl_of hX hb cL_533 (rw_aload_n (pc' := 534) (v := .ref m) rfl rfl rfl ?_)
    refine wl_of hX hb cL_534 (rw_aload_n (pc' := 535) (v := .ref 0) rfl rfl rfl ?_)
    refine wl_of hX hb cL_535 (rw_iload (pc' := 537) (z := i) rfl rfl ?_)
    refine wl_of hX hb cL_537 (rw_iconst (pc' := 538) rfl ?_)
    refine wl_of hX hb cL_538 (rw_iadd (pc' := 539) rfl ?_)
    have k1720 : H1703 0 ((i + 1).toNat) = H 0 ((i + 1).toNat) := (f1708 0 ((i + 1).toNat) _ g0 (wmem_s rfl))
    refine wl_of hX hb cL_539 (xa_I (so := 0) (pc' := 540) (a := 0) w1707 g0 (wsh_s _) (by omega) (wty_s _ _) (by omega) (by omega) rfl (fun b1718 b1719 => ?_))
    refine wl_of hX hb cL_540 (rw_aload_n (pc' := 541) (v := .ref 0) rfl rfl rfl ?_)
    refine wl_of hX hb cL_541 (rw_iload (pc' := 543) (z := i) rfl rfl ?_)
    refine wl_of hX hb cL_543 (rw_iconst (pc' := 544) rfl ?_)
    refine wl_of hX hb cL_544 (rw_iadd (pc' := 545) rfl ?_)
    have k1723 : H1703 0 ((i + 2).toNat) = H 0 ((i + 2).toNat) := (f1708 0 ((i + 2).toNat) _ g0 (wmem_s rfl))
    refine wl_of hX hb cL_545 (xa_I (so := 0) (pc' := 546) (a := 0) w1707 g0 (wsh_s _) (by omega) (wty_s _ _) (by omega) (by omega) rfl (fun b1721 b1722 => ?_))
    have k1724 : wKI H1703 m = wKI H m := (wKI_fr hW gm f1708 rfl)
    have k1725 : H1703 x 9 = H x 9 := (f1708 x 9 _ gx rfl)
    have k1726 : H1703 m 6 = H m 6 := (f1708 m 6 _ gm rfl)
    have k1727 : H1703 x 11 = H x 11 := (f1708 x 11 _ gx rfl)
    have k1728 : H1703 m 13 = H m 13 := (f1708 m 13 _ gm rfl)
    have k1729 : H1703 x 8 = H x 8 := (f1708 x 8 _ gx rfl)
    have k1730 : H1703 m 3 = H m 3 := (f1708 m 3 _ gm rfl)
    rw [show H1703 0 ((i + 2).toNat) = H 0 ((i + 2).toNat) by omega]
    rw [show H1703 0 ((i + 1).toNat) = H 0 ((i + 1).toNat) by omega]
    have h1731 : RB T H1703 m e8 d8 := (RB_fr hW gm f1708 rfl hrb8)
    have h1732 : RY T H1703 m (d8 0 3) g8 (H m 32) := (RY_fr hW gm f1708 rfl h1700)
    refine wl_of hX hb cL_546 (xc_V (pc' := 549) (r := m) (as := [vI (H 0 ((i + 1).toNat)), vI (H 0 ((i + 2).toNat))]) (st := []) (lm_11_59) rfl rfl (Nat.le_of_ble_eq_true rfl) w1707 gm sh_42 (by decide) rfl (by decide) (u_222 (e := e8) (d := d8) (nY := ((d8 0 3))) (gY := g8) (cY := ((H m 32))) w1707 gm ⟨by omega, by omega⟩ ⟨by omega, by omega⟩ (by omega) h1731 h1732) (fun R1733 T1734 H1735 p1736 => ?_))
    obtain ⟨e1737, w1739, f1740, z1741, e1738, b1742, p1743⟩ := p1736
    subst e1737
    subst e1738
    rcases p1743 with ⟨a1744, a1745, a1746⟩ | ⟨a1747, a1748, a1749⟩
    · show WL _ _ _ _ 549 [(4, vI i), (3, .ref o), (2, .ref m), (1, .ref x), (0, .ref 0)] [vI z1741] _ H1735
      refine wl_of hX hb cL_549 (rw_pop (pc' := 550) rfl rfl ?_)
      refine wl_of hX hb cL_550 (rw_goto (p1 := 1653) (by decide) ?_)
      have k1750 : wKI H1735 m = wKI H1703 m := (wKI_fr w1707 gm f1740 rfl)
      have k1751 : H1735 x 9 = H1703 x 9 := (f1740 x 9 _ gx rfl)
      have k1752 : H1735 m 6 = H1703 m 6 := (f1740 m 6 _ gm rfl)
      have k1753 : H1735 x 11 = H1703 x 11 := (f1740 x 11 _ gx rfl)
      have k1754 : H1735 m 13 = H1703 m 13 := (f1740 m 13 _ gm rfl)
      have k1755 : H1735 x 8 = H1703 x 8 := (f1740 x 8 _ gx rfl)
      have k1756 : H1735 m 3 = H1703 m 3 := (f1740 m 3 _ gm rfl)
      have k1757 : H1735 x 0 = H x 0 := ((f1740 x 0 _ gx rfl).trans (f1708 x 0 _ gx rfl))
      have q1758 : H1735 x 0 = (tc : Int) := k1757.trans e0
      have k1759 : H1735 m 5 = H m 5 := ((f1740 m 5 _ gm rfl).trans (f1708 m 5 _ gm rfl))
      have q1760 : H1735 m 5 = (tm : Int) := k1759.trans em
      have k1761 : H1735 x 6 = H x 6 := ((f1740 x 6 _ gx rfl).trans (f1708 x 6 _ gx rfl))
      have q1762 : H1735 x 6 = (cu : Int) := k1761.trans ecu
      have k1763 : H1735 x 7 = H x 7 := ((f1740 x 7 _ gx rfl).trans (f1708 x 7 _ gx rfl))
      have q1764 : H1735 x 7 = (dr : Int) := k1763.trans edr
      have h1765 : TP T H1735 tc B := (TP_fr w1707 gtc f1740 rfl (TP_fr hW gtc f1708 rfl htc))
      have h1766 : TM T H1735 tm B := (TM_fr w1707 gtm f1740 rfl (TM_fr hW gtm f1708 rfl htm))
      have h1767 : DD T H1735 cu  := (DD_fr w1707 gcu f1740 rfl (DD_fr hW gcu f1708 rfl hcu))
      have h1768 : DD T H1735 dr  := (DD_fr w1707 gdr f1740 rfl (DD_fr hW gdr f1708 rfl hdr))
      have h1769 : DE T H1735 cu  := (DE_fr w1707 gcu f1740 rfl (DE_fr hW gcu f1708 rfl hdec))
      have h1770 : DE T H1735 dr  := (DE_fr w1707 gdr f1740 rfl (DE_fr hW gdr f1708 rfl hded))
      have h1771 : SP T H1735 x C8 := (SP_fr w1707 gx f1740 rfl (SP_fr hW gx f1708 rfl hsp))
      have h1772 : CU T H1735 cu e8 d8 n8 := (CU_fr w1707 gcu f1740 rfl (CU_fr hW gcu f1708 rfl hcu8))
      have h1773 : CY T H1735 cu ((d8 0 3)) (xup g8 ((H 0 ((i + 1).toNat))).toNat (H 0 ((i + 2).toNat))) ((H cu 17)) := (CY_fr w1707 gcu f1740 rfl a1714)
      have h1774 : RB T H1735 m e8 d8 := (RB_fr w1707 gm f1740 rfl h1731)
      exact WL.loc hX (by simp) (next T H1735 ⟨⟨w1739, g0, gx, gm, go, by omega, by omega⟩, ⟨_, tc, tm, cu, dr, _, _, _, _, _, q1758, gtc, h1765, q1760, gtm, h1766, q1762, gcu, q1764, gdr, h1767, h1768, h1769, h1770, h1771, hC1, hC2, h1772, h1774, (h1773).1, (a1746).1, hE, hZ, (by omega), gm⟩, by omega, by omega⟩ (by omega) (by omega))
    · show WL _ _ _ _ 549 [(4, vI i), (3, .ref o), (2, .ref m), (1, .ref x), (0, .ref 0)] [vI z1741] _ H1735
      refine wl_of hX hb cL_549 (rw_pop (pc' := 550) rfl rfl ?_)
      refine wl_of hX hb cL_550 (rw_goto (p1 := 1653) (by decide) ?_)
      have k1775 : wKI H1735 m = wKI H1703 m := (wKI_fr w1707 gm f1740 rfl)
      have k1776 : H1735 x 9 = H1703 x 9 := (f1740 x 9 _ gx rfl)
      have k1777 : H1735 m 6 = H1703 m 6 := (f1740 m 6 _ gm rfl)
      have k1778 : H1735 x 11 = H1703 x 11 := (f1740 x 11 _ gx rfl)
      have k1779 : H1735 m 13 = H1703 m 13 := (f1740 m 13 _ gm rfl)
      have k1780 : H1735 x 8 = H1703 x 8 := (f1740 x 8 _ gx rfl)
      have k1781 : H1735 m 3 = H1703 m 3 := (f1740 m 3 _ gm rfl)
      have k1782 : H1735 x 0 = H x 0 := ((f1740 x 0 _ gx rfl).trans (f1708 x 0 _ gx rfl))
      have q1783 : H1735 x 0 = (tc : Int) := k1782.trans e0
      have k1784 : H1735 m 5 = H m 5 := ((f1740 m 5 _ gm rfl).trans (f1708 m 5 _ gm rfl))
      have q1785 : H1735 m 5 = (tm : Int) := k1784.trans em
      have k1786 : H1735 x 6 = H x 6 := ((f1740 x 6 _ gx rfl).trans (f1708 x 6 _ gx rfl))
      have q1787 : H1735 x 6 = (cu : Int) := k1786.trans ecu
      have k1788 : H1735 x 7 = H x 7 := ((f1740 x 7 _ gx rfl).trans (f1708 x 7 _ gx rfl))
      have q1789 : H1735 x 7 = (dr : Int) := k1788.trans edr
      have h1790 : TP T H1735 tc B := (TP_fr w1707 gtc f1740 rfl (TP_fr hW gtc f1708 rfl htc))
      have h1791 : TM T H1735 tm B := (TM_fr w1707 gtm f1740 rfl (TM_fr hW gtm f1708 rfl htm))
      have h1792 : DD T H1735 cu  := (DD_fr w1707 gcu f1740 rfl (DD_fr hW gcu f1708 rfl hcu))
      have h1793 : DD T H1735 dr  := (DD_fr w1707 gdr f1740 rfl (DD_fr hW gdr f1708 rfl hdr))
      have h1794 : DE T H1735 cu  := (DE_fr w1707 gcu f1740 rfl (DE_fr hW gcu f1708 rfl hdec))
      have h1795 : DE T H1735 dr  := (DE_fr w1707 gdr f1740 rfl (DE_fr hW gdr f1708 rfl hded))
      have h1796 : SP T H1735 x C8 := (SP_fr w1707 gx f1740 rfl (SP_fr hW gx f1708 rfl hsp))
      have h1797 : CU T H1735 cu e8 d8 n8 := (CU_fr w1707 gcu f1740 rfl (CU_fr hW gcu f1708 rfl hcu8))
      have h1798 : CY T H1735 cu ((d8 0 3)) (xup g8 ((H 0 ((i + 1).toNat))).toNat (H 0 ((i + 2).toNat))) ((H cu 17)) := (CY_fr w1707 gcu f1740 rfl a1714)
      exfalso
      omega
  · show WL _ _ _ _ 532 [(4, vI i), (3, .ref o), (2, .ref m), (1, .ref x), (0, .ref 0)] [vI z1709] _ H1703
    refine wl_of hX hb cL_532 (rw_pop (pc' := 533) rfl rfl ?_)
    refine wl_of hX hb cL_533 (rw_aload_n (pc' := 534) (v := .ref m) rfl rfl rfl ?_)
    refine wl_of hX hb cL_534 (rw_aload_n (pc' := 535) (v := .ref 0) rfl rfl rfl ?_)
    refine wl_of hX hb cL_535 (rw_iload (pc' := 537) (z := i) rfl rfl ?_)
    refine wl_of hX hb cL_537 (rw_iconst (pc' := 538) rfl ?_)
    refine wl_of hX hb cL_538 (rw_iadd (pc' := 539) rfl ?_)
    have k1801 : H1703 0 ((i + 1).toNat) = H 0 ((i + 1).toNat) := (f1708 0 ((i + 1).toNat) _ g0 (wmem_s rfl))
    refine wl_of hX hb cL_539 (xa_I (so := 0) (pc' := 540) (a := 0) w1707 g0 (wsh_s _) (by omega) (wty_s _ _) (by omega) (by omega) rfl (fun b1799 b1800 => ?_))
    refine wl_of hX hb cL_540 (rw_aload_n (pc' := 541) (v := .ref 0) rfl rfl rfl ?_)
    refine wl_of hX hb cL_541 (rw_iload (pc' := 543) (z := i) rfl rfl ?_)
    refine wl_of hX hb cL_543 (rw_iconst (pc' := 544) rfl ?_)
    refine wl_of hX hb cL_544 (rw_iadd (pc' := 545) rfl ?_)
    have k1804 : H1703 0 ((i + 2).toNat) = H 0 ((i + 2).toNat) := (f1708 0 ((i + 2).toNat) _ g0 (wmem_s rfl))
    refine wl_of hX hb cL_545 (xa_I (so := 0) (pc' := 546) (a := 0) w1707 g0 (wsh_s _) (by omega) (wty_s _ _) (by omega) (by omega) rfl (fun b1802 b1803 => ?_))
    have k1805 : wKI H1703 m = wKI H m := (wKI_fr hW gm f1708 rfl)
    have k1806 : H1703 x 9 = H x 9 := (f1708 x 9 _ gx rfl)
    have k1807 : H1703 m 6 = H m 6 := (f1708 m 6 _ gm rfl)
    have k1808 : H1703 x 11 = H x 11 := (f1708 x 11 _ gx rfl)
    have k1809 : H1703 m 13 = H m 13 := (f1708 m 13 _ gm rfl)
    have k1810 : H1703 x 8 = H x 8 := (f1708 x 8 _ gx rfl)
    have k1811 : H1703 m 3 = H m 3 := (f1708 m 3 _ gm rfl)
    rw [show H1703 0 ((i + 2).toNat) = H 0 ((i + 2).toNat) by omega]
    rw [show H1703 0 ((i + 1).toNat) = H 0 ((i + 1).toNat) by omega]
    have h1812 : RB T H1703 m e8 d8 := (RB_fr hW gm f1708 rfl hrb8)
    have h1813 : RY T H1703 m (d8 0 3) g8 (H m 32) := (RY_fr hW gm f1708 rfl h1700)
    refine wl_of hX hb cL_546 (xc_V (pc' := 549) (r := m) (as := [vI (H 0 ((i + 1).toNat)), vI (H 0 ((i + 2).toNat))]) (st := []) (lm_11_59) rfl rfl (Nat.le_of_ble_eq_true rfl) w1707 gm sh_42 (by decide) rfl (by decide) (u_222 (e := e8) (d := d8) (nY := ((d8 0 3))) (gY := g8) (cY := ((H m 32))) w1707 gm ⟨by omega, by omega⟩ ⟨by omega, by omega⟩ (by omega) h1812 h1813) (fun R1814 T1815 H1816 p1817 => ?_))
    obtain ⟨e1818, w1820, f1821, z1822, e1819, b1823, p1824⟩ := p1817
    subst e1818
    subst e1819
    rcases p1824 with ⟨a1825, a1826, a1827⟩ | ⟨a1828, a1829, a1830⟩
    · show WL _ _ _ _ 549 [(4, vI i), (3, .ref o), (2, .ref m), (1, .ref x), (0, .ref 0)] [vI z1822] _ H1816
      refine wl_of hX hb cL_549 (rw_pop (pc' := 550) rfl rfl ?_)
      refine wl_of hX hb cL_550 (rw_goto (p1 := 1653) (by decide) ?_)
      have k1831 : wKI H1816 m = wKI H1703 m := (wKI_fr w1707 gm f1821 rfl)
      have k1832 : H1816 x 9 = H1703 x 9 := (f1821 x 9 _ gx rfl)
      have k1833 : H1816 m 6 = H1703 m 6 := (f1821 m 6 _ gm rfl)
      have k1834 : H1816 x 11 = H1703 x 11 := (f1821 x 11 _ gx rfl)
      have k1835 : H1816 m 13 = H1703 m 13 := (f1821 m 13 _ gm rfl)
      have k1836 : H1816 x 8 = H1703 x 8 := (f1821 x 8 _ gx rfl)
      have k1837 : H1816 m 3 = H1703 m 3 := (f1821 m 3 _ gm rfl)
      have k1838 : H1816 x 0 = H x 0 := ((f1821 x 0 _ gx rfl).trans (f1708 x 0 _ gx rfl))
      have q1839 : H1816 x 0 = (tc : Int) := k1838.trans e0
      have k1840 : H1816 m 5 = H m 5 := ((f1821 m 5 _ gm rfl).trans (f1708 m 5 _ gm rfl))
      have q1841 : H1816 m 5 = (tm : Int) := k1840.trans em
      have k1842 : H1816 x 6 = H x 6 := ((f1821 x 6 _ gx rfl).trans (f1708 x 6 _ gx rfl))
      have q1843 : H1816 x 6 = (cu : Int) := k1842.trans ecu
      have k1844 : H1816 x 7 = H x 7 := ((f1821 x 7 _ gx rfl).trans (f1708 x 7 _ gx rfl))
      have q1845 : H1816 x 7 = (dr : Int) := k1844.trans edr
      have h1846 : TP T H1816 tc B := (TP_fr w1707 gtc f1821 rfl (TP_fr hW gtc f1708 rfl htc))
      have h1847 : TM T H1816 tm B := (TM_fr w1707 gtm f1821 rfl (TM_fr hW gtm f1708 rfl htm))
      have h1848 : DD T H1816 cu  := (DD_fr w1707 gcu f1821 rfl (DD_fr hW gcu f1708 rfl hcu))
      have h1849 : DD T H1816 dr  := (DD_fr w1707 gdr f1821 rfl (DD_fr hW gdr f1708 rfl hdr))
      have h1850 : DE T H1816 cu  := (DE_fr w1707 gcu f1821 rfl (DE_fr hW gcu f1708 rfl hdec))
      have h1851 : DE T H1816 dr  := (DE_fr w1707 gdr f1821 rfl (DE_fr hW gdr f1708 rfl hded))
      have h1852 : SP T H1816 x C8 := (SP_fr w1707 gx f1821 rfl (SP_fr hW gx f1708 rfl hsp))
      have h1853 : CU T H1816 cu e8 d8 n8 := (CU_fr w1707 gcu f1821 rfl (CU_fr hW gcu f1708 rfl hcu8))
      have h1854 : CY T H1816 cu ((d8 0 3)) g8 ((H cu 17)) := (CY_fr w1707 gcu f1821 rfl a1717)
      exfalso
      omega
    · show WL _ _ _ _ 549 [(4, vI i), (3, .ref o), (2, .ref m), (1, .ref x), (0, .ref 0)] [vI z1822] _ H1816
      refine wl_of hX hb cL_549 (rw_pop (pc' := 550) rfl rfl ?_)
      refine wl_of hX hb cL_550 (rw_goto (p1 := 1653) (by decide) ?_)
      have k1855 : wKI H1816 m = wKI H1703 m := (wKI_fr w1707 gm f1821 rfl)
      have k1856 : H1816 x 9 = H1703 x 9 := (f1821 x 9 _ gx rfl)
      have k1857 : H1816 m 6 = H1703 m 6 := (f1821 m 6 _ gm rfl)
      have k1858 : H1816 x 11 = H1703 x 11 := (f1821 x 11 _ gx rfl)
      have k1859 : H1816 m 13 = H1703 m 13 := (f1821 m 13 _ gm rfl)
      have k1860 : H1816 x 8 = H1703 x 8 := (f1821 x 8 _ gx rfl)
      have k1861 : H1816 m 3 = H1703 m 3 := (f1821 m 3 _ gm rfl)
      have k1862 : H1816 x 0 = H x 0 := ((f1821 x 0 _ gx rfl).trans (f1708 x 0 _ gx rfl))
      have q1863 : H1816 x 0 = (tc : Int) := k1862.trans e0
      have k1864 : H1816 m 5 = H m 5 := ((f1821 m 5 _ gm rfl).trans (f1708 m 5 _ gm rfl))
      have q1865 : H1816 m 5 = (tm : Int) := k1864.trans em
      have k1866 : H1816 x 6 = H x 6 := ((f1821 x 6 _ gx rfl).trans (f1708 x 6 _ gx rfl))
      have q1867 : H1816 x 6 = (cu : Int) := k1866.trans ecu
      have k1868 : H1816 x 7 = H x 7 := ((f1821 x 7 _ gx rfl).trans (f1708 x 7 _ gx rfl))
      have q1869 : H1816 x 7 = (dr : Int) := k1868.trans edr
      have h1870 : TP T H1816 tc B := (TP_fr w1707 gtc f1821 rfl (TP_fr hW gtc f1708 rfl htc))
      have h1871 : TM T H1816 tm B := (TM_fr w1707 gtm f1821 rfl (TM_fr hW gtm f1708 rfl htm))
      have h1872 : DD T H1816 cu  := (DD_fr w1707 gcu f1821 rfl (DD_fr hW gcu f1708 rfl hcu))
      have h1873 : DD T H1816 dr  := (DD_fr w1707 gdr f1821 rfl (DD_fr hW gdr f1708 rfl hdr))
      have h1874 : DE T H1816 cu  := (DE_fr w1707 gcu f1821 rfl (DE_fr hW gcu f1708 rfl hdec))
      have h1875 : DE T H1816 dr  := (DE_fr w1707 gdr f1821 rfl (DE_fr hW gdr f1708 rfl hded))
      have h1876 : SP T H1816 x C8 := (SP_fr w1707 gx f1821 rfl (SP_fr hW gx f1708 rfl hsp))
      have h1877 : CU T H1816 cu e8 d8 n8 := (CU_fr w1707 gcu f1821 rfl (CU_fr hW gcu f1708 rfl hcu8))
      have h1878 : CY T H1816 cu ((d8 0 3)) g8 ((H cu 17)) := (CY_fr w1707 gcu f1821 rfl a1717)
      have h1879 : RB T H1816 m e8 d8 := (RB_fr w1707 gm f1821 rfl h1812)
      exact WL.loc hX (by simp) (next T H1816 ⟨⟨w1820, g0, gx, gm, go, by omega, by omega⟩, ⟨_, tc, tm, cu, dr, _, _, _, _, _, q1863, gtc, h1870, q1865, gtm, h1871, q1867, gcu, q1869, gdr, h1872, h1873, h1874, h1875, h1876, hC1, hC2, h1877, h1879, (h1878).1, (a1830).1, hE, hZ, (by omega), gm⟩, by omega, by omega⟩ (by omega) (by omega))
set_option maxHeartbeats 4000000 in
theorem wl_c9 {kt : Nat → Option mc_E} {CB SB : Nat} {X : mc_S → Prop} {T : wq_T} {H : wq_H} {Len x m o : Nat} {i : Int} (hX : wlX kt CB SB X) (hb : T.2.1 ≤ CB ∧ T.2.2.1 ≤ SB) (hI : wlJ Len x m o T H) (hL : Len ≤ 3072) (hi : 0 ≤ i ∧ i + 6 ≤ Len) (hb2 : T.2.1 + 20 ≤ CB ∧ T.2.2.1 + 500 ≤ SB)  (next : ∀ T' H', wlJ Len x m o T' H' → T'.2.1 ≤ T.2.1 + 20 → T'.2.2.1 ≤ T.2.2.1 + 500 → WL kt CB SB X 1653 (wlL i x m o) [] T' H') : WL kt CB SB X 553 (wlL i x m o) [] T H := by
  obtain ⟨⟨hW, g0, gx, gm, go, hK, hr⟩, hXI, hY1, hY2⟩ := hI
  refine wl_of hX hb cL_553 (rw_aload_n (pc' := 554) (v := .ref x) rfl rfl rfl ?_)
  refine wl_of hX hb cL_554 (rw_aload_n (pc' := 555) (v := .ref 0) rfl rfl rfl ?_)
  refine wl_of hX hb cL_555 (rw_iload (pc' := 557) (z := i) rfl rfl ?_)
  refine wl_of hX hb cL_557 (rw_iconst (pc' := 558) rfl ?_)
  refine wl_of hX hb cL_558 (rw_iadd (pc' := 559) rfl ?_)
  refine wl_of hX hb cL_559 (xa_I (so := 0) (pc' := 560) (a := 0) hW g0 (wsh_s _) (by omega) (wty_s _ _) (by omega) (by omega) rfl (fun b1880 b1881 => ?_))
  obtain ⟨B, tc, tm, cu, dr, C8, e8, d8, n8, g8, e0, gtc, htc, em, gtm, htm, ecu, gcu, edr, gdr, hcu, hdr, hdec, hded, hsp, hC1, hC2, hcu8, hrb8, hcg8, hmn8, hE, hZ, hn8, -⟩ := hXI
  have hN3 := RB_n3 hrb8
  have hE13 : ∀ h : Nat, h < 24 → 0 ≤ e8 13 h ∧ e8 13 h ≤ 100 := fun k hk => by
    obtain ⟨s, h1, h2, h3⟩ := hcu8.1.2.2.1
    exact ⟨(h3 k hk).1, (h3 k hk).2.1⟩
  have hE0 : e8 0 3 = d8 0 3 ∧ e8 0 0 = d8 0 0 := by
    have h := hE 0 (by decide)
    exact ⟨congrFun h 3, congrFun h 0⟩
  have u1882 := CU_k hcu8
  have h1883 : CY T H cu (d8 0 3) g8 (H cu 17) := ⟨hcg8, rfl⟩
  have h1884 : RY T H m (d8 0 3) g8 (H m 32) := ⟨hmn8, rfl⟩
  obtain ⟨t9, ht9⟩ : ∃ t : Int, t = H x 9 := ⟨_, rfl⟩
  obtain ⟨y9, hy9⟩ : ∃ y : Int, y = H 0 ((i + 1).toNat) := ⟨_, rfl⟩
  refine wl_of hX hb cL_560 (xc_V (pc' := 563) (r := x) (as := [vI (H 0 ((i + 1).toNat))]) (st := []) (lm_11_60) rfl rfl (Nat.le_of_ble_eq_true rfl) hW gx sh_1 (by decide) rfl (by decide) (u_65 (e := e8) (d := d8) (n := n8) (nY := ((d8 0 3))) (gY := g8) (cY := ((H cu 17))) hW gx ⟨by omega, by omega⟩ ecu gcu (by omega) (by omega) (by omega) hcu8 h1883) (fun R1885 T1886 H1887 p1888 => ?_))
  obtain ⟨e1889, w1891, f1892, z1893, e1890, b1894, p1895⟩ := p1888
  subst e1889
  subst e1890
  rcases p1895 with ⟨a1896, a1897⟩ | ⟨a1898, a1899⟩
  · show WL _ _ _ _ 563 [(4, vI i), (3, .ref o), (2, .ref m), (1, .ref x), (0, .ref 0)] [vI z1893] _ H1887
    refine wl_of hX hb cL_563 (rw_aload_n (pc' := 564) (v := .ref m) rfl rfl rfl ?_)
    refine wl_of hX hb cL_564 (rw_aload_n (pc' := 565) (v := .ref 0) rfl rfl rfl ?_)
    refine wl_of hX hb cL_565 (rw_iload (pc' := 567) (z := i) rfl rfl ?_)
    refine wl_of hX hb cL_567 (rw_iconst (pc' := 568) rfl ?_)
    refine wl_of hX hb cL_568 (rw_iadd (pc' := 569) rfl ?_)
    have k1902 : H1887 0 ((i + 1).toNat) = H 0 ((i + 1).toNat) := (f1892 0 ((i + 1).toNat) _ g0 (wmem_s rfl))
    refine wl_of hX hb cL_569 (xa_I (so := 0) (pc' := 570) (a := 0) w1891 g0 (wsh_s _) (by omega) (wty_s _ _) (by omega) (by omega) rfl (fun b1900 b1901 => ?_))
    have k1903 : wKI H1887 m = wKI H m := (wKI_fr hW gm f1892 rfl)
    have k1904 : H1887 x 9 = H x 9 := (f1892 x 9 _ gx rfl)
    have k1905 : H1887 m 6 = H m 6 := (f1892 m 6 _ gm rfl)
    have k1906 : H1887 x 11 = H x 11 := (f1892 x 11 _ gx rfl)
    have k1907 : H1887 m 13 = H m 13 := (f1892 m 13 _ gm rfl)
    have k1908 : H1887 x 8 = H x 8 := (f1892 x 8 _ gx rfl)
    have k1909 : H1887 m 3 = H m 3 := (f1892 m 3 _ gm rfl)
    rw [show H1887 0 ((i + 1).toNat) = H 0 ((i + 1).toNat) by omega]
    have h1910 : RB T H1887 m e8 d8 := (RB_fr hW gm f1892 rfl hrb8)
    have h1911 : RY T H1887 m (d8 0 3) g8 (H m 32) := (RY_fr hW gm f1892 rfl h1884)
    refine wl_of hX hb cL_570 (xc_V (pc' := 573) (r := m) (as := [vI (H 0 ((i + 1).toNat))]) (st := [vI z1893]) (lm_11_63) rfl rfl (Nat.le_of_ble_eq_true rfl) w1891 gm sh_42 (by decide) rfl (by decide) (u_225 (e := e8) (d := d8) (nY := ((d8 0 3))) (gY := g8) (cY := ((H m 32))) w1891 gm ⟨by omega, by omega⟩ (by omega) h1910 h1911) (fun R1912 T1913 H1914 p1915 => ?_))
    obtain ⟨e1916, w1918, f1919, z1920, e1917, b1921, p1922⟩ := p1915
    subst e1916
    subst e1917
    rcases p1922 with ⟨a1923, a1924⟩ | ⟨a1925, a1926⟩
    · show WL _ _ _ _ 573 [(4, vI i), (3, .ref o), (2, .ref m), (1, .ref x), (0, .ref 0)] [vI z1920, vI z1893] _ H1914
      refine wl_of hX hb cL_573 (rw_icmp_eq (p1 := 1653) (p2 := 576) (by decide) rfl ⟨b1894.1, b1894.2⟩ ⟨b1921.1, b1921.2⟩ (fun c1927 => ?_) (fun c1927 => ?_))
      · have k1928 : wKI H1914 m = wKI H1887 m := (wKI_fr w1891 gm f1919 rfl)
        have k1929 : H1914 x 9 = H1887 x 9 := (f1919 x 9 _ gx rfl)
        have k1930 : H1914 m 6 = H1887 m 6 := (f1919 m 6 _ gm rfl)
        have k1931 : H1914 x 11 = H1887 x 11 := (f1919 x 11 _ gx rfl)
        have k1932 : H1914 m 13 = H1887 m 13 := (f1919 m 13 _ gm rfl)
        have k1933 : H1914 x 8 = H1887 x 8 := (f1919 x 8 _ gx rfl)
        have k1934 : H1914 m 3 = H1887 m 3 := (f1919 m 3 _ gm rfl)
        have k1935 : H1914 x 0 = H x 0 := ((f1919 x 0 _ gx rfl).trans (f1892 x 0 _ gx rfl))
        have q1936 : H1914 x 0 = (tc : Int) := k1935.trans e0
        have k1937 : H1914 m 5 = H m 5 := ((f1919 m 5 _ gm rfl).trans (f1892 m 5 _ gm rfl))
        have q1938 : H1914 m 5 = (tm : Int) := k1937.trans em
        have k1939 : H1914 x 6 = H x 6 := ((f1919 x 6 _ gx rfl).trans (f1892 x 6 _ gx rfl))
        have q1940 : H1914 x 6 = (cu : Int) := k1939.trans ecu
        have k1941 : H1914 x 7 = H x 7 := ((f1919 x 7 _ gx rfl).trans (f1892 x 7 _ gx rfl))
        have q1942 : H1914 x 7 = (dr : Int) := k1941.trans edr
        have h1943 : TP T H1914 tc B := (TP_fr w1891 gtc f1919 rfl (TP_fr hW gtc f1892 rfl htc))
        have h1944 : TM T H1914 tm B := (TM_fr w1891 gtm f1919 rfl (TM_fr hW gtm f1892 rfl htm))
        have h1945 : DD T H1914 cu  := (DD_fr w1891 gcu f1919 rfl (DD_fr hW gcu f1892 rfl hcu))
        have h1946 : DD T H1914 dr  := (DD_fr w1891 gdr f1919 rfl (DD_fr hW gdr f1892 rfl hdr))
        have h1947 : DE T H1914 cu  := (DE_fr w1891 gcu f1919 rfl (DE_fr hW gcu f1892 rfl hdec))
        have h1948 : DE T H1914 dr  := (DE_fr w1891 gdr f1919 rfl (DE_fr hW gdr f1892 rfl hded))
        have h1949 : SP T H1914 x C8 := (SP_fr w1891 gx f1919 rfl (SP_fr hW gx f1892 rfl hsp))
        have h1950 : CU T H1914 cu e8 d8 n8 := (CU_fr w1891 gcu f1919 rfl (CU_fr hW gcu f1892 rfl hcu8))
        have h1951 : CY T H1914 cu (d8 0 3) g8 (H cu 17) := (CY_fr w1891 gcu f1919 rfl (CY_fr hW gcu f1892 rfl h1883))
        have h1952 : RY T H1914 m (d8 0 3) g8 (H m 32) := (RY_fr w1891 gm f1919 rfl h1911)
        have h1953 : RB T H1914 m e8 d8 := (RB_fr w1891 gm f1919 rfl h1910)
        exact WL.loc hX (by simp) (next T H1914 ⟨⟨w1918, g0, gx, gm, go, by omega, by omega⟩, ⟨_, tc, tm, cu, dr, _, _, _, _, _, q1936, gtc, h1943, q1938, gtm, h1944, q1940, gcu, q1942, gdr, h1945, h1946, h1947, h1948, h1949, hC1, hC2, h1950, h1953, (h1951).1, (h1952).1, hE, hZ, (by omega), gm⟩, by omega, by omega⟩ (by omega) (by omega))
      · exfalso
        omega
    · show WL _ _ _ _ 573 [(4, vI i), (3, .ref o), (2, .ref m), (1, .ref x), (0, .ref 0)] [vI z1920, vI z1893] _ H1914
      refine wl_of hX hb cL_573 (rw_icmp_eq (p1 := 1653) (p2 := 576) (by decide) rfl ⟨b1894.1, b1894.2⟩ ⟨b1921.1, b1921.2⟩ (fun c1954 => ?_) (fun c1954 => ?_))
      · have k1955 : wKI H1914 m = wKI H1887 m := (wKI_fr w1891 gm f1919 rfl)
        have k1956 : H1914 x 9 = H1887 x 9 := (f1919 x 9 _ gx rfl)
        have k1957 : H1914 m 6 = H1887 m 6 := (f1919 m 6 _ gm rfl)
        have k1958 : H1914 x 11 = H1887 x 11 := (f1919 x 11 _ gx rfl)
        have k1959 : H1914 m 13 = H1887 m 13 := (f1919 m 13 _ gm rfl)
        have k1960 : H1914 x 8 = H1887 x 8 := (f1919 x 8 _ gx rfl)
        have k1961 : H1914 m 3 = H1887 m 3 := (f1919 m 3 _ gm rfl)
        have k1962 : H1914 x 0 = H x 0 := ((f1919 x 0 _ gx rfl).trans (f1892 x 0 _ gx rfl))
        have q1963 : H1914 x 0 = (tc : Int) := k1962.trans e0
        have k1964 : H1914 m 5 = H m 5 := ((f1919 m 5 _ gm rfl).trans (f1892 m 5 _ gm rfl))
        have q1965 : H1914 m 5 = (tm : Int) := k1964.trans em
        have k1966 : H1914 x 6 = H x 6 := ((f1919 x 6 _ gx rfl).trans (f1892 x 6 _ gx rfl))
        have q1967 : H1914 x 6 = (cu : Int) := k1966.trans ecu
        have k1968 : H1914 x 7 = H x 7 := ((f1919 x 7 _ gx rfl).trans (f1892 x 7 _ gx rfl))
        have q1969 : H1914 x 7 = (dr : Int) := k1968.trans edr
        have h1970 : TP T H1914 tc B := (TP_fr w1891 gtc f1919 rfl (TP_fr hW gtc f1892 rfl htc))
        have h1971 : TM T H1914 tm B := (TM_fr w1891 gtm f1919 rfl (TM_fr hW gtm f1892 rfl htm))
        have h1972 : DD T H1914 cu  := (DD_fr w1891 gcu f1919 rfl (DD_fr hW gcu f1892 rfl hcu))
        have h1973 : DD T H1914 dr  := (DD_fr w1891 gdr f1919 rfl (DD_fr hW gdr f1892 rfl hdr))
        have h1974 : DE T H1914 cu  := (DE_fr w1891 gcu f1919 rfl (DE_fr hW gcu f1892 rfl hdec))
        have h1975 : DE T H1914 dr  := (DE_fr w1891 gdr f1919 rfl (DE_fr hW gdr f1892 rfl hded))
        have h1976 : SP T H1914 x C8 := (SP_fr w1891 gx f1919 rfl (SP_fr hW gx f1892 rfl hsp))
        have h1977 : CU T H1914 cu e8 d8 n8 := (CU_fr w1891 gcu f1919 rfl (CU_fr hW gcu f1892 rfl hcu8))
        have h1978 : CY T H1914 cu (d8 0 3) g8 (H cu 17) := (CY_fr w1891 gcu f1919 rfl (CY_fr hW gcu f1892 rfl h1883))
        have h1979 : RY T H1914 m (d8 0 3) g8 (H m 32) := (RY_fr w1891 gm f1919 rfl h1911)
        have h1980 : RB T H1914 m e8 d8 := (RB_fr w1891 gm f1919 rfl h1910)
        exact WL.loc hX (by simp) (next T H1914 ⟨⟨w1918, g0, gx, gm, go, by omega, by omega⟩, ⟨_, tc, tm, cu, dr, _, _, _, _, _, q1963, gtc, h1970, q1965, gtm, h1971, q1967, gcu, q1969, gdr, h1972, h1973, h1974, h1975, h1976, hC1, hC2, h1977, h1980, (h1978).1, (h1979).1, hE, hZ, (by omega), gm⟩, by omega, by omega⟩ (by omega) (by omega))
      · refine wl_of hX hb cL_576 (rw_iconst (pc' := 577) rfl ?_)
        exfalso
        omega
  · show WL _ _ _ _ 563 [(4, vI i), (3, .ref o), (2, .ref m), (1, .ref x), (0, .ref 0)] [vI z1893] _ H1887
    refine wl_of hX hb cL_563 (rw_aload_n (pc' := 564) (v := .ref m) rfl rfl rfl ?_)
    refine wl_of hX hb cL_564 (rw_aload_n (pc' := 565) (v := .ref 0) rfl rfl rfl ?_)
    refine wl_of hX hb cL_565 (rw_iload (pc' := 567) (z := i) rfl rfl ?_)
    refine wl_of hX hb cL_567 (rw_iconst (pc' := 568) rfl ?_)
    refine wl_of hX hb cL_568 (rw_iadd (pc' := 569) rfl ?_)
    have k1983 : H1887 0 ((i + 1).toNat) = H 0 ((i + 1).toNat) := (f1892 0 ((i + 1).toNat) _ g0 (wmem_s rfl))
    refine wl_of hX hb cL_569 (xa_I (so := 0) (pc' := 570) (a := 0) w1891 g0 (wsh_s _) (by omega) (wty_s _ _) (by omega) (by omega) rfl (fun b1981 b1982 => ?_))
    have k1984 : wKI H1887 m = wKI H m := (wKI_fr hW gm f1892 rfl)
    have k1985 : H1887 x 9 = H x 9 := (f1892 x 9 _ gx rfl)
    have k1986 : H1887 m 6 = H m 6 := (f1892 m 6 _ gm rfl)
    have k1987 : H1887 x 11 = H x 11 := (f1892 x 11 _ gx rfl)
    have k1988 : H1887 m 13 = H m 13 := (f1892 m 13 _ gm rfl)
    have k1989 : H1887 x 8 = H x 8 := (f1892 x 8 _ gx rfl)
    have k1990 : H1887 m 3 = H m 3 := (f1892 m 3 _ gm rfl)
    rw [show H1887 0 ((i + 1).toNat) = H 0 ((i + 1).toNat) by omega]
    have h1991 : RB T H1887 m e8 d8 := (RB_fr hW gm f1892 rfl hrb8)
    have h1992 : RY T H1887 m (d8 0 3) g8 (H m 32) := (RY_fr hW gm f1892 rfl h1884)
    refine wl_of hX hb cL_570 (xc_V (pc' := 573) (r := m) (as := [vI (H 0 ((i + 1).toNat))]) (st := [vI z1893]) (lm_11_63) rfl rfl (Nat.le_of_ble_eq_true rfl) w1891 gm sh_42 (by decide) rfl (by decide) (u_225 (e := e8) (d := d8) (nY := ((d8 0 3))) (gY := g8) (cY := ((H m 32))) w1891 gm ⟨by omega, by omega⟩ (by omega) h1991 h1992) (fun R1993 T1994 H1995 p1996 => ?_))
    obtain ⟨e1997, w1999, f2000, z2001, e1998, b2002, p2003⟩ := p1996
    subst e1997
    subst e1998
    rcases p2003 with ⟨a2004, a2005⟩ | ⟨a2006, a2007⟩
    · show WL _ _ _ _ 573 [(4, vI i), (3, .ref o), (2, .ref m), (1, .ref x), (0, .ref 0)] [vI z2001, vI z1893] _ H1995
      refine wl_of hX hb cL_573 (rw_icmp_eq (p1 := 1653) (p2 := 576) (by decide) rfl ⟨b1894.1, b1894.2⟩ ⟨b2002.1, b2002.2⟩ (fun c2008 => ?_) (fun c2008 => ?_))
      · have k2009 : wKI H1995 m = wKI H1887 m := (wKI_fr w1891 gm f2000 rfl)
        have k2010 : H1995 x 9 = H1887 x 9 := (f2000 x 9 _ gx rfl)
        have k2011 : H1995 m 6 = H1887 m 6 := (f2000 m 6 _ gm rfl)
        have k2012 : H1995 x 11 = H1887 x 11 := (f2000 x 11 _ gx rfl)
        have k2013 : H1995 m 13 = H1887 m 13 := (f2000 m 13 _ gm rfl)
        have k2014 : H1995 x 8 = H1887 x 8 := (f2000 x 8 _ gx rfl)
        have k2015 : H1995 m 3 = H1887 m 3 := (f2000 m 3 _ gm rfl)
        have k2016 : H1995 x 0 = H x 0 := ((f2000 x 0 _ gx rfl).trans (f1892 x 0 _ gx rfl))
        have q2017 : H1995 x 0 = (tc : Int) := k2016.trans e0
        have k2018 : H1995 m 5 = H m 5 := ((f2000 m 5 _ gm rfl).trans (f1892 m 5 _ gm rfl))
        have q2019 : H1995 m 5 = (tm : Int) := k2018.trans em
        have k2020 : H1995 x 6 = H x 6 := ((f2000 x 6 _ gx rfl).trans (f1892 x 6 _ gx rfl))
        have q2021 : H1995 x 6 = (cu : Int) := k2020.trans ecu
        have k2022 : H1995 x 7 = H x 7 := ((f2000 x 7 _ gx rfl).trans (f1892 x 7 _ gx rfl))
        have q2023 : H1995 x 7 = (dr : Int) := k2022.trans edr
        have h2024 : TP T H1995 tc B := (TP_fr w1891 gtc f2000 rfl (TP_fr hW gtc f1892 rfl htc))
        have h2025 : TM T H1995 tm B := (TM_fr w1891 gtm f2000 rfl (TM_fr hW gtm f1892 rfl htm))
        have h2026 : DD T H1995 cu  := (DD_fr w1891 gcu f2000 rfl (DD_fr hW gcu f1892 rfl hcu))
        have h2027 : DD T H1995 dr  := (DD_fr w1891 gdr f2000 rfl (DD_fr hW gdr f1892 rfl hdr))
        have h2028 : DE T H1995 cu  := (DE_fr w1891 gcu f2000 rfl (DE_fr hW gcu f1892 rfl hdec))
        have h2029 : DE T H1995 dr  := (DE_fr w1891 gdr f2000 rfl (DE_fr hW gdr f1892 rfl hded))
        have h2030 : SP T H1995 x C8 := (SP_fr w1891 gx f2000 rfl (SP_fr hW gx f1892 rfl hsp))
        have h2031 : CU T H1995 cu e8 d8 n8 := (CU_fr w1891 gcu f2000 rfl (CU_fr hW gcu f1892 rfl hcu8))
        have h2032 : CY T H1995 cu (d8 0 3) g8 (H cu 17) := (CY_fr w1891 gcu f2000 rfl (CY_fr hW gcu f1892 rfl h1883))
        have h2033 : RY T H1995 m (d8 0 3) g8 (H m 32) := (RY_fr w1891 gm f2000 rfl h1992)
        have h2034 : RB T H1995 m e8 d8 := (RB_fr w1891 gm f2000 rfl h1991)
        exact WL.loc hX (by simp) (next T H1995 ⟨⟨w1999, g0, gx, gm, go, by omega, by omega⟩, ⟨_, tc, tm, cu, dr, _, _, _, _, _, q2017, gtc, h2024, q2019, gtm, h2025, q2021, gcu, q2023, gdr, h2026, h2027, h2028, h2029, h2030, hC1, hC2, h2031, h2034, (h2032).1, (h2033).1, hE, hZ, (by omega), gm⟩, by omega, by omega⟩ (by omega) (by omega))
      · refine wl_of hX hb cL_576 (rw_iconst (pc' := 577) rfl ?_)
        exfalso
        omega
    · show WL _ _ _ _ 573 [(4, vI i), (3, .ref o), (2, .ref m), (1, .ref x), (0, .ref 0)] [vI z2001, vI z1893] _ H1995
      refine wl_of hX hb cL_573 (rw_icmp_eq (p1 := 1653) (p2 := 576) (by decide) rfl ⟨b1894.1, b1894.2⟩ ⟨b2002.1, b2002.2⟩ (fun c2035 => ?_) (fun c2035 => ?_))
      · have k2036 : wKI H1995 m = wKI H1887 m := (wKI_fr w1891 gm f2000 rfl)
        have k2037 : H1995 x 9 = H1887 x 9 := (f2000 x 9 _ gx rfl)
        have k2038 : H1995 m 6 = H1887 m 6 := (f2000 m 6 _ gm rfl)
        have k2039 : H1995 x 11 = H1887 x 11 := (f2000 x 11 _ gx rfl)
        have k2040 : H1995 m 13 = H1887 m 13 := (f2000 m 13 _ gm rfl)
        have k2041 : H1995 x 8 = H1887 x 8 := (f2000 x 8 _ gx rfl)
        have k2042 : H1995 m 3 = H1887 m 3 := (f2000 m 3 _ gm rfl)
        have k2043 : H1995 x 0 = H x 0 := ((f2000 x 0 _ gx rfl).trans (f1892 x 0 _ gx rfl))
        have q2044 : H1995 x 0 = (tc : Int) := k2043.trans e0
        have k2045 : H1995 m 5 = H m 5 := ((f2000 m 5 _ gm rfl).trans (f1892 m 5 _ gm rfl))
        have q2046 : H1995 m 5 = (tm : Int) := k2045.trans em
        have k2047 : H1995 x 6 = H x 6 := ((f2000 x 6 _ gx rfl).trans (f1892 x 6 _ gx rfl))
        have q2048 : H1995 x 6 = (cu : Int) := k2047.trans ecu
        have k2049 : H1995 x 7 = H x 7 := ((f2000 x 7 _ gx rfl).trans (f1892 x 7 _ gx rfl))
        have q2050 : H1995 x 7 = (dr : Int) := k2049.trans edr
        have h2051 : TP T H1995 tc B := (TP_fr w1891 gtc f2000 rfl (TP_fr hW gtc f1892 rfl htc))
        have h2052 : TM T H1995 tm B := (TM_fr w1891 gtm f2000 rfl (TM_fr hW gtm f1892 rfl htm))
        have h2053 : DD T H1995 cu  := (DD_fr w1891 gcu f2000 rfl (DD_fr hW gcu f1892 rfl hcu))
        have h2054 : DD T H1995 dr  := (DD_fr w1891 gdr f2000 rfl (DD_fr hW gdr f1892 rfl hdr))
        have h2055 : DE T H1995 cu  := (DE_fr w1891 gcu f2000 rfl (DE_fr hW gcu f1892 rfl hdec))
        have h2056 : DE T H1995 dr  := (DE_fr w1891 gdr f2000 rfl (DE_fr hW gdr f1892 rfl hded))
        have h2057 : SP T H1995 x C8 := (SP_fr w1891 gx f2000 rfl (SP_fr hW gx f1892 rfl hsp))
        have h2058 : CU T H1995 cu e8 d8 n8 := (CU_fr w1891 gcu f2000 rfl (CU_fr hW gcu f1892 rfl hcu8))
        have h2059 : CY T H1995 cu (d8 0 3) g8 (H cu 17) := (CY_fr w1891 gcu f2000 rfl (CY_fr hW gcu f1892 rfl h1883))
        have h2060 : RY T H1995 m (d8 0 3) g8 (H m 32) := (RY_fr w1891 gm f2000 rfl h1992)
        have h2061 : RB T H1995 m e8 d8 := (RB_fr w1891 gm f2000 rfl h1991)
        exact WL.loc hX (by simp) (next T H1995 ⟨⟨w1999, g0, gx, gm, go, by omega, by omega⟩, ⟨_, tc, tm, cu, dr, _, _, _, _, _, q2044, gtc, h2051, q2046, gtm, h2052, q2048, gcu, q2050, gdr, h2053, h2054, h2055, h2056, h2057, hC1, hC2, h2058, h2061, (h2059).1, (h2060).1, hE, hZ, (by omega), gm⟩, by omega, by omega⟩ (by omega) (by omega))
      · refine wl_of hX hb cL_576 (rw_iconst (pc' := 577) rfl ?_)
        exfalso
        omega
set_option maxHeartbeats 4000000 in
theorem wl_c10 {kt : Nat → Option mc_E} {CB SB : Nat} {X : mc_S → Prop} {T : wq_T} {H : wq_H} {Len x m o : Nat} {i : Int} (hX : wlX kt CB SB X) (hb : T.2.1 ≤ CB ∧ T.2.2.1 ≤ SB) (hI : wlJ Len x m o T H) (hL : Len ≤ 3072) (hi : 0 ≤ i ∧ i + 6 ≤ Len) (hb2 : T.2.1 + 20 ≤ CB ∧ T.2.2.1 + 500 ≤ SB)  (next : ∀ T' H', wlJ Len x m o T' H' → T'.2.1 ≤ T.2.1 + 20 → T'.2.2.1 ≤ T.2.2.1 + 500 → WL kt CB SB X 1653 (wlL i x m o) [] T' H') : WL kt CB SB X 578 (wlL i x m o) [] T H := by
  obtain ⟨⟨hW, g0, gx, gm, go, hK, hr⟩, hXI, hY1, hY2⟩ := hI
  refine wl_of hX hb cL_578 (rw_aload_n (pc' := 579) (v := .ref x) rfl rfl rfl ?_)
  refine wl_of hX hb cL_579 (rw_aload_n (pc' := 580) (v := .ref 0) rfl rfl rfl ?_)
  refine wl_of hX hb cL_580 (rw_iload (pc' := 582) (z := i) rfl rfl ?_)
  refine wl_of hX hb cL_582 (rw_iconst (pc' := 583) rfl ?_)
  refine wl_of hX hb cL_583 (rw_iadd (pc' := 584) rfl ?_)
  refine wl_of hX hb cL_584 (xa_I (so := 0) (pc' := 585) (a := 0) hW g0 (wsh_s _) (by omega) (wty_s _ _) (by omega) (by omega) rfl (fun b2062 b2063 => ?_))
  refine wl_of hX hb cL_585 (xc_V (pc' := 588) (r := x) (as := [vI (H 0 ((i + 1).toNat))]) (st := []) (lm_11_64) rfl rfl (Nat.le_of_ble_eq_true rfl) hW gx sh_1 (by decide) rfl (by decide) (s_66 hW gx ⟨by omega, by omega⟩) (fun R2064 T2065 H2066 p2067 => ?_))
  obtain ⟨e2068, w2070, f2071, z2072, e2069, b2073⟩ := p2067
  subst e2068
  subst e2069
  show WL _ _ _ _ 588 [(4, vI i), (3, .ref o), (2, .ref m), (1, .ref x), (0, .ref 0)] [vI z2072] _ H2066
  refine wl_of hX hb cL_588 (rw_pop (pc' := 589) rfl rfl ?_)
  refine wl_of hX hb cL_589 (rw_aload_n (pc' := 590) (v := .ref m) rfl rfl rfl ?_)
  refine wl_of hX hb cL_590 (rw_aload_n (pc' := 591) (v := .ref 0) rfl rfl rfl ?_)
  refine wl_of hX hb cL_591 (rw_iload (pc' := 593) (z := i) rfl rfl ?_)
  refine wl_of hX hb cL_593 (rw_iconst (pc' := 594) rfl ?_)
  refine wl_of hX hb cL_594 (rw_iadd (pc' := 595) rfl ?_)
  have k2076 : H2066 0 ((i + 1).toNat) = H 0 ((i + 1).toNat) := (f2071 0 ((i + 1).toNat) _ g0 (wmem_s rfl))
  refine wl_of hX hb cL_595 (xa_I (so := 0) (pc' := 596) (a := 0) w2070 g0 (wsh_s _) (by omega) (wty_s _ _) (by omega) (by omega) rfl (fun b2074 b2075 => ?_))
  have k2077 : wKI H2066 m = wKI H m := (wKI_fr hW gm f2071 rfl)
  have k2078 : H2066 x 9 = H x 9 := (f2071 x 9 _ gx rfl)
  have k2079 : H2066 m 6 = H m 6 := (f2071 m 6 _ gm rfl)
  have k2080 : H2066 x 11 = H x 11 := (f2071 x 11 _ gx rfl)
  have k2081 : H2066 m 13 = H m 13 := (f2071 m 13 _ gm rfl)
  have k2082 : H2066 x 8 = H x 8 := (f2071 x 8 _ gx rfl)
  have k2083 : H2066 m 3 = H m 3 := (f2071 m 3 _ gm rfl)
  refine wl_of hX hb cL_596 (xc_V (pc' := 599) (r := m) (as := [vI (H2066 0 ((i + 1).toNat))]) (st := []) (lm_11_67) rfl rfl (Nat.le_of_ble_eq_true rfl) w2070 gm sh_42 (by decide) rfl (by decide) (s_226 w2070 gm ⟨by omega, by omega⟩ (by omega)) (fun R2084 T2085 H2086 p2087 => ?_))
  obtain ⟨e2088, w2090, f2091, z2093, e2089, b2094, p2092⟩ := p2087
  subst e2088
  subst e2089
  show WL _ _ _ _ 599 [(4, vI i), (3, .ref o), (2, .ref m), (1, .ref x), (0, .ref 0)] [vI z2093] _ H2086
  refine wl_of hX hb cL_599 (rw_pop (pc' := 600) rfl rfl ?_)
  refine wl_of hX hb cL_600 (rw_goto (p1 := 1653) (by decide) ?_)
  have k2095 : H2086 x 9 = H2066 x 9 := (f2091 x 9 _ gx rfl)
  have k2096 : H2086 m 6 = H2066 m 6 := (f2091 m 6 _ gm rfl)
  have k2097 : H2086 x 11 = H2066 x 11 := (f2091 x 11 _ gx rfl)
  have k2098 : H2086 m 13 = H2066 m 13 := (f2091 m 13 _ gm rfl)
  have k2099 : H2086 x 8 = H2066 x 8 := (f2091 x 8 _ gx rfl)
  have k2100 : H2086 m 3 = H2066 m 3 := (f2091 m 3 _ gm rfl)
  have h2101 : XI T H2086 x m := (XI_fr w2070 gx f2091 rfl (XI_fr hW gx f2071 rfl hXI))
  exact WL.loc hX (by simp) (next T H2086 ⟨⟨w2090, g0, gx, gm, go, by omega, by omega⟩, h2101, by omega, by omega⟩ (by omega) (by omega))
set_option maxHeartbeats 4000000 in
theorem wl_c11 {kt : Nat → Option mc_E} {CB SB : Nat} {X : mc_S → Prop} {T : wq_T} {H : wq_H} {Len x m o : Nat} {i : Int} (hX : wlX kt CB SB X) (hb : T.2.1 ≤ CB ∧ T.2.2.1 ≤ SB) (hI : wlJ Len x m o T H) (hL : Len ≤ 3072) (hi : 0 ≤ i ∧ i + 6 ≤ Len) (hb2 : T.2.1 + 20 ≤ CB ∧ T.2.2.1 + 500 ≤ SB)  (next : ∀ T' H', wlJ Len x m o T' H' → T'.2.1 ≤ T.2.1 + 20 → T'.2.2.1 ≤ T.2.2.1 + 500 → WL kt CB SB X 1653 (wlL i x m o) [] T' H') : WL kt CB SB X 603 (wlL i x m o) [] T H := by
  obtain ⟨⟨hW, g0, gx, gm, go, hK, hr⟩, hXI, hY1, hY2⟩ := hI
  refine wl_of hX hb cL_603 (rw_aload_n (pc' := 604) (v := .ref x) rfl rfl rfl ?_)
  refine wl_of hX hb cL_604 (xc_V (pc' := 607) (r := x) (as := []) (st := []) (lm_11_68) rfl rfl (Nat.le_of_ble_eq_true rfl) hW gx sh_1 (by decide) rfl (by decide) (s_73 hW gx) (fun R2102 T2103 H2104 p2105 => ?_))
  obtain ⟨e2106, w2108, f2109, z2110, e2107, b2111⟩ := p2105
  subst e2106
  subst e2107
  show WL _ _ _ _ 607 [(4, vI i), (3, .ref o), (2, .ref m), (1, .ref x), (0, .ref 0)] [vI z2110] _ H2104
  refine wl_of hX hb cL_607 (rw_pop (pc' := 608) rfl rfl ?_)
  refine wl_of hX hb cL_608 (rw_aload_n (pc' := 609) (v := .ref m) rfl rfl rfl ?_)
  have k2112 : wKI H2104 m = wKI H m := (wKI_fr hW gm f2109 rfl)
  have k2113 : H2104 x 9 = H x 9 := (f2109 x 9 _ gx rfl)
  have k2114 : H2104 m 6 = H m 6 := (f2109 m 6 _ gm rfl)
  have k2115 : H2104 x 11 = H x 11 := (f2109 x 11 _ gx rfl)
  have k2116 : H2104 m 13 = H m 13 := (f2109 m 13 _ gm rfl)
  have k2117 : H2104 x 8 = H x 8 := (f2109 x 8 _ gx rfl)
  have k2118 : H2104 m 3 = H m 3 := (f2109 m 3 _ gm rfl)
  refine wl_of hX hb cL_609 (xc_V (pc' := 612) (r := m) (as := []) (st := []) (lm_11_71) rfl rfl (Nat.le_of_ble_eq_true rfl) w2108 gm sh_42 (by decide) rfl (by decide) (s_230 w2108 gm (by omega)) (fun R2119 T2120 H2121 p2122 => ?_))
  obtain ⟨e2123, w2125, f2126, z2128, e2124, b2129, p2127⟩ := p2122
  subst e2123
  subst e2124
  show WL _ _ _ _ 612 [(4, vI i), (3, .ref o), (2, .ref m), (1, .ref x), (0, .ref 0)] [vI z2128] _ H2121
  refine wl_of hX hb cL_612 (rw_pop (pc' := 613) rfl rfl ?_)
  refine wl_of hX hb cL_613 (rw_goto (p1 := 1653) (by decide) ?_)
  have k2130 : H2121 x 9 = H2104 x 9 := (f2126 x 9 _ gx rfl)
  have k2131 : H2121 m 6 = H2104 m 6 := (f2126 m 6 _ gm rfl)
  have k2132 : H2121 x 11 = H2104 x 11 := (f2126 x 11 _ gx rfl)
  have k2133 : H2121 m 13 = H2104 m 13 := (f2126 m 13 _ gm rfl)
  have k2134 : H2121 x 8 = H2104 x 8 := (f2126 x 8 _ gx rfl)
  have k2135 : H2121 m 3 = H2104 m 3 := (f2126 m 3 _ gm rfl)
  have h2136 : XI T H2121 x m := (XI_fr w2108 gx f2126 rfl (XI_fr hW gx f2109 rfl hXI))
  exact WL.loc hX (by simp) (next T H2121 ⟨⟨w2125, g0, gx, gm, go, by omega, by omega⟩, h2136, by omega, by omega⟩ (by omega) (by omega))
set_option maxHeartbeats 4000000 in
theorem wl_c12 {kt : Nat → Option mc_E} {CB SB : Nat} {X : mc_S → Prop} {T : wq_T} {H : wq_H} {Len x m o : Nat} {i : Int} (hX : wlX kt CB SB X) (hb : T.2.1 ≤ CB ∧ T.2.2.1 ≤ SB) (hI : wlJ Len x m o T H) (hL : Len ≤ 3072) (hi : 0 ≤ i ∧ i + 6 ≤ Len) (hb2 : T.2.1 + 20 ≤ CB ∧ T.2.2.1 + 500 ≤ SB)  (next : ∀ T' H', wlJ Len x m o T' H' → T'.2.1 ≤ T.2.1 + 20 → T'.2.2.1 ≤ T.2.2.1 + 500 → WL kt CB SB X 1653 (wlL i x m o) [] T' H') : WL kt CB SB X 616 (wlL i x m o) [] T H := by
  obtain ⟨⟨hW, g0, gx, gm, go, hK, hr⟩, hXI, hY1, hY2⟩ := hI
  refine wl_of hX hb cL_616 (rw_aload_n (pc' := 617) (v := .ref x) rfl rfl rfl ?_)
  refine wl_of hX hb cL_617 (xc_V (pc' := 620) (r := x) (as := []) (st := []) (lm_11_72) rfl rfl (Nat.le_of_ble_eq_true rfl) hW gx sh_1 (by decide) rfl (by decide) (s_77 hW gx) (fun R2137 T2138 H2139 p2140 => ?_))
  obtain ⟨e2141, w2143, f2144, z2145, e2142, b2146⟩ := p2140
  subst e2141
  subst e2142
  show WL _ _ _ _ 620 [(4, vI i), (3, .ref o), (2, .ref m), (1, .ref x), (0, .ref 0)] [vI z2145] _ H2139
  refine wl_of hX hb cL_620 (rw_pop (pc' := 621) rfl rfl ?_)
  refine wl_of hX hb cL_621 (rw_aload_n (pc' := 622) (v := .ref m) rfl rfl rfl ?_)
  have k2147 : wKI H2139 m = wKI H m := (wKI_fr hW gm f2144 rfl)
  have k2148 : H2139 x 9 = H x 9 := (f2144 x 9 _ gx rfl)
  have k2149 : H2139 m 6 = H m 6 := (f2144 m 6 _ gm rfl)
  have k2150 : H2139 x 11 = H x 11 := (f2144 x 11 _ gx rfl)
  have k2151 : H2139 m 13 = H m 13 := (f2144 m 13 _ gm rfl)
  have k2152 : H2139 x 8 = H x 8 := (f2144 x 8 _ gx rfl)
  have k2153 : H2139 m 3 = H m 3 := (f2144 m 3 _ gm rfl)
  refine wl_of hX hb cL_622 (xc_V (pc' := 625) (r := m) (as := []) (st := []) (lm_11_75) rfl rfl (Nat.le_of_ble_eq_true rfl) w2143 gm sh_42 (by decide) rfl (by decide) (s_236 w2143 gm (by omega)) (fun R2154 T2155 H2156 p2157 => ?_))
  obtain ⟨e2158, w2160, f2161, z2163, e2159, b2164, p2162⟩ := p2157
  subst e2158
  subst e2159
  show WL _ _ _ _ 625 [(4, vI i), (3, .ref o), (2, .ref m), (1, .ref x), (0, .ref 0)] [vI z2163] _ H2156
  refine wl_of hX hb cL_625 (rw_pop (pc' := 626) rfl rfl ?_)
  refine wl_of hX hb cL_626 (rw_goto (p1 := 1653) (by decide) ?_)
  have k2165 : H2156 x 9 = H2139 x 9 := (f2161 x 9 _ gx rfl)
  have k2166 : H2156 m 6 = H2139 m 6 := (f2161 m 6 _ gm rfl)
  have k2167 : H2156 x 11 = H2139 x 11 := (f2161 x 11 _ gx rfl)
  have k2168 : H2156 m 13 = H2139 m 13 := (f2161 m 13 _ gm rfl)
  have k2169 : H2156 x 8 = H2139 x 8 := (f2161 x 8 _ gx rfl)
  have k2170 : H2156 m 3 = H2139 m 3 := (f2161 m 3 _ gm rfl)
  have h2171 : XI T H2156 x m := (XI_fr w2143 gx f2161 rfl (XI_fr hW gx f2144 rfl hXI))
  exact WL.loc hX (by simp) (next T H2156 ⟨⟨w2160, g0, gx, gm, go, by omega, by omega⟩, h2171, by omega, by omega⟩ (by omega) (by omega))
set_option maxHeartbeats 4000000 in
theorem wl_c13 {kt : Nat → Option mc_E} {CB SB : Nat} {X : mc_S → Prop} {T : wq_T} {H : wq_H} {Len x m o : Nat} {i : Int} (hX : wlX kt CB SB X) (hb : T.2.1 ≤ CB ∧ T.2.2.1 ≤ SB) (hI : wlJ Len x m o T H) (hL : Len ≤ 3072) (hi : 0 ≤ i ∧ i + 6 ≤ Len) (hb2 : T.2.1 + 20 ≤ CB ∧ T.2.2.1 + 500 ≤ SB)  (next : ∀ T' H', wlJ Len x m o T' H' → T'.2.1 ≤ T.2.1 + 20 → T'.2.2.1 ≤ T.2.2.1 + 500 → WL kt CB SB X 1653 (wlL i x m o) [] T' H') : WL kt CB SB X 629 (wlL i x m o) [] T H := by
  obtain ⟨⟨hW, g0, gx, gm, go, hK, hr⟩, hXI, hY1, hY2⟩ := hI
  refine wl_of hX hb cL_629 (rw_aload_n (pc' := 630) (v := .ref x) rfl rfl rfl ?_)
  refine wl_of hX hb cL_630 (xc_V (pc' := 633) (r := x) (as := []) (st := []) (lm_11_76) rfl rfl (Nat.le_of_ble_eq_true rfl) hW gx sh_1 (by decide) rfl (by decide) (s_78 hW gx) (fun R2172 T2173 H2174 p2175 => ?_))
  obtain ⟨e2176, w2178, f2179, z2180, e2177, b2181⟩ := p2175
  subst e2176
  subst e2177
  show WL _ _ _ _ 633 [(4, vI i), (3, .ref o), (2, .ref m), (1, .ref x), (0, .ref 0)] [vI z2180] _ H2174
  refine wl_of hX hb cL_633 (rw_pop (pc' := 634) rfl rfl ?_)
  refine wl_of hX hb cL_634 (rw_aload_n (pc' := 635) (v := .ref m) rfl rfl rfl ?_)
  have k2182 : wKI H2174 m = wKI H m := (wKI_fr hW gm f2179 rfl)
  have k2183 : H2174 x 9 = H x 9 := (f2179 x 9 _ gx rfl)
  have k2184 : H2174 m 6 = H m 6 := (f2179 m 6 _ gm rfl)
  have k2185 : H2174 x 11 = H x 11 := (f2179 x 11 _ gx rfl)
  have k2186 : H2174 m 13 = H m 13 := (f2179 m 13 _ gm rfl)
  have k2187 : H2174 x 8 = H x 8 := (f2179 x 8 _ gx rfl)
  have k2188 : H2174 m 3 = H m 3 := (f2179 m 3 _ gm rfl)
  refine wl_of hX hb cL_635 (xc_V (pc' := 638) (r := m) (as := []) (st := []) (lm_11_79) rfl rfl (Nat.le_of_ble_eq_true rfl) w2178 gm sh_42 (by decide) rfl (by decide) (s_237 w2178 gm (by omega)) (fun R2189 T2190 H2191 p2192 => ?_))
  obtain ⟨e2193, w2195, f2196, z2198, e2194, b2199, p2197⟩ := p2192
  subst e2193
  subst e2194
  show WL _ _ _ _ 638 [(4, vI i), (3, .ref o), (2, .ref m), (1, .ref x), (0, .ref 0)] [vI z2198] _ H2191
  refine wl_of hX hb cL_638 (rw_pop (pc' := 639) rfl rfl ?_)
  refine wl_of hX hb cL_639 (rw_goto (p1 := 1653) (by decide) ?_)
  have k2200 : H2191 x 9 = H2174 x 9 := (f2196 x 9 _ gx rfl)
  have k2201 : H2191 m 6 = H2174 m 6 := (f2196 m 6 _ gm rfl)
  have k2202 : H2191 x 11 = H2174 x 11 := (f2196 x 11 _ gx rfl)
  have k2203 : H2191 m 13 = H2174 m 13 := (f2196 m 13 _ gm rfl)
  have k2204 : H2191 x 8 = H2174 x 8 := (f2196 x 8 _ gx rfl)
  have k2205 : H2191 m 3 = H2174 m 3 := (f2196 m 3 _ gm rfl)
  have h2206 : XI T H2191 x m := (XI_fr w2178 gx f2196 rfl (XI_fr hW gx f2179 rfl hXI))
  exact WL.loc hX (by simp) (next T H2191 ⟨⟨w2195, g0, gx, gm, go, by omega, by omega⟩, h2206, by omega, by omega⟩ (by omega) (by omega))
set_option maxHeartbeats 4000000 in
theorem wl_c14 {kt : Nat → Option mc_E} {CB SB : Nat} {X : mc_S → Prop} {T : wq_T} {H : wq_H} {Len x m o : Nat} {i : Int} (hX : wlX kt CB SB X) (hb : T.2.1 ≤ CB ∧ T.2.2.1 ≤ SB) (hI : wlJ Len x m o T H) (hL : Len ≤ 3072) (hi : 0 ≤ i ∧ i + 6 ≤ Len) (hb2 : T.2.1 + 20 ≤ CB ∧ T.2.2.1 + 500 ≤ SB)  (next : ∀ T' H', wlJ Len x m o T' H' → T'.2.1 ≤ T.2.1 + 20 → T'.2.2.1 ≤ T.2.2.1 + 500 → WL kt CB SB X 1653 (wlL i x m o) [] T' H') : WL kt CB SB X 642 (wlL i x m o) [] T H := by
  obtain ⟨⟨hW, g0, gx, gm, go, hK, hr⟩, hXI, hY1, hY2⟩ := hI
  refine wl_of hX hb cL_642 (rw_aload_n (pc' := 643) (v := .ref x) rfl rfl rfl ?_)
  refine wl_of hX hb cL_643 (xc_V (pc' := 646) (r := x) (as := []) (st := []) (lm_11_80) rfl rfl (Nat.le_of_ble_eq_true rfl) hW gx sh_1 (by decide) rfl (by decide) (s_82 hW gx) (fun R2207 T2208 H2209 p2210 => ?_))
  obtain ⟨e2211, w2213, f2214, z2215, e2212, b2216⟩ := p2210
  subst e2211
  subst e2212
  show WL _ _ _ _ 646 [(4, vI i), (3, .ref o), (2, .ref m), (1, .ref x), (0, .ref 0)] [vI z2215] _ H2209
  refine wl_of hX hb cL_646 (rw_pop (pc' := 647) rfl rfl ?_)
  refine wl_of hX hb cL_647 (rw_aload_n (pc' := 648) (v := .ref m) rfl rfl rfl ?_)
  have k2217 : wKI H2209 m = wKI H m := (wKI_fr hW gm f2214 rfl)
  have k2218 : H2209 x 9 = H x 9 := (f2214 x 9 _ gx rfl)
  have k2219 : H2209 m 6 = H m 6 := (f2214 m 6 _ gm rfl)
  have k2220 : H2209 x 11 = H x 11 := (f2214 x 11 _ gx rfl)
  have k2221 : H2209 m 13 = H m 13 := (f2214 m 13 _ gm rfl)
  have k2222 : H2209 x 8 = H x 8 := (f2214 x 8 _ gx rfl)
  have k2223 : H2209 m 3 = H m 3 := (f2214 m 3 _ gm rfl)
  refine wl_of hX hb cL_648 (xc_V (pc' := 651) (r := m) (as := []) (st := []) (lm_11_83) rfl rfl (Nat.le_of_ble_eq_true rfl) w2213 gm sh_42 (by decide) rfl (by decide) (s_240 w2213 gm (by omega)) (fun R2224 T2225 H2226 p2227 => ?_))
  obtain ⟨e2228, w2230, f2231, z2233, e2229, b2234, p2232⟩ := p2227
  subst e2228
  subst e2229
  show WL _ _ _ _ 651 [(4, vI i), (3, .ref o), (2, .ref m), (1, .ref x), (0, .ref 0)] [vI z2233] _ H2226
  refine wl_of hX hb cL_651 (rw_pop (pc' := 652) rfl rfl ?_)
  refine wl_of hX hb cL_652 (rw_goto (p1 := 1653) (by decide) ?_)
  have k2235 : H2226 x 9 = H2209 x 9 := (f2231 x 9 _ gx rfl)
  have k2236 : H2226 m 6 = H2209 m 6 := (f2231 m 6 _ gm rfl)
  have k2237 : H2226 x 11 = H2209 x 11 := (f2231 x 11 _ gx rfl)
  have k2238 : H2226 m 13 = H2209 m 13 := (f2231 m 13 _ gm rfl)
  have k2239 : H2226 x 8 = H2209 x 8 := (f2231 x 8 _ gx rfl)
  have k2240 : H2226 m 3 = H2209 m 3 := (f2231 m 3 _ gm rfl)
  have h2241 : XI T H2226 x m := (XI_fr w2213 gx f2231 rfl (XI_fr hW gx f2214 rfl hXI))
  exact WL.loc hX (by simp) (next T H2226 ⟨⟨w2230, g0, gx, gm, go, by omega, by omega⟩, h2241, by omega, by omega⟩ (by omega) (by omega))
set_option maxHeartbeats 4000000 in
theorem wl_c15 {kt : Nat → Option mc_E} {CB SB : Nat} {X : mc_S → Prop} {T : wq_T} {H : wq_H} {Len x m o : Nat} {i : Int} (hX : wlX kt CB SB X) (hb : T.2.1 ≤ CB ∧ T.2.2.1 ≤ SB) (hI : wlJ Len x m o T H) (hL : Len ≤ 3072) (hi : 0 ≤ i ∧ i + 6 ≤ Len) (hb2 : T.2.1 + 20 ≤ CB ∧ T.2.2.1 + 500 ≤ SB)  (next : ∀ T' H', wlJ Len x m o T' H' → T'.2.1 ≤ T.2.1 + 20 → T'.2.2.1 ≤ T.2.2.1 + 500 → WL kt CB SB X 1653 (wlL i x m o) [] T' H') : WL kt CB SB X 655 (wlL i x m o) [] T H := by
  obtain ⟨⟨hW, g0, gx, gm, go, hK, hr⟩, hXI, hY1, hY2⟩ := hI
  refine wl_of hX hb cL_655 (rw_aload_n (pc' := 656) (v := .ref x) rfl rfl rfl ?_)
  refine wl_of hX hb cL_656 (xc_V (pc' := 659) (r := x) (as := []) (st := []) (lm_11_84) rfl rfl (Nat.le_of_ble_eq_true rfl) hW gx sh_1 (by decide) rfl (by decide) (s_92 hW gx) (fun R2242 T2243 H2244 p2245 => ?_))
  obtain ⟨e2246, w2248, f2249, z2250, e2247, b2251⟩ := p2245
  subst e2246
  subst e2247
  show WL _ _ _ _ 659 [(4, vI i), (3, .ref o), (2, .ref m), (1, .ref x), (0, .ref 0)] [vI z2250] _ H2244
  refine wl_of hX hb cL_659 (rw_pop (pc' := 660) rfl rfl ?_)
  refine wl_of hX hb cL_660 (rw_aload_n (pc' := 661) (v := .ref m) rfl rfl rfl ?_)
  have k2252 : wKI H2244 m = wKI H m := (wKI_fr hW gm f2249 rfl)
  have k2253 : H2244 x 9 = H x 9 := (f2249 x 9 _ gx rfl)
  have k2254 : H2244 m 6 = H m 6 := (f2249 m 6 _ gm rfl)
  have k2255 : H2244 x 11 = H x 11 := (f2249 x 11 _ gx rfl)
  have k2256 : H2244 m 13 = H m 13 := (f2249 m 13 _ gm rfl)
  have k2257 : H2244 x 8 = H x 8 := (f2249 x 8 _ gx rfl)
  have k2258 : H2244 m 3 = H m 3 := (f2249 m 3 _ gm rfl)
  refine wl_of hX hb cL_661 (xc_V (pc' := 664) (r := m) (as := []) (st := []) (lm_11_87) rfl rfl (Nat.le_of_ble_eq_true rfl) w2248 gm sh_42 (by decide) rfl (by decide) (s_244 w2248 gm (by omega)) (fun R2259 T2260 H2261 p2262 => ?_))
  obtain ⟨e2263, w2265, f2266, z2268, e2264, b2269, p2267⟩ := p2262
  subst e2263
  subst e2264
  show WL _ _ _ _ 664 [(4, vI i), (3, .ref o), (2, .ref m), (1, .ref x), (0, .ref 0)] [vI z2268] _ H2261
  refine wl_of hX hb cL_664 (rw_pop (pc' := 665) rfl rfl ?_)
  refine wl_of hX hb cL_665 (rw_goto (p1 := 1653) (by decide) ?_)
  have k2270 : H2261 x 9 = H2244 x 9 := (f2266 x 9 _ gx rfl)
  have k2271 : H2261 m 6 = H2244 m 6 := (f2266 m 6 _ gm rfl)
  have k2272 : H2261 x 11 = H2244 x 11 := (f2266 x 11 _ gx rfl)
  have k2273 : H2261 m 13 = H2244 m 13 := (f2266 m 13 _ gm rfl)
  have k2274 : H2261 x 8 = H2244 x 8 := (f2266 x 8 _ gx rfl)
  have k2275 : H2261 m 3 = H2244 m 3 := (f2266 m 3 _ gm rfl)
  have h2276 : XI T H2261 x m := (XI_fr w2248 gx f2266 rfl (XI_fr hW gx f2249 rfl hXI))
  exact WL.loc hX (by simp) (next T H2261 ⟨⟨w2265, g0, gx, gm, go, by omega, by omega⟩, h2276, by omega, by omega⟩ (by omega) (by omega))
set_option maxHeartbeats 4000000 in
theorem wl_c16 {kt : Nat → Option mc_E} {CB SB : Nat} {X : mc_S → Prop} {T : wq_T} {H : wq_H} {Len x m o : Nat} {i : Int} (hX : wlX kt CB SB X) (hb : T.2.1 ≤ CB ∧ T.2.2.1 ≤ SB) (hI : wlJ Len x m o T H) (hL : Len ≤ 3072) (hi : 0 ≤ i ∧ i + 6 ≤ Len) (hb2 : T.2.1 + 20 ≤ CB ∧ T.2.2.1 + 500 ≤ SB)  (next : ∀ T' H', wlJ Len x m o T' H' → T'.2.1 ≤ T.2.1 + 20 → T'.2.2.1 ≤ T.2.2.1 + 500 → WL kt CB SB X 1653 (wlL i x m o) [] T' H') : WL kt CB SB X 668 (wlL i x m o) [] T H := by
  obtain ⟨⟨hW, g0, gx, gm, go, hK, hr⟩, hXI, hY1, hY2⟩ := hI
  refine wl_of hX hb cL_668 (rw_aload_n (pc' := 669) (v := .ref x) rfl rfl rfl ?_)
  refine wl_of hX hb cL_669 (rw_aload_n (pc' := 670) (v := .ref 0) rfl rfl rfl ?_)
  refine wl_of hX hb cL_670 (rw_iload (pc' := 672) (z := i) rfl rfl ?_)
  refine wl_of hX hb cL_672 (rw_iconst (pc' := 673) rfl ?_)
  refine wl_of hX hb cL_673 (rw_iadd (pc' := 674) rfl ?_)
  refine wl_of hX hb cL_674 (xa_I (so := 0) (pc' := 675) (a := 0) hW g0 (wsh_s _) (by omega) (wty_s _ _) (by omega) (by omega) rfl (fun b2277 b2278 => ?_))
  refine wl_of hX hb cL_675 (rw_aload_n (pc' := 676) (v := .ref 0) rfl rfl rfl ?_)
  refine wl_of hX hb cL_676 (rw_iload (pc' := 678) (z := i) rfl rfl ?_)
  refine wl_of hX hb cL_678 (rw_iconst (pc' := 679) rfl ?_)
  refine wl_of hX hb cL_679 (rw_iadd (pc' := 680) rfl ?_)
  refine wl_of hX hb cL_680 (xa_I (so := 0) (pc' := 681) (a := 0) hW g0 (wsh_s _) (by omega) (wty_s _ _) (by omega) (by omega) rfl (fun b2279 b2280 => ?_))
  refine wl_of hX hb cL_681 (xc_V (pc' := 684) (r := x) (as := [vI (H 0 ((i + 1).toNat)), vI (H 0 ((i + 2).toNat))]) (st := []) (lm_11_88) rfl rfl (Nat.le_of_ble_eq_true rfl) hW gx sh_1 (by decide) rfl (by decide) (s_93 hW gx ⟨by omega, by omega⟩ ⟨by omega, by omega⟩) (fun R2281 T2282 H2283 p2284 => ?_))
  obtain ⟨e2285, w2287, f2288, z2289, e2286, b2290⟩ := p2284
  subst e2285
  subst e2286
  show WL _ _ _ _ 684 [(4, vI i), (3, .ref o), (2, .ref m), (1, .ref x), (0, .ref 0)] [vI z2289] _ H2283
  refine wl_of hX hb cL_684 (rw_pop (pc' := 685) rfl rfl ?_)
  refine wl_of hX hb cL_685 (rw_aload_n (pc' := 686) (v := .ref m) rfl rfl rfl ?_)
  refine wl_of hX hb cL_686 (rw_aload_n (pc' := 687) (v := .ref 0) rfl rfl rfl ?_)
  refine wl_of hX hb cL_687 (rw_iload (pc' := 689) (z := i) rfl rfl ?_)
  refine wl_of hX hb cL_689 (rw_iconst (pc' := 690) rfl ?_)
  refine wl_of hX hb cL_690 (rw_iadd (pc' := 691) rfl ?_)
  have k2293 : H2283 0 ((i + 1).toNat) = H 0 ((i + 1).toNat) := (f2288 0 ((i + 1).toNat) _ g0 (wmem_s rfl))
  refine wl_of hX hb cL_691 (xa_I (so := 0) (pc' := 692) (a := 0) w2287 g0 (wsh_s _) (by omega) (wty_s _ _) (by omega) (by omega) rfl (fun b2291 b2292 => ?_))
  refine wl_of hX hb cL_692 (rw_aload_n (pc' := 693) (v := .ref 0) rfl rfl rfl ?_)
  refine wl_of hX hb cL_693 (rw_iload (pc' := 695) (z := i) rfl rfl ?_)
  refine wl_of hX hb cL_695 (rw_iconst (pc' := 696) rfl ?_)
  refine wl_of hX hb cL_696 (rw_iadd (pc' := 697) rfl ?_)
  have k2296 : H2283 0 ((i + 2).toNat) = H 0 ((i + 2).toNat) := (f2288 0 ((i + 2).toNat) _ g0 (wmem_s rfl))
  refine wl_of hX hb cL_697 (xa_I (so := 0) (pc' := 698) (a := 0) w2287 g0 (wsh_s _) (by omega) (wty_s _ _) (by omega) (by omega) rfl (fun b2294 b2295 => ?_))
  have k2297 : wKI H2283 m = wKI H m := (wKI_fr hW gm f2288 rfl)
  have k2298 : H2283 x 9 = H x 9 := (f2288 x 9 _ gx rfl)
  have k2299 : H2283 m 6 = H m 6 := (f2288 m 6 _ gm rfl)
  have k2300 : H2283 x 11 = H x 11 := (f2288 x 11 _ gx rfl)
  have k2301 : H2283 m 13 = H m 13 := (f2288 m 13 _ gm rfl)
  have k2302 : H2283 x 8 = H x 8 := (f2288 x 8 _ gx rfl)
  have k2303 : H2283 m 3 = H m 3 := (f2288 m 3 _ gm rfl)
  refine wl_of hX hb cL_698 (xc_V (pc' := 701) (r := m) (as := [vI (H2283 0 ((i + 1).toNat)), vI (H2283 0 ((i + 2).toNat))]) (st := []) (lm_11_92) rfl rfl (Nat.le_of_ble_eq_true rfl) w2287 gm sh_42 (by decide) rfl (by decide) (s_245 w2287 gm ⟨by omega, by omega⟩ ⟨by omega, by omega⟩ (by omega)) (fun R2304 T2305 H2306 p2307 => ?_))
  obtain ⟨e2308, w2310, f2311, z2313, e2309, b2314, p2312⟩ := p2307
  subst e2308
  subst e2309
  show WL _ _ _ _ 701 [(4, vI i), (3, .ref o), (2, .ref m), (1, .ref x), (0, .ref 0)] [vI z2313] _ H2306
  refine wl_of hX hb cL_701 (rw_pop (pc' := 702) rfl rfl ?_)
  refine wl_of hX hb cL_702 (rw_goto (p1 := 1653) (by decide) ?_)
  have k2315 : H2306 x 9 = H2283 x 9 := (f2311 x 9 _ gx rfl)
  have k2316 : H2306 m 6 = H2283 m 6 := (f2311 m 6 _ gm rfl)
  have k2317 : H2306 x 11 = H2283 x 11 := (f2311 x 11 _ gx rfl)
  have k2318 : H2306 m 13 = H2283 m 13 := (f2311 m 13 _ gm rfl)
  have k2319 : H2306 x 8 = H2283 x 8 := (f2311 x 8 _ gx rfl)
  have k2320 : H2306 m 3 = H2283 m 3 := (f2311 m 3 _ gm rfl)
  have h2321 : XI T H2306 x m := (XI_fr w2287 gx f2311 rfl (XI_fr hW gx f2288 rfl hXI))
  exact WL.loc hX (by simp) (next T H2306 ⟨⟨w2310, g0, gx, gm, go, by omega, by omega⟩, h2321, by omega, by omega⟩ (by omega) (by omega))
set_option maxHeartbeats 4000000 in
theorem wl_c17 {kt : Nat → Option mc_E} {CB SB : Nat} {X : mc_S → Prop} {T : wq_T} {H : wq_H} {Len x m o : Nat} {i : Int} (hX : wlX kt CB SB X) (hb : T.2.1 ≤ CB ∧ T.2.2.1 ≤ SB) (hI : wlJ Len x m o T H) (hL : Len ≤ 3072) (hi : 0 ≤ i ∧ i + 6 ≤ Len) (hb2 : T.2.1 + 20 ≤ CB ∧ T.2.2.1 + 500 ≤ SB)  (next : ∀ T' H', wlJ Len x m o T' H' → T'.2.1 ≤ T.2.1 + 20 → T'.2.2.1 ≤ T.2.2.1 + 500 → WL kt CB SB X 1653 (wlL i x m o) [] T' H') : WL kt CB SB X 705 (wlL i x m o) [] T H := by
  obtain ⟨⟨hW, g0, gx, gm, go, hK, hr⟩, hXI, hY1, hY2⟩ := hI
  refine wl_of hX hb cL_705 (rw_aload_n (pc' := 706) (v := .ref x) rfl rfl rfl ?_)
  refine wl_of hX hb cL_706 (xc_V (pc' := 709) (r := x) (as := []) (st := []) (lm_11_93) rfl rfl (Nat.le_of_ble_eq_true rfl) hW gx sh_1 (by decide) rfl (by decide) (s_97 hW gx) (fun R2322 T2323 H2324 p2325 => ?_))
  obtain ⟨e2326, w2328, f2329, z2330, e2327, b2331⟩ := p2325
  subst e2326
  subst e2327
  show WL _ _ _ _ 709 [(4, vI i), (3, .ref o), (2, .ref m), (1, .ref x), (0, .ref 0)] [vL z2330] _ H2324
  refine wl_of hX hb cL_709 (rw_pop2 (pc' := 710) rfl rfl ?_)
  refine wl_of hX hb cL_710 (rw_aload_n (pc' := 711) (v := .ref m) rfl rfl rfl ?_)
  have k2332 : wKI H2324 m = wKI H m := (wKI_fr hW gm f2329 rfl)
  have k2333 : H2324 x 9 = H x 9 := (f2329 x 9 _ gx rfl)
  have k2334 : H2324 m 6 = H m 6 := (f2329 m 6 _ gm rfl)
  have k2335 : H2324 x 11 = H x 11 := (f2329 x 11 _ gx rfl)
  have k2336 : H2324 m 13 = H m 13 := (f2329 m 13 _ gm rfl)
  have k2337 : H2324 x 8 = H x 8 := (f2329 x 8 _ gx rfl)
  have k2338 : H2324 m 3 = H m 3 := (f2329 m 3 _ gm rfl)
  refine wl_of hX hb cL_711 (xc_V (pc' := 714) (r := m) (as := []) (st := []) (lm_11_96) rfl rfl (Nat.le_of_ble_eq_true rfl) w2328 gm sh_42 (by decide) rfl (by decide) (s_246 w2328 gm (by omega)) (fun R2339 T2340 H2341 p2342 => ?_))
  obtain ⟨e2343, w2345, f2346, z2348, e2344, b2349, p2347⟩ := p2342
  subst e2343
  subst e2344
  show WL _ _ _ _ 714 [(4, vI i), (3, .ref o), (2, .ref m), (1, .ref x), (0, .ref 0)] [vL z2348] _ H2341
  refine wl_of hX hb cL_714 (rw_pop2 (pc' := 715) rfl rfl ?_)
  refine wl_of hX hb cL_715 (rw_goto (p1 := 1653) (by decide) ?_)
  have k2350 : H2341 x 9 = H2324 x 9 := (f2346 x 9 _ gx rfl)
  have k2351 : H2341 m 6 = H2324 m 6 := (f2346 m 6 _ gm rfl)
  have k2352 : H2341 x 11 = H2324 x 11 := (f2346 x 11 _ gx rfl)
  have k2353 : H2341 m 13 = H2324 m 13 := (f2346 m 13 _ gm rfl)
  have k2354 : H2341 x 8 = H2324 x 8 := (f2346 x 8 _ gx rfl)
  have k2355 : H2341 m 3 = H2324 m 3 := (f2346 m 3 _ gm rfl)
  have h2356 : XI T H2341 x m := (XI_fr w2328 gx f2346 rfl (XI_fr hW gx f2329 rfl hXI))
  exact WL.loc hX (by simp) (next T H2341 ⟨⟨w2345, g0, gx, gm, go, by omega, by omega⟩, h2356, by omega, by omega⟩ (by omega) (by omega))
set_option maxHeartbeats 4000000 in
theorem wl_c18 {kt : Nat → Option mc_E} {CB SB : Nat} {X : mc_S → Prop} {T : wq_T} {H : wq_H} {Len x m o : Nat} {i : Int} (hX : wlX kt CB SB X) (hb : T.2.1 ≤ CB ∧ T.2.2.1 ≤ SB) (hI : wlJ Len x m o T H) (hL : Len ≤ 3072) (hi : 0 ≤ i ∧ i + 6 ≤ Len) (hb2 : T.2.1 + 20 ≤ CB ∧ T.2.2.1 + 500 ≤ SB)  (next : ∀ T' H', wlJ Len x m o T' H' → T'.2.1 ≤ T.2.1 + 20 → T'.2.2.1 ≤ T.2.2.1 + 500 → WL kt CB SB X 1653 (wlL i x m o) [] T' H') : WL kt CB SB X 718 (wlL i x m o) [] T H := by
  obtain ⟨⟨hW, g0, gx, gm, go, hK, hr⟩, hXI, hY1, hY2⟩ := hI
  refine wl_of hX hb cL_718 (rw_aload_n (pc' := 719) (v := .ref x) rfl rfl rfl ?_)
  refine wl_of hX hb cL_719 (rw_aload_n (pc' := 720) (v := .ref 0) rfl rfl rfl ?_)
  refine wl_of hX hb cL_720 (rw_iload (pc' := 722) (z := i) rfl rfl ?_)
  refine wl_of hX hb cL_722 (rw_iconst (pc' := 723) rfl ?_)
  refine wl_of hX hb cL_723 (rw_iadd (pc' := 724) rfl ?_)
  refine wl_of hX hb cL_724 (xa_I (so := 0) (pc' := 725) (a := 0) hW g0 (wsh_s _) (by omega) (wty_s _ _) (by omega) (by omega) rfl (fun b2357 b2358 => ?_))
  refine wl_of hX hb cL_725 (rw_aload_n (pc' := 726) (v := .ref 0) rfl rfl rfl ?_)
  refine wl_of hX hb cL_726 (rw_iload (pc' := 728) (z := i) rfl rfl ?_)
  refine wl_of hX hb cL_728 (rw_iconst (pc' := 729) rfl ?_)
  refine wl_of hX hb cL_729 (rw_iadd (pc' := 730) rfl ?_)
  refine wl_of hX hb cL_730 (xa_I (so := 0) (pc' := 731) (a := 0) hW g0 (wsh_s _) (by omega) (wty_s _ _) (by omega) (by omega) rfl (fun b2359 b2360 => ?_))
  refine wl_of hX hb cL_731 (xc_V (pc' := 734) (r := x) (as := [vI (H 0 ((i + 1).toNat)), vI (H 0 ((i + 2).toNat))]) (st := []) (lm_11_97) rfl rfl (Nat.le_of_ble_eq_true rfl) hW gx sh_1 (by decide) rfl (by decide) (s_98 hW gx ⟨by omega, by omega⟩ ⟨by omega, by omega⟩) (fun R2361 T2362 H2363 p2364 => ?_))
  obtain ⟨e2365, w2367, f2368, z2369, e2366, b2370⟩ := p2364
  subst e2365
  subst e2366
  show WL _ _ _ _ 734 [(4, vI i), (3, .ref o), (2, .ref m), (1, .ref x), (0, .ref 0)] [vI z2369] _ H2363
  refine wl_of hX hb cL_734 (rw_pop (pc' := 735) rfl rfl ?_)
  refine wl_of hX hb cL_735 (rw_aload_n (pc' := 736) (v := .ref m) rfl rfl rfl ?_)
  refine wl_of hX hb cL_736 (rw_aload_n (pc' := 737) (v := .ref 0) rfl rfl rfl ?_)
  refine wl_of hX hb cL_737 (rw_iload (pc' := 739) (z := i) rfl rfl ?_)
  refine wl_of hX hb cL_739 (rw_iconst (pc' := 740) rfl ?_)
  refine wl_of hX hb cL_740 (rw_iadd (pc' := 741) rfl ?_)
  have k2373 : H2363 0 ((i + 1).toNat) = H 0 ((i + 1).toNat) := (f2368 0 ((i + 1).toNat) _ g0 (wmem_s rfl))
  refine wl_of hX hb cL_741 (xa_I (so := 0) (pc' := 742) (a := 0) w2367 g0 (wsh_s _) (by omega) (wty_s _ _) (by omega) (by omega) rfl (fun b2371 b2372 => ?_))
  refine wl_of hX hb cL_742 (rw_aload_n (pc' := 743) (v := .ref 0) rfl rfl rfl ?_)
  refine wl_of hX hb cL_743 (rw_iload (pc' := 745) (z := i) rfl rfl ?_)
  refine wl_of hX hb cL_745 (rw_iconst (pc' := 746) rfl ?_)
  refine wl_of hX hb cL_746 (rw_iadd (pc' := 747) rfl ?_)
  have k2376 : H2363 0 ((i + 2).toNat) = H 0 ((i + 2).toNat) := (f2368 0 ((i + 2).toNat) _ g0 (wmem_s rfl))
  refine wl_of hX hb cL_747 (xa_I (so := 0) (pc' := 748) (a := 0) w2367 g0 (wsh_s _) (by omega) (wty_s _ _) (by omega) (by omega) rfl (fun b2374 b2375 => ?_))
  have k2377 : wKI H2363 m = wKI H m := (wKI_fr hW gm f2368 rfl)
  have k2378 : H2363 x 9 = H x 9 := (f2368 x 9 _ gx rfl)
  have k2379 : H2363 m 6 = H m 6 := (f2368 m 6 _ gm rfl)
  have k2380 : H2363 x 11 = H x 11 := (f2368 x 11 _ gx rfl)
  have k2381 : H2363 m 13 = H m 13 := (f2368 m 13 _ gm rfl)
  have k2382 : H2363 x 8 = H x 8 := (f2368 x 8 _ gx rfl)
  have k2383 : H2363 m 3 = H m 3 := (f2368 m 3 _ gm rfl)
  refine wl_of hX hb cL_748 (xc_V (pc' := 751) (r := m) (as := [vI (H2363 0 ((i + 1).toNat)), vI (H2363 0 ((i + 2).toNat))]) (st := []) (lm_11_100) rfl rfl (Nat.le_of_ble_eq_true rfl) w2367 gm sh_42 (by decide) rfl (by decide) (s_249 w2367 gm ⟨by omega, by omega⟩ ⟨by omega, by omega⟩ (by omega)) (fun R2384 T2385 H2386 p2387 => ?_))
  obtain ⟨e2388, w2390, f2391, z2393, e2389, b2394, p2392⟩ := p2387
  subst e2388
  subst e2389
  show WL _ _ _ _ 751 [(4, vI i), (3, .ref o), (2, .ref m), (1, .ref x), (0, .ref 0)] [vI z2393] _ H2386
  refine wl_of hX hb cL_751 (rw_pop (pc' := 752) rfl rfl ?_)
  refine wl_of hX hb cL_752 (rw_goto (p1 := 1653) (by decide) ?_)
  have k2395 : H2386 x 9 = H2363 x 9 := (f2391 x 9 _ gx rfl)
  have k2396 : H2386 m 6 = H2363 m 6 := (f2391 m 6 _ gm rfl)
  have k2397 : H2386 x 11 = H2363 x 11 := (f2391 x 11 _ gx rfl)
  have k2398 : H2386 m 13 = H2363 m 13 := (f2391 m 13 _ gm rfl)
  have k2399 : H2386 x 8 = H2363 x 8 := (f2391 x 8 _ gx rfl)
  have k2400 : H2386 m 3 = H2363 m 3 := (f2391 m 3 _ gm rfl)
  have h2401 : XI T H2386 x m := (XI_fr w2367 gx f2391 rfl (XI_fr hW gx f2368 rfl hXI))
  exact WL.loc hX (by simp) (next T H2386 ⟨⟨w2390, g0, gx, gm, go, by omega, by omega⟩, h2401, by omega, by omega⟩ (by omega) (by omega))
set_option maxHeartbeats 4000000 in
theorem wl_c19 {kt : Nat → Option mc_E} {CB SB : Nat} {X : mc_S → Prop} {T : wq_T} {H : wq_H} {Len x m o : Nat} {i : Int} (hX : wlX kt CB SB X) (hb : T.2.1 ≤ CB ∧ T.2.2.1 ≤ SB) (hI : wlJ Len x m o T H) (hL : Len ≤ 3072) (hi : 0 ≤ i ∧ i + 6 ≤ Len) (hb2 : T.2.1 + 20 ≤ CB ∧ T.2.2.1 + 500 ≤ SB)  (next : ∀ T' H', wlJ Len x m o T' H' → T'.2.1 ≤ T.2.1 + 20 → T'.2.2.1 ≤ T.2.2.1 + 500 → WL kt CB SB X 1653 (wlL i x m o) [] T' H') : WL kt CB SB X 755 (wlL i x m o) [] T H := by
  obtain ⟨⟨hW, g0, gx, gm, go, hK, hr⟩, hXI, hY1, hY2⟩ := hI
  refine wl_of hX hb cL_755 (rw_aload_n (pc' := 756) (v := .ref x) rfl rfl rfl ?_)
  refine wl_of hX hb cL_756 (rw_aload_n (pc' := 757) (v := .ref 0) rfl rfl rfl ?_)
  refine wl_of hX hb cL_757 (rw_iload (pc' := 759) (z := i) rfl rfl ?_)
  refine wl_of hX hb cL_759 (rw_iconst (pc' := 760) rfl ?_)
  refine wl_of hX hb cL_760 (rw_iadd (pc' := 761) rfl ?_)
  refine wl_of hX hb cL_761 (xa_I (so := 0) (pc' := 762) (a := 0) hW g0 (wsh_s _) (by omega) (wty_s _ _) (by omega) (by omega) rfl (fun b2402 b2403 => ?_))
  refine wl_of hX hb cL_762 (rw_aload_n (pc' := 763) (v := .ref 0) rfl rfl rfl ?_)
  refine wl_of hX hb cL_763 (rw_iload (pc' := 765) (z := i) rfl rfl ?_)
  refine wl_of hX hb cL_765 (rw_iconst (pc' := 766) rfl ?_)
  refine wl_of hX hb cL_766 (rw_iadd (pc' := 767) rfl ?_)
  refine wl_of hX hb cL_767 (xa_I (so := 0) (pc' := 768) (a := 0) hW g0 (wsh_s _) (by omega) (wty_s _ _) (by omega) (by omega) rfl (fun b2404 b2405 => ?_))
  refine wl_of hX hb cL_768 (xc_V (pc' := 771) (r := x) (as := [vI (H 0 ((i + 1).toNat)), vI (H 0 ((i + 2).toNat))]) (st := []) (lm_11_101) rfl rfl (Nat.le_of_ble_eq_true rfl) hW gx sh_1 (by decide) rfl (by decide) (s_99 hW gx ⟨by omega, by omega⟩ ⟨by omega, by omega⟩) (fun R2406 T2407 H2408 p2409 => ?_))
  obtain ⟨e2410, w2412, f2413, z2414, e2411, b2415⟩ := p2409
  subst e2410
  subst e2411
  show WL _ _ _ _ 771 [(4, vI i), (3, .ref o), (2, .ref m), (1, .ref x), (0, .ref 0)] [vI z2414] _ H2408
  refine wl_of hX hb cL_771 (rw_pop (pc' := 772) rfl rfl ?_)
  refine wl_of hX hb cL_772 (rw_aload_n (pc' := 773) (v := .ref m) rfl rfl rfl ?_)
  refine wl_of hX hb cL_773 (rw_aload_n (pc' := 774) (v := .ref 0) rfl rfl rfl ?_)
  refine wl_of hX hb cL_774 (rw_iload (pc' := 776) (z := i) rfl rfl ?_)
  refine wl_of hX hb cL_776 (rw_iconst (pc' := 777) rfl ?_)
  refine wl_of hX hb cL_777 (rw_iadd (pc' := 778) rfl ?_)
  have k2418 : H2408 0 ((i + 1).toNat) = H 0 ((i + 1).toNat) := (f2413 0 ((i + 1).toNat) _ g0 (wmem_s rfl))
  refine wl_of hX hb cL_778 (xa_I (so := 0) (pc' := 779) (a := 0) w2412 g0 (wsh_s _) (by omega) (wty_s _ _) (by omega) (by omega) rfl (fun b2416 b2417 => ?_))
  refine wl_of hX hb cL_779 (rw_aload_n (pc' := 780) (v := .ref 0) rfl rfl rfl ?_)
  refine wl_of hX hb cL_780 (rw_iload (pc' := 782) (z := i) rfl rfl ?_)
  refine wl_of hX hb cL_782 (rw_iconst (pc' := 783) rfl ?_)
  refine wl_of hX hb cL_783 (rw_iadd (pc' := 784) rfl ?_)
  have k2421 : H2408 0 ((i + 2).toNat) = H 0 ((i + 2).toNat) := (f2413 0 ((i + 2).toNat) _ g0 (wmem_s rfl))
  refine wl_of hX hb cL_784 (xa_I (so := 0) (pc' := 785) (a := 0) w2412 g0 (wsh_s _) (by omega) (wty_s _ _) (by omega) (by omega) rfl (fun b2419 b2420 => ?_))
  have k2422 : wKI H2408 m = wKI H m := (wKI_fr hW gm f2413 rfl)
  have k2423 : H2408 x 9 = H x 9 := (f2413 x 9 _ gx rfl)
  have k2424 : H2408 m 6 = H m 6 := (f2413 m 6 _ gm rfl)
  have k2425 : H2408 x 11 = H x 11 := (f2413 x 11 _ gx rfl)
  have k2426 : H2408 m 13 = H m 13 := (f2413 m 13 _ gm rfl)
  have k2427 : H2408 x 8 = H x 8 := (f2413 x 8 _ gx rfl)
  have k2428 : H2408 m 3 = H m 3 := (f2413 m 3 _ gm rfl)
  refine wl_of hX hb cL_785 (xc_V (pc' := 788) (r := m) (as := [vI (H2408 0 ((i + 1).toNat)), vI (H2408 0 ((i + 2).toNat))]) (st := []) (lm_11_104) rfl rfl (Nat.le_of_ble_eq_true rfl) w2412 gm sh_42 (by decide) rfl (by decide) (s_250 w2412 gm ⟨by omega, by omega⟩ ⟨by omega, by omega⟩ (by omega)) (fun R2429 T2430 H2431 p2432 => ?_))
  obtain ⟨e2433, w2435, f2436, z2438, e2434, b2439, p2437⟩ := p2432
  subst e2433
  subst e2434
  show WL _ _ _ _ 788 [(4, vI i), (3, .ref o), (2, .ref m), (1, .ref x), (0, .ref 0)] [vI z2438] _ H2431
  refine wl_of hX hb cL_788 (rw_pop (pc' := 789) rfl rfl ?_)
  refine wl_of hX hb cL_789 (rw_goto (p1 := 1653) (by decide) ?_)
  have k2440 : H2431 x 9 = H2408 x 9 := (f2436 x 9 _ gx rfl)
  have k2441 : H2431 m 6 = H2408 m 6 := (f2436 m 6 _ gm rfl)
  have k2442 : H2431 x 11 = H2408 x 11 := (f2436 x 11 _ gx rfl)
  have k2443 : H2431 m 13 = H2408 m 13 := (f2436 m 13 _ gm rfl)
  have k2444 : H2431 x 8 = H2408 x 8 := (f2436 x 8 _ gx rfl)
  have k2445 : H2431 m 3 = H2408 m 3 := (f2436 m 3 _ gm rfl)
  have h2446 : XI T H2431 x m := (XI_fr w2412 gx f2436 rfl (XI_fr hW gx f2413 rfl hXI))
  exact WL.loc hX (by simp) (next T H2431 ⟨⟨w2435, g0, gx, gm, go, by omega, by omega⟩, h2446, by omega, by omega⟩ (by omega) (by omega))
set_option maxHeartbeats 4000000 in
theorem wl_c20 {kt : Nat → Option mc_E} {CB SB : Nat} {X : mc_S → Prop} {T : wq_T} {H : wq_H} {Len x m o : Nat} {i : Int} (hX : wlX kt CB SB X) (hb : T.2.1 ≤ CB ∧ T.2.2.1 ≤ SB) (hI : wlJ Len x m o T H) (hL : Len ≤ 3072) (hi : 0 ≤ i ∧ i + 6 ≤ Len) (hb2 : T.2.1 + 20 ≤ CB ∧ T.2.2.1 + 500 ≤ SB)  (next : ∀ T' H', wlJ Len x m o T' H' → T'.2.1 ≤ T.2.1 + 20 → T'.2.2.1 ≤ T.2.2.1 + 500 → WL kt CB SB X 1653 (wlL i x m o) [] T' H') : WL kt CB SB X 792 (wlL i x m o) [] T H := by
  obtain ⟨⟨hW, g0, gx, gm, go, hK, hr⟩, hXI, hY1, hY2⟩ := hI
  refine wl_of hX hb cL_792 (rw_aload_n (pc' := 793) (v := .ref x) rfl rfl rfl ?_)
  refine wl_of hX hb cL_793 (rw_aload_n (pc' := 794) (v := .ref 0) rfl rfl rfl ?_)
  refine wl_of hX hb cL_794 (rw_iload (pc' := 796) (z := i) rfl rfl ?_)
  refine wl_of hX hb cL_796 (rw_iconst (pc' := 797) rfl ?_)
  refine wl_of hX hb cL_797 (rw_iadd (pc' := 798) rfl ?_)
  refine wl_of hX hb cL_798 (xa_I (so := 0) (pc' := 799) (a := 0) hW g0 (wsh_s _) (by omega) (wty_s _ _) (by omega) (by omega) rfl (fun b2447 b2448 => ?_))
  refine wl_of hX hb cL_799 (rw_aload_n (pc' := 800) (v := .ref 0) rfl rfl rfl ?_)
  refine wl_of hX hb cL_800 (rw_iload (pc' := 802) (z := i) rfl rfl ?_)
  refine wl_of hX hb cL_802 (rw_iconst (pc' := 803) rfl ?_)
  refine wl_of hX hb cL_803 (rw_iadd (pc' := 804) rfl ?_)
  refine wl_of hX hb cL_804 (xa_I (so := 0) (pc' := 805) (a := 0) hW g0 (wsh_s _) (by omega) (wty_s _ _) (by omega) (by omega) rfl (fun b2449 b2450 => ?_))
  refine wl_of hX hb cL_805 (xc_V (pc' := 808) (r := x) (as := [vI (H 0 ((i + 1).toNat)), vI (H 0 ((i + 2).toNat))]) (st := []) (lm_11_105) rfl rfl (Nat.le_of_ble_eq_true rfl) hW gx sh_1 (by decide) rfl (by decide) (s_101 hW gx ⟨by omega, by omega⟩ ⟨by omega, by omega⟩) (fun R2451 T2452 H2453 p2454 => ?_))
  obtain ⟨e2455, w2457, f2458, z2459, e2456, b2460⟩ := p2454
  subst e2455
  subst e2456
  show WL _ _ _ _ 808 [(4, vI i), (3, .ref o), (2, .ref m), (1, .ref x), (0, .ref 0)] [vI z2459] _ H2453
  refine wl_of hX hb cL_808 (rw_pop (pc' := 809) rfl rfl ?_)
  refine wl_of hX hb cL_809 (rw_aload_n (pc' := 810) (v := .ref m) rfl rfl rfl ?_)
  refine wl_of hX hb cL_810 (rw_aload_n (pc' := 811) (v := .ref 0) rfl rfl rfl ?_)
  refine wl_of hX hb cL_811 (rw_iload (pc' := 813) (z := i) rfl rfl ?_)
  refine wl_of hX hb cL_813 (rw_iconst (pc' := 814) rfl ?_)
  refine wl_of hX hb cL_814 (rw_iadd (pc' := 815) rfl ?_)
  have k2463 : H2453 0 ((i + 1).toNat) = H 0 ((i + 1).toNat) := (f2458 0 ((i + 1).toNat) _ g0 (wmem_s rfl))
  refine wl_of hX hb cL_815 (xa_I (so := 0) (pc' := 816) (a := 0) w2457 g0 (wsh_s _) (by omega) (wty_s _ _) (by omega) (by omega) rfl (fun b2461 b2462 => ?_))
  refine wl_of hX hb cL_816 (rw_aload_n (pc' := 817) (v := .ref 0) rfl rfl rfl ?_)
  refine wl_of hX hb cL_817 (rw_iload (pc' := 819) (z := i) rfl rfl ?_)
  refine wl_of hX hb cL_819 (rw_iconst (pc' := 820) rfl ?_)
  refine wl_of hX hb cL_820 (rw_iadd (pc' := 821) rfl ?_)
  have k2466 : H2453 0 ((i + 2).toNat) = H 0 ((i + 2).toNat) := (f2458 0 ((i + 2).toNat) _ g0 (wmem_s rfl))
  refine wl_of hX hb cL_821 (xa_I (so := 0) (pc' := 822) (a := 0) w2457 g0 (wsh_s _) (by omega) (wty_s _ _) (by omega) (by omega) rfl (fun b2464 b2465 => ?_))
  have k2467 : wKI H2453 m = wKI H m := (wKI_fr hW gm f2458 rfl)
  have k2468 : H2453 x 9 = H x 9 := (f2458 x 9 _ gx rfl)
  have k2469 : H2453 m 6 = H m 6 := (f2458 m 6 _ gm rfl)
  have k2470 : H2453 x 11 = H x 11 := (f2458 x 11 _ gx rfl)
  have k2471 : H2453 m 13 = H m 13 := (f2458 m 13 _ gm rfl)
  have k2472 : H2453 x 8 = H x 8 := (f2458 x 8 _ gx rfl)
  have k2473 : H2453 m 3 = H m 3 := (f2458 m 3 _ gm rfl)
  refine wl_of hX hb cL_822 (xc_V (pc' := 825) (r := m) (as := [vI (H2453 0 ((i + 1).toNat)), vI (H2453 0 ((i + 2).toNat))]) (st := []) (lm_11_108) rfl rfl (Nat.le_of_ble_eq_true rfl) w2457 gm sh_42 (by decide) rfl (by decide) (s_252 w2457 gm ⟨by omega, by omega⟩ ⟨by omega, by omega⟩ (by omega)) (fun R2474 T2475 H2476 p2477 => ?_))
  obtain ⟨e2478, w2480, f2481, z2483, e2479, b2484, p2482⟩ := p2477
  subst e2478
  subst e2479
  show WL _ _ _ _ 825 [(4, vI i), (3, .ref o), (2, .ref m), (1, .ref x), (0, .ref 0)] [vI z2483] _ H2476
  refine wl_of hX hb cL_825 (rw_pop (pc' := 826) rfl rfl ?_)
  refine wl_of hX hb cL_826 (rw_goto (p1 := 1653) (by decide) ?_)
  have k2485 : H2476 x 9 = H2453 x 9 := (f2481 x 9 _ gx rfl)
  have k2486 : H2476 m 6 = H2453 m 6 := (f2481 m 6 _ gm rfl)
  have k2487 : H2476 x 11 = H2453 x 11 := (f2481 x 11 _ gx rfl)
  have k2488 : H2476 m 13 = H2453 m 13 := (f2481 m 13 _ gm rfl)
  have k2489 : H2476 x 8 = H2453 x 8 := (f2481 x 8 _ gx rfl)
  have k2490 : H2476 m 3 = H2453 m 3 := (f2481 m 3 _ gm rfl)
  have h2491 : XI T H2476 x m := (XI_fr w2457 gx f2481 rfl (XI_fr hW gx f2458 rfl hXI))
  exact WL.loc hX (by simp) (next T H2476 ⟨⟨w2480, g0, gx, gm, go, by omega, by omega⟩, h2491, by omega, by omega⟩ (by omega) (by omega))
set_option maxHeartbeats 4000000 in
theorem wl_c21 {kt : Nat → Option mc_E} {CB SB : Nat} {X : mc_S → Prop} {T : wq_T} {H : wq_H} {Len x m o : Nat} {i : Int} (hX : wlX kt CB SB X) (hb : T.2.1 ≤ CB ∧ T.2.2.1 ≤ SB) (hI : wlJ Len x m o T H) (hL : Len ≤ 3072) (hi : 0 ≤ i ∧ i + 6 ≤ Len) (hb2 : T.2.1 + 20 ≤ CB ∧ T.2.2.1 + 500 ≤ SB)  (next : ∀ T' H', wlJ Len x m o T' H' → T'.2.1 ≤ T.2.1 + 20 → T'.2.2.1 ≤ T.2.2.1 + 500 → WL kt CB SB X 1653 (wlL i x m o) [] T' H') : WL kt CB SB X 829 (wlL i x m o) [] T H := by
  obtain ⟨⟨hW, g0, gx, gm, go, hK, hr⟩, hXI, hY1, hY2⟩ := hI
  refine wl_of hX hb cL_829 (rw_aload_n (pc' := 830) (v := .ref x) rfl rfl rfl ?_)
  refine wl_of hX hb cL_830 (rw_aload_n (pc' := 831) (v := .ref 0) rfl rfl rfl ?_)
  refine wl_of hX hb cL_831 (rw_iload (pc' := 833) (z := i) rfl rfl ?_)
  refine wl_of hX hb cL_833 (rw_iconst (pc' := 834) rfl ?_)
  refine wl_of hX hb cL_834 (rw_iadd (pc' := 835) rfl ?_)
  refine wl_of hX hb cL_835 (xa_I (so := 0) (pc' := 836) (a := 0) hW g0 (wsh_s _) (by omega) (wty_s _ _) (by omega) (by omega) rfl (fun b2492 b2493 => ?_))
  refine wl_of hX hb cL_836 (rw_aload_n (pc' := 837) (v := .ref 0) rfl rfl rfl ?_)
  refine wl_of hX hb cL_837 (rw_iload (pc' := 839) (z := i) rfl rfl ?_)
  refine wl_of hX hb cL_839 (rw_iconst (pc' := 840) rfl ?_)
  refine wl_of hX hb cL_840 (rw_iadd (pc' := 841) rfl ?_)
  refine wl_of hX hb cL_841 (xa_I (so := 0) (pc' := 842) (a := 0) hW g0 (wsh_s _) (by omega) (wty_s _ _) (by omega) (by omega) rfl (fun b2494 b2495 => ?_))
  refine wl_of hX hb cL_842 (rw_if_eq (p1 := 849) (p2 := 845) (by decide) rfl ⟨by omega, by omega⟩ (fun c2496 => ?_) (fun c2496 => ?_))
  · refine wl_of hX hb cL_849 (rw_iconst (pc' := 850) rfl ?_)
    refine wl_of hX hb cL_850 (xc_V (pc' := 853) (r := x) (as := [vI (H 0 ((i + 1).toNat)), vI 0]) (st := []) (lm_11_109) rfl rfl (Nat.le_of_ble_eq_true rfl) hW gx sh_1 (by decide) rfl (by decide) (s_104 hW gx ⟨by omega, by omega⟩ ⟨by decide, by decide⟩) (fun R2497 T2498 H2499 p2500 => ?_))
    obtain ⟨e2501, w2503, f2504, z2505, e2502, b2506⟩ := p2500
    subst e2501
    subst e2502
    show WL _ _ _ _ 853 [(4, vI i), (3, .ref o), (2, .ref m), (1, .ref x), (0, .ref 0)] [vI z2505] _ H2499
    refine wl_of hX hb cL_853 (rw_pop (pc' := 854) rfl rfl ?_)
    refine wl_of hX hb cL_854 (rw_aload_n (pc' := 855) (v := .ref m) rfl rfl rfl ?_)
    refine wl_of hX hb cL_855 (rw_aload_n (pc' := 856) (v := .ref 0) rfl rfl rfl ?_)
    refine wl_of hX hb cL_856 (rw_iload (pc' := 858) (z := i) rfl rfl ?_)
    refine wl_of hX hb cL_858 (rw_iconst (pc' := 859) rfl ?_)
    refine wl_of hX hb cL_859 (rw_iadd (pc' := 860) rfl ?_)
    have k2509 : H2499 0 ((i + 1).toNat) = H 0 ((i + 1).toNat) := (f2504 0 ((i + 1).toNat) _ g0 (wmem_s rfl))
    refine wl_of hX hb cL_860 (xa_I (so := 0) (pc' := 861) (a := 0) w2503 g0 (wsh_s _) (by omega) (wty_s _ _) (by omega) (by omega) rfl (fun b2507 b2508 => ?_))
    refine wl_of hX hb cL_861 (rw_aload_n (pc' := 862) (v := .ref 0) rfl rfl rfl ?_)
    refine wl_of hX hb cL_862 (rw_iload (pc' := 864) (z := i) rfl rfl ?_)
    refine wl_of hX hb cL_864 (rw_iconst (pc' := 865) rfl ?_)
    refine wl_of hX hb cL_865 (rw_iadd (pc' := 866) rfl ?_)
    have k2512 : H2499 0 ((i + 2).toNat) = H 0 ((i + 2).toNat) := (f2504 0 ((i + 2).toNat) _ g0 (wmem_s rfl))
    refine wl_of hX hb cL_866 (xa_I (so := 0) (pc' := 867) (a := 0) w2503 g0 (wsh_s _) (by omega) (wty_s _ _) (by omega) (by omega) rfl (fun b2510 b2511 => ?_))
    refine wl_of hX hb cL_867 (rw_if_eq (p1 := 874) (p2 := 870) (by decide) rfl ⟨by omega, by omega⟩ (fun c2513 => ?_) (fun c2513 => ?_))
    · refine wl_of hX hb cL_874 (rw_iconst (pc' := 875) rfl ?_)
      have k2514 : wKI H2499 m = wKI H m := (wKI_fr hW gm f2504 rfl)
      have k2515 : H2499 x 9 = H x 9 := (f2504 x 9 _ gx rfl)
      have k2516 : H2499 m 6 = H m 6 := (f2504 m 6 _ gm rfl)
      have k2517 : H2499 x 11 = H x 11 := (f2504 x 11 _ gx rfl)
      have k2518 : H2499 m 13 = H m 13 := (f2504 m 13 _ gm rfl)
      have k2519 : H2499 x 8 = H x 8 := (f2504 x 8 _ gx rfl)
      have k2520 : H2499 m 3 = H m 3 := (f2504 m 3 _ gm rfl)
      refine wl_of hX hb cL_875 (xc_V (pc' := 878) (r := m) (as := [vI (H2499 0 ((i + 1).toNat)), vI 0]) (st := []) (lm_11_113) rfl rfl (Nat.le_of_ble_eq_true rfl) w2503 gm sh_42 (by decide) rfl (by decide) (s_254 w2503 gm ⟨by omega, by omega⟩ ⟨by decide, by decide⟩ (by omega)) (fun R2521 T2522 H2523 p2524 => ?_))
      obtain ⟨e2525, w2527, f2528, z2530, e2526, b2531, p2529⟩ := p2524
      subst e2525
      subst e2526
      show WL _ _ _ _ 878 [(4, vI i), (3, .ref o), (2, .ref m), (1, .ref x), (0, .ref 0)] [vI z2530] _ H2523
      refine wl_of hX hb cL_878 (rw_pop (pc' := 879) rfl rfl ?_)
      refine wl_of hX hb cL_879 (rw_goto (p1 := 1653) (by decide) ?_)
      have k2532 : H2523 x 9 = H2499 x 9 := (f2528 x 9 _ gx rfl)
      have k2533 : H2523 m 6 = H2499 m 6 := (f2528 m 6 _ gm rfl)
      have k2534 : H2523 x 11 = H2499 x 11 := (f2528 x 11 _ gx rfl)
      have k2535 : H2523 m 13 = H2499 m 13 := (f2528 m 13 _ gm rfl)
      have k2536 : H2523 x 8 = H2499 x 8 := (f2528 x 8 _ gx rfl)
      have k2537 : H2523 m 3 = H2499 m 3 := (f2528 m 3 _ gm rfl)
      have h2538 : XI T H2523 x m := (XI_fr w2503 gx f2528 rfl (XI_fr hW gx f2504 rfl hXI))
      exact WL.loc hX (by simp) (next T H2523 ⟨⟨w2527, g0, gx, gm, go, by omega, by omega⟩, h2538, by omega, by omega⟩ (by omega) (by omega))
    · exfalso
      omega
  · refine wl_of hX hb cL_845 (rw_iconst (pc' := 846) rfl ?_)
    refine wl_of hX hb cL_846 (rw_goto (p1 := 850) (by decide) ?_)
    refine wl_of hX hb cL_850 (xc_V (pc' := 853) (r := x) (as := [vI (H 0 ((i + 1).toNat)), vI 1]) (st := []) (lm_11_109) rfl rfl (Nat.le_of_ble_eq_true rfl) hW gx sh_1 (by decide) rfl (by decide) (s_104 hW gx ⟨by omega, by omega⟩ ⟨by decide, by decide⟩) (fun R2539 T2540 H2541 p2542 => ?_))
    obtain ⟨e2543, w2545, f2546, z2547, e2544, b2548⟩ := p2542
    subst e2543
    subst e2544
    show WL _ _ _ _ 853 [(4, vI i), (3, .ref o), (2, .ref m), (1, .ref x), (0, .ref 0)] [vI z2547] _ H2541
    refine wl_of hX hb cL_853 (rw_pop (pc' := 854) rfl rfl ?_)
    refine wl_of hX hb cL_854 (rw_aload_n (pc' := 855) (v := .ref m) rfl rfl rfl ?_)
    refine wl_of hX hb cL_855 (rw_aload_n (pc' := 856) (v := .ref 0) rfl rfl rfl ?_)
    refine wl_of hX hb cL_856 (rw_iload (pc' := 858) (z := i) rfl rfl ?_)
    refine wl_of hX hb cL_858 (rw_iconst (pc' := 859) rfl ?_)
    refine wl_of hX hb cL_859 (rw_iadd (pc' := 860) rfl ?_)
    have k2551 : H2541 0 ((i + 1).toNat) = H 0 ((i + 1).toNat) := (f2546 0 ((i + 1).toNat) _ g0 (wmem_s rfl))
    refine wl_of hX hb cL_860 (xa_I (so := 0) (pc' := 861) (a := 0) w2545 g0 (wsh_s _) (by omega) (wty_s _ _) (by omega) (by omega) rfl (fun b2549 b2550 => ?_))
    refine wl_of hX hb cL_861 (rw_aload_n (pc' := 862) (v := .ref 0) rfl rfl rfl ?_)
    refine wl_of hX hb cL_862 (rw_iload (pc' := 864) (z := i) rfl rfl ?_)
    refine wl_of hX hb cL_864 (rw_iconst (pc' := 865) rfl ?_)
    refine wl_of hX hb cL_865 (rw_iadd (pc' := 866) rfl ?_)
    have k2554 : H2541 0 ((i + 2).toNat) = H 0 ((i + 2).toNat) := (f2546 0 ((i + 2).toNat) _ g0 (wmem_s rfl))
    refine wl_of hX hb cL_866 (xa_I (so := 0) (pc' := 867) (a := 0) w2545 g0 (wsh_s _) (by omega) (wty_s _ _) (by omega) (by omega) rfl (fun b2552 b2553 => ?_))
    refine wl_of hX hb cL_867 (rw_if_eq (p1 := 874) (p2 := 870) (by decide) rfl ⟨by omega, by omega⟩ (fun c2555 => ?_) (fun c2555 => ?_))
    · refine wl_of hX hb cL_874 (rw_iconst (pc' := 875) rfl ?_)
      have k2556 : wKI H2541 m = wKI H m := (wKI_fr hW gm f2546 rfl)
      have k2557 : H2541 x 9 = H x 9 := (f2546 x 9 _ gx rfl)
      have k2558 : H2541 m 6 = H m 6 := (f2546 m 6 _ gm rfl)
      have k2559 : H2541 x 11 = H x 11 := (f2546 x 11 _ gx rfl)
      have k2560 : H2541 m 13 = H m 13 := (f2546 m 13 _ gm rfl)
      have k2561 : H2541 x 8 = H x 8 := (f2546 x 8 _ gx rfl)
      have k2562 : H2541 m 3 = H m 3 := (f2546 m 3 _ gm rfl)
      refine wl_of hX hb cL_875 (xc_V (pc' := 878) (r := m) (as := [vI (H2541 0 ((i + 1).toNat)), vI 0]) (st := []) (lm_11_113) rfl rfl (Nat.le_of_ble_eq_true rfl) w2545 gm sh_42 (by decide) rfl (by decide) (s_254 w2545 gm ⟨by omega, by omega⟩ ⟨by decide, by decide⟩ (by omega)) (fun R2563 T2564 H2565 p2566 => ?_))
      obtain ⟨e2567, w2569, f2570, z2572, e2568, b2573, p2571⟩ := p2566
      subst e2567
      subst e2568
      show WL _ _ _ _ 878 [(4, vI i), (3, .ref o), (2, .ref m), (1, .ref x), (0, .ref 0)] [vI z2572] _ H2565
      refine wl_of hX hb cL_878 (rw_pop (pc' := 879) rfl rfl ?_)
      refine wl_of hX hb cL_879 (rw_goto (p1 := 1653) (by decide) ?_)
      have k2574 : H2565 x 9 = H2541 x 9 := (f2570 x 9 _ gx rfl)
      have k2575 : H2565 m 6 = H2541 m 6 := (f2570 m 6 _ gm rfl)
      have k2576 : H2565 x 11 = H2541 x 11 := (f2570 x 11 _ gx rfl)
      have k2577 : H2565 m 13 = H2541 m 13 := (f2570 m 13 _ gm rfl)
      have k2578 : H2565 x 8 = H2541 x 8 := (f2570 x 8 _ gx rfl)
      have k2579 : H2565 m 3 = H2541 m 3 := (f2570 m 3 _ gm rfl)
      have h2580 : XI T H2565 x m := (XI_fr w2545 gx f2570 rfl (XI_fr hW gx f2546 rfl hXI))
      exact WL.loc hX (by simp) (next T H2565 ⟨⟨w2569, g0, gx, gm, go, by omega, by omega⟩, h2580, by omega, by omega⟩ (by omega) (by omega))
    · refine wl_of hX hb cL_870 (rw_iconst (pc' := 871) rfl ?_)
      refine wl_of hX hb cL_871 (rw_goto (p1 := 875) (by decide) ?_)
      have k2581 : wKI H2541 m = wKI H m := (wKI_fr hW gm f2546 rfl)
      have k2582 : H2541 x 9 = H x 9 := (f2546 x 9 _ gx rfl)
      have k2583 : H2541 m 6 = H m 6 := (f2546 m 6 _ gm rfl)
      have k2584 : H2541 x 11 = H x 11 := (f2546 x 11 _ gx rfl)
      have k2585 : H2541 m 13 = H m 13 := (f2546 m 13 _ gm rfl)
      have k2586 : H2541 x 8 = H x 8 := (f2546 x 8 _ gx rfl)
      have k2587 : H2541 m 3 = H m 3 := (f2546 m 3 _ gm rfl)
      refine wl_of hX hb cL_875 (xc_V (pc' := 878) (r := m) (as := [vI (H2541 0 ((i + 1).toNat)), vI 1]) (st := []) (lm_11_113) rfl rfl (Nat.le_of_ble_eq_true rfl) w2545 gm sh_42 (by decide) rfl (by decide) (s_254 w2545 gm ⟨by omega, by omega⟩ ⟨by decide, by decide⟩ (by omega)) (fun R2588 T2589 H2590 p2591 => ?_))
      obtain ⟨e2592, w2594, f2595, z2597, e2593, b2598, p2596⟩ := p2591
      subst e2592
      subst e2593
      show WL _ _ _ _ 878 [(4, vI i), (3, .ref o), (2, .ref m), (1, .ref x), (0, .ref 0)] [vI z2597] _ H2590
      refine wl_of hX hb cL_878 (rw_pop (pc' := 879) rfl rfl ?_)
      refine wl_of hX hb cL_879 (rw_goto (p1 := 1653) (by decide) ?_)
      have k2599 : H2590 x 9 = H2541 x 9 := (f2595 x 9 _ gx rfl)
      have k2600 : H2590 m 6 = H2541 m 6 := (f2595 m 6 _ gm rfl)
      have k2601 : H2590 x 11 = H2541 x 11 := (f2595 x 11 _ gx rfl)
      have k2602 : H2590 m 13 = H2541 m 13 := (f2595 m 13 _ gm rfl)
      have k2603 : H2590 x 8 = H2541 x 8 := (f2595 x 8 _ gx rfl)
      have k2604 : H2590 m 3 = H2541 m 3 := (f2595 m 3 _ gm rfl)
      have h2605 : XI T H2590 x m := (XI_fr w2545 gx f2595 rfl (XI_fr hW gx f2546 rfl hXI))
      exact WL.loc hX (by simp) (next T H2590 ⟨⟨w2594, g0, gx, gm, go, by omega, by omega⟩, h2605, by omega, by omega⟩ (by omega) (by omega))
set_option maxHeartbeats 4000000 in
theorem wl_c22 {kt : Nat → Option mc_E} {CB SB : Nat} {X : mc_S → Prop} {T : wq_T} {H : wq_H} {Len x m o : Nat} {i : Int} (hX : wlX kt CB SB X) (hb : T.2.1 ≤ CB ∧ T.2.2.1 ≤ SB) (hI : wlJ Len x m o T H) (hL : Len ≤ 3072) (hi : 0 ≤ i ∧ i + 6 ≤ Len) (hb2 : T.2.1 + 20 ≤ CB ∧ T.2.2.1 + 500 ≤ SB)  (next : ∀ T' H', wlJ Len x m o T' H' → T'.2.1 ≤ T.2.1 + 20 → T'.2.2.1 ≤ T.2.2.1 + 500 → WL kt CB SB X 1653 (wlL i x m o) [] T' H') : WL kt CB SB X 882 (wlL i x m o) [] T H := by
  obtain ⟨⟨hW, g0, gx, gm, go, hK, hr⟩, hXI, hY1, hY2⟩ := hI
  refine wl_of hX hb cL_882 (rw_aload_n (pc' := 883) (v := .ref x) rfl rfl rfl ?_)
  refine wl_of hX hb cL_883 (rw_aload_n (pc' := 884) (v := .ref 0) rfl rfl rfl ?_)
  refine wl_of hX hb cL_884 (rw_iload (pc' := 886) (z := i) rfl rfl ?_)
  refine wl_of hX hb cL_886 (rw_iconst (pc' := 887) rfl ?_)
  refine wl_of hX hb cL_887 (rw_iadd (pc' := 888) rfl ?_)
  refine wl_of hX hb cL_888 (xa_I (so := 0) (pc' := 889) (a := 0) hW g0 (wsh_s _) (by omega) (wty_s _ _) (by omega) (by omega) rfl (fun b2606 b2607 => ?_))
  refine wl_of hX hb cL_889 (rw_aload_n (pc' := 890) (v := .ref 0) rfl rfl rfl ?_)
  refine wl_of hX hb cL_890 (rw_iload (pc' := 892) (z := i) rfl rfl ?_)
  refine wl_of hX hb cL_892 (rw_iconst (pc' := 893) rfl ?_)
  refine wl_of hX hb cL_893 (rw_iadd (pc' := 894) rfl ?_)
  refine wl_of hX hb cL_894 (xa_I (so := 0) (pc' := 895) (a := 0) hW g0 (wsh_s _) (by omega) (wty_s _ _) (by omega) (by omega) rfl (fun b2608 b2609 => ?_))
  refine wl_of hX hb cL_895 (xc_V (pc' := 898) (r := x) (as := [vI (H 0 ((i + 1).toNat)), vI (H 0 ((i + 2).toNat))]) (st := []) (lm_11_114) rfl rfl (Nat.le_of_ble_eq_true rfl) hW gx sh_1 (by decide) rfl (by decide) (s_105 hW gx ⟨by omega, by omega⟩ ⟨by omega, by omega⟩) (fun R2610 T2611 H2612 p2613 => ?_))
  obtain ⟨e2614, w2616, f2617, z2618, e2615, b2619⟩ := p2613
  subst e2614
  subst e2615
  show WL _ _ _ _ 898 [(4, vI i), (3, .ref o), (2, .ref m), (1, .ref x), (0, .ref 0)] [vI z2618] _ H2612
  refine wl_of hX hb cL_898 (rw_pop (pc' := 899) rfl rfl ?_)
  refine wl_of hX hb cL_899 (rw_aload_n (pc' := 900) (v := .ref m) rfl rfl rfl ?_)
  refine wl_of hX hb cL_900 (rw_aload_n (pc' := 901) (v := .ref 0) rfl rfl rfl ?_)
  refine wl_of hX hb cL_901 (rw_iload (pc' := 903) (z := i) rfl rfl ?_)
  refine wl_of hX hb cL_903 (rw_iconst (pc' := 904) rfl ?_)
  refine wl_of hX hb cL_904 (rw_iadd (pc' := 905) rfl ?_)
  have k2622 : H2612 0 ((i + 1).toNat) = H 0 ((i + 1).toNat) := (f2617 0 ((i + 1).toNat) _ g0 (wmem_s rfl))
  refine wl_of hX hb cL_905 (xa_I (so := 0) (pc' := 906) (a := 0) w2616 g0 (wsh_s _) (by omega) (wty_s _ _) (by omega) (by omega) rfl (fun b2620 b2621 => ?_))
  refine wl_of hX hb cL_906 (rw_aload_n (pc' := 907) (v := .ref 0) rfl rfl rfl ?_)
  refine wl_of hX hb cL_907 (rw_iload (pc' := 909) (z := i) rfl rfl ?_)
  refine wl_of hX hb cL_909 (rw_iconst (pc' := 910) rfl ?_)
  refine wl_of hX hb cL_910 (rw_iadd (pc' := 911) rfl ?_)
  have k2625 : H2612 0 ((i + 2).toNat) = H 0 ((i + 2).toNat) := (f2617 0 ((i + 2).toNat) _ g0 (wmem_s rfl))
  refine wl_of hX hb cL_911 (xa_I (so := 0) (pc' := 912) (a := 0) w2616 g0 (wsh_s _) (by omega) (wty_s _ _) (by omega) (by omega) rfl (fun b2623 b2624 => ?_))
  have k2626 : wKI H2612 m = wKI H m := (wKI_fr hW gm f2617 rfl)
  have k2627 : H2612 x 9 = H x 9 := (f2617 x 9 _ gx rfl)
  have k2628 : H2612 m 6 = H m 6 := (f2617 m 6 _ gm rfl)
  have k2629 : H2612 x 11 = H x 11 := (f2617 x 11 _ gx rfl)
  have k2630 : H2612 m 13 = H m 13 := (f2617 m 13 _ gm rfl)
  have k2631 : H2612 x 8 = H x 8 := (f2617 x 8 _ gx rfl)
  have k2632 : H2612 m 3 = H m 3 := (f2617 m 3 _ gm rfl)
  refine wl_of hX hb cL_912 (xc_V (pc' := 915) (r := m) (as := [vI (H2612 0 ((i + 1).toNat)), vI (H2612 0 ((i + 2).toNat))]) (st := []) (lm_11_117) rfl rfl (Nat.le_of_ble_eq_true rfl) w2616 gm sh_42 (by decide) rfl (by decide) (s_255 w2616 gm ⟨by omega, by omega⟩ ⟨by omega, by omega⟩ (by omega)) (fun R2633 T2634 H2635 p2636 => ?_))
  obtain ⟨e2637, w2639, f2640, z2642, e2638, b2643, p2641⟩ := p2636
  subst e2637
  subst e2638
  show WL _ _ _ _ 915 [(4, vI i), (3, .ref o), (2, .ref m), (1, .ref x), (0, .ref 0)] [vI z2642] _ H2635
  refine wl_of hX hb cL_915 (rw_pop (pc' := 916) rfl rfl ?_)
  refine wl_of hX hb cL_916 (rw_goto (p1 := 1653) (by decide) ?_)
  have k2644 : H2635 x 9 = H2612 x 9 := (f2640 x 9 _ gx rfl)
  have k2645 : H2635 m 6 = H2612 m 6 := (f2640 m 6 _ gm rfl)
  have k2646 : H2635 x 11 = H2612 x 11 := (f2640 x 11 _ gx rfl)
  have k2647 : H2635 m 13 = H2612 m 13 := (f2640 m 13 _ gm rfl)
  have k2648 : H2635 x 8 = H2612 x 8 := (f2640 x 8 _ gx rfl)
  have k2649 : H2635 m 3 = H2612 m 3 := (f2640 m 3 _ gm rfl)
  have h2650 : XI T H2635 x m := (XI_fr w2616 gx f2640 rfl (XI_fr hW gx f2617 rfl hXI))
  exact WL.loc hX (by simp) (next T H2635 ⟨⟨w2639, g0, gx, gm, go, by omega, by omega⟩, h2650, by omega, by omega⟩ (by omega) (by omega))
set_option maxHeartbeats 4000000 in
theorem wl_c23 {kt : Nat → Option mc_E} {CB SB : Nat} {X : mc_S → Prop} {T : wq_T} {H : wq_H} {Len x m o : Nat} {i : Int} (hX : wlX kt CB SB X) (hb : T.2.1 ≤ CB ∧ T.2.2.1 ≤ SB) (hI : wlJ Len x m o T H) (hL : Len ≤ 3072) (hi : 0 ≤ i ∧ i + 6 ≤ Len) (hb2 : T.2.1 + 20 ≤ CB ∧ T.2.2.1 + 500 ≤ SB)  (next : ∀ T' H', wlJ Len x m o T' H' → T'.2.1 ≤ T.2.1 + 20 → T'.2.2.1 ≤ T.2.2.1 + 500 → WL kt CB SB X 1653 (wlL i x m o) [] T' H') : WL kt CB SB X 919 (wlL i x m o) [] T H := by
  obtain ⟨⟨hW, g0, gx, gm, go, hK, hr⟩, hXI, hY1, hY2⟩ := hI
  refine wl_of hX hb cL_919 (rw_aload_n (pc' := 920) (v := .ref x) rfl rfl rfl ?_)
  refine wl_of hX hb cL_920 (rw_aload_n (pc' := 921) (v := .ref 0) rfl rfl rfl ?_)
  refine wl_of hX hb cL_921 (rw_iload (pc' := 923) (z := i) rfl rfl ?_)
  refine wl_of hX hb cL_923 (rw_iconst (pc' := 924) rfl ?_)
  refine wl_of hX hb cL_924 (rw_iadd (pc' := 925) rfl ?_)
  refine wl_of hX hb cL_925 (xa_I (so := 0) (pc' := 926) (a := 0) hW g0 (wsh_s _) (by omega) (wty_s _ _) (by omega) (by omega) rfl (fun b2651 b2652 => ?_))
  refine wl_of hX hb cL_926 (xc_V (pc' := 929) (r := x) (as := [vI (H 0 ((i + 1).toNat))]) (st := []) (lm_11_118) rfl rfl (Nat.le_of_ble_eq_true rfl) hW gx sh_1 (by decide) rfl (by decide) (s_107 hW gx ⟨by omega, by omega⟩) (fun R2653 T2654 H2655 p2656 => ?_))
  obtain ⟨e2657, w2659, f2660, z2661, e2658, b2662⟩ := p2656
  subst e2657
  subst e2658
  show WL _ _ _ _ 929 [(4, vI i), (3, .ref o), (2, .ref m), (1, .ref x), (0, .ref 0)] [vI z2661] _ H2655
  refine wl_of hX hb cL_929 (rw_pop (pc' := 930) rfl rfl ?_)
  refine wl_of hX hb cL_930 (rw_aload_n (pc' := 931) (v := .ref m) rfl rfl rfl ?_)
  refine wl_of hX hb cL_931 (rw_aload_n (pc' := 932) (v := .ref 0) rfl rfl rfl ?_)
  refine wl_of hX hb cL_932 (rw_iload (pc' := 934) (z := i) rfl rfl ?_)
  refine wl_of hX hb cL_934 (rw_iconst (pc' := 935) rfl ?_)
  refine wl_of hX hb cL_935 (rw_iadd (pc' := 936) rfl ?_)
  have k2665 : H2655 0 ((i + 1).toNat) = H 0 ((i + 1).toNat) := (f2660 0 ((i + 1).toNat) _ g0 (wmem_s rfl))
  refine wl_of hX hb cL_936 (xa_I (so := 0) (pc' := 937) (a := 0) w2659 g0 (wsh_s _) (by omega) (wty_s _ _) (by omega) (by omega) rfl (fun b2663 b2664 => ?_))
  have k2666 : wKI H2655 m = wKI H m := (wKI_fr hW gm f2660 rfl)
  have k2667 : H2655 x 9 = H x 9 := (f2660 x 9 _ gx rfl)
  have k2668 : H2655 m 6 = H m 6 := (f2660 m 6 _ gm rfl)
  have k2669 : H2655 x 11 = H x 11 := (f2660 x 11 _ gx rfl)
  have k2670 : H2655 m 13 = H m 13 := (f2660 m 13 _ gm rfl)
  have k2671 : H2655 x 8 = H x 8 := (f2660 x 8 _ gx rfl)
  have k2672 : H2655 m 3 = H m 3 := (f2660 m 3 _ gm rfl)
  refine wl_of hX hb cL_937 (xc_V (pc' := 940) (r := m) (as := [vI (H2655 0 ((i + 1).toNat))]) (st := []) (lm_11_121) rfl rfl (Nat.le_of_ble_eq_true rfl) w2659 gm sh_42 (by decide) rfl (by decide) (s_256 w2659 gm ⟨by omega, by omega⟩ (by omega)) (fun R2673 T2674 H2675 p2676 => ?_))
  obtain ⟨e2677, w2679, f2680, z2682, e2678, b2683, p2681⟩ := p2676
  subst e2677
  subst e2678
  show WL _ _ _ _ 940 [(4, vI i), (3, .ref o), (2, .ref m), (1, .ref x), (0, .ref 0)] [vI z2682] _ H2675
  refine wl_of hX hb cL_940 (rw_pop (pc' := 941) rfl rfl ?_)
  refine wl_of hX hb cL_941 (rw_goto (p1 := 1653) (by decide) ?_)
  have k2684 : H2675 x 9 = H2655 x 9 := (f2680 x 9 _ gx rfl)
  have k2685 : H2675 m 6 = H2655 m 6 := (f2680 m 6 _ gm rfl)
  have k2686 : H2675 x 11 = H2655 x 11 := (f2680 x 11 _ gx rfl)
  have k2687 : H2675 m 13 = H2655 m 13 := (f2680 m 13 _ gm rfl)
  have k2688 : H2675 x 8 = H2655 x 8 := (f2680 x 8 _ gx rfl)
  have k2689 : H2675 m 3 = H2655 m 3 := (f2680 m 3 _ gm rfl)
  have h2690 : XI T H2675 x m := (XI_fr w2659 gx f2680 rfl (XI_fr hW gx f2660 rfl hXI))
  exact WL.loc hX (by simp) (next T H2675 ⟨⟨w2679, g0, gx, gm, go, by omega, by omega⟩, h2690, by omega, by omega⟩ (by omega) (by omega))
set_option maxHeartbeats 4000000 in
theorem wl_c24 {kt : Nat → Option mc_E} {CB SB : Nat} {X : mc_S → Prop} {T : wq_T} {H : wq_H} {Len x m o : Nat} {i : Int} (hX : wlX kt CB SB X) (hb : T.2.1 ≤ CB ∧ T.2.2.1 ≤ SB) (hI : wlJ Len x m o T H) (hL : Len ≤ 3072) (hi : 0 ≤ i ∧ i + 6 ≤ Len) (hb2 : T.2.1 + 20 ≤ CB ∧ T.2.2.1 + 500 ≤ SB)  (next : ∀ T' H', wlJ Len x m o T' H' → T'.2.1 ≤ T.2.1 + 20 → T'.2.2.1 ≤ T.2.2.1 + 500 → WL kt CB SB X 1653 (wlL i x m o) [] T' H') : WL kt CB SB X 944 (wlL i x m o) [] T H := by
  obtain ⟨⟨hW, g0, gx, gm, go, hK, hr⟩, hXI, hY1, hY2⟩ := hI
  refine wl_of hX hb cL_944 (rw_aload_n (pc' := 945) (v := .ref x) rfl rfl rfl ?_)
  refine wl_of hX hb cL_945 (xc_V (pc' := 948) (r := x) (as := []) (st := []) (lm_11_122) rfl rfl (Nat.le_of_ble_eq_true rfl) hW gx sh_1 (by decide) rfl (by decide) (s_108 hW gx) (fun R2691 T2692 H2693 p2694 => ?_))
  obtain ⟨e2695, w2697, f2698, z2699, e2696, b2700⟩ := p2694
  subst e2695
  subst e2696
  show WL _ _ _ _ 948 [(4, vI i), (3, .ref o), (2, .ref m), (1, .ref x), (0, .ref 0)] [vL z2699] _ H2693
  refine wl_of hX hb cL_948 (rw_pop2 (pc' := 949) rfl rfl ?_)
  refine wl_of hX hb cL_949 (rw_aload_n (pc' := 950) (v := .ref m) rfl rfl rfl ?_)
  have k2701 : wKI H2693 m = wKI H m := (wKI_fr hW gm f2698 rfl)
  have k2702 : H2693 x 9 = H x 9 := (f2698 x 9 _ gx rfl)
  have k2703 : H2693 m 6 = H m 6 := (f2698 m 6 _ gm rfl)
  have k2704 : H2693 x 11 = H x 11 := (f2698 x 11 _ gx rfl)
  have k2705 : H2693 m 13 = H m 13 := (f2698 m 13 _ gm rfl)
  have k2706 : H2693 x 8 = H x 8 := (f2698 x 8 _ gx rfl)
  have k2707 : H2693 m 3 = H m 3 := (f2698 m 3 _ gm rfl)
  refine wl_of hX hb cL_950 (xc_V (pc' := 953) (r := m) (as := []) (st := []) (lm_11_125) rfl rfl (Nat.le_of_ble_eq_true rfl) w2697 gm sh_42 (by decide) rfl (by decide) (s_258 w2697 gm (by omega)) (fun R2708 T2709 H2710 p2711 => ?_))
  obtain ⟨e2712, w2714, f2715, z2717, e2713, b2718, p2716⟩ := p2711
  subst e2712
  subst e2713
  show WL _ _ _ _ 953 [(4, vI i), (3, .ref o), (2, .ref m), (1, .ref x), (0, .ref 0)] [vL z2717] _ H2710
  refine wl_of hX hb cL_953 (rw_pop2 (pc' := 954) rfl rfl ?_)
  refine wl_of hX hb cL_954 (rw_goto (p1 := 1653) (by decide) ?_)
  have k2719 : H2710 x 9 = H2693 x 9 := (f2715 x 9 _ gx rfl)
  have k2720 : H2710 m 6 = H2693 m 6 := (f2715 m 6 _ gm rfl)
  have k2721 : H2710 x 11 = H2693 x 11 := (f2715 x 11 _ gx rfl)
  have k2722 : H2710 m 13 = H2693 m 13 := (f2715 m 13 _ gm rfl)
  have k2723 : H2710 x 8 = H2693 x 8 := (f2715 x 8 _ gx rfl)
  have k2724 : H2710 m 3 = H2693 m 3 := (f2715 m 3 _ gm rfl)
  have h2725 : XI T H2710 x m := (XI_fr w2697 gx f2715 rfl (XI_fr hW gx f2698 rfl hXI))
  exact WL.loc hX (by simp) (next T H2710 ⟨⟨w2714, g0, gx, gm, go, by omega, by omega⟩, h2725, by omega, by omega⟩ (by omega) (by omega))
set_option maxHeartbeats 4000000 in
theorem wl_c25 {kt : Nat → Option mc_E} {CB SB : Nat} {X : mc_S → Prop} {T : wq_T} {H : wq_H} {Len x m o : Nat} {i : Int} (hX : wlX kt CB SB X) (hb : T.2.1 ≤ CB ∧ T.2.2.1 ≤ SB) (hI : wlJ Len x m o T H) (hL : Len ≤ 3072) (hi : 0 ≤ i ∧ i + 6 ≤ Len) (hb2 : T.2.1 + 20 ≤ CB ∧ T.2.2.1 + 500 ≤ SB)  (next : ∀ T' H', wlJ Len x m o T' H' → T'.2.1 ≤ T.2.1 + 20 → T'.2.2.1 ≤ T.2.2.1 + 500 → WL kt CB SB X 1653 (wlL i x m o) [] T' H') : WL kt CB SB X 957 (wlL i x m o) [] T H := by
  obtain ⟨⟨hW, g0, gx, gm, go, hK, hr⟩, hXI, hY1, hY2⟩ := hI
  refine wl_of hX hb cL_957 (rw_aload_n (pc' := 958) (v := .ref x) rfl rfl rfl ?_)
  refine wl_of hX hb cL_958 (rw_aload_n (pc' := 959) (v := .ref 0) rfl rfl rfl ?_)
  refine wl_of hX hb cL_959 (rw_iload (pc' := 961) (z := i) rfl rfl ?_)
  refine wl_of hX hb cL_961 (rw_iconst (pc' := 962) rfl ?_)
  refine wl_of hX hb cL_962 (rw_iadd (pc' := 963) rfl ?_)
  refine wl_of hX hb cL_963 (xa_I (so := 0) (pc' := 964) (a := 0) hW g0 (wsh_s _) (by omega) (wty_s _ _) (by omega) (by omega) rfl (fun b2726 b2727 => ?_))
  refine wl_of hX hb cL_964 (rw_aload_n (pc' := 965) (v := .ref 0) rfl rfl rfl ?_)
  refine wl_of hX hb cL_965 (rw_iload (pc' := 967) (z := i) rfl rfl ?_)
  refine wl_of hX hb cL_967 (rw_iconst (pc' := 968) rfl ?_)
  refine wl_of hX hb cL_968 (rw_iadd (pc' := 969) rfl ?_)
  refine wl_of hX hb cL_969 (xa_I (so := 0) (pc' := 970) (a := 0) hW g0 (wsh_s _) (by omega) (wty_s _ _) (by omega) (by omega) rfl (fun b2728 b2729 => ?_))
  refine wl_of hX hb cL_970 (xc_V (pc' := 973) (r := x) (as := [vI (H 0 ((i + 1).toNat)), vI (H 0 ((i + 2).toNat))]) (st := []) (lm_11_126) rfl rfl (Nat.le_of_ble_eq_true rfl) hW gx sh_1 (by decide) rfl (by decide) (s_109 hW gx ⟨by omega, by omega⟩ ⟨by omega, by omega⟩) (fun R2730 T2731 H2732 p2733 => ?_))
  obtain ⟨e2734, w2736, f2737, z2738, e2735, b2739⟩ := p2733
  subst e2734
  subst e2735
  show WL _ _ _ _ 973 [(4, vI i), (3, .ref o), (2, .ref m), (1, .ref x), (0, .ref 0)] [vI z2738] _ H2732
  refine wl_of hX hb cL_973 (rw_pop (pc' := 974) rfl rfl ?_)
  refine wl_of hX hb cL_974 (rw_aload_n (pc' := 975) (v := .ref m) rfl rfl rfl ?_)
  refine wl_of hX hb cL_975 (rw_aload_n (pc' := 976) (v := .ref 0) rfl rfl rfl ?_)
  refine wl_of hX hb cL_976 (rw_iload (pc' := 978) (z := i) rfl rfl ?_)
  refine wl_of hX hb cL_978 (rw_iconst (pc' := 979) rfl ?_)
  refine wl_of hX hb cL_979 (rw_iadd (pc' := 980) rfl ?_)
  have k2742 : H2732 0 ((i + 1).toNat) = H 0 ((i + 1).toNat) := (f2737 0 ((i + 1).toNat) _ g0 (wmem_s rfl))
  refine wl_of hX hb cL_980 (xa_I (so := 0) (pc' := 981) (a := 0) w2736 g0 (wsh_s _) (by omega) (wty_s _ _) (by omega) (by omega) rfl (fun b2740 b2741 => ?_))
  refine wl_of hX hb cL_981 (rw_aload_n (pc' := 982) (v := .ref 0) rfl rfl rfl ?_)
  refine wl_of hX hb cL_982 (rw_iload (pc' := 984) (z := i) rfl rfl ?_)
  refine wl_of hX hb cL_984 (rw_iconst (pc' := 985) rfl ?_)
  refine wl_of hX hb cL_985 (rw_iadd (pc' := 986) rfl ?_)
  have k2745 : H2732 0 ((i + 2).toNat) = H 0 ((i + 2).toNat) := (f2737 0 ((i + 2).toNat) _ g0 (wmem_s rfl))
  refine wl_of hX hb cL_986 (xa_I (so := 0) (pc' := 987) (a := 0) w2736 g0 (wsh_s _) (by omega) (wty_s _ _) (by omega) (by omega) rfl (fun b2743 b2744 => ?_))
  have k2746 : wKI H2732 m = wKI H m := (wKI_fr hW gm f2737 rfl)
  have k2747 : H2732 x 9 = H x 9 := (f2737 x 9 _ gx rfl)
  have k2748 : H2732 m 6 = H m 6 := (f2737 m 6 _ gm rfl)
  have k2749 : H2732 x 11 = H x 11 := (f2737 x 11 _ gx rfl)
  have k2750 : H2732 m 13 = H m 13 := (f2737 m 13 _ gm rfl)
  have k2751 : H2732 x 8 = H x 8 := (f2737 x 8 _ gx rfl)
  have k2752 : H2732 m 3 = H m 3 := (f2737 m 3 _ gm rfl)
  refine wl_of hX hb cL_987 (xc_V (pc' := 990) (r := m) (as := [vI (H2732 0 ((i + 1).toNat)), vI (H2732 0 ((i + 2).toNat))]) (st := []) (lm_11_129) rfl rfl (Nat.le_of_ble_eq_true rfl) w2736 gm sh_42 (by decide) rfl (by decide) (s_259 w2736 gm ⟨by omega, by omega⟩ ⟨by omega, by omega⟩ (by omega)) (fun R2753 T2754 H2755 p2756 => ?_))
  obtain ⟨e2757, w2759, f2760, z2762, e2758, b2763, p2761⟩ := p2756
  subst e2757
  subst e2758
  show WL _ _ _ _ 990 [(4, vI i), (3, .ref o), (2, .ref m), (1, .ref x), (0, .ref 0)] [vI z2762] _ H2755
  refine wl_of hX hb cL_990 (rw_pop (pc' := 991) rfl rfl ?_)
  refine wl_of hX hb cL_991 (rw_goto (p1 := 1653) (by decide) ?_)
  have k2764 : H2755 x 9 = H2732 x 9 := (f2760 x 9 _ gx rfl)
  have k2765 : H2755 m 6 = H2732 m 6 := (f2760 m 6 _ gm rfl)
  have k2766 : H2755 x 11 = H2732 x 11 := (f2760 x 11 _ gx rfl)
  have k2767 : H2755 m 13 = H2732 m 13 := (f2760 m 13 _ gm rfl)
  have k2768 : H2755 x 8 = H2732 x 8 := (f2760 x 8 _ gx rfl)
  have k2769 : H2755 m 3 = H2732 m 3 := (f2760 m 3 _ gm rfl)
  have h2770 : XI T H2755 x m := (XI_fr w2736 gx f2760 rfl (XI_fr hW gx f2737 rfl hXI))
  exact WL.loc hX (by simp) (next T H2755 ⟨⟨w2759, g0, gx, gm, go, by omega, by omega⟩, h2770, by omega, by omega⟩ (by omega) (by omega))
set_option maxHeartbeats 4000000 in
theorem wl_c26 {kt : Nat → Option mc_E} {CB SB : Nat} {X : mc_S → Prop} {T : wq_T} {H : wq_H} {Len x m o : Nat} {i : Int} (hX : wlX kt CB SB X) (hb : T.2.1 ≤ CB ∧ T.2.2.1 ≤ SB) (hI : wlJ Len x m o T H) (hL : Len ≤ 3072) (hi : 0 ≤ i ∧ i + 6 ≤ Len) (hb2 : T.2.1 + 20 ≤ CB ∧ T.2.2.1 + 500 ≤ SB)  (next : ∀ T' H', wlJ Len x m o T' H' → T'.2.1 ≤ T.2.1 + 20 → T'.2.2.1 ≤ T.2.2.1 + 500 → WL kt CB SB X 1653 (wlL i x m o) [] T' H') : WL kt CB SB X 994 (wlL i x m o) [] T H := by
  obtain ⟨⟨hW, g0, gx, gm, go, hK, hr⟩, hXI, hY1, hY2⟩ := hI
  refine wl_of hX hb cL_994 (rw_aload_n (pc' := 995) (v := .ref x) rfl rfl rfl ?_)
  refine wl_of hX hb cL_995 (rw_aload_n (pc' := 996) (v := .ref 0) rfl rfl rfl ?_)
  refine wl_of hX hb cL_996 (rw_iload (pc' := 998) (z := i) rfl rfl ?_)
  refine wl_of hX hb cL_998 (rw_iconst (pc' := 999) rfl ?_)
  refine wl_of hX hb cL_999 (rw_iadd (pc' := 1000) rfl ?_)
  refine wl_of hX hb cL_1000 (xa_I (so := 0) (pc' := 1001) (a := 0) hW g0 (wsh_s _) (by omega) (wty_s _ _) (by omega) (by omega) rfl (fun b2771 b2772 => ?_))
  refine wl_of hX hb cL_1001 (xc_V (pc' := 1004) (r := x) (as := [vI (H 0 ((i + 1).toNat))]) (st := []) (lm_11_130) rfl rfl (Nat.le_of_ble_eq_true rfl) hW gx sh_1 (by decide) rfl (by decide) (s_112 hW gx ⟨by omega, by omega⟩) (fun R2773 T2774 H2775 p2776 => ?_))
  obtain ⟨e2777, w2779, f2780, z2781, e2778, b2782⟩ := p2776
  subst e2777
  subst e2778
  show WL _ _ _ _ 1004 [(4, vI i), (3, .ref o), (2, .ref m), (1, .ref x), (0, .ref 0)] [vL z2781] _ H2775
  refine wl_of hX hb cL_1004 (rw_pop2 (pc' := 1005) rfl rfl ?_)
  refine wl_of hX hb cL_1005 (rw_aload_n (pc' := 1006) (v := .ref m) rfl rfl rfl ?_)
  refine wl_of hX hb cL_1006 (rw_aload_n (pc' := 1007) (v := .ref 0) rfl rfl rfl ?_)
  refine wl_of hX hb cL_1007 (rw_iload (pc' := 1009) (z := i) rfl rfl ?_)
  refine wl_of hX hb cL_1009 (rw_iconst (pc' := 1010) rfl ?_)
  refine wl_of hX hb cL_1010 (rw_iadd (pc' := 1011) rfl ?_)
  have k2785 : H2775 0 ((i + 1).toNat) = H 0 ((i + 1).toNat) := (f2780 0 ((i + 1).toNat) _ g0 (wmem_s rfl))
  refine wl_of hX hb cL_1011 (xa_I (so := 0) (pc' := 1012) (a := 0) w2779 g0 (wsh_s _) (by omega) (wty_s _ _) (by omega) (by omega) rfl (fun b2783 b2784 => ?_))
  have k2786 : wKI H2775 m = wKI H m := (wKI_fr hW gm f2780 rfl)
  have k2787 : H2775 x 9 = H x 9 := (f2780 x 9 _ gx rfl)
  have k2788 : H2775 m 6 = H m 6 := (f2780 m 6 _ gm rfl)
  have k2789 : H2775 x 11 = H x 11 := (f2780 x 11 _ gx rfl)
  have k2790 : H2775 m 13 = H m 13 := (f2780 m 13 _ gm rfl)
  have k2791 : H2775 x 8 = H x 8 := (f2780 x 8 _ gx rfl)
  have k2792 : H2775 m 3 = H m 3 := (f2780 m 3 _ gm rfl)
  refine wl_of hX hb cL_1012 (xc_V (pc' := 1015) (r := m) (as := [vI (H2775 0 ((i + 1).toNat))]) (st := []) (lm_11_134) rfl rfl (Nat.le_of_ble_eq_true rfl) w2779 gm sh_42 (by decide) rfl (by decide) (s_260 w2779 gm ⟨by omega, by omega⟩ (by omega)) (fun R2793 T2794 H2795 p2796 => ?_))
  obtain ⟨e2797, w2799, f2800, z2802, e2798, b2803, p2801⟩ := p2796
  subst e2797
  subst e2798
  show WL _ _ _ _ 1015 [(4, vI i), (3, .ref o), (2, .ref m), (1, .ref x), (0, .ref 0)] [vL z2802] _ H2795
  refine wl_of hX hb cL_1015 (rw_pop2 (pc' := 1016) rfl rfl ?_)
  refine wl_of hX hb cL_1016 (rw_goto (p1 := 1653) (by decide) ?_)
  have k2804 : H2795 x 9 = H2775 x 9 := (f2800 x 9 _ gx rfl)
  have k2805 : H2795 m 6 = H2775 m 6 := (f2800 m 6 _ gm rfl)
  have k2806 : H2795 x 11 = H2775 x 11 := (f2800 x 11 _ gx rfl)
  have k2807 : H2795 m 13 = H2775 m 13 := (f2800 m 13 _ gm rfl)
  have k2808 : H2795 x 8 = H2775 x 8 := (f2800 x 8 _ gx rfl)
  have k2809 : H2795 m 3 = H2775 m 3 := (f2800 m 3 _ gm rfl)
  have h2810 : XI T H2795 x m := (XI_fr w2779 gx f2800 rfl (XI_fr hW gx f2780 rfl hXI))
  exact WL.loc hX (by simp) (next T H2795 ⟨⟨w2799, g0, gx, gm, go, by omega, by omega⟩, h2810, by omega, by omega⟩ (by omega) (by omega))
set_option maxHeartbeats 4000000 in
theorem wl_c27 {kt : Nat → Option mc_E} {CB SB : Nat} {X : mc_S → Prop} {T : wq_T} {H : wq_H} {Len x m o : Nat} {i : Int} (hX : wlX kt CB SB X) (hb : T.2.1 ≤ CB ∧ T.2.2.1 ≤ SB) (hI : wlJ Len x m o T H) (hL : Len ≤ 3072) (hi : 0 ≤ i ∧ i + 6 ≤ Len) (hb2 : T.2.1 + 20 ≤ CB ∧ T.2.2.1 + 500 ≤ SB)  (next : ∀ T' H', wlJ Len x m o T' H' → T'.2.1 ≤ T.2.1 + 20 → T'.2.2.1 ≤ T.2.2.1 + 500 → WL kt CB SB X 1653 (wlL i x m o) [] T' H') : WL kt CB SB X 1019 (wlL i x m o) [] T H := by
  obtain ⟨⟨hW, g0, gx, gm, go, hK, hr⟩, hXI, hY1, hY2⟩ := hI
  refine wl_of hX hb cL_1019 (rw_aload_n (pc' := 1020) (v := .ref x) rfl rfl rfl ?_)
  refine wl_of hX hb cL_1020 (rw_aload_n (pc' := 1021) (v := .ref 0) rfl rfl rfl ?_)
  refine wl_of hX hb cL_1021 (rw_iload (pc' := 1023) (z := i) rfl rfl ?_)
  refine wl_of hX hb cL_1023 (rw_iconst (pc' := 1024) rfl ?_)
  refine wl_of hX hb cL_1024 (rw_iadd (pc' := 1025) rfl ?_)
  refine wl_of hX hb cL_1025 (xa_I (so := 0) (pc' := 1026) (a := 0) hW g0 (wsh_s _) (by omega) (wty_s _ _) (by omega) (by omega) rfl (fun b2811 b2812 => ?_))
  refine wl_of hX hb cL_1026 (rw_aload_n (pc' := 1027) (v := .ref 0) rfl rfl rfl ?_)
  refine wl_of hX hb cL_1027 (rw_iload (pc' := 1029) (z := i) rfl rfl ?_)
  refine wl_of hX hb cL_1029 (rw_iconst (pc' := 1030) rfl ?_)
  refine wl_of hX hb cL_1030 (rw_iadd (pc' := 1031) rfl ?_)
  refine wl_of hX hb cL_1031 (xa_I (so := 0) (pc' := 1032) (a := 0) hW g0 (wsh_s _) (by omega) (wty_s _ _) (by omega) (by omega) rfl (fun b2813 b2814 => ?_))
  refine wl_of hX hb cL_1032 (xc_V (pc' := 1035) (r := x) (as := [vI (H 0 ((i + 1).toNat)), vI (H 0 ((i + 2).toNat))]) (st := []) (lm_11_135) rfl rfl (Nat.le_of_ble_eq_true rfl) hW gx sh_1 (by decide) rfl (by decide) (s_114 hW gx ⟨by omega, by omega⟩ ⟨by omega, by omega⟩) (fun R2815 T2816 H2817 p2818 => ?_))
  obtain ⟨e2819, w2821, f2822, z2823, e2820, b2824⟩ := p2818
  subst e2819
  subst e2820
  show WL _ _ _ _ 1035 [(4, vI i), (3, .ref o), (2, .ref m), (1, .ref x), (0, .ref 0)] [vI z2823] _ H2817
  refine wl_of hX hb cL_1035 (rw_pop (pc' := 1036) rfl rfl ?_)
  refine wl_of hX hb cL_1036 (rw_aload_n (pc' := 1037) (v := .ref m) rfl rfl rfl ?_)
  refine wl_of hX hb cL_1037 (rw_aload_n (pc' := 1038) (v := .ref 0) rfl rfl rfl ?_)
  refine wl_of hX hb cL_1038 (rw_iload (pc' := 1040) (z := i) rfl rfl ?_)
  refine wl_of hX hb cL_1040 (rw_iconst (pc' := 1041) rfl ?_)
  refine wl_of hX hb cL_1041 (rw_iadd (pc' := 1042) rfl ?_)
  have k2827 : H2817 0 ((i + 1).toNat) = H 0 ((i + 1).toNat) := (f2822 0 ((i + 1).toNat) _ g0 (wmem_s rfl))
  refine wl_of hX hb cL_1042 (xa_I (so := 0) (pc' := 1043) (a := 0) w2821 g0 (wsh_s _) (by omega) (wty_s _ _) (by omega) (by omega) rfl (fun b2825 b2826 => ?_))
  refine wl_of hX hb cL_1043 (rw_aload_n (pc' := 1044) (v := .ref 0) rfl rfl rfl ?_)
  refine wl_of hX hb cL_1044 (rw_iload (pc' := 1046) (z := i) rfl rfl ?_)
  refine wl_of hX hb cL_1046 (rw_iconst (pc' := 1047) rfl ?_)
  refine wl_of hX hb cL_1047 (rw_iadd (pc' := 1048) rfl ?_)
  have k2830 : H2817 0 ((i + 2).toNat) = H 0 ((i + 2).toNat) := (f2822 0 ((i + 2).toNat) _ g0 (wmem_s rfl))
  refine wl_of hX hb cL_1048 (xa_I (so := 0) (pc' := 1049) (a := 0) w2821 g0 (wsh_s _) (by omega) (wty_s _ _) (by omega) (by omega) rfl (fun b2828 b2829 => ?_))
  have k2831 : wKI H2817 m = wKI H m := (wKI_fr hW gm f2822 rfl)
  have k2832 : H2817 x 9 = H x 9 := (f2822 x 9 _ gx rfl)
  have k2833 : H2817 m 6 = H m 6 := (f2822 m 6 _ gm rfl)
  have k2834 : H2817 x 11 = H x 11 := (f2822 x 11 _ gx rfl)
  have k2835 : H2817 m 13 = H m 13 := (f2822 m 13 _ gm rfl)
  have k2836 : H2817 x 8 = H x 8 := (f2822 x 8 _ gx rfl)
  have k2837 : H2817 m 3 = H m 3 := (f2822 m 3 _ gm rfl)
  refine wl_of hX hb cL_1049 (xc_V (pc' := 1052) (r := m) (as := [vI (H2817 0 ((i + 1).toNat)), vI (H2817 0 ((i + 2).toNat))]) (st := []) (lm_11_138) rfl rfl (Nat.le_of_ble_eq_true rfl) w2821 gm sh_42 (by decide) rfl (by decide) (s_261 w2821 gm ⟨by omega, by omega⟩ ⟨by omega, by omega⟩ (by omega)) (fun R2838 T2839 H2840 p2841 => ?_))
  obtain ⟨e2842, w2844, f2845, z2847, e2843, b2848, p2846⟩ := p2841
  subst e2842
  subst e2843
  show WL _ _ _ _ 1052 [(4, vI i), (3, .ref o), (2, .ref m), (1, .ref x), (0, .ref 0)] [vI z2847] _ H2840
  refine wl_of hX hb cL_1052 (rw_pop (pc' := 1053) rfl rfl ?_)
  refine wl_of hX hb cL_1053 (rw_goto (p1 := 1653) (by decide) ?_)
  have k2849 : H2840 x 9 = H2817 x 9 := (f2845 x 9 _ gx rfl)
  have k2850 : H2840 m 6 = H2817 m 6 := (f2845 m 6 _ gm rfl)
  have k2851 : H2840 x 11 = H2817 x 11 := (f2845 x 11 _ gx rfl)
  have k2852 : H2840 m 13 = H2817 m 13 := (f2845 m 13 _ gm rfl)
  have k2853 : H2840 x 8 = H2817 x 8 := (f2845 x 8 _ gx rfl)
  have k2854 : H2840 m 3 = H2817 m 3 := (f2845 m 3 _ gm rfl)
  have h2855 : XI T H2840 x m := (XI_fr w2821 gx f2845 rfl (XI_fr hW gx f2822 rfl hXI))
  exact WL.loc hX (by simp) (next T H2840 ⟨⟨w2844, g0, gx, gm, go, by omega, by omega⟩, h2855, by omega, by omega⟩ (by omega) (by omega))
set_option maxHeartbeats 4000000 in
theorem wl_c28 {kt : Nat → Option mc_E} {CB SB : Nat} {X : mc_S → Prop} {T : wq_T} {H : wq_H} {Len x m o : Nat} {i : Int} (hX : wlX kt CB SB X) (hb : T.2.1 ≤ CB ∧ T.2.2.1 ≤ SB) (hI : wlJ Len x m o T H) (hL : Len ≤ 3072) (hi : 0 ≤ i ∧ i + 6 ≤ Len) (hb2 : T.2.1 + 20 ≤ CB ∧ T.2.2.1 + 500 ≤ SB)  (next : ∀ T' H', wlJ Len x m o T' H' → T'.2.1 ≤ T.2.1 + 20 → T'.2.2.1 ≤ T.2.2.1 + 500 → WL kt CB SB X 1653 (wlL i x m o) [] T' H') : WL kt CB SB X 1056 (wlL i x m o) [] T H := by
  obtain ⟨⟨hW, g0, gx, gm, go, hK, hr⟩, hXI, hY1, hY2⟩ := hI
  refine wl_of hX hb cL_1056 (rw_aload_n (pc' := 1057) (v := .ref x) rfl rfl rfl ?_)
  refine wl_of hX hb cL_1057 (rw_aload_n (pc' := 1058) (v := .ref 0) rfl rfl rfl ?_)
  refine wl_of hX hb cL_1058 (rw_iload (pc' := 1060) (z := i) rfl rfl ?_)
  refine wl_of hX hb cL_1060 (rw_iconst (pc' := 1061) rfl ?_)
  refine wl_of hX hb cL_1061 (rw_iadd (pc' := 1062) rfl ?_)
  refine wl_of hX hb cL_1062 (xa_I (so := 0) (pc' := 1063) (a := 0) hW g0 (wsh_s _) (by omega) (wty_s _ _) (by omega) (by omega) rfl (fun b2856 b2857 => ?_))
  refine wl_of hX hb cL_1063 (rw_aload_n (pc' := 1064) (v := .ref 0) rfl rfl rfl ?_)
  refine wl_of hX hb cL_1064 (rw_iload (pc' := 1066) (z := i) rfl rfl ?_)
  refine wl_of hX hb cL_1066 (rw_iconst (pc' := 1067) rfl ?_)
  refine wl_of hX hb cL_1067 (rw_iadd (pc' := 1068) rfl ?_)
  refine wl_of hX hb cL_1068 (xa_I (so := 0) (pc' := 1069) (a := 0) hW g0 (wsh_s _) (by omega) (wty_s _ _) (by omega) (by omega) rfl (fun b2858 b2859 => ?_))
  refine wl_of hX hb cL_1069 (rw_if_eq (p1 := 1076) (p2 := 1072) (by decide) rfl ⟨by omega, by omega⟩ (fun c2860 => ?_) (fun c2860 => ?_))
  · refine wl_of hX hb cL_1076 (rw_iconst (pc' := 1077) rfl ?_)
    refine wl_of hX hb cL_1077 (xc_V (pc' := 1080) (r := x) (as := [vI (H 0 ((i + 1).toNat)), vI 0]) (st := []) (lm_11_139) rfl rfl (Nat.le_of_ble_eq_true rfl) hW gx sh_1 (by decide) rfl (by decide) (s_117 hW gx ⟨by omega, by omega⟩ ⟨by decide, by decide⟩) (fun R2861 T2862 H2863 p2864 => ?_))
    obtain ⟨e2865, w2867, f2868, z2869, e2866, b2870⟩ := p2864
    subst e2865
    subst e2866
    show WL _ _ _ _ 1080 [(4, vI i), (3, .ref o), (2, .ref m), (1, .ref x), (0, .ref 0)] [vI z2869] _ H2863
    refine wl_of hX hb cL_1080 (rw_pop (pc' := 1081) rfl rfl ?_)
    refine wl_of hX hb cL_1081 (rw_aload_n (pc' := 1082) (v := .ref m) rfl rfl rfl ?_)
    refine wl_of hX hb cL_1082 (rw_aload_n (pc' := 1083) (v := .ref 0) rfl rfl rfl ?_)
    refine wl_of hX hb cL_1083 (rw_iload (pc' := 1085) (z := i) rfl rfl ?_)
    refine wl_of hX hb cL_1085 (rw_iconst (pc' := 1086) rfl ?_)
    refine wl_of hX hb cL_1086 (rw_iadd (pc' := 1087) rfl ?_)
    have k2873 : H2863 0 ((i + 1).toNat) = H 0 ((i + 1).toNat) := (f2868 0 ((i + 1).toNat) _ g0 (wmem_s rfl))
    refine wl_of hX hb cL_1087 (xa_I (so := 0) (pc' := 1088) (a := 0) w2867 g0 (wsh_s _) (by omega) (wty_s _ _) (by omega) (by omega) rfl (fun b2871 b2872 => ?_))
    refine wl_of hX hb cL_1088 (rw_aload_n (pc' := 1089) (v := .ref 0) rfl rfl rfl ?_)
    refine wl_of hX hb cL_1089 (rw_iload (pc' := 1091) (z := i) rfl rfl ?_)
    refine wl_of hX hb cL_1091 (rw_iconst (pc' := 1092) rfl ?_)
    refine wl_of hX hb cL_1092 (rw_iadd (pc' := 1093) rfl ?_)
    have k2876 : H2863 0 ((i + 2).toNat) = H 0 ((i + 2).toNat) := (f2868 0 ((i + 2).toNat) _ g0 (wmem_s rfl))
    refine wl_of hX hb cL_1093 (xa_I (so := 0) (pc' := 1094) (a := 0) w2867 g0 (wsh_s _) (by omega) (wty_s _ _) (by omega) (by omega) rfl (fun b2874 b2875 => ?_))
    refine wl_of hX hb cL_1094 (rw_if_eq (p1 := 1101) (p2 := 1097) (by decide) rfl ⟨by omega, by omega⟩ (fun c2877 => ?_) (fun c2877 => ?_))
    · refine wl_of hX hb cL_1101 (rw_iconst (pc' := 1102) rfl ?_)
      have k2878 : wKI H2863 m = wKI H m := (wKI_fr hW gm f2868 rfl)
      have k2879 : H2863 x 9 = H x 9 := (f2868 x 9 _ gx rfl)
      have k2880 : H2863 m 6 = H m 6 := (f2868 m 6 _ gm rfl)
      have k2881 : H2863 x 11 = H x 11 := (f2868 x 11 _ gx rfl)
      have k2882 : H2863 m 13 = H m 13 := (f2868 m 13 _ gm rfl)
      have k2883 : H2863 x 8 = H x 8 := (f2868 x 8 _ gx rfl)
      have k2884 : H2863 m 3 = H m 3 := (f2868 m 3 _ gm rfl)
      refine wl_of hX hb cL_1102 (xc_V (pc' := 1105) (r := m) (as := [vI (H2863 0 ((i + 1).toNat)), vI 0]) (st := []) (lm_11_142) rfl rfl (Nat.le_of_ble_eq_true rfl) w2867 gm sh_42 (by decide) rfl (by decide) (s_263 w2867 gm ⟨by omega, by omega⟩ ⟨by decide, by decide⟩ (by omega)) (fun R2885 T2886 H2887 p2888 => ?_))
      obtain ⟨e2889, w2891, f2892, z2894, e2890, b2895, p2893⟩ := p2888
      subst e2889
      subst e2890
      show WL _ _ _ _ 1105 [(4, vI i), (3, .ref o), (2, .ref m), (1, .ref x), (0, .ref 0)] [vI z2894] _ H2887
      refine wl_of hX hb cL_1105 (rw_pop (pc' := 1106) rfl rfl ?_)
      refine wl_of hX hb cL_1106 (rw_goto (p1 := 1653) (by decide) ?_)
      have k2896 : H2887 x 9 = H2863 x 9 := (f2892 x 9 _ gx rfl)
      have k2897 : H2887 m 6 = H2863 m 6 := (f2892 m 6 _ gm rfl)
      have k2898 : H2887 x 11 = H2863 x 11 := (f2892 x 11 _ gx rfl)
      have k2899 : H2887 m 13 = H2863 m 13 := (f2892 m 13 _ gm rfl)
      have k2900 : H2887 x 8 = H2863 x 8 := (f2892 x 8 _ gx rfl)
      have k2901 : H2887 m 3 = H2863 m 3 := (f2892 m 3 _ gm rfl)
      have h2902 : XI T H2887 x m := (XI_fr w2867 gx f2892 rfl (XI_fr hW gx f2868 rfl hXI))
      exact WL.loc hX (by simp) (next T H2887 ⟨⟨w2891, g0, gx, gm, go, by omega, by omega⟩, h2902, by omega, by omega⟩ (by omega) (by omega))
    · exfalso
      omega
  · refine wl_of hX hb cL_1072 (rw_iconst (pc' := 1073) rfl ?_)
    refine wl_of hX hb cL_1073 (rw_goto (p1 := 1077) (by decide) ?_)
    refine wl_of hX hb cL_1077 (xc_V (pc' := 1080) (r := x) (as := [vI (H 0 ((i + 1).toNat)), vI 1]) (st := []) (lm_11_139) rfl rfl (Nat.le_of_ble_eq_true rfl) hW gx sh_1 (by decide) rfl (by decide) (s_117 hW gx ⟨by omega, by omega⟩ ⟨by decide, by decide⟩) (fun R2903 T2904 H2905 p2906 => ?_))
    obtain ⟨e2907, w2909, f2910, z2911, e2908, b2912⟩ := p2906
    subst e2907
    subst e2908
    show WL _ _ _ _ 1080 [(4, vI i), (3, .ref o), (2, .ref m), (1, .ref x), (0, .ref 0)] [vI z2911] _ H2905
    refine wl_of hX hb cL_1080 (rw_pop (pc' := 1081) rfl rfl ?_)
    refine wl_of hX hb cL_1081 (rw_aload_n (pc' := 1082) (v := .ref m) rfl rfl rfl ?_)
    refine wl_of hX hb cL_1082 (rw_aload_n (pc' := 1083) (v := .ref 0) rfl rfl rfl ?_)
    refine wl_of hX hb cL_1083 (rw_iload (pc' := 1085) (z := i) rfl rfl ?_)
    refine wl_of hX hb cL_1085 (rw_iconst (pc' := 1086) rfl ?_)
    refine wl_of hX hb cL_1086 (rw_iadd (pc' := 1087) rfl ?_)
    have k2915 : H2905 0 ((i + 1).toNat) = H 0 ((i + 1).toNat) := (f2910 0 ((i + 1).toNat) _ g0 (wmem_s rfl))
    refine wl_of hX hb cL_1087 (xa_I (so := 0) (pc' := 1088) (a := 0) w2909 g0 (wsh_s _) (by omega) (wty_s _ _) (by omega) (by omega) rfl (fun b2913 b2914 => ?_))
    refine wl_of hX hb cL_1088 (rw_aload_n (pc' := 1089) (v := .ref 0) rfl rfl rfl ?_)
    refine wl_of hX hb cL_1089 (rw_iload (pc' := 1091) (z := i) rfl rfl ?_)
    refine wl_of hX hb cL_1091 (rw_iconst (pc' := 1092) rfl ?_)
    refine wl_of hX hb cL_1092 (rw_iadd (pc' := 1093) rfl ?_)
    have k2918 : H2905 0 ((i + 2).toNat) = H 0 ((i + 2).toNat) := (f2910 0 ((i + 2).toNat) _ g0 (wmem_s rfl))
    refine wl_of hX hb cL_1093 (xa_I (so := 0) (pc' := 1094) (a := 0) w2909 g0 (wsh_s _) (by omega) (wty_s _ _) (by omega) (by omega) rfl (fun b2916 b2917 => ?_))
    refine wl_of hX hb cL_1094 (rw_if_eq (p1 := 1101) (p2 := 1097) (by decide) rfl ⟨by omega, by omega⟩ (fun c2919 => ?_) (fun c2919 => ?_))
    · refine wl_of hX hb cL_1101 (rw_iconst (pc' := 1102) rfl ?_)
      have k2920 : wKI H2905 m = wKI H m := (wKI_fr hW gm f2910 rfl)
      have k2921 : H2905 x 9 = H x 9 := (f2910 x 9 _ gx rfl)
      have k2922 : H2905 m 6 = H m 6 := (f2910 m 6 _ gm rfl)
      have k2923 : H2905 x 11 = H x 11 := (f2910 x 11 _ gx rfl)
      have k2924 : H2905 m 13 = H m 13 := (f2910 m 13 _ gm rfl)
      have k2925 : H2905 x 8 = H x 8 := (f2910 x 8 _ gx rfl)
      have k2926 : H2905 m 3 = H m 3 := (f2910 m 3 _ gm rfl)
      refine wl_of hX hb cL_1102 (xc_V (pc' := 1105) (r := m) (as := [vI (H2905 0 ((i + 1).toNat)), vI 0]) (st := []) (lm_11_142) rfl rfl (Nat.le_of_ble_eq_true rfl) w2909 gm sh_42 (by decide) rfl (by decide) (s_263 w2909 gm ⟨by omega, by omega⟩ ⟨by decide, by decide⟩ (by omega)) (fun R2927 T2928 H2929 p2930 => ?_))
      obtain ⟨e2931, w2933, f2934, z2936, e2932, b2937, p2935⟩ := p2930
      subst e2931
      subst e2932
      show WL _ _ _ _ 1105 [(4, vI i), (3, .ref o), (2, .ref m), (1, .ref x), (0, .ref 0)] [vI z2936] _ H2929
      refine wl_of hX hb cL_1105 (rw_pop (pc' := 1106) rfl rfl ?_)
      refine wl_of hX hb cL_1106 (rw_goto (p1 := 1653) (by decide) ?_)
      have k2938 : H2929 x 9 = H2905 x 9 := (f2934 x 9 _ gx rfl)
      have k2939 : H2929 m 6 = H2905 m 6 := (f2934 m 6 _ gm rfl)
      have k2940 : H2929 x 11 = H2905 x 11 := (f2934 x 11 _ gx rfl)
      have k2941 : H2929 m 13 = H2905 m 13 := (f2934 m 13 _ gm rfl)
      have k2942 : H2929 x 8 = H2905 x 8 := (f2934 x 8 _ gx rfl)
      have k2943 : H2929 m 3 = H2905 m 3 := (f2934 m 3 _ gm rfl)
      have h2944 : XI T H2929 x m := (XI_fr w2909 gx f2934 rfl (XI_fr hW gx f2910 rfl hXI))
      exact WL.loc hX (by simp) (next T H2929 ⟨⟨w2933, g0, gx, gm, go, by omega, by omega⟩, h2944, by omega, by omega⟩ (by omega) (by omega))
    · refine wl_of hX hb cL_1097 (rw_iconst (pc' := 1098) rfl ?_)
      refine wl_of hX hb cL_1098 (rw_goto (p1 := 1102) (by decide) ?_)
      have k2945 : wKI H2905 m = wKI H m := (wKI_fr hW gm f2910 rfl)
      have k2946 : H2905 x 9 = H x 9 := (f2910 x 9 _ gx rfl)
      have k2947 : H2905 m 6 = H m 6 := (f2910 m 6 _ gm rfl)
      have k2948 : H2905 x 11 = H x 11 := (f2910 x 11 _ gx rfl)
      have k2949 : H2905 m 13 = H m 13 := (f2910 m 13 _ gm rfl)
      have k2950 : H2905 x 8 = H x 8 := (f2910 x 8 _ gx rfl)
      have k2951 : H2905 m 3 = H m 3 := (f2910 m 3 _ gm rfl)
      refine wl_of hX hb cL_1102 (xc_V (pc' := 1105) (r := m) (as := [vI (H2905 0 ((i + 1).toNat)), vI 1]) (st := []) (lm_11_142) rfl rfl (Nat.le_of_ble_eq_true rfl) w2909 gm sh_42 (by decide) rfl (by decide) (s_263 w2909 gm ⟨by omega, by omega⟩ ⟨by decide, by decide⟩ (by omega)) (fun R2952 T2953 H2954 p2955 => ?_))
      obtain ⟨e2956, w2958, f2959, z2961, e2957, b2962, p2960⟩ := p2955
      subst e2956
      subst e2957
      show WL _ _ _ _ 1105 [(4, vI i), (3, .ref o), (2, .ref m), (1, .ref x), (0, .ref 0)] [vI z2961] _ H2954
      refine wl_of hX hb cL_1105 (rw_pop (pc' := 1106) rfl rfl ?_)
      refine wl_of hX hb cL_1106 (rw_goto (p1 := 1653) (by decide) ?_)
      have k2963 : H2954 x 9 = H2905 x 9 := (f2959 x 9 _ gx rfl)
      have k2964 : H2954 m 6 = H2905 m 6 := (f2959 m 6 _ gm rfl)
      have k2965 : H2954 x 11 = H2905 x 11 := (f2959 x 11 _ gx rfl)
      have k2966 : H2954 m 13 = H2905 m 13 := (f2959 m 13 _ gm rfl)
      have k2967 : H2954 x 8 = H2905 x 8 := (f2959 x 8 _ gx rfl)
      have k2968 : H2954 m 3 = H2905 m 3 := (f2959 m 3 _ gm rfl)
      have h2969 : XI T H2954 x m := (XI_fr w2909 gx f2959 rfl (XI_fr hW gx f2910 rfl hXI))
      exact WL.loc hX (by simp) (next T H2954 ⟨⟨w2958, g0, gx, gm, go, by omega, by omega⟩, h2969, by omega, by omega⟩ (by omega) (by omega))
set_option maxHeartbeats 4000000 in
theorem wl_c29 {kt : Nat → Option mc_E} {CB SB : Nat} {X : mc_S → Prop} {T : wq_T} {H : wq_H} {Len x m o : Nat} {i : Int} (hX : wlX kt CB SB X) (hb : T.2.1 ≤ CB ∧ T.2.2.1 ≤ SB) (hI : wlJ Len x m o T H) (hL : Len ≤ 3072) (hi : 0 ≤ i ∧ i + 6 ≤ Len) (hb2 : T.2.1 + 20 ≤ CB ∧ T.2.2.1 + 500 ≤ SB)  (next : ∀ T' H', wlJ Len x m o T' H' → T'.2.1 ≤ T.2.1 + 20 → T'.2.2.1 ≤ T.2.2.1 + 500 → WL kt CB SB X 1653 (wlL i x m o) [] T' H') : WL kt CB SB X 1109 (wlL i x m o) [] T H := by
  obtain ⟨⟨hW, g0, gx, gm, go, hK, hr⟩, hXI, hY1, hY2⟩ := hI
  refine wl_of hX hb cL_1109 (rw_aload_n (pc' := 1110) (v := .ref x) rfl rfl rfl ?_)
  refine wl_of hX hb cL_1110 (rw_aload_n (pc' := 1111) (v := .ref 0) rfl rfl rfl ?_)
  refine wl_of hX hb cL_1111 (rw_iload (pc' := 1113) (z := i) rfl rfl ?_)
  refine wl_of hX hb cL_1113 (rw_iconst (pc' := 1114) rfl ?_)
  refine wl_of hX hb cL_1114 (rw_iadd (pc' := 1115) rfl ?_)
  refine wl_of hX hb cL_1115 (xa_I (so := 0) (pc' := 1116) (a := 0) hW g0 (wsh_s _) (by omega) (wty_s _ _) (by omega) (by omega) rfl (fun b2970 b2971 => ?_))
  refine wl_of hX hb cL_1116 (rw_aload_n (pc' := 1117) (v := .ref 0) rfl rfl rfl ?_)
  refine wl_of hX hb cL_1117 (rw_iload (pc' := 1119) (z := i) rfl rfl ?_)
  refine wl_of hX hb cL_1119 (rw_iconst (pc' := 1120) rfl ?_)
  refine wl_of hX hb cL_1120 (rw_iadd (pc' := 1121) rfl ?_)
  refine wl_of hX hb cL_1121 (xa_I (so := 0) (pc' := 1122) (a := 0) hW g0 (wsh_s _) (by omega) (wty_s _ _) (by omega) (by omega) rfl (fun b2972 b2973 => ?_))
  refine wl_of hX hb cL_1122 (rw_if_eq (p1 := 1129) (p2 := 1125) (by decide) rfl ⟨by omega, by omega⟩ (fun c2974 => ?_) (fun c2974 => ?_))
  · refine wl_of hX hb cL_1129 (rw_iconst (pc' := 1130) rfl ?_)
    refine wl_of hX hb cL_1130 (xc_V (pc' := 1133) (r := x) (as := [vI (H 0 ((i + 1).toNat)), vI 0]) (st := []) (lm_11_143) rfl rfl (Nat.le_of_ble_eq_true rfl) hW gx sh_1 (by decide) rfl (by decide) (s_119 hW gx ⟨by omega, by omega⟩ ⟨by decide, by decide⟩) (fun R2975 T2976 H2977 p2978 => ?_))
    obtain ⟨e2979, w2981, f2982, z2983, e2980, b2984⟩ := p2978
    subst e2979
    subst e2980
    show WL _ _ _ _ 1133 [(4, vI i), (3, .ref o), (2, .ref m), (1, .ref x), (0, .ref 0)] [vI z2983] _ H2977
    refine wl_of hX hb cL_1133 (rw_pop (pc' := 1134) rfl rfl ?_)
    refine wl_of hX hb cL_1134 (rw_aload_n (pc' := 1135) (v := .ref m) rfl rfl rfl ?_)
    refine wl_of hX hb cL_1135 (rw_aload_n (pc' := 1136) (v := .ref 0) rfl rfl rfl ?_)
    refine wl_of hX hb cL_1136 (rw_iload (pc' := 1138) (z := i) rfl rfl ?_)
    refine wl_of hX hb cL_1138 (rw_iconst (pc' := 1139) rfl ?_)
    refine wl_of hX hb cL_1139 (rw_iadd (pc' := 1140) rfl ?_)
    have k2987 : H2977 0 ((i + 1).toNat) = H 0 ((i + 1).toNat) := (f2982 0 ((i + 1).toNat) _ g0 (wmem_s rfl))
    refine wl_of hX hb cL_1140 (xa_I (so := 0) (pc' := 1141) (a := 0) w2981 g0 (wsh_s _) (by omega) (wty_s _ _) (by omega) (by omega) rfl (fun b2985 b2986 => ?_))
    refine wl_of hX hb cL_1141 (rw_aload_n (pc' := 1142) (v := .ref 0) rfl rfl rfl ?_)
    refine wl_of hX hb cL_1142 (rw_iload (pc' := 1144) (z := i) rfl rfl ?_)
    refine wl_of hX hb cL_1144 (rw_iconst (pc' := 1145) rfl ?_)
    refine wl_of hX hb cL_1145 (rw_iadd (pc' := 1146) rfl ?_)
    have k2990 : H2977 0 ((i + 2).toNat) = H 0 ((i + 2).toNat) := (f2982 0 ((i + 2).toNat) _ g0 (wmem_s rfl))
    refine wl_of hX hb cL_1146 (xa_I (so := 0) (pc' := 1147) (a := 0) w2981 g0 (wsh_s _) (by omega) (wty_s _ _) (by omega) (by omega) rfl (fun b2988 b2989 => ?_))
    refine wl_of hX hb cL_1147 (rw_if_eq (p1 := 1154) (p2 := 1150) (by decide) rfl ⟨by omega, by omega⟩ (fun c2991 => ?_) (fun c2991 => ?_))
    · refine wl_of hX hb cL_1154 (rw_iconst (pc' := 1155) rfl ?_)
      have k2992 : wKI H2977 m = wKI H m := (wKI_fr hW gm f2982 rfl)
      have k2993 : H2977 x 9 = H x 9 := (f2982 x 9 _ gx rfl)
      have k2994 : H2977 m 6 = H m 6 := (f2982 m 6 _ gm rfl)
      have k2995 : H2977 x 11 = H x 11 := (f2982 x 11 _ gx rfl)
      have k2996 : H2977 m 13 = H m 13 := (f2982 m 13 _ gm rfl)
      have k2997 : H2977 x 8 = H x 8 := (f2982 x 8 _ gx rfl)
      have k2998 : H2977 m 3 = H m 3 := (f2982 m 3 _ gm rfl)
      refine wl_of hX hb cL_1155 (xc_V (pc' := 1158) (r := m) (as := [vI (H2977 0 ((i + 1).toNat)), vI 0]) (st := []) (lm_11_146) rfl rfl (Nat.le_of_ble_eq_true rfl) w2981 gm sh_42 (by decide) rfl (by decide) (s_265 w2981 gm ⟨by omega, by omega⟩ ⟨by decide, by decide⟩ (by omega)) (fun R2999 T3000 H3001 p3002 => ?_))
      obtain ⟨e3003, w3005, f3006, z3008, e3004, b3009, p3007⟩ := p3002
      subst e3003
      subst e3004
      show WL _ _ _ _ 1158 [(4, vI i), (3, .ref o), (2, .ref m), (1, .ref x), (0, .ref 0)] [vI z3008] _ H3001
      refine wl_of hX hb cL_1158 (rw_pop (pc' := 1159) rfl rfl ?_)
      refine wl_of hX hb cL_1159 (rw_goto (p1 := 1653) (by decide) ?_)
      have k3010 : H3001 x 9 = H2977 x 9 := (f3006 x 9 _ gx rfl)
      have k3011 : H3001 m 6 = H2977 m 6 := (f3006 m 6 _ gm rfl)
      have k3012 : H3001 x 11 = H2977 x 11 := (f3006 x 11 _ gx rfl)
      have k3013 : H3001 m 13 = H2977 m 13 := (f3006 m 13 _ gm rfl)
      have k3014 : H3001 x 8 = H2977 x 8 := (f3006 x 8 _ gx rfl)
      have k3015 : H3001 m 3 = H2977 m 3 := (f3006 m 3 _ gm rfl)
      have h3016 : XI T H3001 x m := (XI_fr w2981 gx f3006 rfl (XI_fr hW gx f2982 rfl hXI))
      exact WL.loc hX (by simp) (next T H3001 ⟨⟨w3005, g0, gx, gm, go, by omega, by omega⟩, h3016, by omega, by omega⟩ (by omega) (by omega))
    · exfalso
      omega
  · refine wl_of hX hb cL_1125 (rw_iconst (pc' := 1126) rfl ?_)
    refine wl_of hX hb cL_1126 (rw_goto (p1 := 1130) (by decide) ?_)
    refine wl_of hX hb cL_1130 (xc_V (pc' := 1133) (r := x) (as := [vI (H 0 ((i + 1).toNat)), vI 1]) (st := []) (lm_11_143) rfl rfl (Nat.le_of_ble_eq_true rfl) hW gx sh_1 (by decide) rfl (by decide) (s_119 hW gx ⟨by omega, by omega⟩ ⟨by decide, by decide⟩) (fun R3017 T3018 H3019 p3020 => ?_))
    obtain ⟨e3021, w3023, f3024, z3025, e3022, b3026⟩ := p3020
    subst e3021
    subst e3022
    show WL _ _ _ _ 1133 [(4, vI i), (3, .ref o), (2, .ref m), (1, .ref x), (0, .ref 0)] [vI z3025] _ H3019
    refine wl_of hX hb cL_1133 (rw_pop (pc' := 1134) rfl rfl ?_)
    refine wl_of hX hb cL_1134 (rw_aload_n (pc' := 1135) (v := .ref m) rfl rfl rfl ?_)
    refine wl_of hX hb cL_1135 (rw_aload_n (pc' := 1136) (v := .ref 0) rfl rfl rfl ?_)
    refine wl_of hX hb cL_1136 (rw_iload (pc' := 1138) (z := i) rfl rfl ?_)
    refine wl_of hX hb cL_1138 (rw_iconst (pc' := 1139) rfl ?_)
    refine wl_of hX hb cL_1139 (rw_iadd (pc' := 1140) rfl ?_)
    have k3029 : H3019 0 ((i + 1).toNat) = H 0 ((i + 1).toNat) := (f3024 0 ((i + 1).toNat) _ g0 (wmem_s rfl))
    refine wl_of hX hb cL_1140 (xa_I (so := 0) (pc' := 1141) (a := 0) w3023 g0 (wsh_s _) (by omega) (wty_s _ _) (by omega) (by omega) rfl (fun b3027 b3028 => ?_))
    refine wl_of hX hb cL_1141 (rw_aload_n (pc' := 1142) (v := .ref 0) rfl rfl rfl ?_)
    refine wl_of hX hb cL_1142 (rw_iload (pc' := 1144) (z := i) rfl rfl ?_)
    refine wl_of hX hb cL_1144 (rw_iconst (pc' := 1145) rfl ?_)
    refine wl_of hX hb cL_1145 (rw_iadd (pc' := 1146) rfl ?_)
    have k3032 : H3019 0 ((i + 2).toNat) = H 0 ((i + 2).toNat) := (f3024 0 ((i + 2).toNat) _ g0 (wmem_s rfl))
    refine wl_of hX hb cL_1146 (xa_I (so := 0) (pc' := 1147) (a := 0) w3023 g0 (wsh_s _) (by omega) (wty_s _ _) (by omega) (by omega) rfl (fun b3030 b3031 => ?_))
    refine wl_of hX hb cL_1147 (rw_if_eq (p1 := 1154) (p2 := 1150) (by decide) rfl ⟨by omega, by omega⟩ (fun c3033 => ?_) (fun c3033 => ?_))
    · refine wl_of hX hb cL_1154 (rw_iconst (pc' := 1155) rfl ?_)
      have k3034 : wKI H3019 m = wKI H m := (wKI_fr hW gm f3024 rfl)
      have k3035 : H3019 x 9 = H x 9 := (f3024 x 9 _ gx rfl)
      have k3036 : H3019 m 6 = H m 6 := (f3024 m 6 _ gm rfl)
      have k3037 : H3019 x 11 = H x 11 := (f3024 x 11 _ gx rfl)
      have k3038 : H3019 m 13 = H m 13 := (f3024 m 13 _ gm rfl)
      have k3039 : H3019 x 8 = H x 8 := (f3024 x 8 _ gx rfl)
      have k3040 : H3019 m 3 = H m 3 := (f3024 m 3 _ gm rfl)
      refine wl_of hX hb cL_1155 (xc_V (pc' := 1158) (r := m) (as := [vI (H3019 0 ((i + 1).toNat)), vI 0]) (st := []) (lm_11_146) rfl rfl (Nat.le_of_ble_eq_true rfl) w3023 gm sh_42 (by decide) rfl (by decide) (s_265 w3023 gm ⟨by omega, by omega⟩ ⟨by decide, by decide⟩ (by omega)) (fun R3041 T3042 H3043 p3044 => ?_))
      obtain ⟨e3045, w3047, f3048, z3050, e3046, b3051, p3049⟩ := p3044
      subst e3045
      subst e3046
      show WL _ _ _ _ 1158 [(4, vI i), (3, .ref o), (2, .ref m), (1, .ref x), (0, .ref 0)] [vI z3050] _ H3043
      refine wl_of hX hb cL_1158 (rw_pop (pc' := 1159) rfl rfl ?_)
      refine wl_of hX hb cL_1159 (rw_goto (p1 := 1653) (by decide) ?_)
      have k3052 : H3043 x 9 = H3019 x 9 := (f3048 x 9 _ gx rfl)
      have k3053 : H3043 m 6 = H3019 m 6 := (f3048 m 6 _ gm rfl)
      have k3054 : H3043 x 11 = H3019 x 11 := (f3048 x 11 _ gx rfl)
      have k3055 : H3043 m 13 = H3019 m 13 := (f3048 m 13 _ gm rfl)
      have k3056 : H3043 x 8 = H3019 x 8 := (f3048 x 8 _ gx rfl)
      have k3057 : H3043 m 3 = H3019 m 3 := (f3048 m 3 _ gm rfl)
      have h3058 : XI T H3043 x m := (XI_fr w3023 gx f3048 rfl (XI_fr hW gx f3024 rfl hXI))
      exact WL.loc hX (by simp) (next T H3043 ⟨⟨w3047, g0, gx, gm, go, by omega, by omega⟩, h3058, by omega, by omega⟩ (by omega) (by omega))
    · refine wl_of hX hb cL_1150 (rw_iconst (pc' := 1151) rfl ?_)
      refine wl_of hX hb cL_1151 (rw_goto (p1 := 1155) (by decide) ?_)
      have k3059 : wKI H3019 m = wKI H m := (wKI_fr hW gm f3024 rfl)
      have k3060 : H3019 x 9 = H x 9 := (f3024 x 9 _ gx rfl)
      have k3061 : H3019 m 6 = H m 6 := (f3024 m 6 _ gm rfl)
      have k3062 : H3019 x 11 = H x 11 := (f3024 x 11 _ gx rfl)
      have k3063 : H3019 m 13 = H m 13 := (f3024 m 13 _ gm rfl)
      have k3064 : H3019 x 8 = H x 8 := (f3024 x 8 _ gx rfl)
      have k3065 : H3019 m 3 = H m 3 := (f3024 m 3 _ gm rfl)
      refine wl_of hX hb cL_1155 (xc_V (pc' := 1158) (r := m) (as := [vI (H3019 0 ((i + 1).toNat)), vI 1]) (st := []) (lm_11_146) rfl rfl (Nat.le_of_ble_eq_true rfl) w3023 gm sh_42 (by decide) rfl (by decide) (s_265 w3023 gm ⟨by omega, by omega⟩ ⟨by decide, by decide⟩ (by omega)) (fun R3066 T3067 H3068 p3069 => ?_))
      obtain ⟨e3070, w3072, f3073, z3075, e3071, b3076, p3074⟩ := p3069
      subst e3070
      subst e3071
      show WL _ _ _ _ 1158 [(4, vI i), (3, .ref o), (2, .ref m), (1, .ref x), (0, .ref 0)] [vI z3075] _ H3068
      refine wl_of hX hb cL_1158 (rw_pop (pc' := 1159) rfl rfl ?_)
      refine wl_of hX hb cL_1159 (rw_goto (p1 := 1653) (by decide) ?_)
      have k3077 : H3068 x 9 = H3019 x 9 := (f3073 x 9 _ gx rfl)
      have k3078 : H3068 m 6 = H3019 m 6 := (f3073 m 6 _ gm rfl)
      have k3079 : H3068 x 11 = H3019 x 11 := (f3073 x 11 _ gx rfl)
      have k3080 : H3068 m 13 = H3019 m 13 := (f3073 m 13 _ gm rfl)
      have k3081 : H3068 x 8 = H3019 x 8 := (f3073 x 8 _ gx rfl)
      have k3082 : H3068 m 3 = H3019 m 3 := (f3073 m 3 _ gm rfl)
      have h3083 : XI T H3068 x m := (XI_fr w3023 gx f3073 rfl (XI_fr hW gx f3024 rfl hXI))
      exact WL.loc hX (by simp) (next T H3068 ⟨⟨w3072, g0, gx, gm, go, by omega, by omega⟩, h3083, by omega, by omega⟩ (by omega) (by omega))
set_option maxHeartbeats 4000000 in
theorem wl_c30 {kt : Nat → Option mc_E} {CB SB : Nat} {X : mc_S → Prop} {T : wq_T} {H : wq_H} {Len x m o : Nat} {i : Int} (hX : wlX kt CB SB X) (hb : T.2.1 ≤ CB ∧ T.2.2.1 ≤ SB) (hI : wlJ Len x m o T H) (hL : Len ≤ 3072) (hi : 0 ≤ i ∧ i + 6 ≤ Len) (hb2 : T.2.1 + 20 ≤ CB ∧ T.2.2.1 + 500 ≤ SB)  (next : ∀ T' H', wlJ Len x m o T' H' → T'.2.1 ≤ T.2.1 + 20 → T'.2.2.1 ≤ T.2.2.1 + 500 → WL kt CB SB X 1653 (wlL i x m o) [] T' H') : WL kt CB SB X 1162 (wlL i x m o) [] T H := by
  obtain ⟨⟨hW, g0, gx, gm, go, hK, hr⟩, hXI, hY1, hY2⟩ := hI
  refine wl_of hX hb cL_1162 (rw_aload_n (pc' := 1163) (v := .ref x) rfl rfl rfl ?_)
  refine wl_of hX hb cL_1163 (xc_V (pc' := 1166) (r := x) (as := []) (st := []) (lm_11_147) rfl rfl (Nat.le_of_ble_eq_true rfl) hW gx sh_1 (by decide) rfl (by decide) (s_120 hW gx) (fun R3084 T3085 H3086 p3087 => ?_))
  obtain ⟨e3088, w3090, f3091, z3092, e3089, b3093⟩ := p3087
  subst e3088
  subst e3089
  show WL _ _ _ _ 1166 [(4, vI i), (3, .ref o), (2, .ref m), (1, .ref x), (0, .ref 0)] [vI z3092] _ H3086
  refine wl_of hX hb cL_1166 (rw_pop (pc' := 1167) rfl rfl ?_)
  refine wl_of hX hb cL_1167 (rw_aload_n (pc' := 1168) (v := .ref m) rfl rfl rfl ?_)
  have k3094 : wKI H3086 m = wKI H m := (wKI_fr hW gm f3091 rfl)
  have k3095 : H3086 x 9 = H x 9 := (f3091 x 9 _ gx rfl)
  have k3096 : H3086 m 6 = H m 6 := (f3091 m 6 _ gm rfl)
  have k3097 : H3086 x 11 = H x 11 := (f3091 x 11 _ gx rfl)
  have k3098 : H3086 m 13 = H m 13 := (f3091 m 13 _ gm rfl)
  have k3099 : H3086 x 8 = H x 8 := (f3091 x 8 _ gx rfl)
  have k3100 : H3086 m 3 = H m 3 := (f3091 m 3 _ gm rfl)
  refine wl_of hX hb cL_1168 (xc_V (pc' := 1171) (r := m) (as := []) (st := []) (lm_11_150) rfl rfl (Nat.le_of_ble_eq_true rfl) w3090 gm sh_42 (by decide) rfl (by decide) (s_266 w3090 gm (by omega)) (fun R3101 T3102 H3103 p3104 => ?_))
  obtain ⟨e3105, w3107, f3108, z3110, e3106, b3111, p3109⟩ := p3104
  subst e3105
  subst e3106
  show WL _ _ _ _ 1171 [(4, vI i), (3, .ref o), (2, .ref m), (1, .ref x), (0, .ref 0)] [vI z3110] _ H3103
  refine wl_of hX hb cL_1171 (rw_pop (pc' := 1172) rfl rfl ?_)
  refine wl_of hX hb cL_1172 (rw_goto (p1 := 1653) (by decide) ?_)
  have k3112 : H3103 x 9 = H3086 x 9 := (f3108 x 9 _ gx rfl)
  have k3113 : H3103 m 6 = H3086 m 6 := (f3108 m 6 _ gm rfl)
  have k3114 : H3103 x 11 = H3086 x 11 := (f3108 x 11 _ gx rfl)
  have k3115 : H3103 m 13 = H3086 m 13 := (f3108 m 13 _ gm rfl)
  have k3116 : H3103 x 8 = H3086 x 8 := (f3108 x 8 _ gx rfl)
  have k3117 : H3103 m 3 = H3086 m 3 := (f3108 m 3 _ gm rfl)
  have h3118 : XI T H3103 x m := (XI_fr w3090 gx f3108 rfl (XI_fr hW gx f3091 rfl hXI))
  exact WL.loc hX (by simp) (next T H3103 ⟨⟨w3107, g0, gx, gm, go, by omega, by omega⟩, h3118, by omega, by omega⟩ (by omega) (by omega))
set_option maxHeartbeats 4000000 in
theorem wl_c31 {kt : Nat → Option mc_E} {CB SB : Nat} {X : mc_S → Prop} {T : wq_T} {H : wq_H} {Len x m o : Nat} {i : Int} (hX : wlX kt CB SB X) (hb : T.2.1 ≤ CB ∧ T.2.2.1 ≤ SB) (hI : wlJ Len x m o T H) (hL : Len ≤ 3072) (hi : 0 ≤ i ∧ i + 6 ≤ Len) (hb2 : T.2.1 + 20 ≤ CB ∧ T.2.2.1 + 500 ≤ SB)  (next : ∀ T' H', wlJ Len x m o T' H' → T'.2.1 ≤ T.2.1 + 20 → T'.2.2.1 ≤ T.2.2.1 + 500 → WL kt CB SB X 1653 (wlL i x m o) [] T' H') : WL kt CB SB X 1175 (wlL i x m o) [] T H := by
  obtain ⟨⟨hW, g0, gx, gm, go, hK, hr⟩, hXI, hY1, hY2⟩ := hI
  refine wl_of hX hb cL_1175 (rw_aload_n (pc' := 1176) (v := .ref x) rfl rfl rfl ?_)
  refine wl_of hX hb cL_1176 (rw_aload_n (pc' := 1177) (v := .ref 0) rfl rfl rfl ?_)
  refine wl_of hX hb cL_1177 (rw_iload (pc' := 1179) (z := i) rfl rfl ?_)
  refine wl_of hX hb cL_1179 (rw_iconst (pc' := 1180) rfl ?_)
  refine wl_of hX hb cL_1180 (rw_iadd (pc' := 1181) rfl ?_)
  refine wl_of hX hb cL_1181 (xa_I (so := 0) (pc' := 1182) (a := 0) hW g0 (wsh_s _) (by omega) (wty_s _ _) (by omega) (by omega) rfl (fun b3119 b3120 => ?_))
  refine wl_of hX hb cL_1182 (xc_V (pc' := 1185) (r := x) (as := [vI (H 0 ((i + 1).toNat))]) (st := []) (lm_11_151) rfl rfl (Nat.le_of_ble_eq_true rfl) hW gx sh_1 (by decide) rfl (by decide) (s_130 hW gx ⟨by omega, by omega⟩) (fun R3121 T3122 H3123 p3124 => ?_))
  obtain ⟨e3125, w3127, f3128, z3129, e3126, b3130⟩ := p3124
  subst e3125
  subst e3126
  show WL _ _ _ _ 1185 [(4, vI i), (3, .ref o), (2, .ref m), (1, .ref x), (0, .ref 0)] [vI z3129] _ H3123
  refine wl_of hX hb cL_1185 (rw_pop (pc' := 1186) rfl rfl ?_)
  refine wl_of hX hb cL_1186 (rw_aload_n (pc' := 1187) (v := .ref m) rfl rfl rfl ?_)
  refine wl_of hX hb cL_1187 (rw_aload_n (pc' := 1188) (v := .ref 0) rfl rfl rfl ?_)
  refine wl_of hX hb cL_1188 (rw_iload (pc' := 1190) (z := i) rfl rfl ?_)
  refine wl_of hX hb cL_1190 (rw_iconst (pc' := 1191) rfl ?_)
  refine wl_of hX hb cL_1191 (rw_iadd (pc' := 1192) rfl ?_)
  have k3133 : H3123 0 ((i + 1).toNat) = H 0 ((i + 1).toNat) := (f3128 0 ((i + 1).toNat) _ g0 (wmem_s rfl))
  refine wl_of hX hb cL_1192 (xa_I (so := 0) (pc' := 1193) (a := 0) w3127 g0 (wsh_s _) (by omega) (wty_s _ _) (by omega) (by omega) rfl (fun b3131 b3132 => ?_))
  have k3134 : wKI H3123 m = wKI H m := (wKI_fr hW gm f3128 rfl)
  have k3135 : H3123 x 9 = H x 9 := (f3128 x 9 _ gx rfl)
  have k3136 : H3123 m 6 = H m 6 := (f3128 m 6 _ gm rfl)
  have k3137 : H3123 x 11 = H x 11 := (f3128 x 11 _ gx rfl)
  have k3138 : H3123 m 13 = H m 13 := (f3128 m 13 _ gm rfl)
  have k3139 : H3123 x 8 = H x 8 := (f3128 x 8 _ gx rfl)
  have k3140 : H3123 m 3 = H m 3 := (f3128 m 3 _ gm rfl)
  refine wl_of hX hb cL_1193 (xc_V (pc' := 1196) (r := m) (as := [vI (H3123 0 ((i + 1).toNat))]) (st := []) (lm_11_154) rfl rfl (Nat.le_of_ble_eq_true rfl) w3127 gm sh_42 (by decide) rfl (by decide) (s_271 w3127 gm ⟨by omega, by omega⟩ (by omega)) (fun R3141 T3142 H3143 p3144 => ?_))
  obtain ⟨e3145, w3147, f3148, z3150, e3146, b3151, p3149⟩ := p3144
  subst e3145
  subst e3146
  show WL _ _ _ _ 1196 [(4, vI i), (3, .ref o), (2, .ref m), (1, .ref x), (0, .ref 0)] [vI z3150] _ H3143
  refine wl_of hX hb cL_1196 (rw_pop (pc' := 1197) rfl rfl ?_)
  refine wl_of hX hb cL_1197 (rw_goto (p1 := 1653) (by decide) ?_)
  have k3152 : H3143 x 9 = H3123 x 9 := (f3148 x 9 _ gx rfl)
  have k3153 : H3143 m 6 = H3123 m 6 := (f3148 m 6 _ gm rfl)
  have k3154 : H3143 x 11 = H3123 x 11 := (f3148 x 11 _ gx rfl)
  have k3155 : H3143 m 13 = H3123 m 13 := (f3148 m 13 _ gm rfl)
  have k3156 : H3143 x 8 = H3123 x 8 := (f3148 x 8 _ gx rfl)
  have k3157 : H3143 m 3 = H3123 m 3 := (f3148 m 3 _ gm rfl)
  have h3158 : XI T H3143 x m := (XI_fr w3127 gx f3148 rfl (XI_fr hW gx f3128 rfl hXI))
  exact WL.loc hX (by simp) (next T H3143 ⟨⟨w3147, g0, gx, gm, go, by omega, by omega⟩, h3158, by omega, by omega⟩ (by omega) (by omega))
set_option maxHeartbeats 4000000 in
theorem wl_c32 {kt : Nat → Option mc_E} {CB SB : Nat} {X : mc_S → Prop} {T : wq_T} {H : wq_H} {Len x m o : Nat} {i : Int} (hX : wlX kt CB SB X) (hb : T.2.1 ≤ CB ∧ T.2.2.1 ≤ SB) (hI : wlJ Len x m o T H) (hL : Len ≤ 3072) (hi : 0 ≤ i ∧ i + 6 ≤ Len) (hb2 : T.2.1 + 20 ≤ CB ∧ T.2.2.1 + 500 ≤ SB)  (next : ∀ T' H', wlJ Len x m o T' H' → T'.2.1 ≤ T.2.1 + 20 → T'.2.2.1 ≤ T.2.2.1 + 500 → WL kt CB SB X 1653 (wlL i x m o) [] T' H') : WL kt CB SB X 1200 (wlL i x m o) [] T H := by
  obtain ⟨⟨hW, g0, gx, gm, go, hK, hr⟩, hXI, hY1, hY2⟩ := hI
  refine wl_of hX hb cL_1200 (rw_aload_n (pc' := 1201) (v := .ref x) rfl rfl rfl ?_)
  refine wl_of hX hb cL_1201 (rw_aload_n (pc' := 1202) (v := .ref 0) rfl rfl rfl ?_)
  refine wl_of hX hb cL_1202 (rw_iload (pc' := 1204) (z := i) rfl rfl ?_)
  refine wl_of hX hb cL_1204 (rw_iconst (pc' := 1205) rfl ?_)
  refine wl_of hX hb cL_1205 (rw_iadd (pc' := 1206) rfl ?_)
  refine wl_of hX hb cL_1206 (xa_I (so := 0) (pc' := 1207) (a := 0) hW g0 (wsh_s _) (by omega) (wty_s _ _) (by omega) (by omega) rfl (fun b3159 b3160 => ?_))
  refine wl_of hX hb cL_1207 (xc_V (pc' := 1210) (r := x) (as := [vI (H 0 ((i + 1).toNat))]) (st := []) (lm_11_155) rfl rfl (Nat.le_of_ble_eq_true rfl) hW gx sh_1 (by decide) rfl (by decide) (s_132 hW gx ⟨by omega, by omega⟩) (fun R3161 T3162 H3163 p3164 => ?_))
  obtain ⟨e3165, w3167, f3168, z3169, e3166, b3170⟩ := p3164
  subst e3165
  subst e3166
  show WL _ _ _ _ 1210 [(4, vI i), (3, .ref o), (2, .ref m), (1, .ref x), (0, .ref 0)] [vI z3169] _ H3163
  refine wl_of hX hb cL_1210 (rw_pop (pc' := 1211) rfl rfl ?_)
  refine wl_of hX hb cL_1211 (rw_aload_n (pc' := 1212) (v := .ref m) rfl rfl rfl ?_)
  refine wl_of hX hb cL_1212 (rw_aload_n (pc' := 1213) (v := .ref 0) rfl rfl rfl ?_)
  refine wl_of hX hb cL_1213 (rw_iload (pc' := 1215) (z := i) rfl rfl ?_)
  refine wl_of hX hb cL_1215 (rw_iconst (pc' := 1216) rfl ?_)
  refine wl_of hX hb cL_1216 (rw_iadd (pc' := 1217) rfl ?_)
  have k3173 : H3163 0 ((i + 1).toNat) = H 0 ((i + 1).toNat) := (f3168 0 ((i + 1).toNat) _ g0 (wmem_s rfl))
  refine wl_of hX hb cL_1217 (xa_I (so := 0) (pc' := 1218) (a := 0) w3167 g0 (wsh_s _) (by omega) (wty_s _ _) (by omega) (by omega) rfl (fun b3171 b3172 => ?_))
  have k3174 : wKI H3163 m = wKI H m := (wKI_fr hW gm f3168 rfl)
  have k3175 : H3163 x 9 = H x 9 := (f3168 x 9 _ gx rfl)
  have k3176 : H3163 m 6 = H m 6 := (f3168 m 6 _ gm rfl)
  have k3177 : H3163 x 11 = H x 11 := (f3168 x 11 _ gx rfl)
  have k3178 : H3163 m 13 = H m 13 := (f3168 m 13 _ gm rfl)
  have k3179 : H3163 x 8 = H x 8 := (f3168 x 8 _ gx rfl)
  have k3180 : H3163 m 3 = H m 3 := (f3168 m 3 _ gm rfl)
  refine wl_of hX hb cL_1218 (xc_V (pc' := 1221) (r := m) (as := [vI (H3163 0 ((i + 1).toNat))]) (st := []) (lm_11_158) rfl rfl (Nat.le_of_ble_eq_true rfl) w3167 gm sh_42 (by decide) rfl (by decide) (s_272 w3167 gm ⟨by omega, by omega⟩ (by omega)) (fun R3181 T3182 H3183 p3184 => ?_))
  obtain ⟨e3185, w3187, f3188, z3190, e3186, b3191, p3189⟩ := p3184
  subst e3185
  subst e3186
  show WL _ _ _ _ 1221 [(4, vI i), (3, .ref o), (2, .ref m), (1, .ref x), (0, .ref 0)] [vI z3190] _ H3183
  refine wl_of hX hb cL_1221 (rw_pop (pc' := 1222) rfl rfl ?_)
  refine wl_of hX hb cL_1222 (rw_goto (p1 := 1653) (by decide) ?_)
  have k3192 : H3183 x 9 = H3163 x 9 := (f3188 x 9 _ gx rfl)
  have k3193 : H3183 m 6 = H3163 m 6 := (f3188 m 6 _ gm rfl)
  have k3194 : H3183 x 11 = H3163 x 11 := (f3188 x 11 _ gx rfl)
  have k3195 : H3183 m 13 = H3163 m 13 := (f3188 m 13 _ gm rfl)
  have k3196 : H3183 x 8 = H3163 x 8 := (f3188 x 8 _ gx rfl)
  have k3197 : H3183 m 3 = H3163 m 3 := (f3188 m 3 _ gm rfl)
  have h3198 : XI T H3183 x m := (XI_fr w3167 gx f3188 rfl (XI_fr hW gx f3168 rfl hXI))
  exact WL.loc hX (by simp) (next T H3183 ⟨⟨w3187, g0, gx, gm, go, by omega, by omega⟩, h3198, by omega, by omega⟩ (by omega) (by omega))
set_option maxHeartbeats 4000000 in
theorem wl_c33 {kt : Nat → Option mc_E} {CB SB : Nat} {X : mc_S → Prop} {T : wq_T} {H : wq_H} {Len x m o : Nat} {i : Int} (hX : wlX kt CB SB X) (hb : T.2.1 ≤ CB ∧ T.2.2.1 ≤ SB) (hI : wlJ Len x m o T H) (hL : Len ≤ 3072) (hi : 0 ≤ i ∧ i + 6 ≤ Len) (hb2 : T.2.1 + 20 ≤ CB ∧ T.2.2.1 + 500 ≤ SB)  (next : ∀ T' H', wlJ Len x m o T' H' → T'.2.1 ≤ T.2.1 + 20 → T'.2.2.1 ≤ T.2.2.1 + 500 → WL kt CB SB X 1653 (wlL i x m o) [] T' H') : WL kt CB SB X 1225 (wlL i x m o) [] T H := by
  obtain ⟨⟨hW, g0, gx, gm, go, hK, hr⟩, hXI, hY1, hY2⟩ := hI
  refine wl_of hX hb cL_1225 (rw_aload_n (pc' := 1226) (v := .ref x) rfl rfl rfl ?_)
  refine wl_of hX hb cL_1226 (rw_aload_n (pc' := 1227) (v := .ref 0) rfl rfl rfl ?_)
  refine wl_of hX hb cL_1227 (rw_iload (pc' := 1229) (z := i) rfl rfl ?_)
  refine wl_of hX hb cL_1229 (rw_iconst (pc' := 1230) rfl ?_)
  refine wl_of hX hb cL_1230 (rw_iadd (pc' := 1231) rfl ?_)
  refine wl_of hX hb cL_1231 (xa_I (so := 0) (pc' := 1232) (a := 0) hW g0 (wsh_s _) (by omega) (wty_s _ _) (by omega) (by omega) rfl (fun b3199 b3200 => ?_))
  refine wl_of hX hb cL_1232 (xc_V (pc' := 1235) (r := x) (as := [vI (H 0 ((i + 1).toNat))]) (st := []) (lm_11_159) rfl rfl (Nat.le_of_ble_eq_true rfl) hW gx sh_1 (by decide) rfl (by decide) (s_135 hW gx ⟨by omega, by omega⟩) (fun R3201 T3202 H3203 p3204 => ?_))
  obtain ⟨e3205, w3207, f3208, z3209, e3206, b3210⟩ := p3204
  subst e3205
  subst e3206
  show WL _ _ _ _ 1235 [(4, vI i), (3, .ref o), (2, .ref m), (1, .ref x), (0, .ref 0)] [vI z3209] _ H3203
  refine wl_of hX hb cL_1235 (rw_pop (pc' := 1236) rfl rfl ?_)
  refine wl_of hX hb cL_1236 (rw_aload_n (pc' := 1237) (v := .ref m) rfl rfl rfl ?_)
  refine wl_of hX hb cL_1237 (rw_aload_n (pc' := 1238) (v := .ref 0) rfl rfl rfl ?_)
  refine wl_of hX hb cL_1238 (rw_iload (pc' := 1240) (z := i) rfl rfl ?_)
  refine wl_of hX hb cL_1240 (rw_iconst (pc' := 1241) rfl ?_)
  refine wl_of hX hb cL_1241 (rw_iadd (pc' := 1242) rfl ?_)
  have k3213 : H3203 0 ((i + 1).toNat) = H 0 ((i + 1).toNat) := (f3208 0 ((i + 1).toNat) _ g0 (wmem_s rfl))
  refine wl_of hX hb cL_1242 (xa_I (so := 0) (pc' := 1243) (a := 0) w3207 g0 (wsh_s _) (by omega) (wty_s _ _) (by omega) (by omega) rfl (fun b3211 b3212 => ?_))
  have k3214 : wKI H3203 m = wKI H m := (wKI_fr hW gm f3208 rfl)
  have k3215 : H3203 x 9 = H x 9 := (f3208 x 9 _ gx rfl)
  have k3216 : H3203 m 6 = H m 6 := (f3208 m 6 _ gm rfl)
  have k3217 : H3203 x 11 = H x 11 := (f3208 x 11 _ gx rfl)
  have k3218 : H3203 m 13 = H m 13 := (f3208 m 13 _ gm rfl)
  have k3219 : H3203 x 8 = H x 8 := (f3208 x 8 _ gx rfl)
  have k3220 : H3203 m 3 = H m 3 := (f3208 m 3 _ gm rfl)
  refine wl_of hX hb cL_1243 (xc_V (pc' := 1246) (r := m) (as := [vI (H3203 0 ((i + 1).toNat))]) (st := []) (lm_11_162) rfl rfl (Nat.le_of_ble_eq_true rfl) w3207 gm sh_42 (by decide) rfl (by decide) (s_275 w3207 gm ⟨by omega, by omega⟩ (by omega)) (fun R3221 T3222 H3223 p3224 => ?_))
  obtain ⟨e3225, w3227, f3228, z3230, e3226, b3231, p3229⟩ := p3224
  subst e3225
  subst e3226
  show WL _ _ _ _ 1246 [(4, vI i), (3, .ref o), (2, .ref m), (1, .ref x), (0, .ref 0)] [vI z3230] _ H3223
  refine wl_of hX hb cL_1246 (rw_pop (pc' := 1247) rfl rfl ?_)
  refine wl_of hX hb cL_1247 (rw_goto (p1 := 1653) (by decide) ?_)
  have k3232 : H3223 x 9 = H3203 x 9 := (f3228 x 9 _ gx rfl)
  have k3233 : H3223 m 6 = H3203 m 6 := (f3228 m 6 _ gm rfl)
  have k3234 : H3223 x 11 = H3203 x 11 := (f3228 x 11 _ gx rfl)
  have k3235 : H3223 m 13 = H3203 m 13 := (f3228 m 13 _ gm rfl)
  have k3236 : H3223 x 8 = H3203 x 8 := (f3228 x 8 _ gx rfl)
  have k3237 : H3223 m 3 = H3203 m 3 := (f3228 m 3 _ gm rfl)
  have h3238 : XI T H3223 x m := (XI_fr w3207 gx f3228 rfl (XI_fr hW gx f3208 rfl hXI))
  exact WL.loc hX (by simp) (next T H3223 ⟨⟨w3227, g0, gx, gm, go, by omega, by omega⟩, h3238, by omega, by omega⟩ (by omega) (by omega))
set_option maxHeartbeats 4000000 in
theorem wl_c34 {kt : Nat → Option mc_E} {CB SB : Nat} {X : mc_S → Prop} {T : wq_T} {H : wq_H} {Len x m o : Nat} {i : Int} (hX : wlX kt CB SB X) (hb : T.2.1 ≤ CB ∧ T.2.2.1 ≤ SB) (hI : wlJ Len x m o T H) (hL : Len ≤ 3072) (hi : 0 ≤ i ∧ i + 6 ≤ Len) (hb2 : T.2.1 + 20 ≤ CB ∧ T.2.2.1 + 500 ≤ SB)  (next : ∀ T' H', wlJ Len x m o T' H' → T'.2.1 ≤ T.2.1 + 20 → T'.2.2.1 ≤ T.2.2.1 + 500 → WL kt CB SB X 1653 (wlL i x m o) [] T' H') : WL kt CB SB X 1250 (wlL i x m o) [] T H := by
  obtain ⟨⟨hW, g0, gx, gm, go, hK, hr⟩, hXI, hY1, hY2⟩ := hI
  refine wl_of hX hb cL_1250 (rw_aload_n (pc' := 1251) (v := .ref x) rfl rfl rfl ?_)
  refine wl_of hX hb cL_1251 (xc_V (pc' := 1254) (r := x) (as := []) (st := []) (lm_11_163) rfl rfl (Nat.le_of_ble_eq_true rfl) hW gx sh_1 (by decide) rfl (by decide) (s_137 hW gx) (fun R3239 T3240 H3241 p3242 => ?_))
  obtain ⟨e3243, w3245, f3246, z3247, e3244, b3248⟩ := p3242
  subst e3243
  subst e3244
  show WL _ _ _ _ 1254 [(4, vI i), (3, .ref o), (2, .ref m), (1, .ref x), (0, .ref 0)] [vI z3247] _ H3241
  refine wl_of hX hb cL_1254 (rw_pop (pc' := 1255) rfl rfl ?_)
  refine wl_of hX hb cL_1255 (rw_aload_n (pc' := 1256) (v := .ref m) rfl rfl rfl ?_)
  have k3249 : wKI H3241 m = wKI H m := (wKI_fr hW gm f3246 rfl)
  have k3250 : H3241 x 9 = H x 9 := (f3246 x 9 _ gx rfl)
  have k3251 : H3241 m 6 = H m 6 := (f3246 m 6 _ gm rfl)
  have k3252 : H3241 x 11 = H x 11 := (f3246 x 11 _ gx rfl)
  have k3253 : H3241 m 13 = H m 13 := (f3246 m 13 _ gm rfl)
  have k3254 : H3241 x 8 = H x 8 := (f3246 x 8 _ gx rfl)
  have k3255 : H3241 m 3 = H m 3 := (f3246 m 3 _ gm rfl)
  refine wl_of hX hb cL_1256 (xc_V (pc' := 1259) (r := m) (as := []) (st := []) (lm_11_166) rfl rfl (Nat.le_of_ble_eq_true rfl) w3245 gm sh_42 (by decide) rfl (by decide) (s_276 w3245 gm (by omega)) (fun R3256 T3257 H3258 p3259 => ?_))
  obtain ⟨e3260, w3262, f3263, z3265, e3261, b3266, p3264⟩ := p3259
  subst e3260
  subst e3261
  show WL _ _ _ _ 1259 [(4, vI i), (3, .ref o), (2, .ref m), (1, .ref x), (0, .ref 0)] [vI z3265] _ H3258
  refine wl_of hX hb cL_1259 (rw_pop (pc' := 1260) rfl rfl ?_)
  refine wl_of hX hb cL_1260 (rw_goto (p1 := 1653) (by decide) ?_)
  have k3267 : H3258 x 9 = H3241 x 9 := (f3263 x 9 _ gx rfl)
  have k3268 : H3258 m 6 = H3241 m 6 := (f3263 m 6 _ gm rfl)
  have k3269 : H3258 x 11 = H3241 x 11 := (f3263 x 11 _ gx rfl)
  have k3270 : H3258 m 13 = H3241 m 13 := (f3263 m 13 _ gm rfl)
  have k3271 : H3258 x 8 = H3241 x 8 := (f3263 x 8 _ gx rfl)
  have k3272 : H3258 m 3 = H3241 m 3 := (f3263 m 3 _ gm rfl)
  have h3273 : XI T H3258 x m := (XI_fr w3245 gx f3263 rfl (XI_fr hW gx f3246 rfl hXI))
  exact WL.loc hX (by simp) (next T H3258 ⟨⟨w3262, g0, gx, gm, go, by omega, by omega⟩, h3273, by omega, by omega⟩ (by omega) (by omega))
set_option maxHeartbeats 4000000 in
theorem wl_c35 {kt : Nat → Option mc_E} {CB SB : Nat} {X : mc_S → Prop} {T : wq_T} {H : wq_H} {Len x m o : Nat} {i : Int} (hX : wlX kt CB SB X) (hb : T.2.1 ≤ CB ∧ T.2.2.1 ≤ SB) (hI : wlJ Len x m o T H) (hL : Len ≤ 3072) (hi : 0 ≤ i ∧ i + 6 ≤ Len) (hb2 : T.2.1 + 20 ≤ CB ∧ T.2.2.1 + 500 ≤ SB)  (next : ∀ T' H', wlJ Len x m o T' H' → T'.2.1 ≤ T.2.1 + 20 → T'.2.2.1 ≤ T.2.2.1 + 500 → WL kt CB SB X 1653 (wlL i x m o) [] T' H') : WL kt CB SB X 1263 (wlL i x m o) [] T H := by
  obtain ⟨⟨hW, g0, gx, gm, go, hK, hr⟩, hXI, hY1, hY2⟩ := hI
  refine wl_of hX hb cL_1263 (rw_aload_n (pc' := 1264) (v := .ref x) rfl rfl rfl ?_)
  refine wl_of hX hb cL_1264 (rw_aload_n (pc' := 1265) (v := .ref 0) rfl rfl rfl ?_)
  refine wl_of hX hb cL_1265 (rw_iload (pc' := 1267) (z := i) rfl rfl ?_)
  refine wl_of hX hb cL_1267 (rw_iconst (pc' := 1268) rfl ?_)
  refine wl_of hX hb cL_1268 (rw_iadd (pc' := 1269) rfl ?_)
  refine wl_of hX hb cL_1269 (xa_I (so := 0) (pc' := 1270) (a := 0) hW g0 (wsh_s _) (by omega) (wty_s _ _) (by omega) (by omega) rfl (fun b3274 b3275 => ?_))
  refine wl_of hX hb cL_1270 (rw_aload_n (pc' := 1271) (v := .ref 0) rfl rfl rfl ?_)
  refine wl_of hX hb cL_1271 (rw_iload (pc' := 1273) (z := i) rfl rfl ?_)
  refine wl_of hX hb cL_1273 (rw_iconst (pc' := 1274) rfl ?_)
  refine wl_of hX hb cL_1274 (rw_iadd (pc' := 1275) rfl ?_)
  refine wl_of hX hb cL_1275 (xa_I (so := 0) (pc' := 1276) (a := 0) hW g0 (wsh_s _) (by omega) (wty_s _ _) (by omega) (by omega) rfl (fun b3276 b3277 => ?_))
  refine wl_of hX hb cL_1276 (rw_if_eq (p1 := 1283) (p2 := 1279) (by decide) rfl ⟨by omega, by omega⟩ (fun c3278 => ?_) (fun c3278 => ?_))
  · refine wl_of hX hb cL_1283 (rw_iconst (pc' := 1284) rfl ?_)
    refine wl_of hX hb cL_1284 (xc_V (pc' := 1287) (r := x) (as := [vI (H 0 ((i + 1).toNat)), vI 0]) (st := []) (lm_11_167) rfl rfl (Nat.le_of_ble_eq_true rfl) hW gx sh_1 (by decide) rfl (by decide) (s_146 hW gx ⟨by omega, by omega⟩ ⟨by decide, by decide⟩) (fun R3279 T3280 H3281 p3282 => ?_))
    obtain ⟨e3283, w3285, f3286, z3287, e3284, b3288⟩ := p3282
    subst e3283
    subst e3284
    show WL _ _ _ _ 1287 [(4, vI i), (3, .ref o), (2, .ref m), (1, .ref x), (0, .ref 0)] [vI z3287] _ H3281
    refine wl_of hX hb cL_1287 (rw_pop (pc' := 1288) rfl rfl ?_)
    refine wl_of hX hb cL_1288 (rw_aload_n (pc' := 1289) (v := .ref m) rfl rfl rfl ?_)
    refine wl_of hX hb cL_1289 (rw_aload_n (pc' := 1290) (v := .ref 0) rfl rfl rfl ?_)
    refine wl_of hX hb cL_1290 (rw_iload (pc' := 1292) (z := i) rfl rfl ?_)
    refine wl_of hX hb cL_1292 (rw_iconst (pc' := 1293) rfl ?_)
    refine wl_of hX hb cL_1293 (rw_iadd (pc' := 1294) rfl ?_)
    have k3291 : H3281 0 ((i + 1).toNat) = H 0 ((i + 1).toNat) := (f3286 0 ((i + 1).toNat) _ g0 (wmem_s rfl))
    refine wl_of hX hb cL_1294 (xa_I (so := 0) (pc' := 1295) (a := 0) w3285 g0 (wsh_s _) (by omega) (wty_s _ _) (by omega) (by omega) rfl (fun b3289 b3290 => ?_))
    refine wl_of hX hb cL_1295 (rw_aload_n (pc' := 1296) (v := .ref 0) rfl rfl rfl ?_)
    refine wl_of hX hb cL_1296 (rw_iload (pc' := 1298) (z := i) rfl rfl ?_)
    refine wl_of hX hb cL_1298 (rw_iconst (pc' := 1299) rfl ?_)
    refine wl_of hX hb cL_1299 (rw_iadd (pc' := 1300) rfl ?_)
    have k3294 : H3281 0 ((i + 2).toNat) = H 0 ((i + 2).toNat) := (f3286 0 ((i + 2).toNat) _ g0 (wmem_s rfl))
    refine wl_of hX hb cL_1300 (xa_I (so := 0) (pc' := 1301) (a := 0) w3285 g0 (wsh_s _) (by omega) (wty_s _ _) (by omega) (by omega) rfl (fun b3292 b3293 => ?_))
    refine wl_of hX hb cL_1301 (rw_if_eq (p1 := 1308) (p2 := 1304) (by decide) rfl ⟨by omega, by omega⟩ (fun c3295 => ?_) (fun c3295 => ?_))
    · refine wl_of hX hb cL_1308 (rw_iconst (pc' := 1309) rfl ?_)
      have k3296 : wKI H3281 m = wKI H m := (wKI_fr hW gm f3286 rfl)
      have k3297 : H3281 x 9 = H x 9 := (f3286 x 9 _ gx rfl)
      have k3298 : H3281 m 6 = H m 6 := (f3286 m 6 _ gm rfl)
      have k3299 : H3281 x 11 = H x 11 := (f3286 x 11 _ gx rfl)
      have k3300 : H3281 m 13 = H m 13 := (f3286 m 13 _ gm rfl)
      have k3301 : H3281 x 8 = H x 8 := (f3286 x 8 _ gx rfl)
      have k3302 : H3281 m 3 = H m 3 := (f3286 m 3 _ gm rfl)
      refine wl_of hX hb cL_1309 (xc_V (pc' := 1312) (r := m) (as := [vI (H3281 0 ((i + 1).toNat)), vI 0]) (st := []) (lm_11_170) rfl rfl (Nat.le_of_ble_eq_true rfl) w3285 gm sh_42 (by decide) rfl (by decide) (s_279 w3285 gm ⟨by omega, by omega⟩ ⟨by decide, by decide⟩ (by omega)) (fun R3303 T3304 H3305 p3306 => ?_))
      obtain ⟨e3307, w3309, f3310, z3312, e3308, b3313, p3311⟩ := p3306
      subst e3307
      subst e3308
      show WL _ _ _ _ 1312 [(4, vI i), (3, .ref o), (2, .ref m), (1, .ref x), (0, .ref 0)] [vI z3312] _ H3305
      refine wl_of hX hb cL_1312 (rw_pop (pc' := 1313) rfl rfl ?_)
      refine wl_of hX hb cL_1313 (rw_goto (p1 := 1653) (by decide) ?_)
      have k3314 : H3305 x 9 = H3281 x 9 := (f3310 x 9 _ gx rfl)
      have k3315 : H3305 m 6 = H3281 m 6 := (f3310 m 6 _ gm rfl)
      have k3316 : H3305 x 11 = H3281 x 11 := (f3310 x 11 _ gx rfl)
      have k3317 : H3305 m 13 = H3281 m 13 := (f3310 m 13 _ gm rfl)
      have k3318 : H3305 x 8 = H3281 x 8 := (f3310 x 8 _ gx rfl)
      have k3319 : H3305 m 3 = H3281 m 3 := (f3310 m 3 _ gm rfl)
      have h3320 : XI T H3305 x m := (XI_fr w3285 gx f3310 rfl (XI_fr hW gx f3286 rfl hXI))
      exact WL.loc hX (by simp) (next T H3305 ⟨⟨w3309, g0, gx, gm, go, by omega, by omega⟩, h3320, by omega, by omega⟩ (by omega) (by omega))
    · exfalso
      omega
  · refine wl_of hX hb cL_1279 (rw_iconst (pc' := 1280) rfl ?_)
    refine wl_of hX hb cL_1280 (rw_goto (p1 := 1284) (by decide) ?_)
    refine wl_of hX hb cL_1284 (xc_V (pc' := 1287) (r := x) (as := [vI (H 0 ((i + 1).toNat)), vI 1]) (st := []) (lm_11_167) rfl rfl (Nat.le_of_ble_eq_true rfl) hW gx sh_1 (by decide) rfl (by decide) (s_146 hW gx ⟨by omega, by omega⟩ ⟨by decide, by decide⟩) (fun R3321 T3322 H3323 p3324 => ?_))
    obtain ⟨e3325, w3327, f3328, z3329, e3326, b3330⟩ := p3324
    subst e3325
    subst e3326
    show WL _ _ _ _ 1287 [(4, vI i), (3, .ref o), (2, .ref m), (1, .ref x), (0, .ref 0)] [vI z3329] _ H3323
    refine wl_of hX hb cL_1287 (rw_pop (pc' := 1288) rfl rfl ?_)
    refine wl_of hX hb cL_1288 (rw_aload_n (pc' := 1289) (v := .ref m) rfl rfl rfl ?_)
    refine wl_of hX hb cL_1289 (rw_aload_n (pc' := 1290) (v := .ref 0) rfl rfl rfl ?_)
    refine wl_of hX hb cL_1290 (rw_iload (pc' := 1292) (z := i) rfl rfl ?_)
    refine wl_of hX hb cL_1292 (rw_iconst (pc' := 1293) rfl ?_)
    refine wl_of hX hb cL_1293 (rw_iadd (pc' := 1294) rfl ?_)
    have k3333 : H3323 0 ((i + 1).toNat) = H 0 ((i + 1).toNat) := (f3328 0 ((i + 1).toNat) _ g0 (wmem_s rfl))
    refine wl_of hX hb cL_1294 (xa_I (so := 0) (pc' := 1295) (a := 0) w3327 g0 (wsh_s _) (by omega) (wty_s _ _) (by omega) (by omega) rfl (fun b3331 b3332 => ?_))
    refine wl_of hX hb cL_1295 (rw_aload_n (pc' := 1296) (v := .ref 0) rfl rfl rfl ?_)
    refine wl_of hX hb cL_1296 (rw_iload (pc' := 1298) (z := i) rfl rfl ?_)
    refine wl_of hX hb cL_1298 (rw_iconst (pc' := 1299) rfl ?_)
    refine wl_of hX hb cL_1299 (rw_iadd (pc' := 1300) rfl ?_)
    have k3336 : H3323 0 ((i + 2).toNat) = H 0 ((i + 2).toNat) := (f3328 0 ((i + 2).toNat) _ g0 (wmem_s rfl))
    refine wl_of hX hb cL_1300 (xa_I (so := 0) (pc' := 1301) (a := 0) w3327 g0 (wsh_s _) (by omega) (wty_s _ _) (by omega) (by omega) rfl (fun b3334 b3335 => ?_))
    refine wl_of hX hb cL_1301 (rw_if_eq (p1 := 1308) (p2 := 1304) (by decide) rfl ⟨by omega, by omega⟩ (fun c3337 => ?_) (fun c3337 => ?_))
    · refine wl_of hX hb cL_1308 (rw_iconst (pc' := 1309) rfl ?_)
      have k3338 : wKI H3323 m = wKI H m := (wKI_fr hW gm f3328 rfl)
      have k3339 : H3323 x 9 = H x 9 := (f3328 x 9 _ gx rfl)
      have k3340 : H3323 m 6 = H m 6 := (f3328 m 6 _ gm rfl)
      have k3341 : H3323 x 11 = H x 11 := (f3328 x 11 _ gx rfl)
      have k3342 : H3323 m 13 = H m 13 := (f3328 m 13 _ gm rfl)
      have k3343 : H3323 x 8 = H x 8 := (f3328 x 8 _ gx rfl)
      have k3344 : H3323 m 3 = H m 3 := (f3328 m 3 _ gm rfl)
      refine wl_of hX hb cL_1309 (xc_V (pc' := 1312) (r := m) (as := [vI (H3323 0 ((i + 1).toNat)), vI 0]) (st := []) (lm_11_170) rfl rfl (Nat.le_of_ble_eq_true rfl) w3327 gm sh_42 (by decide) rfl (by decide) (s_279 w3327 gm ⟨by omega, by omega⟩ ⟨by decide, by decide⟩ (by omega)) (fun R3345 T3346 H3347 p3348 => ?_))
      obtain ⟨e3349, w3351, f3352, z3354, e3350, b3355, p3353⟩ := p3348
      subst e3349
      subst e3350
      show WL _ _ _ _ 1312 [(4, vI i), (3, .ref o), (2, .ref m), (1, .ref x), (0, .ref 0)] [vI z3354] _ H3347
      refine wl_of hX hb cL_1312 (rw_pop (pc' := 1313) rfl rfl ?_)
      refine wl_of hX hb cL_1313 (rw_goto (p1 := 1653) (by decide) ?_)
      have k3356 : H3347 x 9 = H3323 x 9 := (f3352 x 9 _ gx rfl)
      have k3357 : H3347 m 6 = H3323 m 6 := (f3352 m 6 _ gm rfl)
      have k3358 : H3347 x 11 = H3323 x 11 := (f3352 x 11 _ gx rfl)
      have k3359 : H3347 m 13 = H3323 m 13 := (f3352 m 13 _ gm rfl)
      have k3360 : H3347 x 8 = H3323 x 8 := (f3352 x 8 _ gx rfl)
      have k3361 : H3347 m 3 = H3323 m 3 := (f3352 m 3 _ gm rfl)
      have h3362 : XI T H3347 x m := (XI_fr w3327 gx f3352 rfl (XI_fr hW gx f3328 rfl hXI))
      exact WL.loc hX (by simp) (next T H3347 ⟨⟨w3351, g0, gx, gm, go, by omega, by omega⟩, h3362, by omega, by omega⟩ (by omega) (by omega))
    · refine wl_of hX hb cL_1304 (rw_iconst (pc' := 1305) rfl ?_)
      refine wl_of hX hb cL_1305 (rw_goto (p1 := 1309) (by decide) ?_)
      have k3363 : wKI H3323 m = wKI H m := (wKI_fr hW gm f3328 rfl)
      have k3364 : H3323 x 9 = H x 9 := (f3328 x 9 _ gx rfl)
      have k3365 : H3323 m 6 = H m 6 := (f3328 m 6 _ gm rfl)
      have k3366 : H3323 x 11 = H x 11 := (f3328 x 11 _ gx rfl)
      have k3367 : H3323 m 13 = H m 13 := (f3328 m 13 _ gm rfl)
      have k3368 : H3323 x 8 = H x 8 := (f3328 x 8 _ gx rfl)
      have k3369 : H3323 m 3 = H m 3 := (f3328 m 3 _ gm rfl)
      refine wl_of hX hb cL_1309 (xc_V (pc' := 1312) (r := m) (as := [vI (H3323 0 ((i + 1).toNat)), vI 1]) (st := []) (lm_11_170) rfl rfl (Nat.le_of_ble_eq_true rfl) w3327 gm sh_42 (by decide) rfl (by decide) (s_279 w3327 gm ⟨by omega, by omega⟩ ⟨by decide, by decide⟩ (by omega)) (fun R3370 T3371 H3372 p3373 => ?_))
      obtain ⟨e3374, w3376, f3377, z3379, e3375, b3380, p3378⟩ := p3373
      subst e3374
      subst e3375
      show WL _ _ _ _ 1312 [(4, vI i), (3, .ref o), (2, .ref m), (1, .ref x), (0, .ref 0)] [vI z3379] _ H3372
      refine wl_of hX hb cL_1312 (rw_pop (pc' := 1313) rfl rfl ?_)
      refine wl_of hX hb cL_1313 (rw_goto (p1 := 1653) (by decide) ?_)
      have k3381 : H3372 x 9 = H3323 x 9 := (f3377 x 9 _ gx rfl)
      have k3382 : H3372 m 6 = H3323 m 6 := (f3377 m 6 _ gm rfl)
      have k3383 : H3372 x 11 = H3323 x 11 := (f3377 x 11 _ gx rfl)
      have k3384 : H3372 m 13 = H3323 m 13 := (f3377 m 13 _ gm rfl)
      have k3385 : H3372 x 8 = H3323 x 8 := (f3377 x 8 _ gx rfl)
      have k3386 : H3372 m 3 = H3323 m 3 := (f3377 m 3 _ gm rfl)
      have h3387 : XI T H3372 x m := (XI_fr w3327 gx f3377 rfl (XI_fr hW gx f3328 rfl hXI))
      exact WL.loc hX (by simp) (next T H3372 ⟨⟨w3376, g0, gx, gm, go, by omega, by omega⟩, h3387, by omega, by omega⟩ (by omega) (by omega))
set_option maxHeartbeats 4000000 in
theorem wl_c36 {kt : Nat → Option mc_E} {CB SB : Nat} {X : mc_S → Prop} {T : wq_T} {H : wq_H} {Len x m o : Nat} {i : Int} (hX : wlX kt CB SB X) (hb : T.2.1 ≤ CB ∧ T.2.2.1 ≤ SB) (hI : wlJ Len x m o T H) (hL : Len ≤ 3072) (hi : 0 ≤ i ∧ i + 6 ≤ Len) (hb2 : T.2.1 + 20 ≤ CB ∧ T.2.2.1 + 500 ≤ SB)  (next : ∀ T' H', wlJ Len x m o T' H' → T'.2.1 ≤ T.2.1 + 20 → T'.2.2.1 ≤ T.2.2.1 + 500 → WL kt CB SB X 1653 (wlL i x m o) [] T' H') : WL kt CB SB X 1316 (wlL i x m o) [] T H := by
  obtain ⟨⟨hW, g0, gx, gm, go, hK, hr⟩, hXI, hY1, hY2⟩ := hI
  refine wl_of hX hb cL_1316 (rw_aload_n (pc' := 1317) (v := .ref x) rfl rfl rfl ?_)
  refine wl_of hX hb cL_1317 (xc_V (pc' := 1320) (r := x) (as := []) (st := []) (lm_11_171) rfl rfl (Nat.le_of_ble_eq_true rfl) hW gx sh_1 (by decide) rfl (by decide) (s_147 hW gx) (fun R3388 T3389 H3390 p3391 => ?_))
  obtain ⟨e3392, w3394, f3395, z3396, e3393, b3397⟩ := p3391
  subst e3392
  subst e3393
  show WL _ _ _ _ 1320 [(4, vI i), (3, .ref o), (2, .ref m), (1, .ref x), (0, .ref 0)] [vI z3396] _ H3390
  refine wl_of hX hb cL_1320 (rw_pop (pc' := 1321) rfl rfl ?_)
  refine wl_of hX hb cL_1321 (rw_aload_n (pc' := 1322) (v := .ref m) rfl rfl rfl ?_)
  have k3398 : wKI H3390 m = wKI H m := (wKI_fr hW gm f3395 rfl)
  have k3399 : H3390 x 9 = H x 9 := (f3395 x 9 _ gx rfl)
  have k3400 : H3390 m 6 = H m 6 := (f3395 m 6 _ gm rfl)
  have k3401 : H3390 x 11 = H x 11 := (f3395 x 11 _ gx rfl)
  have k3402 : H3390 m 13 = H m 13 := (f3395 m 13 _ gm rfl)
  have k3403 : H3390 x 8 = H x 8 := (f3395 x 8 _ gx rfl)
  have k3404 : H3390 m 3 = H m 3 := (f3395 m 3 _ gm rfl)
  refine wl_of hX hb cL_1322 (xc_V (pc' := 1325) (r := m) (as := []) (st := []) (lm_11_174) rfl rfl (Nat.le_of_ble_eq_true rfl) w3394 gm sh_42 (by decide) rfl (by decide) (s_282 w3394 gm (by omega)) (fun R3405 T3406 H3407 p3408 => ?_))
  obtain ⟨e3409, w3411, f3412, z3414, e3410, b3415, p3413⟩ := p3408
  subst e3409
  subst e3410
  show WL _ _ _ _ 1325 [(4, vI i), (3, .ref o), (2, .ref m), (1, .ref x), (0, .ref 0)] [vI z3414] _ H3407
  refine wl_of hX hb cL_1325 (rw_pop (pc' := 1326) rfl rfl ?_)
  refine wl_of hX hb cL_1326 (rw_goto (p1 := 1653) (by decide) ?_)
  have k3416 : H3407 x 9 = H3390 x 9 := (f3412 x 9 _ gx rfl)
  have k3417 : H3407 m 6 = H3390 m 6 := (f3412 m 6 _ gm rfl)
  have k3418 : H3407 x 11 = H3390 x 11 := (f3412 x 11 _ gx rfl)
  have k3419 : H3407 m 13 = H3390 m 13 := (f3412 m 13 _ gm rfl)
  have k3420 : H3407 x 8 = H3390 x 8 := (f3412 x 8 _ gx rfl)
  have k3421 : H3407 m 3 = H3390 m 3 := (f3412 m 3 _ gm rfl)
  have h3422 : XI T H3407 x m := (XI_fr w3394 gx f3412 rfl (XI_fr hW gx f3395 rfl hXI))
  exact WL.loc hX (by simp) (next T H3407 ⟨⟨w3411, g0, gx, gm, go, by omega, by omega⟩, h3422, by omega, by omega⟩ (by omega) (by omega))
set_option maxHeartbeats 4000000 in
theorem wl_c37 {kt : Nat → Option mc_E} {CB SB : Nat} {X : mc_S → Prop} {T : wq_T} {H : wq_H} {Len x m o : Nat} {i : Int} (hX : wlX kt CB SB X) (hb : T.2.1 ≤ CB ∧ T.2.2.1 ≤ SB) (hI : wlJ Len x m o T H) (hL : Len ≤ 3072) (hi : 0 ≤ i ∧ i + 6 ≤ Len) (hb2 : T.2.1 + 20 ≤ CB ∧ T.2.2.1 + 500 ≤ SB)  (next : ∀ T' H', wlJ Len x m o T' H' → T'.2.1 ≤ T.2.1 + 20 → T'.2.2.1 ≤ T.2.2.1 + 500 → WL kt CB SB X 1653 (wlL i x m o) [] T' H') : WL kt CB SB X 1329 (wlL i x m o) [] T H := by
  obtain ⟨⟨hW, g0, gx, gm, go, hK, hr⟩, hXI, hY1, hY2⟩ := hI
  refine wl_of hX hb cL_1329 (rw_aload_n (pc' := 1330) (v := .ref x) rfl rfl rfl ?_)
  refine wl_of hX hb cL_1330 (xc_V (pc' := 1333) (r := x) (as := []) (st := []) (lm_11_175) rfl rfl (Nat.le_of_ble_eq_true rfl) hW gx sh_1 (by decide) rfl (by decide) (s_149 hW gx) (fun R3423 T3424 H3425 p3426 => ?_))
  obtain ⟨e3427, w3429, f3430, z3431, e3428, b3432⟩ := p3426
  subst e3427
  subst e3428
  show WL _ _ _ _ 1333 [(4, vI i), (3, .ref o), (2, .ref m), (1, .ref x), (0, .ref 0)] [vI z3431] _ H3425
  refine wl_of hX hb cL_1333 (rw_pop (pc' := 1334) rfl rfl ?_)
  refine wl_of hX hb cL_1334 (rw_aload_n (pc' := 1335) (v := .ref m) rfl rfl rfl ?_)
  have k3433 : wKI H3425 m = wKI H m := (wKI_fr hW gm f3430 rfl)
  have k3434 : H3425 x 9 = H x 9 := (f3430 x 9 _ gx rfl)
  have k3435 : H3425 m 6 = H m 6 := (f3430 m 6 _ gm rfl)
  have k3436 : H3425 x 11 = H x 11 := (f3430 x 11 _ gx rfl)
  have k3437 : H3425 m 13 = H m 13 := (f3430 m 13 _ gm rfl)
  have k3438 : H3425 x 8 = H x 8 := (f3430 x 8 _ gx rfl)
  have k3439 : H3425 m 3 = H m 3 := (f3430 m 3 _ gm rfl)
  refine wl_of hX hb cL_1335 (xc_V (pc' := 1338) (r := m) (as := []) (st := []) (lm_11_178) rfl rfl (Nat.le_of_ble_eq_true rfl) w3429 gm sh_42 (by decide) rfl (by decide) (s_283 w3429 gm (by omega)) (fun R3440 T3441 H3442 p3443 => ?_))
  obtain ⟨e3444, w3446, f3447, z3449, e3445, b3450, p3448⟩ := p3443
  subst e3444
  subst e3445
  show WL _ _ _ _ 1338 [(4, vI i), (3, .ref o), (2, .ref m), (1, .ref x), (0, .ref 0)] [vI z3449] _ H3442
  refine wl_of hX hb cL_1338 (rw_pop (pc' := 1339) rfl rfl ?_)
  refine wl_of hX hb cL_1339 (rw_goto (p1 := 1653) (by decide) ?_)
  have k3451 : H3442 x 9 = H3425 x 9 := (f3447 x 9 _ gx rfl)
  have k3452 : H3442 m 6 = H3425 m 6 := (f3447 m 6 _ gm rfl)
  have k3453 : H3442 x 11 = H3425 x 11 := (f3447 x 11 _ gx rfl)
  have k3454 : H3442 m 13 = H3425 m 13 := (f3447 m 13 _ gm rfl)
  have k3455 : H3442 x 8 = H3425 x 8 := (f3447 x 8 _ gx rfl)
  have k3456 : H3442 m 3 = H3425 m 3 := (f3447 m 3 _ gm rfl)
  have h3457 : XI T H3442 x m := (XI_fr w3429 gx f3447 rfl (XI_fr hW gx f3430 rfl hXI))
  exact WL.loc hX (by simp) (next T H3442 ⟨⟨w3446, g0, gx, gm, go, by omega, by omega⟩, h3457, by omega, by omega⟩ (by omega) (by omega))
set_option maxHeartbeats 4000000 in
theorem wl_c38 {kt : Nat → Option mc_E} {CB SB : Nat} {X : mc_S → Prop} {T : wq_T} {H : wq_H} {Len x m o : Nat} {i : Int} (hX : wlX kt CB SB X) (hb : T.2.1 ≤ CB ∧ T.2.2.1 ≤ SB) (hI : wlJ Len x m o T H) (hL : Len ≤ 3072) (hi : 0 ≤ i ∧ i + 6 ≤ Len) (hb2 : T.2.1 + 20 ≤ CB ∧ T.2.2.1 + 500 ≤ SB)  (next : ∀ T' H', wlJ Len x m o T' H' → T'.2.1 ≤ T.2.1 + 20 → T'.2.2.1 ≤ T.2.2.1 + 500 → WL kt CB SB X 1653 (wlL i x m o) [] T' H') : WL kt CB SB X 1342 (wlL i x m o) [] T H := by
  obtain ⟨⟨hW, g0, gx, gm, go, hK, hr⟩, hXI, hY1, hY2⟩ := hI
  refine wl_of hX hb cL_1342 (rw_aload_n (pc' := 1343) (v := .ref x) rfl rfl rfl ?_)
  refine wl_of hX hb cL_1343 (rw_aload_n (pc' := 1344) (v := .ref 0) rfl rfl rfl ?_)
  refine wl_of hX hb cL_1344 (rw_iload (pc' := 1346) (z := i) rfl rfl ?_)
  refine wl_of hX hb cL_1346 (rw_iconst (pc' := 1347) rfl ?_)
  refine wl_of hX hb cL_1347 (rw_iadd (pc' := 1348) rfl ?_)
  refine wl_of hX hb cL_1348 (xa_I (so := 0) (pc' := 1349) (a := 0) hW g0 (wsh_s _) (by omega) (wty_s _ _) (by omega) (by omega) rfl (fun b3458 b3459 => ?_))
  refine wl_of hX hb cL_1349 (xc_V (pc' := 1352) (r := x) (as := [vI (H 0 ((i + 1).toNat))]) (st := []) (lm_11_179) rfl rfl (Nat.le_of_ble_eq_true rfl) hW gx sh_1 (by decide) rfl (by decide) (s_152 hW gx ⟨by omega, by omega⟩) (fun R3460 T3461 H3462 p3463 => ?_))
  obtain ⟨e3464, w3466, f3467, z3468, e3465, b3469⟩ := p3463
  subst e3464
  subst e3465
  show WL _ _ _ _ 1352 [(4, vI i), (3, .ref o), (2, .ref m), (1, .ref x), (0, .ref 0)] [vI z3468] _ H3462
  refine wl_of hX hb cL_1352 (rw_pop (pc' := 1353) rfl rfl ?_)
  refine wl_of hX hb cL_1353 (rw_aload_n (pc' := 1354) (v := .ref m) rfl rfl rfl ?_)
  refine wl_of hX hb cL_1354 (rw_aload_n (pc' := 1355) (v := .ref 0) rfl rfl rfl ?_)
  refine wl_of hX hb cL_1355 (rw_iload (pc' := 1357) (z := i) rfl rfl ?_)
  refine wl_of hX hb cL_1357 (rw_iconst (pc' := 1358) rfl ?_)
  refine wl_of hX hb cL_1358 (rw_iadd (pc' := 1359) rfl ?_)
  have k3472 : H3462 0 ((i + 1).toNat) = H 0 ((i + 1).toNat) := (f3467 0 ((i + 1).toNat) _ g0 (wmem_s rfl))
  refine wl_of hX hb cL_1359 (xa_I (so := 0) (pc' := 1360) (a := 0) w3466 g0 (wsh_s _) (by omega) (wty_s _ _) (by omega) (by omega) rfl (fun b3470 b3471 => ?_))
  have k3473 : wKI H3462 m = wKI H m := (wKI_fr hW gm f3467 rfl)
  have k3474 : H3462 x 9 = H x 9 := (f3467 x 9 _ gx rfl)
  have k3475 : H3462 m 6 = H m 6 := (f3467 m 6 _ gm rfl)
  have k3476 : H3462 x 11 = H x 11 := (f3467 x 11 _ gx rfl)
  have k3477 : H3462 m 13 = H m 13 := (f3467 m 13 _ gm rfl)
  have k3478 : H3462 x 8 = H x 8 := (f3467 x 8 _ gx rfl)
  have k3479 : H3462 m 3 = H m 3 := (f3467 m 3 _ gm rfl)
  refine wl_of hX hb cL_1360 (xc_V (pc' := 1363) (r := m) (as := [vI (H3462 0 ((i + 1).toNat))]) (st := []) (lm_11_182) rfl rfl (Nat.le_of_ble_eq_true rfl) w3466 gm sh_42 (by decide) rfl (by decide) (s_284 w3466 gm ⟨by omega, by omega⟩ (by omega)) (fun R3480 T3481 H3482 p3483 => ?_))
  obtain ⟨e3484, w3486, f3487, z3489, e3485, b3490, p3488⟩ := p3483
  subst e3484
  subst e3485
  show WL _ _ _ _ 1363 [(4, vI i), (3, .ref o), (2, .ref m), (1, .ref x), (0, .ref 0)] [vI z3489] _ H3482
  refine wl_of hX hb cL_1363 (rw_pop (pc' := 1364) rfl rfl ?_)
  refine wl_of hX hb cL_1364 (rw_goto (p1 := 1653) (by decide) ?_)
  have k3491 : H3482 x 9 = H3462 x 9 := (f3487 x 9 _ gx rfl)
  have k3492 : H3482 m 6 = H3462 m 6 := (f3487 m 6 _ gm rfl)
  have k3493 : H3482 x 11 = H3462 x 11 := (f3487 x 11 _ gx rfl)
  have k3494 : H3482 m 13 = H3462 m 13 := (f3487 m 13 _ gm rfl)
  have k3495 : H3482 x 8 = H3462 x 8 := (f3487 x 8 _ gx rfl)
  have k3496 : H3482 m 3 = H3462 m 3 := (f3487 m 3 _ gm rfl)
  have h3497 : XI T H3482 x m := (XI_fr w3466 gx f3487 rfl (XI_fr hW gx f3467 rfl hXI))
  exact WL.loc hX (by simp) (next T H3482 ⟨⟨w3486, g0, gx, gm, go, by omega, by omega⟩, h3497, by omega, by omega⟩ (by omega) (by omega))
set_option maxHeartbeats 4000000 in
theorem wl_c39 {kt : Nat → Option mc_E} {CB SB : Nat} {X : mc_S → Prop} {T : wq_T} {H : wq_H} {Len x m o : Nat} {i : Int} (hX : wlX kt CB SB X) (hb : T.2.1 ≤ CB ∧ T.2.2.1 ≤ SB) (hI : wlJ Len x m o T H) (hL : Len ≤ 3072) (hi : 0 ≤ i ∧ i + 6 ≤ Len) (hb2 : T.2.1 + 20 ≤ CB ∧ T.2.2.1 + 500 ≤ SB)  (next : ∀ T' H', wlJ Len x m o T' H' → T'.2.1 ≤ T.2.1 + 20 → T'.2.2.1 ≤ T.2.2.1 + 500 → WL kt CB SB X 1653 (wlL i x m o) [] T' H') : WL kt CB SB X 1367 (wlL i x m o) [] T H := by
  obtain ⟨⟨hW, g0, gx, gm, go, hK, hr⟩, hXI, hY1, hY2⟩ := hI
  refine wl_of hX hb cL_1367 (rw_aload_n (pc' := 1368) (v := .ref x) rfl rfl rfl ?_)
  refine wl_of hX hb cL_1368 (rw_aload_n (pc' := 1369) (v := .ref 0) rfl rfl rfl ?_)
  refine wl_of hX hb cL_1369 (rw_iload (pc' := 1371) (z := i) rfl rfl ?_)
  refine wl_of hX hb cL_1371 (rw_iconst (pc' := 1372) rfl ?_)
  refine wl_of hX hb cL_1372 (rw_iadd (pc' := 1373) rfl ?_)
  refine wl_of hX hb cL_1373 (xa_I (so := 0) (pc' := 1374) (a := 0) hW g0 (wsh_s _) (by omega) (wty_s _ _) (by omega) (by omega) rfl (fun b3498 b3499 => ?_))
  refine wl_of hX hb cL_1374 (rw_aload_n (pc' := 1375) (v := .ref 0) rfl rfl rfl ?_)
  refine wl_of hX hb cL_1375 (rw_iload (pc' := 1377) (z := i) rfl rfl ?_)
  refine wl_of hX hb cL_1377 (rw_iconst (pc' := 1378) rfl ?_)
  refine wl_of hX hb cL_1378 (rw_iadd (pc' := 1379) rfl ?_)
  refine wl_of hX hb cL_1379 (xa_I (so := 0) (pc' := 1380) (a := 0) hW g0 (wsh_s _) (by omega) (wty_s _ _) (by omega) (by omega) rfl (fun b3500 b3501 => ?_))
  obtain ⟨B, tc, tm, cu, dr, C8, e8, d8, n8, g8, e0, gtc, htc, em, gtm, htm, ecu, gcu, edr, gdr, hcu, hdr, hdec, hded, hsp, hC1, hC2, hcu8, hrb8, hcg8, hmn8, hE, hZ, hn8, -⟩ := hXI
  have hN3 := RB_n3 hrb8
  have hE13 : ∀ h : Nat, h < 24 → 0 ≤ e8 13 h ∧ e8 13 h ≤ 100 := fun k hk => by
    obtain ⟨s, h1, h2, h3⟩ := hcu8.1.2.2.1
    exact ⟨(h3 k hk).1, (h3 k hk).2.1⟩
  have hE0 : e8 0 3 = d8 0 3 ∧ e8 0 0 = d8 0 0 := by
    have h := hE 0 (by decide)
    exact ⟨congrFun h 3, congrFun h 0⟩
  have u3502 := CU_k hcu8
  have h3503 : CY T H cu (d8 0 3) g8 (H cu 17) := ⟨hcg8, rfl⟩
  have h3504 : RY T H m (d8 0 3) g8 (H m 32) := ⟨hmn8, rfl⟩
  obtain ⟨t9, ht9⟩ : ∃ t : Int, t = H x 9 := ⟨_, rfl⟩
  obtain ⟨y9, hy9⟩ : ∃ y : Int, y = H 0 ((i + 2).toNat) := ⟨_, rfl⟩
  refine wl_of hX hb cL_1380 (xc_V (pc' := 1383) (r := x) (as := [vI (H 0 ((i + 1).toNat)), vI (H 0 ((i + 2).toNat))]) (st := []) (lm_11_183) rfl rfl (Nat.le_of_ble_eq_true rfl) hW gx sh_1 (by decide) rfl (by decide) (u_153 (e := e8) (d := d8) (n := n8) (y := ((H 0 ((i + 1).toNat)))) (w := (((H 0 ((i + 2).toNat)) + 1))) hW gx ⟨by omega, by omega⟩ ⟨by omega, by omega⟩ ecu gcu (by omega) (by omega) (by omega) (by omega) hcu8) (fun R3505 T3506 H3507 p3508 => ?_))
  obtain ⟨e3509, w3511, f3512, z3513, e3510, b3514, p3515⟩ := p3508
  subst e3509
  subst e3510
  rcases p3515 with ⟨a3516, a3517, a3518⟩ | ⟨a3519, a3520, a3521, a3522⟩
  · show WL _ _ _ _ 1383 [(4, vI i), (3, .ref o), (2, .ref m), (1, .ref x), (0, .ref 0)] [vI z3513] _ H3507
    have u3523 := CU_k a3518
    refine wl_of hX hb cL_1383 (rw_pop (pc' := 1384) rfl rfl ?_)
    refine wl_of hX hb cL_1384 (rw_aload_n (pc' := 1385) (v := .ref m) rfl rfl rfl ?_)
    refine wl_of hX hb cL_1385 (rw_aload_n (pc' := 1386) (v := .ref 0) rfl rfl rfl ?_)
    refine wl_of hX hb cL_1386 (rw_iload (pc' := 1388) (z := i) rfl rfl ?_)
    refine wl_of hX hb cL_1388 (rw_iconst (pc' := 1389) rfl ?_)
    refine wl_of hX hb cL_1389 (rw_iadd (pc' := 1390) rfl ?_)
    have k3526 : H3507 0 ((i + 1).toNat) = H 0 ((i + 1).toNat) := (f3512 0 ((i + 1).toNat) _ g0 (wmem_s rfl))
    refine wl_of hX hb cL_1390 (xa_I (so := 0) (pc' := 1391) (a := 0) w3511 g0 (wsh_s _) (by omega) (wty_s _ _) (by omega) (by omega) rfl (fun b3524 b3525 => ?_))
    refine wl_of hX hb cL_1391 (rw_aload_n (pc' := 1392) (v := .ref 0) rfl rfl rfl ?_)
    refine wl_of hX hb cL_1392 (rw_iload (pc' := 1394) (z := i) rfl rfl ?_)
    refine wl_of hX hb cL_1394 (rw_iconst (pc' := 1395) rfl ?_)
    refine wl_of hX hb cL_1395 (rw_iadd (pc' := 1396) rfl ?_)
    have k3529 : H3507 0 ((i + 2).toNat) = H 0 ((i + 2).toNat) := (f3512 0 ((i + 2).toNat) _ g0 (wmem_s rfl))
    refine wl_of hX hb cL_1396 (xa_I (so := 0) (pc' := 1397) (a := 0) w3511 g0 (wsh_s _) (by omega) (wty_s _ _) (by omega) (by omega) rfl (fun b3527 b3528 => ?_))
    have k3530 : wKI H3507 m = wKI H m := (wKI_fr hW gm f3512 rfl)
    have k3531 : H3507 x 9 = H x 9 := (f3512 x 9 _ gx rfl)
    have k3532 : H3507 m 6 = H m 6 := (f3512 m 6 _ gm rfl)
    have k3533 : H3507 x 11 = H x 11 := (f3512 x 11 _ gx rfl)
    have k3534 : H3507 m 13 = H m 13 := (f3512 m 13 _ gm rfl)
    have k3535 : H3507 x 8 = H x 8 := (f3512 x 8 _ gx rfl)
    have k3536 : H3507 m 3 = H m 3 := (f3512 m 3 _ gm rfl)
    rw [show H3507 0 ((i + 2).toNat) = H 0 ((i + 2).toNat) by omega]
    rw [show H3507 0 ((i + 1).toNat) = H 0 ((i + 1).toNat) by omega]
    have h3537 : RB T H3507 m e8 d8 := (RB_fr hW gm f3512 rfl hrb8)
    refine wl_of hX hb cL_1397 (xc_V (pc' := 1400) (r := m) (as := [vI (H 0 ((i + 1).toNat)), vI (H 0 ((i + 2).toNat))]) (st := []) (lm_11_186) rfl rfl (Nat.le_of_ble_eq_true rfl) w3511 gm sh_42 (by decide) rfl (by decide) (u_285 (e := e8) (d := d8) (y := ((H 0 ((i + 1).toNat)))) (w := (((H 0 ((i + 2).toNat)) + 1))) w3511 gm ⟨by omega, by omega⟩ ⟨by omega, by omega⟩ (by omega) (by omega) (by omega) h3537) (fun R3538 T3539 H3540 p3541 => ?_))
    obtain ⟨e3542, w3544, f3545, z3546, e3543, b3547, p3548⟩ := p3541
    subst e3542
    subst e3543
    rcases p3548 with ⟨a3549, a3550, a3551, a3552⟩ | ⟨a3553, a3554, a3555⟩
    · show WL _ _ _ _ 1400 [(4, vI i), (3, .ref o), (2, .ref m), (1, .ref x), (0, .ref 0)] [vI z3546] _ H3540
      refine wl_of hX hb cL_1400 (rw_pop (pc' := 1401) rfl rfl ?_)
      refine wl_of hX hb cL_1401 (rw_goto (p1 := 1653) (by decide) ?_)
      have k3556 : H3540 x 9 = H3507 x 9 := (f3545 x 9 _ gx rfl)
      have k3557 : H3540 m 6 = H3507 m 6 := (f3545 m 6 _ gm rfl)
      have k3558 : H3540 x 11 = H3507 x 11 := (f3545 x 11 _ gx rfl)
      have k3559 : H3540 m 13 = H3507 m 13 := (f3545 m 13 _ gm rfl)
      have k3560 : H3540 x 8 = H3507 x 8 := (f3545 x 8 _ gx rfl)
      have k3561 : H3540 m 3 = H3507 m 3 := (f3545 m 3 _ gm rfl)
      have k3562 : H3540 x 0 = H x 0 := ((f3545 x 0 _ gx rfl).trans (f3512 x 0 _ gx rfl))
      have q3563 : H3540 x 0 = (tc : Int) := k3562.trans e0
      have k3564 : H3540 m 5 = H m 5 := ((f3545 m 5 _ gm rfl).trans (f3512 m 5 _ gm rfl))
      have q3565 : H3540 m 5 = (tm : Int) := k3564.trans em
      have k3566 : H3540 x 6 = H x 6 := ((f3545 x 6 _ gx rfl).trans (f3512 x 6 _ gx rfl))
      have q3567 : H3540 x 6 = (cu : Int) := k3566.trans ecu
      have k3568 : H3540 x 7 = H x 7 := ((f3545 x 7 _ gx rfl).trans (f3512 x 7 _ gx rfl))
      have q3569 : H3540 x 7 = (dr : Int) := k3568.trans edr
      have h3570 : TP T H3540 tc B := (TP_fr w3511 gtc f3545 rfl (TP_fr hW gtc f3512 rfl htc))
      have h3571 : TM T H3540 tm B := (TM_fr w3511 gtm f3545 rfl (TM_fr hW gtm f3512 rfl htm))
      have h3572 : DD T H3540 cu  := (DD_fr w3511 gcu f3545 rfl (DD_fr hW gcu f3512 rfl hcu))
      have h3573 : DD T H3540 dr  := (DD_fr w3511 gdr f3545 rfl (DD_fr hW gdr f3512 rfl hdr))
      have h3574 : DE T H3540 cu  := (DE_fr w3511 gcu f3545 rfl (DE_fr hW gcu f3512 rfl hdec))
      have h3575 : DE T H3540 dr  := (DE_fr w3511 gdr f3545 rfl (DE_fr hW gdr f3512 rfl hded))
      have h3576 : SP T H3540 x C8 := (SP_fr w3511 gx f3545 rfl (SP_fr hW gx f3512 rfl hsp))
      have h3577 : CU T H3540 cu e8 d8 n8 := (CU_fr w3511 gcu f3545 rfl a3518)
      have h3578 : CY T H3540 cu (d8 0 3) g8 (H cu 17) := (CY_fr w3511 gcu f3545 rfl (CY_fr hW gcu f3512 rfl h3503))
      have h3579 : RY T H3540 m (d8 0 3) g8 (H m 32) := (RY_fr w3511 gm f3545 rfl (RY_fr hW gm f3512 rfl h3504))
      exact WL.loc hX (by simp) (next T H3540 ⟨⟨w3544, g0, gx, gm, go, by omega, by omega⟩, ⟨_, tc, tm, cu, dr, _, _, _, _, _, q3563, gtc, h3570, q3565, gtm, h3571, q3567, gcu, q3569, gdr, h3572, h3573, h3574, h3575, h3576, hC1, hC2, h3577, a3552, (h3578).1, (h3579).1, hE, hZ, (by omega), gm⟩, by omega, by omega⟩ (by omega) (by omega))
    · show WL _ _ _ _ 1400 [(4, vI i), (3, .ref o), (2, .ref m), (1, .ref x), (0, .ref 0)] [vI z3546] _ H3540
      refine wl_of hX hb cL_1400 (rw_pop (pc' := 1401) rfl rfl ?_)
      refine wl_of hX hb cL_1401 (rw_goto (p1 := 1653) (by decide) ?_)
      have k3580 : H3540 x 9 = H3507 x 9 := (f3545 x 9 _ gx rfl)
      have k3581 : H3540 m 6 = H3507 m 6 := (f3545 m 6 _ gm rfl)
      have k3582 : H3540 x 11 = H3507 x 11 := (f3545 x 11 _ gx rfl)
      have k3583 : H3540 m 13 = H3507 m 13 := (f3545 m 13 _ gm rfl)
      have k3584 : H3540 x 8 = H3507 x 8 := (f3545 x 8 _ gx rfl)
      have k3585 : H3540 m 3 = H3507 m 3 := (f3545 m 3 _ gm rfl)
      have k3586 : H3540 x 0 = H x 0 := ((f3545 x 0 _ gx rfl).trans (f3512 x 0 _ gx rfl))
      have q3587 : H3540 x 0 = (tc : Int) := k3586.trans e0
      have k3588 : H3540 m 5 = H m 5 := ((f3545 m 5 _ gm rfl).trans (f3512 m 5 _ gm rfl))
      have q3589 : H3540 m 5 = (tm : Int) := k3588.trans em
      have k3590 : H3540 x 6 = H x 6 := ((f3545 x 6 _ gx rfl).trans (f3512 x 6 _ gx rfl))
      have q3591 : H3540 x 6 = (cu : Int) := k3590.trans ecu
      have k3592 : H3540 x 7 = H x 7 := ((f3545 x 7 _ gx rfl).trans (f3512 x 7 _ gx rfl))
      have q3593 : H3540 x 7 = (dr : Int) := k3592.trans edr
      have h3594 : TP T H3540 tc B := (TP_fr w3511 gtc f3545 rfl (TP_fr hW gtc f3512 rfl htc))
      have h3595 : TM T H3540 tm B := (TM_fr w3511 gtm f3545 rfl (TM_fr hW gtm f3512 rfl htm))
      have h3596 : DD T H3540 cu  := (DD_fr w3511 gcu f3545 rfl (DD_fr hW gcu f3512 rfl hcu))
      have h3597 : DD T H3540 dr  := (DD_fr w3511 gdr f3545 rfl (DD_fr hW gdr f3512 rfl hdr))
      have h3598 : DE T H3540 cu  := (DE_fr w3511 gcu f3545 rfl (DE_fr hW gcu f3512 rfl hdec))
      have h3599 : DE T H3540 dr  := (DE_fr w3511 gdr f3545 rfl (DE_fr hW gdr f3512 rfl hded))
      have h3600 : SP T H3540 x C8 := (SP_fr w3511 gx f3545 rfl (SP_fr hW gx f3512 rfl hsp))
      have h3601 : CU T H3540 cu e8 d8 n8 := (CU_fr w3511 gcu f3545 rfl a3518)
      have h3602 : CY T H3540 cu (d8 0 3) g8 (H cu 17) := (CY_fr w3511 gcu f3545 rfl (CY_fr hW gcu f3512 rfl h3503))
      exfalso
      omega
  · show WL _ _ _ _ 1383 [(4, vI i), (3, .ref o), (2, .ref m), (1, .ref x), (0, .ref 0)] [vI z3513] _ H3507
    have u3603 := CU_k a3522
    refine wl_of hX hb cL_1383 (rw_pop (pc' := 1384) rfl rfl ?_)
    refine wl_of hX hb cL_1384 (rw_aload_n (pc' := 1385) (v := .ref m) rfl rfl rfl ?_)
    refine wl_of hX hb cL_1385 (rw_aload_n (pc' := 1386) (v := .ref 0) rfl rfl rfl ?_)
    refine wl_of hX hb cL_1386 (rw_iload (pc' := 1388) (z := i) rfl rfl ?_)
    refine wl_of hX hb cL_1388 (rw_iconst (pc' := 1389) rfl ?_)
    refine wl_of hX hb cL_1389 (rw_iadd (pc' := 1390) rfl ?_)
    have k3606 : H3507 0 ((i + 1).toNat) = H 0 ((i + 1).toNat) := (f3512 0 ((i + 1).toNat) _ g0 (wmem_s rfl))
    refine wl_of hX hb cL_1390 (xa_I (so := 0) (pc' := 1391) (a := 0) w3511 g0 (wsh_s _) (by omega) (wty_s _ _) (by omega) (by omega) rfl (fun b3604 b3605 => ?_))
    refine wl_of hX hb cL_1391 (rw_aload_n (pc' := 1392) (v := .ref 0) rfl rfl rfl ?_)
    refine wl_of hX hb cL_1392 (rw_iload (pc' := 1394) (z := i) rfl rfl ?_)
    refine wl_of hX hb cL_1394 (rw_iconst (pc' := 1395) rfl ?_)
    refine wl_of hX hb cL_1395 (rw_iadd (pc' := 1396) rfl ?_)
    have k3609 : H3507 0 ((i + 2).toNat) = H 0 ((i + 2).toNat) := (f3512 0 ((i + 2).toNat) _ g0 (wmem_s rfl))
    refine wl_of hX hb cL_1396 (xa_I (so := 0) (pc' := 1397) (a := 0) w3511 g0 (wsh_s _) (by omega) (wty_s _ _) (by omega) (by omega) rfl (fun b3607 b3608 => ?_))
    have k3610 : wKI H3507 m = wKI H m := (wKI_fr hW gm f3512 rfl)
    have k3611 : H3507 x 9 = H x 9 := (f3512 x 9 _ gx rfl)
    have k3612 : H3507 m 6 = H m 6 := (f3512 m 6 _ gm rfl)
    have k3613 : H3507 x 11 = H x 11 := (f3512 x 11 _ gx rfl)
    have k3614 : H3507 m 13 = H m 13 := (f3512 m 13 _ gm rfl)
    have k3615 : H3507 x 8 = H x 8 := (f3512 x 8 _ gx rfl)
    have k3616 : H3507 m 3 = H m 3 := (f3512 m 3 _ gm rfl)
    rw [show H3507 0 ((i + 2).toNat) = H 0 ((i + 2).toNat) by omega]
    rw [show H3507 0 ((i + 1).toNat) = H 0 ((i + 1).toNat) by omega]
    have h3617 : RB T H3507 m e8 d8 := (RB_fr hW gm f3512 rfl hrb8)
    refine wl_of hX hb cL_1397 (xc_V (pc' := 1400) (r := m) (as := [vI (H 0 ((i + 1).toNat)), vI (H 0 ((i + 2).toNat))]) (st := []) (lm_11_186) rfl rfl (Nat.le_of_ble_eq_true rfl) w3511 gm sh_42 (by decide) rfl (by decide) (u_285 (e := e8) (d := d8) (y := ((H 0 ((i + 1).toNat)))) (w := (((H 0 ((i + 2).toNat)) + 1))) w3511 gm ⟨by omega, by omega⟩ ⟨by omega, by omega⟩ (by omega) (by omega) (by omega) h3617) (fun R3618 T3619 H3620 p3621 => ?_))
    obtain ⟨e3622, w3624, f3625, z3626, e3623, b3627, p3628⟩ := p3621
    subst e3622
    subst e3623
    rcases p3628 with ⟨a3629, a3630, a3631, a3632⟩ | ⟨a3633, a3634, a3635⟩
    · show WL _ _ _ _ 1400 [(4, vI i), (3, .ref o), (2, .ref m), (1, .ref x), (0, .ref 0)] [vI z3626] _ H3620
      refine wl_of hX hb cL_1400 (rw_pop (pc' := 1401) rfl rfl ?_)
      refine wl_of hX hb cL_1401 (rw_goto (p1 := 1653) (by decide) ?_)
      have k3636 : H3620 x 9 = H3507 x 9 := (f3625 x 9 _ gx rfl)
      have k3637 : H3620 m 6 = H3507 m 6 := (f3625 m 6 _ gm rfl)
      have k3638 : H3620 x 11 = H3507 x 11 := (f3625 x 11 _ gx rfl)
      have k3639 : H3620 m 13 = H3507 m 13 := (f3625 m 13 _ gm rfl)
      have k3640 : H3620 x 8 = H3507 x 8 := (f3625 x 8 _ gx rfl)
      have k3641 : H3620 m 3 = H3507 m 3 := (f3625 m 3 _ gm rfl)
      have k3642 : H3620 x 0 = H x 0 := ((f3625 x 0 _ gx rfl).trans (f3512 x 0 _ gx rfl))
      have q3643 : H3620 x 0 = (tc : Int) := k3642.trans e0
      have k3644 : H3620 m 5 = H m 5 := ((f3625 m 5 _ gm rfl).trans (f3512 m 5 _ gm rfl))
      have q3645 : H3620 m 5 = (tm : Int) := k3644.trans em
      have k3646 : H3620 x 6 = H x 6 := ((f3625 x 6 _ gx rfl).trans (f3512 x 6 _ gx rfl))
      have q3647 : H3620 x 6 = (cu : Int) := k3646.trans ecu
      have k3648 : H3620 x 7 = H x 7 := ((f3625 x 7 _ gx rfl).trans (f3512 x 7 _ gx rfl))
      have q3649 : H3620 x 7 = (dr : Int) := k3648.trans edr
      have h3650 : TP T H3620 tc B := (TP_fr w3511 gtc f3625 rfl (TP_fr hW gtc f3512 rfl htc))
      have h3651 : TM T H3620 tm B := (TM_fr w3511 gtm f3625 rfl (TM_fr hW gtm f3512 rfl htm))
      have h3652 : DD T H3620 cu  := (DD_fr w3511 gcu f3625 rfl (DD_fr hW gcu f3512 rfl hcu))
      have h3653 : DD T H3620 dr  := (DD_fr w3511 gdr f3625 rfl (DD_fr hW gdr f3512 rfl hdr))
      have h3654 : DE T H3620 cu  := (DE_fr w3511 gcu f3625 rfl (DE_fr hW gcu f3512 rfl hdec))
      have h3655 : DE T H3620 dr  := (DE_fr w3511 gdr f3625 rfl (DE_fr hW gdr f3512 rfl hded))
      have h3656 : SP T H3620 x C8 := (SP_fr w3511 gx f3625 rfl (SP_fr hW gx f3512 rfl hsp))
      have h3657 : CU T H3620 cu (wq_u e8 13 (((H 0 ((i + 1).toNat)))).toNat (((H 0 ((i + 2).toNat)) + 1))) d8 n8 := (CU_fr w3511 gcu f3625 rfl a3522)
      have h3658 : CY T H3620 cu (d8 0 3) g8 (H cu 17) := (CY_fr w3511 gcu f3625 rfl (CY_fr hW gcu f3512 rfl h3503))
      exfalso
      omega
    · show WL _ _ _ _ 1400 [(4, vI i), (3, .ref o), (2, .ref m), (1, .ref x), (0, .ref 0)] [vI z3626] _ H3620
      refine wl_of hX hb cL_1400 (rw_pop (pc' := 1401) rfl rfl ?_)
      refine wl_of hX hb cL_1401 (rw_goto (p1 := 1653) (by decide) ?_)
      have k3659 : H3620 x 9 = H3507 x 9 := (f3625 x 9 _ gx rfl)
      have k3660 : H3620 m 6 = H3507 m 6 := (f3625 m 6 _ gm rfl)
      have k3661 : H3620 x 11 = H3507 x 11 := (f3625 x 11 _ gx rfl)
      have k3662 : H3620 m 13 = H3507 m 13 := (f3625 m 13 _ gm rfl)
      have k3663 : H3620 x 8 = H3507 x 8 := (f3625 x 8 _ gx rfl)
      have k3664 : H3620 m 3 = H3507 m 3 := (f3625 m 3 _ gm rfl)
      have k3665 : H3620 x 0 = H x 0 := ((f3625 x 0 _ gx rfl).trans (f3512 x 0 _ gx rfl))
      have q3666 : H3620 x 0 = (tc : Int) := k3665.trans e0
      have k3667 : H3620 m 5 = H m 5 := ((f3625 m 5 _ gm rfl).trans (f3512 m 5 _ gm rfl))
      have q3668 : H3620 m 5 = (tm : Int) := k3667.trans em
      have k3669 : H3620 x 6 = H x 6 := ((f3625 x 6 _ gx rfl).trans (f3512 x 6 _ gx rfl))
      have q3670 : H3620 x 6 = (cu : Int) := k3669.trans ecu
      have k3671 : H3620 x 7 = H x 7 := ((f3625 x 7 _ gx rfl).trans (f3512 x 7 _ gx rfl))
      have q3672 : H3620 x 7 = (dr : Int) := k3671.trans edr
      have h3673 : TP T H3620 tc B := (TP_fr w3511 gtc f3625 rfl (TP_fr hW gtc f3512 rfl htc))
      have h3674 : TM T H3620 tm B := (TM_fr w3511 gtm f3625 rfl (TM_fr hW gtm f3512 rfl htm))
      have h3675 : DD T H3620 cu  := (DD_fr w3511 gcu f3625 rfl (DD_fr hW gcu f3512 rfl hcu))
      have h3676 : DD T H3620 dr  := (DD_fr w3511 gdr f3625 rfl (DD_fr hW gdr f3512 rfl hdr))
      have h3677 : DE T H3620 cu  := (DE_fr w3511 gcu f3625 rfl (DE_fr hW gcu f3512 rfl hdec))
      have h3678 : DE T H3620 dr  := (DE_fr w3511 gdr f3625 rfl (DE_fr hW gdr f3512 rfl hded))
      have h3679 : SP T H3620 x C8 := (SP_fr w3511 gx f3625 rfl (SP_fr hW gx f3512 rfl hsp))
      have h3680 : CU T H3620 cu (wq_u e8 13 (((H 0 ((i + 1).toNat)))).toNat (((H 0 ((i + 2).toNat)) + 1))) d8 n8 := (CU_fr w3511 gcu f3625 rfl a3522)
      have h3681 : CY T H3620 cu (d8 0 3) g8 (H cu 17) := (CY_fr w3511 gcu f3625 rfl (CY_fr hW gcu f3512 rfl h3503))
      have h3682 : RY T H3620 m (d8 0 3) g8 (H m 32) := (RY_fr w3511 gm f3625 rfl (RY_fr hW gm f3512 rfl h3504))
      exact WL.loc hX (by simp) (next T H3620 ⟨⟨w3624, g0, gx, gm, go, by omega, by omega⟩, ⟨_, tc, tm, cu, dr, _, _, _, _, _, q3666, gtc, h3673, q3668, gtm, h3674, q3670, gcu, q3672, gdr, h3675, h3676, h3677, h3678, h3679, hC1, hC2, h3680, a3635, (h3681).1, (h3682).1, (fun i hi => (wq_u_row hi).trans (hE i hi)), (fun h h1 h2 => by rw [wq_u_e2 (fun c => by omega)]; exact hZ h h1 h2), (by omega), gm⟩, by omega, by omega⟩ (by omega) (by omega))
set_option maxHeartbeats 4000000 in
theorem wl_c40 {kt : Nat → Option mc_E} {CB SB : Nat} {X : mc_S → Prop} {T : wq_T} {H : wq_H} {Len x m o : Nat} {i : Int} (hX : wlX kt CB SB X) (hb : T.2.1 ≤ CB ∧ T.2.2.1 ≤ SB) (hI : wlJ Len x m o T H) (hL : Len ≤ 3072) (hi : 0 ≤ i ∧ i + 6 ≤ Len) (hb2 : T.2.1 + 20 ≤ CB ∧ T.2.2.1 + 500 ≤ SB)  (next : ∀ T' H', wlJ Len x m o T' H' → T'.2.1 ≤ T.2.1 + 20 → T'.2.2.1 ≤ T.2.2.1 + 500 → WL kt CB SB X 1653 (wlL i x m o) [] T' H') : WL kt CB SB X 1404 (wlL i x m o) [] T H := by
  obtain ⟨⟨hW, g0, gx, gm, go, hK, hr⟩, hXI, hY1, hY2⟩ := hI
  refine wl_of hX hb cL_1404 (rw_aload_n (pc' := 1405) (v := .ref x) rfl rfl rfl ?_)
  refine wl_of hX hb cL_1405 (rw_aload_n (pc' := 1406) (v := .ref 0) rfl rfl rfl ?_)
  refine wl_of hX hb cL_1406 (rw_iload (pc' := 1408) (z := i) rfl rfl ?_)
  refine wl_of hX hb cL_1408 (rw_iconst (pc' := 1409) rfl ?_)
  refine wl_of hX hb cL_1409 (rw_iadd (pc' := 1410) rfl ?_)
  refine wl_of hX hb cL_1410 (xa_I (so := 0) (pc' := 1411) (a := 0) hW g0 (wsh_s _) (by omega) (wty_s _ _) (by omega) (by omega) rfl (fun b3683 b3684 => ?_))
  obtain ⟨B, tc, tm, cu, dr, C8, e8, d8, n8, g8, e0, gtc, htc, em, gtm, htm, ecu, gcu, edr, gdr, hcu, hdr, hdec, hded, hsp, hC1, hC2, hcu8, hrb8, hcg8, hmn8, hE, hZ, hn8, -⟩ := hXI
  have hN3 := RB_n3 hrb8
  have hE13 : ∀ h : Nat, h < 24 → 0 ≤ e8 13 h ∧ e8 13 h ≤ 100 := fun k hk => by
    obtain ⟨s, h1, h2, h3⟩ := hcu8.1.2.2.1
    exact ⟨(h3 k hk).1, (h3 k hk).2.1⟩
  have hE0 : e8 0 3 = d8 0 3 ∧ e8 0 0 = d8 0 0 := by
    have h := hE 0 (by decide)
    exact ⟨congrFun h 3, congrFun h 0⟩
  have u3685 := CU_k hcu8
  have h3686 : CY T H cu (d8 0 3) g8 (H cu 17) := ⟨hcg8, rfl⟩
  have h3687 : RY T H m (d8 0 3) g8 (H m 32) := ⟨hmn8, rfl⟩
  obtain ⟨t9, ht9⟩ : ∃ t : Int, t = H x 9 := ⟨_, rfl⟩
  obtain ⟨y9, hy9⟩ : ∃ y : Int, y = H 0 ((i + 1).toNat) := ⟨_, rfl⟩
  refine wl_of hX hb cL_1411 (xc_V (pc' := 1414) (r := x) (as := [vI (H 0 ((i + 1).toNat))]) (st := []) (lm_11_187) rfl rfl (Nat.le_of_ble_eq_true rfl) hW gx sh_1 (by decide) rfl (by decide) (u_154 (e := e8) (d := d8) (n := n8) (y := ((H 0 ((i + 1).toNat)))) hW gx ⟨by omega, by omega⟩ ecu gcu (by omega) (by omega) (by omega) hcu8) (fun R3688 T3689 H3690 p3691 => ?_))
  obtain ⟨e3692, w3694, f3695, z3696, e3693, b3697, p3698⟩ := p3691
  subst e3692
  subst e3693
  rcases p3698 with ⟨a3699, a3700, a3701, a3702⟩ | ⟨a3703, a3704, a3705⟩
  · show WL _ _ _ _ 1414 [(4, vI i), (3, .ref o), (2, .ref m), (1, .ref x), (0, .ref 0)] [vI z3696] _ H3690
    have u3706 := CU_k a3702
    refine wl_of hX hb cL_1414 (rw_pop (pc' := 1415) rfl rfl ?_)
    refine wl_of hX hb cL_1415 (rw_aload_n (pc' := 1416) (v := .ref m) rfl rfl rfl ?_)
    refine wl_of hX hb cL_1416 (rw_aload_n (pc' := 1417) (v := .ref 0) rfl rfl rfl ?_)
    refine wl_of hX hb cL_1417 (rw_iload (pc' := 1419) (z := i) rfl rfl ?_)
    refine wl_of hX hb cL_1419 (rw_iconst (pc' := 1420) rfl ?_)
    refine wl_of hX hb cL_1420 (rw_iadd (pc' := 1421) rfl ?_)
    have k3709 : H3690 0 ((i + 1).toNat) = H 0 ((i + 1).toNat) := (f3695 0 ((i + 1).toNat) _ g0 (wmem_s rfl))
    refine wl_of hX hb cL_1421 (xa_I (so := 0) (pc' := 1422) (a := 0) w3694 g0 (wsh_s _) (by omega) (wty_s _ _) (by omega) (by omega) rfl (fun b3707 b3708 => ?_))
    have k3710 : wKI H3690 m = wKI H m := (wKI_fr hW gm f3695 rfl)
    have k3711 : H3690 x 9 = H x 9 := (f3695 x 9 _ gx rfl)
    have k3712 : H3690 m 6 = H m 6 := (f3695 m 6 _ gm rfl)
    have k3713 : H3690 x 11 = H x 11 := (f3695 x 11 _ gx rfl)
    have k3714 : H3690 m 13 = H m 13 := (f3695 m 13 _ gm rfl)
    have k3715 : H3690 x 8 = H x 8 := (f3695 x 8 _ gx rfl)
    have k3716 : H3690 m 3 = H m 3 := (f3695 m 3 _ gm rfl)
    rw [show H3690 0 ((i + 1).toNat) = H 0 ((i + 1).toNat) by omega]
    have h3717 : RB T H3690 m e8 d8 := (RB_fr hW gm f3695 rfl hrb8)
    refine wl_of hX hb cL_1422 (xc_V (pc' := 1425) (r := m) (as := [vI (H 0 ((i + 1).toNat))]) (st := []) (lm_11_191) rfl rfl (Nat.le_of_ble_eq_true rfl) w3694 gm sh_42 (by decide) rfl (by decide) (u_286 (e := e8) (d := d8) (y := ((H 0 ((i + 1).toNat)))) w3694 gm ⟨by omega, by omega⟩ (by omega) (by omega) h3717) (fun R3718 T3719 H3720 p3721 => ?_))
    obtain ⟨e3722, w3724, f3725, z3726, e3723, b3727, p3728⟩ := p3721
    subst e3722
    subst e3723
    rcases p3728 with ⟨a3729, a3730, a3731, a3732, a3733⟩ | ⟨a3734, a3735, a3736, a3737⟩
    · show WL _ _ _ _ 1425 [(4, vI i), (3, .ref o), (2, .ref m), (1, .ref x), (0, .ref 0)] [vI z3726] _ H3720
      refine wl_of hX hb cL_1425 (rw_pop (pc' := 1426) rfl rfl ?_)
      refine wl_of hX hb cL_1426 (rw_goto (p1 := 1653) (by decide) ?_)
      have k3738 : H3720 x 9 = H3690 x 9 := (f3725 x 9 _ gx rfl)
      have k3739 : H3720 m 6 = H3690 m 6 := (f3725 m 6 _ gm rfl)
      have k3740 : H3720 x 11 = H3690 x 11 := (f3725 x 11 _ gx rfl)
      have k3741 : H3720 m 13 = H3690 m 13 := (f3725 m 13 _ gm rfl)
      have k3742 : H3720 x 8 = H3690 x 8 := (f3725 x 8 _ gx rfl)
      have k3743 : H3720 m 3 = H3690 m 3 := (f3725 m 3 _ gm rfl)
      have k3744 : H3720 x 0 = H x 0 := ((f3725 x 0 _ gx rfl).trans (f3695 x 0 _ gx rfl))
      have q3745 : H3720 x 0 = (tc : Int) := k3744.trans e0
      have k3746 : H3720 m 5 = H m 5 := ((f3725 m 5 _ gm rfl).trans (f3695 m 5 _ gm rfl))
      have q3747 : H3720 m 5 = (tm : Int) := k3746.trans em
      have k3748 : H3720 x 6 = H x 6 := ((f3725 x 6 _ gx rfl).trans (f3695 x 6 _ gx rfl))
      have q3749 : H3720 x 6 = (cu : Int) := k3748.trans ecu
      have k3750 : H3720 x 7 = H x 7 := ((f3725 x 7 _ gx rfl).trans (f3695 x 7 _ gx rfl))
      have q3751 : H3720 x 7 = (dr : Int) := k3750.trans edr
      have h3752 : TP T H3720 tc B := (TP_fr w3694 gtc f3725 rfl (TP_fr hW gtc f3695 rfl htc))
      have h3753 : TM T H3720 tm B := (TM_fr w3694 gtm f3725 rfl (TM_fr hW gtm f3695 rfl htm))
      have h3754 : DD T H3720 cu  := (DD_fr w3694 gcu f3725 rfl (DD_fr hW gcu f3695 rfl hcu))
      have h3755 : DD T H3720 dr  := (DD_fr w3694 gdr f3725 rfl (DD_fr hW gdr f3695 rfl hdr))
      have h3756 : DE T H3720 cu  := (DE_fr w3694 gcu f3725 rfl (DE_fr hW gcu f3695 rfl hdec))
      have h3757 : DE T H3720 dr  := (DE_fr w3694 gdr f3725 rfl (DE_fr hW gdr f3695 rfl hded))
      have h3758 : SP T H3720 x C8 := (SP_fr w3694 gx f3725 rfl (SP_fr hW gx f3695 rfl hsp))
      have h3759 : CU T H3720 cu (wq_u e8 13 (((H 0 ((i + 1).toNat)))).toNat 0) d8 n8 := (CU_fr w3694 gcu f3725 rfl a3702)
      have h3760 : CY T H3720 cu (d8 0 3) g8 (H cu 17) := (CY_fr w3694 gcu f3725 rfl (CY_fr hW gcu f3695 rfl h3686))
      have h3761 : RY T H3720 m (d8 0 3) g8 (H m 32) := (RY_fr w3694 gm f3725 rfl (RY_fr hW gm f3695 rfl h3687))
      exact WL.loc hX (by simp) (next T H3720 ⟨⟨w3724, g0, gx, gm, go, by omega, by omega⟩, ⟨_, tc, tm, cu, dr, _, _, _, _, _, q3745, gtc, h3752, q3747, gtm, h3753, q3749, gcu, q3751, gdr, h3754, h3755, h3756, h3757, h3758, hC1, hC2, h3759, a3733, (h3760).1, (h3761).1, (fun i hi => (wq_u_row hi).trans (hE i hi)), (fun h h1 h2 => by rw [wq_u_e2 (fun c => by omega)]; exact hZ h h1 h2), (by omega), gm⟩, by omega, by omega⟩ (by omega) (by omega))
    · show WL _ _ _ _ 1425 [(4, vI i), (3, .ref o), (2, .ref m), (1, .ref x), (0, .ref 0)] [vI z3726] _ H3720
      refine wl_of hX hb cL_1425 (rw_pop (pc' := 1426) rfl rfl ?_)
      refine wl_of hX hb cL_1426 (rw_goto (p1 := 1653) (by decide) ?_)
      have k3762 : H3720 x 9 = H3690 x 9 := (f3725 x 9 _ gx rfl)
      have k3763 : H3720 m 6 = H3690 m 6 := (f3725 m 6 _ gm rfl)
      have k3764 : H3720 x 11 = H3690 x 11 := (f3725 x 11 _ gx rfl)
      have k3765 : H3720 m 13 = H3690 m 13 := (f3725 m 13 _ gm rfl)
      have k3766 : H3720 x 8 = H3690 x 8 := (f3725 x 8 _ gx rfl)
      have k3767 : H3720 m 3 = H3690 m 3 := (f3725 m 3 _ gm rfl)
      have k3768 : H3720 x 0 = H x 0 := ((f3725 x 0 _ gx rfl).trans (f3695 x 0 _ gx rfl))
      have q3769 : H3720 x 0 = (tc : Int) := k3768.trans e0
      have k3770 : H3720 m 5 = H m 5 := ((f3725 m 5 _ gm rfl).trans (f3695 m 5 _ gm rfl))
      have q3771 : H3720 m 5 = (tm : Int) := k3770.trans em
      have k3772 : H3720 x 6 = H x 6 := ((f3725 x 6 _ gx rfl).trans (f3695 x 6 _ gx rfl))
      have q3773 : H3720 x 6 = (cu : Int) := k3772.trans ecu
      have k3774 : H3720 x 7 = H x 7 := ((f3725 x 7 _ gx rfl).trans (f3695 x 7 _ gx rfl))
      have q3775 : H3720 x 7 = (dr : Int) := k3774.trans edr
      have h3776 : TP T H3720 tc B := (TP_fr w3694 gtc f3725 rfl (TP_fr hW gtc f3695 rfl htc))
      have h3777 : TM T H3720 tm B := (TM_fr w3694 gtm f3725 rfl (TM_fr hW gtm f3695 rfl htm))
      have h3778 : DD T H3720 cu  := (DD_fr w3694 gcu f3725 rfl (DD_fr hW gcu f3695 rfl hcu))
      have h3779 : DD T H3720 dr  := (DD_fr w3694 gdr f3725 rfl (DD_fr hW gdr f3695 rfl hdr))
      have h3780 : DE T H3720 cu  := (DE_fr w3694 gcu f3725 rfl (DE_fr hW gcu f3695 rfl hdec))
      have h3781 : DE T H3720 dr  := (DE_fr w3694 gdr f3725 rfl (DE_fr hW gdr f3695 rfl hded))
      have h3782 : SP T H3720 x C8 := (SP_fr w3694 gx f3725 rfl (SP_fr hW gx f3695 rfl hsp))
      have h3783 : CU T H3720 cu (wq_u e8 13 (((H 0 ((i + 1).toNat)))).toNat 0) d8 n8 := (CU_fr w3694 gcu f3725 rfl a3702)
      have h3784 : CY T H3720 cu (d8 0 3) g8 (H cu 17) := (CY_fr w3694 gcu f3725 rfl (CY_fr hW gcu f3695 rfl h3686))
      exfalso
      omega
  · show WL _ _ _ _ 1414 [(4, vI i), (3, .ref o), (2, .ref m), (1, .ref x), (0, .ref 0)] [vI z3696] _ H3690
    have u3785 := CU_k a3705
    refine wl_of hX hb cL_1414 (rw_pop (pc' := 1415) rfl rfl ?_)
    refine wl_of hX hb cL_1415 (rw_aload_n (pc' := 1416) (v := .ref m) rfl rfl rfl ?_)
    refine wl_of hX hb cL_1416 (rw_aload_n (pc' := 1417) (v := .ref 0) rfl rfl rfl ?_)
    refine wl_of hX hb cL_1417 (rw_iload (pc' := 1419) (z := i) rfl rfl ?_)
    refine wl_of hX hb cL_1419 (rw_iconst (pc' := 1420) rfl ?_)
    refine wl_of hX hb cL_1420 (rw_iadd (pc' := 1421) rfl ?_)
    have k3788 : H3690 0 ((i + 1).toNat) = H 0 ((i + 1).toNat) := (f3695 0 ((i + 1).toNat) _ g0 (wmem_s rfl))
    refine wl_of hX hb cL_1421 (xa_I (so := 0) (pc' := 1422) (a := 0) w3694 g0 (wsh_s _) (by omega) (wty_s _ _) (by omega) (by omega) rfl (fun b3786 b3787 => ?_))
    have k3789 : wKI H3690 m = wKI H m := (wKI_fr hW gm f3695 rfl)
    have k3790 : H3690 x 9 = H x 9 := (f3695 x 9 _ gx rfl)
    have k3791 : H3690 m 6 = H m 6 := (f3695 m 6 _ gm rfl)
    have k3792 : H3690 x 11 = H x 11 := (f3695 x 11 _ gx rfl)
    have k3793 : H3690 m 13 = H m 13 := (f3695 m 13 _ gm rfl)
    have k3794 : H3690 x 8 = H x 8 := (f3695 x 8 _ gx rfl)
    have k3795 : H3690 m 3 = H m 3 := (f3695 m 3 _ gm rfl)
    rw [show H3690 0 ((i + 1).toNat) = H 0 ((i + 1).toNat) by omega]
    have h3796 : RB T H3690 m e8 d8 := (RB_fr hW gm f3695 rfl hrb8)
    refine wl_of hX hb cL_1422 (xc_V (pc' := 1425) (r := m) (as := [vI (H 0 ((i + 1).toNat))]) (st := []) (lm_11_191) rfl rfl (Nat.le_of_ble_eq_true rfl) w3694 gm sh_42 (by decide) rfl (by decide) (u_286 (e := e8) (d := d8) (y := ((H 0 ((i + 1).toNat)))) w3694 gm ⟨by omega, by omega⟩ (by omega) (by omega) h3796) (fun R3797 T3798 H3799 p3800 => ?_))
    obtain ⟨e3801, w3803, f3804, z3805, e3802, b3806, p3807⟩ := p3800
    subst e3801
    subst e3802
    rcases p3807 with ⟨a3808, a3809, a3810, a3811, a3812⟩ | ⟨a3813, a3814, a3815, a3816⟩
    · show WL _ _ _ _ 1425 [(4, vI i), (3, .ref o), (2, .ref m), (1, .ref x), (0, .ref 0)] [vI z3805] _ H3799
      refine wl_of hX hb cL_1425 (rw_pop (pc' := 1426) rfl rfl ?_)
      refine wl_of hX hb cL_1426 (rw_goto (p1 := 1653) (by decide) ?_)
      have k3817 : H3799 x 9 = H3690 x 9 := (f3804 x 9 _ gx rfl)
      have k3818 : H3799 m 6 = H3690 m 6 := (f3804 m 6 _ gm rfl)
      have k3819 : H3799 x 11 = H3690 x 11 := (f3804 x 11 _ gx rfl)
      have k3820 : H3799 m 13 = H3690 m 13 := (f3804 m 13 _ gm rfl)
      have k3821 : H3799 x 8 = H3690 x 8 := (f3804 x 8 _ gx rfl)
      have k3822 : H3799 m 3 = H3690 m 3 := (f3804 m 3 _ gm rfl)
      have k3823 : H3799 x 0 = H x 0 := ((f3804 x 0 _ gx rfl).trans (f3695 x 0 _ gx rfl))
      have q3824 : H3799 x 0 = (tc : Int) := k3823.trans e0
      have k3825 : H3799 m 5 = H m 5 := ((f3804 m 5 _ gm rfl).trans (f3695 m 5 _ gm rfl))
      have q3826 : H3799 m 5 = (tm : Int) := k3825.trans em
      have k3827 : H3799 x 6 = H x 6 := ((f3804 x 6 _ gx rfl).trans (f3695 x 6 _ gx rfl))
      have q3828 : H3799 x 6 = (cu : Int) := k3827.trans ecu
      have k3829 : H3799 x 7 = H x 7 := ((f3804 x 7 _ gx rfl).trans (f3695 x 7 _ gx rfl))
      have q3830 : H3799 x 7 = (dr : Int) := k3829.trans edr
      have h3831 : TP T H3799 tc B := (TP_fr w3694 gtc f3804 rfl (TP_fr hW gtc f3695 rfl htc))
      have h3832 : TM T H3799 tm B := (TM_fr w3694 gtm f3804 rfl (TM_fr hW gtm f3695 rfl htm))
      have h3833 : DD T H3799 cu  := (DD_fr w3694 gcu f3804 rfl (DD_fr hW gcu f3695 rfl hcu))
      have h3834 : DD T H3799 dr  := (DD_fr w3694 gdr f3804 rfl (DD_fr hW gdr f3695 rfl hdr))
      have h3835 : DE T H3799 cu  := (DE_fr w3694 gcu f3804 rfl (DE_fr hW gcu f3695 rfl hdec))
      have h3836 : DE T H3799 dr  := (DE_fr w3694 gdr f3804 rfl (DE_fr hW gdr f3695 rfl hded))
      have h3837 : SP T H3799 x C8 := (SP_fr w3694 gx f3804 rfl (SP_fr hW gx f3695 rfl hsp))
      have h3838 : CU T H3799 cu e8 d8 n8 := (CU_fr w3694 gcu f3804 rfl a3705)
      have h3839 : CY T H3799 cu (d8 0 3) g8 (H cu 17) := (CY_fr w3694 gcu f3804 rfl (CY_fr hW gcu f3695 rfl h3686))
      exfalso
      omega
    · show WL _ _ _ _ 1425 [(4, vI i), (3, .ref o), (2, .ref m), (1, .ref x), (0, .ref 0)] [vI z3805] _ H3799
      refine wl_of hX hb cL_1425 (rw_pop (pc' := 1426) rfl rfl ?_)
      refine wl_of hX hb cL_1426 (rw_goto (p1 := 1653) (by decide) ?_)
      have k3840 : H3799 x 9 = H3690 x 9 := (f3804 x 9 _ gx rfl)
      have k3841 : H3799 m 6 = H3690 m 6 := (f3804 m 6 _ gm rfl)
      have k3842 : H3799 x 11 = H3690 x 11 := (f3804 x 11 _ gx rfl)
      have k3843 : H3799 m 13 = H3690 m 13 := (f3804 m 13 _ gm rfl)
      have k3844 : H3799 x 8 = H3690 x 8 := (f3804 x 8 _ gx rfl)
      have k3845 : H3799 m 3 = H3690 m 3 := (f3804 m 3 _ gm rfl)
      have k3846 : H3799 x 0 = H x 0 := ((f3804 x 0 _ gx rfl).trans (f3695 x 0 _ gx rfl))
      have q3847 : H3799 x 0 = (tc : Int) := k3846.trans e0
      have k3848 : H3799 m 5 = H m 5 := ((f3804 m 5 _ gm rfl).trans (f3695 m 5 _ gm rfl))
      have q3849 : H3799 m 5 = (tm : Int) := k3848.trans em
      have k3850 : H3799 x 6 = H x 6 := ((f3804 x 6 _ gx rfl).trans (f3695 x 6 _ gx rfl))
      have q3851 : H3799 x 6 = (cu : Int) := k3850.trans ecu
      have k3852 : H3799 x 7 = H x 7 := ((f3804 x 7 _ gx rfl).trans (f3695 x 7 _ gx rfl))
      have q3853 : H3799 x 7 = (dr : Int) := k3852.trans edr
      have h3854 : TP T H3799 tc B := (TP_fr w3694 gtc f3804 rfl (TP_fr hW gtc f3695 rfl htc))
      have h3855 : TM T H3799 tm B := (TM_fr w3694 gtm f3804 rfl (TM_fr hW gtm f3695 rfl htm))
      have h3856 : DD T H3799 cu  := (DD_fr w3694 gcu f3804 rfl (DD_fr hW gcu f3695 rfl hcu))
      have h3857 : DD T H3799 dr  := (DD_fr w3694 gdr f3804 rfl (DD_fr hW gdr f3695 rfl hdr))
      have h3858 : DE T H3799 cu  := (DE_fr w3694 gcu f3804 rfl (DE_fr hW gcu f3695 rfl hdec))
      have h3859 : DE T H3799 dr  := (DE_fr w3694 gdr f3804 rfl (DE_fr hW gdr f3695 rfl hded))
      have h3860 : SP T H3799 x C8 := (SP_fr w3694 gx f3804 rfl (SP_fr hW gx f3695 rfl hsp))
      have h3861 : CU T H3799 cu e8 d8 n8 := (CU_fr w3694 gcu f3804 rfl a3705)
      have h3862 : CY T H3799 cu (d8 0 3) g8 (H cu 17) := (CY_fr w3694 gcu f3804 rfl (CY_fr hW gcu f3695 rfl h3686))
      have h3863 : RY T H3799 m (d8 0 3) g8 (H m 32) := (RY_fr w3694 gm f3804 rfl (RY_fr hW gm f3695 rfl h3687))
      exact WL.loc hX (by simp) (next T H3799 ⟨⟨w3803, g0, gx, gm, go, by omega, by omega⟩, ⟨_, tc, tm, cu, dr, _, _, _, _, _, q3847, gtc, h3854, q3849, gtm, h3855, q3851, gcu, q3853, gdr, h3856, h3857, h3858, h3859, h3860, hC1, hC2, h3861, a3816, (h3862).1, (h3863).1, hE, hZ, (by omega), gm⟩, by omega, by omega⟩ (by omega) (by omega))
set_option maxHeartbeats 4000000 in
theorem wl_c41 {kt : Nat → Option mc_E} {CB SB : Nat} {X : mc_S → Prop} {T : wq_T} {H : wq_H} {Len x m o : Nat} {i : Int} (hX : wlX kt CB SB X) (hb : T.2.1 ≤ CB ∧ T.2.2.1 ≤ SB) (hI : wlJ Len x m o T H) (hL : Len ≤ 3072) (hi : 0 ≤ i ∧ i + 6 ≤ Len) (hb2 : T.2.1 + 20 ≤ CB ∧ T.2.2.1 + 500 ≤ SB)  (next : ∀ T' H', wlJ Len x m o T' H' → T'.2.1 ≤ T.2.1 + 20 → T'.2.2.1 ≤ T.2.2.1 + 500 → WL kt CB SB X 1653 (wlL i x m o) [] T' H') : WL kt CB SB X 1429 (wlL i x m o) [] T H := by
  obtain ⟨⟨hW, g0, gx, gm, go, hK, hr⟩, hXI, hY1, hY2⟩ := hI
  refine wl_of hX hb cL_1429 (rw_aload_n (pc' := 1430) (v := .ref x) rfl rfl rfl ?_)
  refine wl_of hX hb cL_1430 (rw_aload_n (pc' := 1431) (v := .ref 0) rfl rfl rfl ?_)
  refine wl_of hX hb cL_1431 (rw_iload (pc' := 1433) (z := i) rfl rfl ?_)
  refine wl_of hX hb cL_1433 (rw_iconst (pc' := 1434) rfl ?_)
  refine wl_of hX hb cL_1434 (rw_iadd (pc' := 1435) rfl ?_)
  refine wl_of hX hb cL_1435 (xa_I (so := 0) (pc' := 1436) (a := 0) hW g0 (wsh_s _) (by omega) (wty_s _ _) (by omega) (by omega) rfl (fun b3864 b3865 => ?_))
  refine wl_of hX hb cL_1436 (xc_V (pc' := 1439) (r := x) (as := [vI (H 0 ((i + 1).toNat))]) (st := []) (lm_11_192) rfl rfl (Nat.le_of_ble_eq_true rfl) hW gx sh_1 (by decide) rfl (by decide) (s_155 hW gx ⟨by omega, by omega⟩) (fun R3866 T3867 H3868 p3869 => ?_))
  obtain ⟨e3870, w3872, f3873, z3874, e3871, b3875⟩ := p3869
  subst e3870
  subst e3871
  show WL _ _ _ _ 1439 [(4, vI i), (3, .ref o), (2, .ref m), (1, .ref x), (0, .ref 0)] [vI z3874] _ H3868
  refine wl_of hX hb cL_1439 (rw_pop (pc' := 1440) rfl rfl ?_)
  refine wl_of hX hb cL_1440 (rw_aload_n (pc' := 1441) (v := .ref m) rfl rfl rfl ?_)
  refine wl_of hX hb cL_1441 (rw_aload_n (pc' := 1442) (v := .ref 0) rfl rfl rfl ?_)
  refine wl_of hX hb cL_1442 (rw_iload (pc' := 1444) (z := i) rfl rfl ?_)
  refine wl_of hX hb cL_1444 (rw_iconst (pc' := 1445) rfl ?_)
  refine wl_of hX hb cL_1445 (rw_iadd (pc' := 1446) rfl ?_)
  have k3878 : H3868 0 ((i + 1).toNat) = H 0 ((i + 1).toNat) := (f3873 0 ((i + 1).toNat) _ g0 (wmem_s rfl))
  refine wl_of hX hb cL_1446 (xa_I (so := 0) (pc' := 1447) (a := 0) w3872 g0 (wsh_s _) (by omega) (wty_s _ _) (by omega) (by omega) rfl (fun b3876 b3877 => ?_))
  have k3879 : wKI H3868 m = wKI H m := (wKI_fr hW gm f3873 rfl)
  have k3880 : H3868 x 9 = H x 9 := (f3873 x 9 _ gx rfl)
  have k3881 : H3868 m 6 = H m 6 := (f3873 m 6 _ gm rfl)
  have k3882 : H3868 x 11 = H x 11 := (f3873 x 11 _ gx rfl)
  have k3883 : H3868 m 13 = H m 13 := (f3873 m 13 _ gm rfl)
  have k3884 : H3868 x 8 = H x 8 := (f3873 x 8 _ gx rfl)
  have k3885 : H3868 m 3 = H m 3 := (f3873 m 3 _ gm rfl)
  refine wl_of hX hb cL_1447 (xc_V (pc' := 1450) (r := m) (as := [vI (H3868 0 ((i + 1).toNat))]) (st := []) (lm_11_195) rfl rfl (Nat.le_of_ble_eq_true rfl) w3872 gm sh_42 (by decide) rfl (by decide) (s_287 w3872 gm ⟨by omega, by omega⟩ (by omega)) (fun R3886 T3887 H3888 p3889 => ?_))
  obtain ⟨e3890, w3892, f3893, z3895, e3891, b3896, p3894⟩ := p3889
  subst e3890
  subst e3891
  show WL _ _ _ _ 1450 [(4, vI i), (3, .ref o), (2, .ref m), (1, .ref x), (0, .ref 0)] [vI z3895] _ H3888
  refine wl_of hX hb cL_1450 (rw_pop (pc' := 1451) rfl rfl ?_)
  refine wl_of hX hb cL_1451 (rw_goto (p1 := 1653) (by decide) ?_)
  have k3897 : H3888 x 9 = H3868 x 9 := (f3893 x 9 _ gx rfl)
  have k3898 : H3888 m 6 = H3868 m 6 := (f3893 m 6 _ gm rfl)
  have k3899 : H3888 x 11 = H3868 x 11 := (f3893 x 11 _ gx rfl)
  have k3900 : H3888 m 13 = H3868 m 13 := (f3893 m 13 _ gm rfl)
  have k3901 : H3888 x 8 = H3868 x 8 := (f3893 x 8 _ gx rfl)
  have k3902 : H3888 m 3 = H3868 m 3 := (f3893 m 3 _ gm rfl)
  have h3903 : XI T H3888 x m := (XI_fr w3872 gx f3893 rfl (XI_fr hW gx f3873 rfl hXI))
  exact WL.loc hX (by simp) (next T H3888 ⟨⟨w3892, g0, gx, gm, go, by omega, by omega⟩, h3903, by omega, by omega⟩ (by omega) (by omega))
set_option maxHeartbeats 4000000 in
theorem wl_c42 {kt : Nat → Option mc_E} {CB SB : Nat} {X : mc_S → Prop} {T : wq_T} {H : wq_H} {Len x m o : Nat} {i : Int} (hX : wlX kt CB SB X) (hb : T.2.1 ≤ CB ∧ T.2.2.1 ≤ SB) (hI : wlJ Len x m o T H) (hL : Len ≤ 3072) (hi : 0 ≤ i ∧ i + 6 ≤ Len) (hb2 : T.2.1 + 20 ≤ CB ∧ T.2.2.1 + 500 ≤ SB)  (next : ∀ T' H', wlJ Len x m o T' H' → T'.2.1 ≤ T.2.1 + 20 → T'.2.2.1 ≤ T.2.2.1 + 500 → WL kt CB SB X 1653 (wlL i x m o) [] T' H') : WL kt CB SB X 1454 (wlL i x m o) [] T H := by
  obtain ⟨⟨hW, g0, gx, gm, go, hK, hr⟩, hXI, hY1, hY2⟩ := hI
  refine wl_of hX hb cL_1454 (rw_aload_n (pc' := 1455) (v := .ref x) rfl rfl rfl ?_)
  refine wl_of hX hb cL_1455 (xc_V (pc' := 1458) (r := x) (as := []) (st := []) (lm_11_196) rfl rfl (Nat.le_of_ble_eq_true rfl) hW gx sh_1 (by decide) rfl (by decide) (s_156 hW gx) (fun R3904 T3905 H3906 p3907 => ?_))
  obtain ⟨e3908, w3910, f3911, z3912, e3909, b3913⟩ := p3907
  subst e3908
  subst e3909
  show WL _ _ _ _ 1458 [(4, vI i), (3, .ref o), (2, .ref m), (1, .ref x), (0, .ref 0)] [vI z3912] _ H3906
  refine wl_of hX hb cL_1458 (rw_pop (pc' := 1459) rfl rfl ?_)
  refine wl_of hX hb cL_1459 (rw_aload_n (pc' := 1460) (v := .ref m) rfl rfl rfl ?_)
  have k3914 : wKI H3906 m = wKI H m := (wKI_fr hW gm f3911 rfl)
  have k3915 : H3906 x 9 = H x 9 := (f3911 x 9 _ gx rfl)
  have k3916 : H3906 m 6 = H m 6 := (f3911 m 6 _ gm rfl)
  have k3917 : H3906 x 11 = H x 11 := (f3911 x 11 _ gx rfl)
  have k3918 : H3906 m 13 = H m 13 := (f3911 m 13 _ gm rfl)
  have k3919 : H3906 x 8 = H x 8 := (f3911 x 8 _ gx rfl)
  have k3920 : H3906 m 3 = H m 3 := (f3911 m 3 _ gm rfl)
  refine wl_of hX hb cL_1460 (xc_V (pc' := 1463) (r := m) (as := []) (st := []) (lm_11_199) rfl rfl (Nat.le_of_ble_eq_true rfl) w3910 gm sh_42 (by decide) rfl (by decide) (s_288 w3910 gm (by omega)) (fun R3921 T3922 H3923 p3924 => ?_))
  obtain ⟨e3925, w3927, f3928, z3930, e3926, b3931, p3929⟩ := p3924
  subst e3925
  subst e3926
  show WL _ _ _ _ 1463 [(4, vI i), (3, .ref o), (2, .ref m), (1, .ref x), (0, .ref 0)] [vI z3930] _ H3923
  refine wl_of hX hb cL_1463 (rw_pop (pc' := 1464) rfl rfl ?_)
  refine wl_of hX hb cL_1464 (rw_goto (p1 := 1653) (by decide) ?_)
  have k3932 : H3923 x 9 = H3906 x 9 := (f3928 x 9 _ gx rfl)
  have k3933 : H3923 m 6 = H3906 m 6 := (f3928 m 6 _ gm rfl)
  have k3934 : H3923 x 11 = H3906 x 11 := (f3928 x 11 _ gx rfl)
  have k3935 : H3923 m 13 = H3906 m 13 := (f3928 m 13 _ gm rfl)
  have k3936 : H3923 x 8 = H3906 x 8 := (f3928 x 8 _ gx rfl)
  have k3937 : H3923 m 3 = H3906 m 3 := (f3928 m 3 _ gm rfl)
  have h3938 : XI T H3923 x m := (XI_fr w3910 gx f3928 rfl (XI_fr hW gx f3911 rfl hXI))
  exact WL.loc hX (by simp) (next T H3923 ⟨⟨w3927, g0, gx, gm, go, by omega, by omega⟩, h3938, by omega, by omega⟩ (by omega) (by omega))
set_option maxHeartbeats 4000000 in
theorem wl_c43 {kt : Nat → Option mc_E} {CB SB : Nat} {X : mc_S → Prop} {T : wq_T} {H : wq_H} {Len x m o : Nat} {i : Int} (hX : wlX kt CB SB X) (hb : T.2.1 ≤ CB ∧ T.2.2.1 ≤ SB) (hI : wlJ Len x m o T H) (hL : Len ≤ 3072) (hi : 0 ≤ i ∧ i + 6 ≤ Len) (hb2 : T.2.1 + 20 ≤ CB ∧ T.2.2.1 + 500 ≤ SB)  (next : ∀ T' H', wlJ Len x m o T' H' → T'.2.1 ≤ T.2.1 + 20 → T'.2.2.1 ≤ T.2.2.1 + 500 → WL kt CB SB X 1653 (wlL i x m o) [] T' H') : WL kt CB SB X 1467 (wlL i x m o) [] T H := by
  obtain ⟨⟨hW, g0, gx, gm, go, hK, hr⟩, hXI, hY1, hY2⟩ := hI
  refine wl_of hX hb cL_1467 (rw_aload_n (pc' := 1468) (v := .ref x) rfl rfl rfl ?_)
  refine wl_of hX hb cL_1468 (rw_aload_n (pc' := 1469) (v := .ref 0) rfl rfl rfl ?_)
  refine wl_of hX hb cL_1469 (rw_iload (pc' := 1471) (z := i) rfl rfl ?_)
  refine wl_of hX hb cL_1471 (rw_iconst (pc' := 1472) rfl ?_)
  refine wl_of hX hb cL_1472 (rw_iadd (pc' := 1473) rfl ?_)
  refine wl_of hX hb cL_1473 (xa_I (so := 0) (pc' := 1474) (a := 0) hW g0 (wsh_s _) (by omega) (wty_s _ _) (by omega) (by omega) rfl (fun b3939 b3940 => ?_))
  refine wl_of hX hb cL_1474 (rw_aload_n (pc' := 1475) (v := .ref 0) rfl rfl rfl ?_)
  refine wl_of hX hb cL_1475 (rw_iload (pc' := 1477) (z := i) rfl rfl ?_)
  refine wl_of hX hb cL_1477 (rw_iconst (pc' := 1478) rfl ?_)
  refine wl_of hX hb cL_1478 (rw_iadd (pc' := 1479) rfl ?_)
  refine wl_of hX hb cL_1479 (xa_I (so := 0) (pc' := 1480) (a := 0) hW g0 (wsh_s _) (by omega) (wty_s _ _) (by omega) (by omega) rfl (fun b3941 b3942 => ?_))
  refine wl_of hX hb cL_1480 (xc_V (pc' := 1483) (r := x) (as := [vI (H 0 ((i + 1).toNat)), vI (H 0 ((i + 2).toNat))]) (st := []) (lm_11_200) rfl rfl (Nat.le_of_ble_eq_true rfl) hW gx sh_1 (by decide) rfl (by decide) (s_157 hW gx ⟨by omega, by omega⟩ ⟨by omega, by omega⟩) (fun R3943 T3944 H3945 p3946 => ?_))
  obtain ⟨e3947, w3949, f3950, z3951, e3948, b3952⟩ := p3946
  subst e3947
  subst e3948
  show WL _ _ _ _ 1483 [(4, vI i), (3, .ref o), (2, .ref m), (1, .ref x), (0, .ref 0)] [vI z3951] _ H3945
  refine wl_of hX hb cL_1483 (rw_pop (pc' := 1484) rfl rfl ?_)
  refine wl_of hX hb cL_1484 (rw_aload_n (pc' := 1485) (v := .ref m) rfl rfl rfl ?_)
  refine wl_of hX hb cL_1485 (rw_aload_n (pc' := 1486) (v := .ref 0) rfl rfl rfl ?_)
  refine wl_of hX hb cL_1486 (rw_iload (pc' := 1488) (z := i) rfl rfl ?_)
  refine wl_of hX hb cL_1488 (rw_iconst (pc' := 1489) rfl ?_)
  refine wl_of hX hb cL_1489 (rw_iadd (pc' := 1490) rfl ?_)
  have k3955 : H3945 0 ((i + 1).toNat) = H 0 ((i + 1).toNat) := (f3950 0 ((i + 1).toNat) _ g0 (wmem_s rfl))
  refine wl_of hX hb cL_1490 (xa_I (so := 0) (pc' := 1491) (a := 0) w3949 g0 (wsh_s _) (by omega) (wty_s _ _) (by omega) (by omega) rfl (fun b3953 b3954 => ?_))
  refine wl_of hX hb cL_1491 (rw_aload_n (pc' := 1492) (v := .ref 0) rfl rfl rfl ?_)
  refine wl_of hX hb cL_1492 (rw_iload (pc' := 1494) (z := i) rfl rfl ?_)
  refine wl_of hX hb cL_1494 (rw_iconst (pc' := 1495) rfl ?_)
  refine wl_of hX hb cL_1495 (rw_iadd (pc' := 1496) rfl ?_)
  have k3958 : H3945 0 ((i + 2).toNat) = H 0 ((i + 2).toNat) := (f3950 0 ((i + 2).toNat) _ g0 (wmem_s rfl))
  refine wl_of hX hb cL_1496 (xa_I (so := 0) (pc' := 1497) (a := 0) w3949 g0 (wsh_s _) (by omega) (wty_s _ _) (by omega) (by omega) rfl (fun b3956 b3957 => ?_))
  have k3959 : wKI H3945 m = wKI H m := (wKI_fr hW gm f3950 rfl)
  have k3960 : H3945 x 9 = H x 9 := (f3950 x 9 _ gx rfl)
  have k3961 : H3945 m 6 = H m 6 := (f3950 m 6 _ gm rfl)
  have k3962 : H3945 x 11 = H x 11 := (f3950 x 11 _ gx rfl)
  have k3963 : H3945 m 13 = H m 13 := (f3950 m 13 _ gm rfl)
  have k3964 : H3945 x 8 = H x 8 := (f3950 x 8 _ gx rfl)
  have k3965 : H3945 m 3 = H m 3 := (f3950 m 3 _ gm rfl)
  refine wl_of hX hb cL_1497 (xc_V (pc' := 1500) (r := m) (as := [vI (H3945 0 ((i + 1).toNat)), vI (H3945 0 ((i + 2).toNat))]) (st := []) (lm_11_203) rfl rfl (Nat.le_of_ble_eq_true rfl) w3949 gm sh_42 (by decide) rfl (by decide) (s_289 w3949 gm ⟨by omega, by omega⟩ ⟨by omega, by omega⟩ (by omega)) (fun R3966 T3967 H3968 p3969 => ?_))
  obtain ⟨e3970, w3972, f3973, z3975, e3971, b3976, p3974⟩ := p3969
  subst e3970
  subst e3971
  show WL _ _ _ _ 1500 [(4, vI i), (3, .ref o), (2, .ref m), (1, .ref x), (0, .ref 0)] [vI z3975] _ H3968
  refine wl_of hX hb cL_1500 (rw_pop (pc' := 1501) rfl rfl ?_)
  refine wl_of hX hb cL_1501 (rw_goto (p1 := 1653) (by decide) ?_)
  have k3977 : H3968 x 9 = H3945 x 9 := (f3973 x 9 _ gx rfl)
  have k3978 : H3968 m 6 = H3945 m 6 := (f3973 m 6 _ gm rfl)
  have k3979 : H3968 x 11 = H3945 x 11 := (f3973 x 11 _ gx rfl)
  have k3980 : H3968 m 13 = H3945 m 13 := (f3973 m 13 _ gm rfl)
  have k3981 : H3968 x 8 = H3945 x 8 := (f3973 x 8 _ gx rfl)
  have k3982 : H3968 m 3 = H3945 m 3 := (f3973 m 3 _ gm rfl)
  have h3983 : XI T H3968 x m := (XI_fr w3949 gx f3973 rfl (XI_fr hW gx f3950 rfl hXI))
  exact WL.loc hX (by simp) (next T H3968 ⟨⟨w3972, g0, gx, gm, go, by omega, by omega⟩, h3983, by omega, by omega⟩ (by omega) (by omega))
set_option maxHeartbeats 4000000 in
theorem wl_c44 {kt : Nat → Option mc_E} {CB SB : Nat} {X : mc_S → Prop} {T : wq_T} {H : wq_H} {Len x m o : Nat} {i : Int} (hX : wlX kt CB SB X) (hb : T.2.1 ≤ CB ∧ T.2.2.1 ≤ SB) (hI : wlJ Len x m o T H) (hL : Len ≤ 3072) (hi : 0 ≤ i ∧ i + 6 ≤ Len) (hb2 : T.2.1 + 20 ≤ CB ∧ T.2.2.1 + 500 ≤ SB)  (next : ∀ T' H', wlJ Len x m o T' H' → T'.2.1 ≤ T.2.1 + 20 → T'.2.2.1 ≤ T.2.2.1 + 500 → WL kt CB SB X 1653 (wlL i x m o) [] T' H') : WL kt CB SB X 1504 (wlL i x m o) [] T H := by
  obtain ⟨⟨hW, g0, gx, gm, go, hK, hr⟩, hXI, hY1, hY2⟩ := hI
  refine wl_of hX hb cL_1504 (rw_aload_n (pc' := 1505) (v := .ref x) rfl rfl rfl ?_)
  refine wl_of hX hb cL_1505 (xc_V (pc' := 1508) (r := x) (as := []) (st := []) (lm_11_204) rfl rfl (Nat.le_of_ble_eq_true rfl) hW gx sh_1 (by decide) rfl (by decide) (s_158 hW gx) (fun R3984 T3985 H3986 p3987 => ?_))
  obtain ⟨e3988, w3990, f3991, z3992, e3989, b3993⟩ := p3987
  subst e3988
  subst e3989
  show WL _ _ _ _ 1508 [(4, vI i), (3, .ref o), (2, .ref m), (1, .ref x), (0, .ref 0)] [vI z3992] _ H3986
  refine wl_of hX hb cL_1508 (rw_pop (pc' := 1509) rfl rfl ?_)
  refine wl_of hX hb cL_1509 (rw_aload_n (pc' := 1510) (v := .ref m) rfl rfl rfl ?_)
  have k3994 : wKI H3986 m = wKI H m := (wKI_fr hW gm f3991 rfl)
  have k3995 : H3986 x 9 = H x 9 := (f3991 x 9 _ gx rfl)
  have k3996 : H3986 m 6 = H m 6 := (f3991 m 6 _ gm rfl)
  have k3997 : H3986 x 11 = H x 11 := (f3991 x 11 _ gx rfl)
  have k3998 : H3986 m 13 = H m 13 := (f3991 m 13 _ gm rfl)
  have k3999 : H3986 x 8 = H x 8 := (f3991 x 8 _ gx rfl)
  have k4000 : H3986 m 3 = H m 3 := (f3991 m 3 _ gm rfl)
  refine wl_of hX hb cL_1510 (xc_V (pc' := 1513) (r := m) (as := []) (st := []) (lm_11_208) rfl rfl (Nat.le_of_ble_eq_true rfl) w3990 gm sh_42 (by decide) rfl (by decide) (s_290 w3990 gm (by omega)) (fun R4001 T4002 H4003 p4004 => ?_))
  obtain ⟨e4005, w4007, f4008, z4010, e4006, b4011, p4009⟩ := p4004
  subst e4005
  subst e4006
  show WL _ _ _ _ 1513 [(4, vI i), (3, .ref o), (2, .ref m), (1, .ref x), (0, .ref 0)] [vI z4010] _ H4003
  refine wl_of hX hb cL_1513 (rw_pop (pc' := 1514) rfl rfl ?_)
  refine wl_of hX hb cL_1514 (rw_goto (p1 := 1653) (by decide) ?_)
  have k4012 : H4003 x 9 = H3986 x 9 := (f4008 x 9 _ gx rfl)
  have k4013 : H4003 m 6 = H3986 m 6 := (f4008 m 6 _ gm rfl)
  have k4014 : H4003 x 11 = H3986 x 11 := (f4008 x 11 _ gx rfl)
  have k4015 : H4003 m 13 = H3986 m 13 := (f4008 m 13 _ gm rfl)
  have k4016 : H4003 x 8 = H3986 x 8 := (f4008 x 8 _ gx rfl)
  have k4017 : H4003 m 3 = H3986 m 3 := (f4008 m 3 _ gm rfl)
  have h4018 : XI T H4003 x m := (XI_fr w3990 gx f4008 rfl (XI_fr hW gx f3991 rfl hXI))
  exact WL.loc hX (by simp) (next T H4003 ⟨⟨w4007, g0, gx, gm, go, by omega, by omega⟩, h4018, by omega, by omega⟩ (by omega) (by omega))
set_option maxHeartbeats 4000000 in
theorem wl_c45 {kt : Nat → Option mc_E} {CB SB : Nat} {X : mc_S → Prop} {T : wq_T} {H : wq_H} {Len x m o : Nat} {i : Int} (hX : wlX kt CB SB X) (hb : T.2.1 ≤ CB ∧ T.2.2.1 ≤ SB) (hI : wlJ Len x m o T H) (hL : Len ≤ 3072) (hi : 0 ≤ i ∧ i + 6 ≤ Len) (hb2 : T.2.1 + 20 ≤ CB ∧ T.2.2.1 + 500 ≤ SB)  (next : ∀ T' H', wlJ Len x m o T' H' → T'.2.1 ≤ T.2.1 + 20 → T'.2.2.1 ≤ T.2.2.1 + 500 → WL kt CB SB X 1653 (wlL i x m o) [] T' H') : WL kt CB SB X 1517 (wlL i x m o) [] T H := by
  obtain ⟨⟨hW, g0, gx, gm, go, hK, hr⟩, hXI, hY1, hY2⟩ := hI
  refine wl_of hX hb cL_1517 (rw_aload_n (pc' := 1518) (v := .ref x) rfl rfl rfl ?_)
  refine wl_of hX hb cL_1518 (xc_V (pc' := 1521) (r := x) (as := []) (st := []) (lm_11_209) rfl rfl (Nat.le_of_ble_eq_true rfl) hW gx sh_1 (by decide) rfl (by decide) (s_159 hW gx) (fun R4019 T4020 H4021 p4022 => ?_))
  obtain ⟨e4023, w4025, f4026, z4027, e4024, b4028⟩ := p4022
  subst e4023
  subst e4024
  show WL _ _ _ _ 1521 [(4, vI i), (3, .ref o), (2, .ref m), (1, .ref x), (0, .ref 0)] [vL z4027] _ H4021
  refine wl_of hX hb cL_1521 (rw_pop2 (pc' := 1522) rfl rfl ?_)
  refine wl_of hX hb cL_1522 (rw_aload_n (pc' := 1523) (v := .ref m) rfl rfl rfl ?_)
  have k4029 : wKI H4021 m = wKI H m := (wKI_fr hW gm f4026 rfl)
  have k4030 : H4021 x 9 = H x 9 := (f4026 x 9 _ gx rfl)
  have k4031 : H4021 m 6 = H m 6 := (f4026 m 6 _ gm rfl)
  have k4032 : H4021 x 11 = H x 11 := (f4026 x 11 _ gx rfl)
  have k4033 : H4021 m 13 = H m 13 := (f4026 m 13 _ gm rfl)
  have k4034 : H4021 x 8 = H x 8 := (f4026 x 8 _ gx rfl)
  have k4035 : H4021 m 3 = H m 3 := (f4026 m 3 _ gm rfl)
  refine wl_of hX hb cL_1523 (xc_V (pc' := 1526) (r := m) (as := []) (st := []) (lm_11_212) rfl rfl (Nat.le_of_ble_eq_true rfl) w4025 gm sh_42 (by decide) rfl (by decide) (s_291 w4025 gm (by omega)) (fun R4036 T4037 H4038 p4039 => ?_))
  obtain ⟨e4040, w4042, f4043, z4045, e4041, b4046, p4044⟩ := p4039
  subst e4040
  subst e4041
  show WL _ _ _ _ 1526 [(4, vI i), (3, .ref o), (2, .ref m), (1, .ref x), (0, .ref 0)] [vL z4045] _ H4038
  refine wl_of hX hb cL_1526 (rw_pop2 (pc' := 1527) rfl rfl ?_)
  refine wl_of hX hb cL_1527 (rw_goto (p1 := 1653) (by decide) ?_)
  have k4047 : H4038 x 9 = H4021 x 9 := (f4043 x 9 _ gx rfl)
  have k4048 : H4038 m 6 = H4021 m 6 := (f4043 m 6 _ gm rfl)
  have k4049 : H4038 x 11 = H4021 x 11 := (f4043 x 11 _ gx rfl)
  have k4050 : H4038 m 13 = H4021 m 13 := (f4043 m 13 _ gm rfl)
  have k4051 : H4038 x 8 = H4021 x 8 := (f4043 x 8 _ gx rfl)
  have k4052 : H4038 m 3 = H4021 m 3 := (f4043 m 3 _ gm rfl)
  have h4053 : XI T H4038 x m := (XI_fr w4025 gx f4043 rfl (XI_fr hW gx f4026 rfl hXI))
  exact WL.loc hX (by simp) (next T H4038 ⟨⟨w4042, g0, gx, gm, go, by omega, by omega⟩, h4053, by omega, by omega⟩ (by omega) (by omega))
set_option maxHeartbeats 4000000 in
theorem wl_c46 {kt : Nat → Option mc_E} {CB SB : Nat} {X : mc_S → Prop} {T : wq_T} {H : wq_H} {Len x m o : Nat} {i : Int} (hX : wlX kt CB SB X) (hb : T.2.1 ≤ CB ∧ T.2.2.1 ≤ SB) (hI : wlJ Len x m o T H) (hL : Len ≤ 3072) (hi : 0 ≤ i ∧ i + 6 ≤ Len) (hb2 : T.2.1 + 20 ≤ CB ∧ T.2.2.1 + 500 ≤ SB)  (next : ∀ T' H', wlJ Len x m o T' H' → T'.2.1 ≤ T.2.1 + 20 → T'.2.2.1 ≤ T.2.2.1 + 500 → WL kt CB SB X 1653 (wlL i x m o) [] T' H') : WL kt CB SB X 1530 (wlL i x m o) [] T H := by
  obtain ⟨⟨hW, g0, gx, gm, go, hK, hr⟩, hXI, hY1, hY2⟩ := hI
  refine wl_of hX hb cL_1530 (rw_aload_n (pc' := 1531) (v := .ref x) rfl rfl rfl ?_)
  refine wl_of hX hb cL_1531 (rw_aload_n (pc' := 1532) (v := .ref 0) rfl rfl rfl ?_)
  refine wl_of hX hb cL_1532 (rw_iload (pc' := 1534) (z := i) rfl rfl ?_)
  refine wl_of hX hb cL_1534 (rw_iconst (pc' := 1535) rfl ?_)
  refine wl_of hX hb cL_1535 (rw_iadd (pc' := 1536) rfl ?_)
  refine wl_of hX hb cL_1536 (xa_I (so := 0) (pc' := 1537) (a := 0) hW g0 (wsh_s _) (by omega) (wty_s _ _) (by omega) (by omega) rfl (fun b4054 b4055 => ?_))
  refine wl_of hX hb cL_1537 (rw_i2l (pc' := 1538) rfl ⟨by omega, by omega⟩ ?_)
  refine wl_of hX hb cL_1538 (rw_bipush (pc' := 1540) (z := 32) rfl (by decide) ?_)
  refine wl_of hX hb cL_1540 (rw_lshl (pc' := 1541) rfl ?_)
  obtain ⟨v4056, e4057⟩ : ∃ x : Int, x = wl_shl (H 0 ((i + 1).toNat)) 32 := ⟨_, rfl⟩
  rw [← e4057]
  have b4058 : -9223372036854775808 ≤ v4056 ∧ v4056 ≤ 9223372036854775807 := by
    rw [e4057]
    exact wL_shl _ _
  refine wl_of hX hb cL_1541 (rw_aload_n (pc' := 1542) (v := .ref 0) rfl rfl rfl ?_)
  refine wl_of hX hb cL_1542 (rw_iload (pc' := 1544) (z := i) rfl rfl ?_)
  refine wl_of hX hb cL_1544 (rw_iconst (pc' := 1545) rfl ?_)
  refine wl_of hX hb cL_1545 (rw_iadd (pc' := 1546) rfl ?_)
  refine wl_of hX hb cL_1546 (xa_I (so := 0) (pc' := 1547) (a := 0) hW g0 (wsh_s _) (by omega) (wty_s _ _) (by omega) (by omega) rfl (fun b4059 b4060 => ?_))
  refine wl_of hX hb cL_1547 (rw_i2l (pc' := 1548) rfl ⟨by omega, by omega⟩ ?_)
  refine wl_of hX hb cL_1548 (rw_ldc2 (pc' := 1551) (z := 4294967295) rfl rfl rfl ?_)
  refine wl_of hX hb cL_1551 (rw_land (pc' := 1552) rfl ?_)
  obtain ⟨v4061, e4062⟩ : ∃ x : Int, x = wl_and (H 0 ((i + 2).toNat)) 4294967295 := ⟨_, rfl⟩
  rw [← e4062]
  have b4063 : -9223372036854775808 ≤ v4061 ∧ v4061 ≤ 9223372036854775807 := by
    rw [e4062]
    exact wL_and _ _
  refine wl_of hX hb cL_1552 (rw_lor (pc' := 1553) rfl ?_)
  obtain ⟨v4064, e4065⟩ : ∃ x : Int, x = wl_or v4056 v4061 := ⟨_, rfl⟩
  rw [← e4065]
  have b4066 : -9223372036854775808 ≤ v4064 ∧ v4064 ≤ 9223372036854775807 := by
    rw [e4065]
    exact wL_or _ _
  obtain ⟨B, tc, tm, cu, dr, C8, e8, d8, n8, g8, e0, gtc, htc, em, gtm, htm, ecu, gcu, edr, gdr, hcu, hdr, hdec, hded, hsp, hC1, hC2, hcu8, hrb8, hcg8, hmn8, hE, hZ, hn8, -⟩ := hXI
  have hN3 := RB_n3 hrb8
  have hE13 : ∀ h : Nat, h < 24 → 0 ≤ e8 13 h ∧ e8 13 h ≤ 100 := fun k hk => by
    obtain ⟨s, h1, h2, h3⟩ := hcu8.1.2.2.1
    exact ⟨(h3 k hk).1, (h3 k hk).2.1⟩
  have hE0 : e8 0 3 = d8 0 3 ∧ e8 0 0 = d8 0 0 := by
    have h := hE 0 (by decide)
    exact ⟨congrFun h 3, congrFun h 0⟩
  have u4067 := CU_k hcu8
  have h4068 : CY T H cu (d8 0 3) g8 (H cu 17) := ⟨hcg8, rfl⟩
  have h4069 : RY T H m (d8 0 3) g8 (H m 32) := ⟨hmn8, rfl⟩
  obtain ⟨t9, ht9⟩ : ∃ t : Int, t = H x 9 := ⟨_, rfl⟩
  refine wl_of hX hb cL_1553 (xc_V (pc' := 1556) (r := x) (as := [vL v4064]) (st := []) (lm_11_215) rfl rfl (Nat.le_of_ble_eq_true rfl) hW gx sh_1 (by decide) rfl (by decide) (u_161 (e := e8) (d := d8) (n := n8) (nY := ((d8 0 3))) (gY := g8) (cY := ((H cu 17))) hW gx ⟨b4066.1, b4066.2⟩ ecu gcu (by omega) (by omega) (by omega) hcu8 h4068 hcu) (fun R4070 T4071 H4072 p4073 => ?_))
  obtain ⟨e4074, w4076, f4077, z4078, e4075, b4079, p4080⟩ := p4073
  subst e4074
  subst e4075
  rcases p4080 with ⟨a4081, a4082, a4083, a4084⟩ | ⟨a4085, a4086, a4087⟩
  · show WL _ _ _ _ 1556 [(4, vI i), (3, .ref o), (2, .ref m), (1, .ref x), (0, .ref 0)] [vI z4078] _ H4072
    refine wl_of hX hb cL_1556 (rw_pop (pc' := 1557) rfl rfl ?_)
    refine wl_of hX hb cL_1557 (rw_aload_n (pc' := 1558) (v := .ref m) rfl rfl rfl ?_)
    refine wl_of hX hb cL_1558 (rw_aload_n (pc' := 1559) (v := .ref 0) rfl rfl rfl ?_)
    refine wl_of hX hb cL_1559 (rw_iload (pc' := 1561) (z := i) rfl rfl ?_)
    refine wl_of hX hb cL_1561 (rw_iconst (pc' := 1562) rfl ?_)
    refine wl_of hX hb cL_1562 (rw_iadd (pc' := 1563) rfl ?_)
    have k4090 : H4072 0 ((i + 1).toNat) = H 0 ((i + 1).toNat) := (f4077 0 ((i + 1).toNat) _ g0 (wmem_s rfl))
    refine wl_of hX hb cL_1563 (xa_I (so := 0) (pc' := 1564) (a := 0) w4076 g0 (wsh_s _) (by omega) (wty_s _ _) (by omega) (by omega) rfl (fun b4088 b4089 => ?_))
    refine wl_of hX hb cL_1564 (rw_i2l (pc' := 1565) rfl ⟨by omega, by omega⟩ ?_)
    refine wl_of hX hb cL_1565 (rw_bipush (pc' := 1567) (z := 32) rfl (by decide) ?_)
    refine wl_of hX hb cL_1567 (rw_lshl (pc' := 1568) rfl ?_)
    obtain ⟨v4091, e4092⟩ : ∃ x : Int, x = wl_shl (H4072 0 ((i + 1).toNat)) 32 := ⟨_, rfl⟩
    rw [← e4092]
    have b4093 : -9223372036854775808 ≤ v4091 ∧ v4091 ≤ 9223372036854775807 := by
      rw [e4092]
      exact wL_shl _ _
    refine wl_of hX hb cL_1568 (rw_aload_n (pc' := 1569) (v := .ref 0) rfl rfl rfl ?_)
    refine wl_of hX hb cL_1569 (rw_iload (pc' := 1571) (z := i) rfl rfl ?_)
    refine wl_of hX hb cL_1571 (rw_iconst (pc' := 1572) rfl ?_)
    refine wl_of hX hb cL_1572 (rw_iadd (pc' := 1573) rfl ?_)
    have k4096 : H4072 0 ((i + 2).toNat) = H 0 ((i + 2).toNat) := (f4077 0 ((i + 2).toNat) _ g0 (wmem_s rfl))
    refine wl_of hX hb cL_1573 (xa_I (so := 0) (pc' := 1574) (a := 0) w4076 g0 (wsh_s _) (by omega) (wty_s _ _) (by omega) (by omega) rfl (fun b4094 b4095 => ?_))
    refine wl_of hX hb cL_1574 (rw_i2l (pc' := 1575) rfl ⟨by omega, by omega⟩ ?_)
    refine wl_of hX hb cL_1575 (rw_ldc2 (pc' := 1578) (z := 4294967295) rfl rfl rfl ?_)
    refine wl_of hX hb cL_1578 (rw_land (pc' := 1579) rfl ?_)
    obtain ⟨v4097, e4098⟩ : ∃ x : Int, x = wl_and (H4072 0 ((i + 2).toNat)) 4294967295 := ⟨_, rfl⟩
    rw [← e4098]
    have b4099 : -9223372036854775808 ≤ v4097 ∧ v4097 ≤ 9223372036854775807 := by
      rw [e4098]
      exact wL_and _ _
    refine wl_of hX hb cL_1579 (rw_lor (pc' := 1580) rfl ?_)
    obtain ⟨v4100, e4101⟩ : ∃ x : Int, x = wl_or v4091 v4097 := ⟨_, rfl⟩
    rw [← e4101]
    have b4102 : -9223372036854775808 ≤ v4100 ∧ v4100 ≤ 9223372036854775807 := by
      rw [e4101]
      exact wL_or _ _
    have k4103 : wKI H4072 m = wKI H m := (wKI_fr hW gm f4077 rfl)
    have k4104 : H4072 x 9 = H x 9 := (f4077 x 9 _ gx rfl)
    have k4105 : H4072 m 6 = H m 6 := (f4077 m 6 _ gm rfl)
    have k4106 : H4072 x 11 = H x 11 := (f4077 x 11 _ gx rfl)
    have k4107 : H4072 m 13 = H m 13 := (f4077 m 13 _ gm rfl)
    have k4108 : H4072 x 8 = H x 8 := (f4077 x 8 _ gx rfl)
    have k4109 : H4072 m 3 = H m 3 := (f4077 m 3 _ gm rfl)
    have rs9 : v4100 = v4064 := by
      rw [e4101, e4092, e4098, e4065, e4057, e4062, show H4072 0 ((i + 1).toNat) = H 0 ((i + 1).toNat) by omega, show H4072 0 ((i + 2).toNat) = H 0 ((i + 2).toNat) by omega]
    rw [rs9]
    have h4110 : RB T H4072 m e8 d8 := (RB_fr hW gm f4077 rfl hrb8)
    have h4111 : RY T H4072 m (d8 0 3) g8 (H m 32) := (RY_fr hW gm f4077 rfl h4069)
    refine wl_of hX hb cL_1580 (xc_V (pc' := 1583) (r := m) (as := [vL v4064]) (st := []) (lm_11_219) rfl rfl (Nat.le_of_ble_eq_true rfl) w4076 gm sh_42 (by decide) rfl (by decide) (u_292 (e := e8) (d := d8) (nY := ((d8 0 3))) (gY := g8) (cY := ((H m 32))) w4076 gm ⟨b4066.1, b4066.2⟩ (by omega) h4110 h4111) (fun R4112 T4113 H4114 p4115 => ?_))
    obtain ⟨e4116, w4118, f4119, z4120, e4117, b4121, p4122⟩ := p4115
    subst e4116
    subst e4117
    rcases p4122 with ⟨a4123, a4124, a4125, a4126⟩ | ⟨a4127, a4128, a4129⟩
    · show WL _ _ _ _ 1583 [(4, vI i), (3, .ref o), (2, .ref m), (1, .ref x), (0, .ref 0)] [vI z4120] _ H4114
      refine wl_of hX hb cL_1583 (rw_pop (pc' := 1584) rfl rfl ?_)
      refine wl_of hX hb cL_1584 (rw_goto (p1 := 1653) (by decide) ?_)
      have k4130 : wKI H4114 m = wKI H4072 m := (wKI_fr w4076 gm f4119 rfl)
      have k4131 : H4114 x 9 = H4072 x 9 := (f4119 x 9 _ gx rfl)
      have k4132 : H4114 m 6 = H4072 m 6 := (f4119 m 6 _ gm rfl)
      have k4133 : H4114 x 11 = H4072 x 11 := (f4119 x 11 _ gx rfl)
      have k4134 : H4114 m 13 = H4072 m 13 := (f4119 m 13 _ gm rfl)
      have k4135 : H4114 x 8 = H4072 x 8 := (f4119 x 8 _ gx rfl)
      have k4136 : H4114 m 3 = H4072 m 3 := (f4119 m 3 _ gm rfl)
      have k4137 : H4114 x 0 = H x 0 := ((f4119 x 0 _ gx rfl).trans (f4077 x 0 _ gx rfl))
      have q4138 : H4114 x 0 = (tc : Int) := k4137.trans e0
      have k4139 : H4114 m 5 = H m 5 := ((f4119 m 5 _ gm rfl).trans (f4077 m 5 _ gm rfl))
      have q4140 : H4114 m 5 = (tm : Int) := k4139.trans em
      have k4141 : H4114 x 6 = H x 6 := ((f4119 x 6 _ gx rfl).trans (f4077 x 6 _ gx rfl))
      have q4142 : H4114 x 6 = (cu : Int) := k4141.trans ecu
      have k4143 : H4114 x 7 = H x 7 := ((f4119 x 7 _ gx rfl).trans (f4077 x 7 _ gx rfl))
      have q4144 : H4114 x 7 = (dr : Int) := k4143.trans edr
      have h4145 : TP T H4114 tc B := (TP_fr w4076 gtc f4119 rfl (TP_fr hW gtc f4077 rfl htc))
      have h4146 : TM T H4114 tm B := (TM_fr w4076 gtm f4119 rfl (TM_fr hW gtm f4077 rfl htm))
      have h4147 : DD T H4114 cu  := (DD_fr w4076 gcu f4119 rfl (DD_fr hW gcu f4077 rfl hcu))
      have h4148 : DD T H4114 dr  := (DD_fr w4076 gdr f4119 rfl (DD_fr hW gdr f4077 rfl hdr))
      have h4149 : DE T H4114 cu  := (DE_fr w4076 gcu f4119 rfl (DE_fr hW gcu f4077 rfl hdec))
      have h4150 : DE T H4114 dr  := (DE_fr w4076 gdr f4119 rfl (DE_fr hW gdr f4077 rfl hded))
      have h4151 : SP T H4114 x C8 := (SP_fr w4076 gx f4119 rfl (SP_fr hW gx f4077 rfl hsp))
      have h4152 : CU T H4114 cu e8 d8 n8 := (CU_fr w4076 gcu f4119 rfl (CU_fr hW gcu f4077 rfl hcu8))
      have h4153 : CY T H4114 cu ((d8 0 3)) (xdg d8 v4064) (wdv (d8 0 3).toNat v4064) := (CY_fr w4076 gcu f4119 rfl a4084)
      have h4154 : RB T H4114 m e8 d8 := (RB_fr w4076 gm f4119 rfl h4110)
      exact WL.loc hX (by simp) (next T H4114 ⟨⟨w4118, g0, gx, gm, go, by omega, by omega⟩, ⟨_, tc, tm, cu, dr, _, _, _, _, _, q4138, gtc, h4145, q4140, gtm, h4146, q4142, gcu, q4144, gdr, h4147, h4148, h4149, h4150, h4151, hC1, hC2, h4152, h4154, (h4153).1, (a4126).1, hE, hZ, (by omega), gm⟩, by omega, by omega⟩ (by omega) (by omega))
    · show WL _ _ _ _ 1583 [(4, vI i), (3, .ref o), (2, .ref m), (1, .ref x), (0, .ref 0)] [vI z4120] _ H4114
      refine wl_of hX hb cL_1583 (rw_pop (pc' := 1584) rfl rfl ?_)
      refine wl_of hX hb cL_1584 (rw_goto (p1 := 1653) (by decide) ?_)
      have k4155 : wKI H4114 m = wKI H4072 m := (wKI_fr w4076 gm f4119 rfl)
      have k4156 : H4114 x 9 = H4072 x 9 := (f4119 x 9 _ gx rfl)
      have k4157 : H4114 m 6 = H4072 m 6 := (f4119 m 6 _ gm rfl)
      have k4158 : H4114 x 11 = H4072 x 11 := (f4119 x 11 _ gx rfl)
      have k4159 : H4114 m 13 = H4072 m 13 := (f4119 m 13 _ gm rfl)
      have k4160 : H4114 x 8 = H4072 x 8 := (f4119 x 8 _ gx rfl)
      have k4161 : H4114 m 3 = H4072 m 3 := (f4119 m 3 _ gm rfl)
      have k4162 : H4114 x 0 = H x 0 := ((f4119 x 0 _ gx rfl).trans (f4077 x 0 _ gx rfl))
      have q4163 : H4114 x 0 = (tc : Int) := k4162.trans e0
      have k4164 : H4114 m 5 = H m 5 := ((f4119 m 5 _ gm rfl).trans (f4077 m 5 _ gm rfl))
      have q4165 : H4114 m 5 = (tm : Int) := k4164.trans em
      have k4166 : H4114 x 6 = H x 6 := ((f4119 x 6 _ gx rfl).trans (f4077 x 6 _ gx rfl))
      have q4167 : H4114 x 6 = (cu : Int) := k4166.trans ecu
      have k4168 : H4114 x 7 = H x 7 := ((f4119 x 7 _ gx rfl).trans (f4077 x 7 _ gx rfl))
      have q4169 : H4114 x 7 = (dr : Int) := k4168.trans edr
      have h4170 : TP T H4114 tc B := (TP_fr w4076 gtc f4119 rfl (TP_fr hW gtc f4077 rfl htc))
      have h4171 : TM T H4114 tm B := (TM_fr w4076 gtm f4119 rfl (TM_fr hW gtm f4077 rfl htm))
      have h4172 : DD T H4114 cu  := (DD_fr w4076 gcu f4119 rfl (DD_fr hW gcu f4077 rfl hcu))
      have h4173 : DD T H4114 dr  := (DD_fr w4076 gdr f4119 rfl (DD_fr hW gdr f4077 rfl hdr))
      have h4174 : DE T H4114 cu  := (DE_fr w4076 gcu f4119 rfl (DE_fr hW gcu f4077 rfl hdec))
      have h4175 : DE T H4114 dr  := (DE_fr w4076 gdr f4119 rfl (DE_fr hW gdr f4077 rfl hded))
      have h4176 : SP T H4114 x C8 := (SP_fr w4076 gx f4119 rfl (SP_fr hW gx f4077 rfl hsp))
      have h4177 : CU T H4114 cu e8 d8 n8 := (CU_fr w4076 gcu f4119 rfl (CU_fr hW gcu f4077 rfl hcu8))
      have h4178 : CY T H4114 cu ((d8 0 3)) (xdg d8 v4064) (wdv (d8 0 3).toNat v4064) := (CY_fr w4076 gcu f4119 rfl a4084)
      exfalso
      omega
  · show WL _ _ _ _ 1556 [(4, vI i), (3, .ref o), (2, .ref m), (1, .ref x), (0, .ref 0)] [vI z4078] _ H4072
    refine wl_of hX hb cL_1556 (rw_pop (pc' := 1557) rfl rfl ?_)
    refine wl_of hX hb cL_1557 (rw_aload_n (pc' := 1558) (v := .ref m) rfl rfl rfl ?_)
    refine wl_of hX hb cL_1558 (rw_aload_n (pc' := 1559) (v := .ref 0) rfl rfl rfl ?_)
    refine wl_of hX hb cL_1559 (rw_iload (pc' := 1561) (z := i) rfl rfl ?_)
    refine wl_of hX hb cL_1561 (rw_iconst (pc' := 1562) rfl ?_)
    refine wl_of hX hb cL_1562 (rw_iadd (pc' := 1563) rfl ?_)
    have k4181 : H4072 0 ((i + 1).toNat) = H 0 ((i + 1).toNat) := (f4077 0 ((i + 1).toNat) _ g0 (wmem_s rfl))
    refine wl_of hX hb cL_1563 (xa_I (so := 0) (pc' := 1564) (a := 0) w4076 g0 (wsh_s _) (by omega) (wty_s _ _) (by omega) (by omega) rfl (fun b4179 b4180 => ?_))
    refine wl_of hX hb cL_1564 (rw_i2l (pc' := 1565) rfl ⟨by omega, by omega⟩ ?_)
    refine wl_of hX hb cL_1565 (rw_bipush (pc' := 1567) (z := 32) rfl (by decide) ?_)
    refine wl_of hX hb cL_1567 (rw_lshl (pc' := 1568) rfl ?_)
    obtain ⟨v4182, e4183⟩ : ∃ x : Int, x = wl_shl (H4072 0 ((i + 1).toNat)) 32 := ⟨_, rfl⟩
    rw [← e4183]
    have b4184 : -9223372036854775808 ≤ v4182 ∧ v4182 ≤ 9223372036854775807 := by
      rw [e4183]
      exact wL_shl _ _
    refine wl_of hX hb cL_1568 (rw_aload_n (pc' := 1569) (v := .ref 0) rfl rfl rfl ?_)
    refine wl_of hX hb cL_1569 (rw_iload (pc' := 1571) (z := i) rfl rfl ?_)
    refine wl_of hX hb cL_1571 (rw_iconst (pc' := 1572) rfl ?_)
    refine wl_of hX hb cL_1572 (rw_iadd (pc' := 1573) rfl ?_)
    have k4187 : H4072 0 ((i + 2).toNat) = H 0 ((i + 2).toNat) := (f4077 0 ((i + 2).toNat) _ g0 (wmem_s rfl))
    refine wl_of hX hb cL_1573 (xa_I (so := 0) (pc' := 1574) (a := 0) w4076 g0 (wsh_s _) (by omega) (wty_s _ _) (by omega) (by omega) rfl (fun b4185 b4186 => ?_))
    refine wl_of hX hb cL_1574 (rw_i2l (pc' := 1575) rfl ⟨by omega, by omega⟩ ?_)
    refine wl_of hX hb cL_1575 (rw_ldc2 (pc' := 1578) (z := 4294967295) rfl rfl rfl ?_)
    refine wl_of hX hb cL_1578 (rw_land (pc' := 1579) rfl ?_)
    obtain ⟨v4188, e4189⟩ : ∃ x : Int, x = wl_and (H4072 0 ((i + 2).toNat)) 4294967295 := ⟨_, rfl⟩
    rw [← e4189]
    have b4190 : -9223372036854775808 ≤ v4188 ∧ v4188 ≤ 9223372036854775807 := by
      rw [e4189]
      exact wL_and _ _
    refine wl_of hX hb cL_1579 (rw_lor (pc' := 1580) rfl ?_)
    obtain ⟨v4191, e4192⟩ : ∃ x : Int, x = wl_or v4182 v4188 := ⟨_, rfl⟩
    rw [← e4192]
    have b4193 : -9223372036854775808 ≤ v4191 ∧ v4191 ≤ 9223372036854775807 := by
      rw [e4192]
      exact wL_or _ _
    have k4194 : wKI H4072 m = wKI H m := (wKI_fr hW gm f4077 rfl)
    have k4195 : H4072 x 9 = H x 9 := (f4077 x 9 _ gx rfl)
    have k4196 : H4072 m 6 = H m 6 := (f4077 m 6 _ gm rfl)
    have k4197 : H4072 x 11 = H x 11 := (f4077 x 11 _ gx rfl)
    have k4198 : H4072 m 13 = H m 13 := (f4077 m 13 _ gm rfl)
    have k4199 : H4072 x 8 = H x 8 := (f4077 x 8 _ gx rfl)
    have k4200 : H4072 m 3 = H m 3 := (f4077 m 3 _ gm rfl)
    have rs9 : v4191 = v4064 := by
      rw [e4192, e4183, e4189, e4065, e4057, e4062, show H4072 0 ((i + 1).toNat) = H 0 ((i + 1).toNat) by omega, show H4072 0 ((i + 2).toNat) = H 0 ((i + 2).toNat) by omega]
    rw [rs9]
    have h4201 : RB T H4072 m e8 d8 := (RB_fr hW gm f4077 rfl hrb8)
    have h4202 : RY T H4072 m (d8 0 3) g8 (H m 32) := (RY_fr hW gm f4077 rfl h4069)
    refine wl_of hX hb cL_1580 (xc_V (pc' := 1583) (r := m) (as := [vL v4064]) (st := []) (lm_11_219) rfl rfl (Nat.le_of_ble_eq_true rfl) w4076 gm sh_42 (by decide) rfl (by decide) (u_292 (e := e8) (d := d8) (nY := ((d8 0 3))) (gY := g8) (cY := ((H m 32))) w4076 gm ⟨b4066.1, b4066.2⟩ (by omega) h4201 h4202) (fun R4203 T4204 H4205 p4206 => ?_))
    obtain ⟨e4207, w4209, f4210, z4211, e4208, b4212, p4213⟩ := p4206
    subst e4207
    subst e4208
    rcases p4213 with ⟨a4214, a4215, a4216, a4217⟩ | ⟨a4218, a4219, a4220⟩
    · show WL _ _ _ _ 1583 [(4, vI i), (3, .ref o), (2, .ref m), (1, .ref x), (0, .ref 0)] [vI z4211] _ H4205
      refine wl_of hX hb cL_1583 (rw_pop (pc' := 1584) rfl rfl ?_)
      refine wl_of hX hb cL_1584 (rw_goto (p1 := 1653) (by decide) ?_)
      have k4221 : wKI H4205 m = wKI H4072 m := (wKI_fr w4076 gm f4210 rfl)
      have k4222 : H4205 x 9 = H4072 x 9 := (f4210 x 9 _ gx rfl)
      have k4223 : H4205 m 6 = H4072 m 6 := (f4210 m 6 _ gm rfl)
      have k4224 : H4205 x 11 = H4072 x 11 := (f4210 x 11 _ gx rfl)
      have k4225 : H4205 m 13 = H4072 m 13 := (f4210 m 13 _ gm rfl)
      have k4226 : H4205 x 8 = H4072 x 8 := (f4210 x 8 _ gx rfl)
      have k4227 : H4205 m 3 = H4072 m 3 := (f4210 m 3 _ gm rfl)
      have k4228 : H4205 x 0 = H x 0 := ((f4210 x 0 _ gx rfl).trans (f4077 x 0 _ gx rfl))
      have q4229 : H4205 x 0 = (tc : Int) := k4228.trans e0
      have k4230 : H4205 m 5 = H m 5 := ((f4210 m 5 _ gm rfl).trans (f4077 m 5 _ gm rfl))
      have q4231 : H4205 m 5 = (tm : Int) := k4230.trans em
      have k4232 : H4205 x 6 = H x 6 := ((f4210 x 6 _ gx rfl).trans (f4077 x 6 _ gx rfl))
      have q4233 : H4205 x 6 = (cu : Int) := k4232.trans ecu
      have k4234 : H4205 x 7 = H x 7 := ((f4210 x 7 _ gx rfl).trans (f4077 x 7 _ gx rfl))
      have q4235 : H4205 x 7 = (dr : Int) := k4234.trans edr
      have h4236 : TP T H4205 tc B := (TP_fr w4076 gtc f4210 rfl (TP_fr hW gtc f4077 rfl htc))
      have h4237 : TM T H4205 tm B := (TM_fr w4076 gtm f4210 rfl (TM_fr hW gtm f4077 rfl htm))
      have h4238 : DD T H4205 cu  := (DD_fr w4076 gcu f4210 rfl (DD_fr hW gcu f4077 rfl hcu))
      have h4239 : DD T H4205 dr  := (DD_fr w4076 gdr f4210 rfl (DD_fr hW gdr f4077 rfl hdr))
      have h4240 : DE T H4205 cu  := (DE_fr w4076 gcu f4210 rfl (DE_fr hW gcu f4077 rfl hdec))
      have h4241 : DE T H4205 dr  := (DE_fr w4076 gdr f4210 rfl (DE_fr hW gdr f4077 rfl hded))
      have h4242 : SP T H4205 x C8 := (SP_fr w4076 gx f4210 rfl (SP_fr hW gx f4077 rfl hsp))
      have h4243 : CU T H4205 cu e8 d8 n8 := (CU_fr w4076 gcu f4210 rfl (CU_fr hW gcu f4077 rfl hcu8))
      have h4244 : CY T H4205 cu ((d8 0 3)) g8 ((H cu 17)) := (CY_fr w4076 gcu f4210 rfl a4087)
      exfalso
      omega
    · show WL _ _ _ _ 1583 [(4, vI i), (3, .ref o), (2, .ref m), (1, .ref x), (0, .ref 0)] [vI z4211] _ H4205
      refine wl_of hX hb cL_1583 (rw_pop (pc' := 1584) rfl rfl ?_)
      refine wl_of hX hb cL_1584 (rw_goto (p1 := 1653) (by decide) ?_)
      have k4245 : wKI H4205 m = wKI H4072 m := (wKI_fr w4076 gm f4210 rfl)
      have k4246 : H4205 x 9 = H4072 x 9 := (f4210 x 9 _ gx rfl)
      have k4247 : H4205 m 6 = H4072 m 6 := (f4210 m 6 _ gm rfl)
      have k4248 : H4205 x 11 = H4072 x 11 := (f4210 x 11 _ gx rfl)
      have k4249 : H4205 m 13 = H4072 m 13 := (f4210 m 13 _ gm rfl)
      have k4250 : H4205 x 8 = H4072 x 8 := (f4210 x 8 _ gx rfl)
      have k4251 : H4205 m 3 = H4072 m 3 := (f4210 m 3 _ gm rfl)
      have k4252 : H4205 x 0 = H x 0 := ((f4210 x 0 _ gx rfl).trans (f4077 x 0 _ gx rfl))
      have q4253 : H4205 x 0 = (tc : Int) := k4252.trans e0
      have k4254 : H4205 m 5 = H m 5 := ((f4210 m 5 _ gm rfl).trans (f4077 m 5 _ gm rfl))
      have q4255 : H4205 m 5 = (tm : Int) := k4254.trans em
      have k4256 : H4205 x 6 = H x 6 := ((f4210 x 6 _ gx rfl).trans (f4077 x 6 _ gx rfl))
      have q4257 : H4205 x 6 = (cu : Int) := k4256.trans ecu
      have k4258 : H4205 x 7 = H x 7 := ((f4210 x 7 _ gx rfl).trans (f4077 x 7 _ gx rfl))
      have q4259 : H4205 x 7 = (dr : Int) := k4258.trans edr
      have h4260 : TP T H4205 tc B := (TP_fr w4076 gtc f4210 rfl (TP_fr hW gtc f4077 rfl htc))
      have h4261 : TM T H4205 tm B := (TM_fr w4076 gtm f4210 rfl (TM_fr hW gtm f4077 rfl htm))
      have h4262 : DD T H4205 cu  := (DD_fr w4076 gcu f4210 rfl (DD_fr hW gcu f4077 rfl hcu))
      have h4263 : DD T H4205 dr  := (DD_fr w4076 gdr f4210 rfl (DD_fr hW gdr f4077 rfl hdr))
      have h4264 : DE T H4205 cu  := (DE_fr w4076 gcu f4210 rfl (DE_fr hW gcu f4077 rfl hdec))
      have h4265 : DE T H4205 dr  := (DE_fr w4076 gdr f4210 rfl (DE_fr hW gdr f4077 rfl hded))
      have h4266 : SP T H4205 x C8 := (SP_fr w4076 gx f4210 rfl (SP_fr hW gx f4077 rfl hsp))
      have h4267 : CU T H4205 cu e8 d8 n8 := (CU_fr w4076 gcu f4210 rfl (CU_fr hW gcu f4077 rfl hcu8))
      have h4268 : CY T H4205 cu ((d8 0 3)) g8 ((H cu 17)) := (CY_fr w4076 gcu f4210 rfl a4087)
      have h4269 : RB T H4205 m e8 d8 := (RB_fr w4076 gm f4210 rfl h4201)
      exact WL.loc hX (by simp) (next T H4205 ⟨⟨w4209, g0, gx, gm, go, by omega, by omega⟩, ⟨_, tc, tm, cu, dr, _, _, _, _, _, q4253, gtc, h4260, q4255, gtm, h4261, q4257, gcu, q4259, gdr, h4262, h4263, h4264, h4265, h4266, hC1, hC2, h4267, h4269, (h4268).1, (a4220).1, hE, hZ, (by omega), gm⟩, by omega, by omega⟩ (by omega) (by omega))
set_option maxHeartbeats 4000000 in
theorem wl_c47 {kt : Nat → Option mc_E} {CB SB : Nat} {X : mc_S → Prop} {T : wq_T} {H : wq_H} {Len x m o : Nat} {i : Int} (hX : wlX kt CB SB X) (hb : T.2.1 ≤ CB ∧ T.2.2.1 ≤ SB) (hI : wlJ Len x m o T H) (hL : Len ≤ 3072) (hi : 0 ≤ i ∧ i + 6 ≤ Len) (hb2 : T.2.1 + 20 ≤ CB ∧ T.2.2.1 + 500 ≤ SB) (hled : ∀ {z : Int}, wI z → T.2.1 ≤ CB ∧ T.2.2.1 ≤ SB → wlJ Len x m o T H → (∀ (z' : Int), wI z' → ∀ (T' : wq_T) (H' : wq_H), wlJ Len x m o T' H' → T'.2.1 ≤ T.2.1 + 20 → T'.2.2.1 ≤ T.2.2.1 + 500 → WL kt CB SB X 1598 (wlL i x m o) [vI z'] T' H') → WL kt CB SB X 1595 (wlL i x m o) [.ref o, vI z, .ref x] T H) (next : ∀ T' H', wlJ Len x m o T' H' → T'.2.1 ≤ T.2.1 + 20 → T'.2.2.1 ≤ T.2.2.1 + 500 → WL kt CB SB X 1653 (wlL i x m o) [] T' H') : WL kt CB SB X 1587 (wlL i x m o) [] T H := by
  obtain ⟨⟨hW, g0, gx, gm, go, hK, hr⟩, hXI, hY1, hY2⟩ := hI
  refine wl_of hX hb cL_1587 (rw_aload_n (pc' := 1588) (v := .ref x) rfl rfl rfl ?_)
  refine wl_of hX hb cL_1588 (rw_aload_n (pc' := 1589) (v := .ref 0) rfl rfl rfl ?_)
  refine wl_of hX hb cL_1589 (rw_iload (pc' := 1591) (z := i) rfl rfl ?_)
  refine wl_of hX hb cL_1591 (rw_iconst (pc' := 1592) rfl ?_)
  refine wl_of hX hb cL_1592 (rw_iadd (pc' := 1593) rfl ?_)
  refine wl_of hX hb cL_1593 (xa_I (so := 0) (pc' := 1594) (a := 0) hW g0 (wsh_s _) (by omega) (wty_s _ _) (by omega) (by omega) rfl (fun b4270 b4271 => ?_))
  refine wl_of hX hb cL_1594 (rw_aload_n (pc' := 1595) (v := .ref o) rfl rfl rfl ?_)
  refine hled ⟨by omega, by omega⟩ hb ⟨⟨hW, g0, gx, gm, go, by omega, by omega⟩, hXI, by omega, by omega⟩ (fun z9 b9 T9 H9 hI9 n9 s9 => ?_)
  obtain ⟨⟨w9, g0, gx, gm, go, hK, hr⟩, hXI, hY1, hY2⟩ := hI9
  have hb : T9.2.1 ≤ CB ∧ T9.2.2.1 ≤ SB := ⟨by omega, by omega⟩
  refine wl_of hX hb cL_1598 (rw_istore (pc' := 1600) (z := z9) (L' := [(5, vI z9), (4, vI i), (3, .ref o), (2, .ref m), (1, .ref x), (0, .ref 0)]) rfl rfl rfl ?_)
  refine wl_of hX hb cL_1600 (rw_aload_n (pc' := 1601) (v := .ref m) rfl rfl rfl ?_)
  refine wl_of hX hb cL_1601 (rw_aload_n (pc' := 1602) (v := .ref 0) rfl rfl rfl ?_)
  refine wl_of hX hb cL_1602 (rw_iload (pc' := 1604) (z := i) rfl rfl ?_)
  refine wl_of hX hb cL_1604 (rw_iconst (pc' := 1605) rfl ?_)
  refine wl_of hX hb cL_1605 (rw_iadd (pc' := 1606) rfl ?_)
  refine wl_of hX hb cL_1606 (xa_I (so := 0) (pc' := 1607) (a := 0) w9 g0 (wsh_s _) (by omega) (wty_s _ _) (by omega) (by omega) rfl (fun b4272 b4273 => ?_))
  refine wl_of hX hb cL_1607 (xc_V (pc' := 1610) (r := m) (as := [vI (H9 0 ((i + 1).toNat))]) (st := []) (lm_11_225) rfl rfl (Nat.le_of_ble_eq_true rfl) w9 gm sh_42 (by decide) rfl (by decide) (s_293 w9 gm ⟨by omega, by omega⟩ (by omega)) (fun R4274 T4275 H4276 p4277 => ?_))
  obtain ⟨e4278, w4280, f4281, z4283, e4279, b4284, p4282⟩ := p4277
  subst e4278
  subst e4279
  show WL _ _ _ _ 1610 [(5, vI z9), (4, vI i), (3, .ref o), (2, .ref m), (1, .ref x), (0, .ref 0)] [vI z4283] _ H4276
  refine wl_of hX hb cL_1610 (rw_istore (pc' := 1612) (z := z4283) (L' := [(6, vI z4283), (5, vI z9), (4, vI i), (3, .ref o), (2, .ref m), (1, .ref x), (0, .ref 0)]) rfl rfl rfl ?_)
  refine wl_of hX hb cL_1612 (rw_goto (p1 := 1653) (by decide) ?_)
  have k4285 : H4276 x 9 = H9 x 9 := (f4281 x 9 _ gx rfl)
  have k4286 : H4276 m 6 = H9 m 6 := (f4281 m 6 _ gm rfl)
  have k4287 : H4276 x 11 = H9 x 11 := (f4281 x 11 _ gx rfl)
  have k4288 : H4276 m 13 = H9 m 13 := (f4281 m 13 _ gm rfl)
  have k4289 : H4276 x 8 = H9 x 8 := (f4281 x 8 _ gx rfl)
  have k4290 : H4276 m 3 = H9 m 3 := (f4281 m 3 _ gm rfl)
  have h4291 : XI T9 H4276 x m := (XI_fr w9 gx f4281 rfl hXI)
  exact WL.loc hX (by simp) (next T9 H4276 ⟨⟨w4280, g0, gx, gm, go, by omega, by omega⟩, h4291, by omega, by omega⟩ (by omega) (by omega))
set_option maxHeartbeats 4000000 in
theorem wl_c48 {kt : Nat → Option mc_E} {CB SB : Nat} {X : mc_S → Prop} {T : wq_T} {H : wq_H} {Len x m o : Nat} {i : Int} (hX : wlX kt CB SB X) (hb : T.2.1 ≤ CB ∧ T.2.2.1 ≤ SB) (hI : wlJ Len x m o T H) (hL : Len ≤ 3072) (hi : 0 ≤ i ∧ i + 6 ≤ Len) (hb2 : T.2.1 + 20 ≤ CB ∧ T.2.2.1 + 500 ≤ SB)  (next : ∀ T' H', wlJ Len x m o T' H' → T'.2.1 ≤ T.2.1 + 20 → T'.2.2.1 ≤ T.2.2.1 + 500 → WL kt CB SB X 1653 (wlL i x m o) [] T' H') : WL kt CB SB X 1615 (wlL i x m o) [] T H := by
  obtain ⟨⟨hW, g0, gx, gm, go, hK, hr⟩, hXI, hY1, hY2⟩ := hI
  refine wl_of hX hb cL_1615 (rw_aload_n (pc' := 1616) (v := .ref x) rfl rfl rfl ?_)
  refine wl_of hX hb cL_1616 (rw_aload_n (pc' := 1617) (v := .ref 0) rfl rfl rfl ?_)
  refine wl_of hX hb cL_1617 (rw_iload (pc' := 1619) (z := i) rfl rfl ?_)
  refine wl_of hX hb cL_1619 (rw_iconst (pc' := 1620) rfl ?_)
  refine wl_of hX hb cL_1620 (rw_iadd (pc' := 1621) rfl ?_)
  refine wl_of hX hb cL_1621 (xa_I (so := 0) (pc' := 1622) (a := 0) hW g0 (wsh_s _) (by omega) (wty_s _ _) (by omega) (by omega) rfl (fun b4292 b4293 => ?_))
  refine wl_of hX hb cL_1622 (xc_V (pc' := 1625) (r := x) (as := [vI (H 0 ((i + 1).toNat))]) (st := []) (lm_11_226) rfl rfl (Nat.le_of_ble_eq_true rfl) hW gx sh_1 (by decide) rfl (by decide) (s_164 hW gx ⟨by omega, by omega⟩) (fun R4294 T4295 H4296 p4297 => ?_))
  obtain ⟨e4298, e4300, z4301, e4299, b4302⟩ := p4297
  subst e4298
  subst e4299
  subst e4300
  show WL _ _ _ _ 1625 [(4, vI i), (3, .ref o), (2, .ref m), (1, .ref x), (0, .ref 0)] [vI z4301] _ H
  refine wl_of hX hb cL_1625 (rw_pop (pc' := 1626) rfl rfl ?_)
  refine wl_of hX hb cL_1626 (rw_aload_n (pc' := 1627) (v := .ref m) rfl rfl rfl ?_)
  refine wl_of hX hb cL_1627 (rw_aload_n (pc' := 1628) (v := .ref 0) rfl rfl rfl ?_)
  refine wl_of hX hb cL_1628 (rw_iload (pc' := 1630) (z := i) rfl rfl ?_)
  refine wl_of hX hb cL_1630 (rw_iconst (pc' := 1631) rfl ?_)
  refine wl_of hX hb cL_1631 (rw_iadd (pc' := 1632) rfl ?_)
  refine wl_of hX hb cL_1632 (xa_I (so := 0) (pc' := 1633) (a := 0) hW g0 (wsh_s _) (by omega) (wty_s _ _) (by omega) (by omega) rfl (fun b4303 b4304 => ?_))
  refine wl_of hX hb cL_1633 (xc_V (pc' := 1636) (r := m) (as := [vI (H 0 ((i + 1).toNat))]) (st := []) (lm_11_229) rfl rfl (Nat.le_of_ble_eq_true rfl) hW gm sh_42 (by decide) rfl (by decide) (s_294 hW gm ⟨by omega, by omega⟩ (by omega)) (fun R4305 T4306 H4307 p4308 => ?_))
  obtain ⟨e4309, w4311, f4312, z4314, e4310, b4315, p4313⟩ := p4308
  subst e4309
  subst e4310
  show WL _ _ _ _ 1636 [(4, vI i), (3, .ref o), (2, .ref m), (1, .ref x), (0, .ref 0)] [vI z4314] _ H4307
  refine wl_of hX hb cL_1636 (rw_pop (pc' := 1637) rfl rfl ?_)
  refine wl_of hX hb cL_1637 (rw_goto (p1 := 1653) (by decide) ?_)
  have k4316 : H4307 x 9 = H x 9 := (f4312 x 9 _ gx rfl)
  have k4317 : H4307 m 6 = H m 6 := (f4312 m 6 _ gm rfl)
  have k4318 : H4307 x 11 = H x 11 := (f4312 x 11 _ gx rfl)
  have k4319 : H4307 m 13 = H m 13 := (f4312 m 13 _ gm rfl)
  have k4320 : H4307 x 8 = H x 8 := (f4312 x 8 _ gx rfl)
  have k4321 : H4307 m 3 = H m 3 := (f4312 m 3 _ gm rfl)
  have h4322 : XI T H4307 x m := (XI_fr hW gx f4312 rfl hXI)
  exact WL.loc hX (by simp) (next T H4307 ⟨⟨w4311, g0, gx, gm, go, by omega, by omega⟩, h4322, by omega, by omega⟩ (by omega) (by omega))
set_option maxHeartbeats 4000000 in
theorem wl_c49 {kt : Nat → Option mc_E} {CB SB : Nat} {X : mc_S → Prop} {T : wq_T} {H : wq_H} {Len x m o : Nat} {i : Int} (hX : wlX kt CB SB X) (hb : T.2.1 ≤ CB ∧ T.2.2.1 ≤ SB) (hI : wlJ Len x m o T H) (hL : Len ≤ 3072) (hi : 0 ≤ i ∧ i + 6 ≤ Len) (hb2 : T.2.1 + 20 ≤ CB ∧ T.2.2.1 + 500 ≤ SB)  (next : ∀ T' H', wlJ Len x m o T' H' → T'.2.1 ≤ T.2.1 + 20 → T'.2.2.1 ≤ T.2.2.1 + 500 → WL kt CB SB X 1653 (wlL i x m o) [] T' H') : WL kt CB SB X 1640 (wlL i x m o) [] T H := by
  obtain ⟨⟨hW, g0, gx, gm, go, hK, hr⟩, hXI, hY1, hY2⟩ := hI
  refine wl_of hX hb cL_1640 (rw_aload_n (pc' := 1641) (v := .ref x) rfl rfl rfl ?_)
  refine wl_of hX hb cL_1641 (xc_V (pc' := 1644) (r := x) (as := []) (st := []) (lm_11_230) rfl rfl (Nat.le_of_ble_eq_true rfl) hW gx sh_1 (by decide) rfl (by decide) (s_165 hW gx) (fun R4323 T4324 H4325 p4326 => ?_))
  obtain ⟨e4327, e4329, z4330, e4328, b4331⟩ := p4326
  subst e4327
  subst e4328
  subst e4329
  show WL _ _ _ _ 1644 [(4, vI i), (3, .ref o), (2, .ref m), (1, .ref x), (0, .ref 0)] [vI z4330] _ H
  refine wl_of hX hb cL_1644 (rw_pop (pc' := 1645) rfl rfl ?_)
  refine wl_of hX hb cL_1645 (rw_aload_n (pc' := 1646) (v := .ref m) rfl rfl rfl ?_)
  refine wl_of hX hb cL_1646 (xc_V (pc' := 1649) (r := m) (as := []) (st := []) (lm_11_233) rfl rfl (Nat.le_of_ble_eq_true rfl) hW gm sh_42 (by decide) rfl (by decide) (s_295 hW gm (by omega)) (fun R4332 T4333 H4334 p4335 => ?_))
  obtain ⟨e4336, w4338, f4339, z4341, e4337, b4342, p4340⟩ := p4335
  subst e4336
  subst e4337
  show WL _ _ _ _ 1649 [(4, vI i), (3, .ref o), (2, .ref m), (1, .ref x), (0, .ref 0)] [vI z4341] _ H4334
  refine wl_of hX hb cL_1649 (rw_pop (pc' := 1650) rfl rfl ?_)
  refine wl_of hX hb cL_1650 (rw_goto (p1 := 1653) (by decide) ?_)
  have k4343 : H4334 x 9 = H x 9 := (f4339 x 9 _ gx rfl)
  have k4344 : H4334 m 6 = H m 6 := (f4339 m 6 _ gm rfl)
  have k4345 : H4334 x 11 = H x 11 := (f4339 x 11 _ gx rfl)
  have k4346 : H4334 m 13 = H m 13 := (f4339 m 13 _ gm rfl)
  have k4347 : H4334 x 8 = H x 8 := (f4339 x 8 _ gx rfl)
  have k4348 : H4334 m 3 = H m 3 := (f4339 m 3 _ gm rfl)
  have h4349 : XI T H4334 x m := (XI_fr hW gx f4339 rfl hXI)
  exact WL.loc hX (by simp) (next T H4334 ⟨⟨w4338, g0, gx, gm, go, by omega, by omega⟩, h4349, by omega, by omega⟩ (by omega) (by omega))
set_option maxHeartbeats 4000000 in
theorem wl_head {kt : Nat → Option mc_E} {CB SB : Nat} {X : mc_S → Prop} {T : wq_T} {H : wq_H} {Len x m o : Nat} {i : Int} (hX : wlX kt CB SB X) (hb : T.2.1 ≤ CB ∧ T.2.2.1 ≤ SB) (hI : wlJ Len x m o T H) (hL : Len ≤ 3072) (hi : 0 ≤ i ∧ i ≤ Len) (cases : ∀ t, t ∈ [256, 329, 354, 367, 380, 405, 454, 503, 516, 553, 578, 603, 616, 629, 642, 655, 668, 705, 718, 755, 792, 829, 882, 919, 944, 957, 994, 1019, 1056, 1109, 1162, 1175, 1200, 1225, 1250, 1263, 1316, 1329, 1342, 1367, 1404, 1429, 1454, 1467, 1504, 1517, 1530, 1587, 1615, 1640] → i + 6 ≤ Len → WL kt CB SB X t (wlL i x m o) [] T H) (next : i + 6 ≤ Len → WL kt CB SB X 1653 (wlL i x m o) [] T H) : WL kt CB SB X 23 (wlL i x m o) [] T H := by
  obtain ⟨⟨hW, g0, gx, gm, go, hK, hr⟩, hXI, hY1, hY2⟩ := hI
  refine wl_of hX hb cL_23 (rw_iload (pc' := 25) (z := i) rfl rfl ?_)
  refine wl_of hX hb cL_25 (rw_aload_n (pc' := 26) (v := .ref 0) rfl rfl rfl ?_)
  refine wl_of hX hb cL_26 (xa_N (pc' := 27) (a := 0) (n := Len) hW g0 (wsh_s _) (by decide) rfl ?_)
  refine wl_of hX hb cL_27 (rw_bipush (pc' := 29) (z := 6) rfl (by decide) ?_)
  refine wl_of hX hb cL_29 (rw_isub (pc' := 30) rfl ?_)
  refine wl_of hX hb cL_30 (rw_icmp_gt (p1 := 1659) (p2 := 33) (by decide) rfl ⟨by omega, by omega⟩ ⟨by omega, by omega⟩ (fun c4350 => ?_) (fun c4350 => ?_))
  · refine wl_of hX hb cL_1659 (rw_iconst (pc' := 1660) rfl ?_)
    exact WL.fin hX hb
  · refine wl_of hX hb cL_33 (rw_aload_n (pc' := 34) (v := .ref 0) rfl rfl rfl ?_)
    refine wl_of hX hb cL_34 (rw_iload (pc' := 36) (z := i) rfl rfl ?_)
    refine wl_of hX hb cL_36 (xa_I (so := 0) (pc' := 37) (a := 0) hW g0 (wsh_s _) (by omega) (wty_s _ _) (by omega) (by omega) rfl (fun b4351 b4352 => ?_))
    refine wl_of hX hb cL_37 (rw_bipush (pc' := 39) (z := 63) rfl (by decide) ?_)
    refine wl_of hX hb cL_39 (rw_iand (pc' := 40) rfl ?_)
    obtain ⟨v4353, e4354⟩ : ∃ x : Int, x = wq_and (H 0 (i.toNat)) 63 := ⟨_, rfl⟩
    rw [← e4354]
    have b4355 : 0 ≤ v4353 ∧ v4353 ≤ 63 := by
      rw [e4354]
      exact wq_and_b _ (by omega) (by omega)
    have c4356 : v4353 = 0 ∨ v4353 = 1 ∨ v4353 = 2 ∨ v4353 = 3 ∨ v4353 = 4 ∨ v4353 = 5 ∨ v4353 = 6 ∨ v4353 = 7 ∨ v4353 = 8 ∨ v4353 = 9 ∨ v4353 = 10 ∨ v4353 = 11 ∨ v4353 = 12 ∨ v4353 = 13 ∨ v4353 = 14 ∨ v4353 = 15 ∨ v4353 = 16 ∨ v4353 = 17 ∨ v4353 = 18 ∨ v4353 = 19 ∨ v4353 = 20 ∨ v4353 = 21 ∨ v4353 = 22 ∨ v4353 = 23 ∨ v4353 = 24 ∨ v4353 = 25 ∨ v4353 = 26 ∨ v4353 = 27 ∨ v4353 = 28 ∨ v4353 = 29 ∨ v4353 = 30 ∨ v4353 = 31 ∨ v4353 = 32 ∨ v4353 = 33 ∨ v4353 = 34 ∨ v4353 = 35 ∨ v4353 = 36 ∨ v4353 = 37 ∨ v4353 = 38 ∨ v4353 = 39 ∨ v4353 = 40 ∨ v4353 = 41 ∨ v4353 = 42 ∨ v4353 = 43 ∨ v4353 = 44 ∨ v4353 = 45 ∨ v4353 = 46 ∨ v4353 = 47 ∨ v4353 = 48 ∨ v4353 = 49 ∨ (v4353 < 0 ∨ 49 < v4353) := by omega
    rcases c4356 with c4356 | c4356 | c4356 | c4356 | c4356 | c4356 | c4356 | c4356 | c4356 | c4356 | c4356 | c4356 | c4356 | c4356 | c4356 | c4356 | c4356 | c4356 | c4356 | c4356 | c4356 | c4356 | c4356 | c4356 | c4356 | c4356 | c4356 | c4356 | c4356 | c4356 | c4356 | c4356 | c4356 | c4356 | c4356 | c4356 | c4356 | c4356 | c4356 | c4356 | c4356 | c4356 | c4356 | c4356 | c4356 | c4356 | c4356 | c4356 | c4356 | c4356 | c4356
    · refine wl_of hX hb cL_40 (rw_tsw (p1 := 256) ⟨by omega, by omega⟩ (by rw [c4356]; decide) ?_)
      exact cases 256 (by decide) (by omega)
    · refine wl_of hX hb cL_40 (rw_tsw (p1 := 329) ⟨by omega, by omega⟩ (by rw [c4356]; decide) ?_)
      exact cases 329 (by decide) (by omega)
    · refine wl_of hX hb cL_40 (rw_tsw (p1 := 354) ⟨by omega, by omega⟩ (by rw [c4356]; decide) ?_)
      exact cases 354 (by decide) (by omega)
    · refine wl_of hX hb cL_40 (rw_tsw (p1 := 367) ⟨by omega, by omega⟩ (by rw [c4356]; decide) ?_)
      exact cases 367 (by decide) (by omega)
    · refine wl_of hX hb cL_40 (rw_tsw (p1 := 380) ⟨by omega, by omega⟩ (by rw [c4356]; decide) ?_)
      exact cases 380 (by decide) (by omega)
    · refine wl_of hX hb cL_40 (rw_tsw (p1 := 405) ⟨by omega, by omega⟩ (by rw [c4356]; decide) ?_)
      exact cases 405 (by decide) (by omega)
    · refine wl_of hX hb cL_40 (rw_tsw (p1 := 454) ⟨by omega, by omega⟩ (by rw [c4356]; decide) ?_)
      exact cases 454 (by decide) (by omega)
    · refine wl_of hX hb cL_40 (rw_tsw (p1 := 503) ⟨by omega, by omega⟩ (by rw [c4356]; decide) ?_)
      exact cases 503 (by decide) (by omega)
    · refine wl_of hX hb cL_40 (rw_tsw (p1 := 516) ⟨by omega, by omega⟩ (by rw [c4356]; decide) ?_)
      exact cases 516 (by decide) (by omega)
    · refine wl_of hX hb cL_40 (rw_tsw (p1 := 553) ⟨by omega, by omega⟩ (by rw [c4356]; decide) ?_)
      exact cases 553 (by decide) (by omega)
    · refine wl_of hX hb cL_40 (rw_tsw (p1 := 578) ⟨by omega, by omega⟩ (by rw [c4356]; decide) ?_)
      exact cases 578 (by decide) (by omega)
    · refine wl_of hX hb cL_40 (rw_tsw (p1 := 603) ⟨by omega, by omega⟩ (by rw [c4356]; decide) ?_)
      exact cases 603 (by decide) (by omega)
    · refine wl_of hX hb cL_40 (rw_tsw (p1 := 616) ⟨by omega, by omega⟩ (by rw [c4356]; decide) ?_)
      exact cases 616 (by decide) (by omega)
    · refine wl_of hX hb cL_40 (rw_tsw (p1 := 629) ⟨by omega, by omega⟩ (by rw [c4356]; decide) ?_)
      exact cases 629 (by decide) (by omega)
    · refine wl_of hX hb cL_40 (rw_tsw (p1 := 642) ⟨by omega, by omega⟩ (by rw [c4356]; decide) ?_)
      exact cases 642 (by decide) (by omega)
    · refine wl_of hX hb cL_40 (rw_tsw (p1 := 655) ⟨by omega, by omega⟩ (by rw [c4356]; decide) ?_)
      exact cases 655 (by decide) (by omega)
    · refine wl_of hX hb cL_40 (rw_tsw (p1 := 668) ⟨by omega, by omega⟩ (by rw [c4356]; decide) ?_)
      exact cases 668 (by decide) (by omega)
    · refine wl_of hX hb cL_40 (rw_tsw (p1 := 705) ⟨by omega, by omega⟩ (by rw [c4356]; decide) ?_)
      exact cases 705 (by decide) (by omega)
    · refine wl_of hX hb cL_40 (rw_tsw (p1 := 718) ⟨by omega, by omega⟩ (by rw [c4356]; decide) ?_)
      exact cases 718 (by decide) (by omega)
    · refine wl_of hX hb cL_40 (rw_tsw (p1 := 755) ⟨by omega, by omega⟩ (by rw [c4356]; decide) ?_)
      exact cases 755 (by decide) (by omega)
    · refine wl_of hX hb cL_40 (rw_tsw (p1 := 792) ⟨by omega, by omega⟩ (by rw [c4356]; decide) ?_)
      exact cases 792 (by decide) (by omega)
    · refine wl_of hX hb cL_40 (rw_tsw (p1 := 829) ⟨by omega, by omega⟩ (by rw [c4356]; decide) ?_)
      exact cases 829 (by decide) (by omega)
    · refine wl_of hX hb cL_40 (rw_tsw (p1 := 882) ⟨by omega, by omega⟩ (by rw [c4356]; decide) ?_)
      exact cases 882 (by decide) (by omega)
    · refine wl_of hX hb cL_40 (rw_tsw (p1 := 919) ⟨by omega, by omega⟩ (by rw [c4356]; decide) ?_)
      exact cases 919 (by decide) (by omega)
    · refine wl_of hX hb cL_40 (rw_tsw (p1 := 944) ⟨by omega, by omega⟩ (by rw [c4356]; decide) ?_)
      exact cases 944 (by decide) (by omega)
    · refine wl_of hX hb cL_40 (rw_tsw (p1 := 957) ⟨by omega, by omega⟩ (by rw [c4356]; decide) ?_)
      exact cases 957 (by decide) (by omega)
    · refine wl_of hX hb cL_40 (rw_tsw (p1 := 994) ⟨by omega, by omega⟩ (by rw [c4356]; decide) ?_)
      exact cases 994 (by decide) (by omega)
    · refine wl_of hX hb cL_40 (rw_tsw (p1 := 1019) ⟨by omega, by omega⟩ (by rw [c4356]; decide) ?_)
      exact cases 1019 (by decide) (by omega)
    · refine wl_of hX hb cL_40 (rw_tsw (p1 := 1056) ⟨by omega, by omega⟩ (by rw [c4356]; decide) ?_)
      exact cases 1056 (by decide) (by omega)
    · refine wl_of hX hb cL_40 (rw_tsw (p1 := 1109) ⟨by omega, by omega⟩ (by rw [c4356]; decide) ?_)
      exact cases 1109 (by decide) (by omega)
    · refine wl_of hX hb cL_40 (rw_tsw (p1 := 1162) ⟨by omega, by omega⟩ (by rw [c4356]; decide) ?_)
      exact cases 1162 (by decide) (by omega)
    · refine wl_of hX hb cL_40 (rw_tsw (p1 := 1175) ⟨by omega, by omega⟩ (by rw [c4356]; decide) ?_)
      exact cases 1175 (by decide) (by omega)
    · refine wl_of hX hb cL_40 (rw_tsw (p1 := 1200) ⟨by omega, by omega⟩ (by rw [c4356]; decide) ?_)
      exact cases 1200 (by decide) (by omega)
    · refine wl_of hX hb cL_40 (rw_tsw (p1 := 1225) ⟨by omega, by omega⟩ (by rw [c4356]; decide) ?_)
      exact cases 1225 (by decide) (by omega)
    · refine wl_of hX hb cL_40 (rw_tsw (p1 := 1250) ⟨by omega, by omega⟩ (by rw [c4356]; decide) ?_)
      exact cases 1250 (by decide) (by omega)
    · refine wl_of hX hb cL_40 (rw_tsw (p1 := 1263) ⟨by omega, by omega⟩ (by rw [c4356]; decide) ?_)
      exact cases 1263 (by decide) (by omega)
    · refine wl_of hX hb cL_40 (rw_tsw (p1 := 1316) ⟨by omega, by omega⟩ (by rw [c4356]; decide) ?_)
      exact cases 1316 (by decide) (by omega)
    · refine wl_of hX hb cL_40 (rw_tsw (p1 := 1329) ⟨by omega, by omega⟩ (by rw [c4356]; decide) ?_)
      exact cases 1329 (by decide) (by omega)
    · refine wl_of hX hb cL_40 (rw_tsw (p1 := 1342) ⟨by omega, by omega⟩ (by rw [c4356]; decide) ?_)
      exact cases 1342 (by decide) (by omega)
    · refine wl_of hX hb cL_40 (rw_tsw (p1 := 1367) ⟨by omega, by omega⟩ (by rw [c4356]; decide) ?_)
      exact cases 1367 (by decide) (by omega)
    · refine wl_of hX hb cL_40 (rw_tsw (p1 := 1404) ⟨by omega, by omega⟩ (by rw [c4356]; decide) ?_)
      exact cases 1404 (by decide) (by omega)
    · refine wl_of hX hb cL_40 (rw_tsw (p1 := 1429) ⟨by omega, by omega⟩ (by rw [c4356]; decide) ?_)
      exact cases 1429 (by decide) (by omega)
    · refine wl_of hX hb cL_40 (rw_tsw (p1 := 1454) ⟨by omega, by omega⟩ (by rw [c4356]; decide) ?_)
      exact cases 1454 (by decide) (by omega)
    · refine wl_of hX hb cL_40 (rw_tsw (p1 := 1467) ⟨by omega, by omega⟩ (by rw [c4356]; decide) ?_)
      exact cases 1467 (by decide) (by omega)
    · refine wl_of hX hb cL_40 (rw_tsw (p1 := 1504) ⟨by omega, by omega⟩ (by rw [c4356]; decide) ?_)
      exact cases 1504 (by decide) (by omega)
    · refine wl_of hX hb cL_40 (rw_tsw (p1 := 1517) ⟨by omega, by omega⟩ (by rw [c4356]; decide) ?_)
      exact cases 1517 (by decide) (by omega)
    · refine wl_of hX hb cL_40 (rw_tsw (p1 := 1530) ⟨by omega, by omega⟩ (by rw [c4356]; decide) ?_)
      exact cases 1530 (by decide) (by omega)
    · refine wl_of hX hb cL_40 (rw_tsw (p1 := 1587) ⟨by omega, by omega⟩ (by rw [c4356]; decide) ?_)
      exact cases 1587 (by decide) (by omega)
    · refine wl_of hX hb cL_40 (rw_tsw (p1 := 1615) ⟨by omega, by omega⟩ (by rw [c4356]; decide) ?_)
      exact cases 1615 (by decide) (by omega)
    · refine wl_of hX hb cL_40 (rw_tsw (p1 := 1640) ⟨by omega, by omega⟩ (by rw [c4356]; decide) ?_)
      exact cases 1640 (by decide) (by omega)
    · refine wl_of hX hb cL_40 (rw_tsw (p1 := 1653) ⟨by omega, by omega⟩ (by rw [if_pos c4356]; decide) ?_)
      exact next (by omega)
theorem wl_back {kt : Nat → Option mc_E} {CB SB : Nat} {X : mc_S → Prop} {T : wq_T} {H : wq_H} {Len x m o : Nat} {i : Int} (hX : wlX kt CB SB X) (hb : T.2.1 ≤ CB ∧ T.2.2.1 ≤ SB) (hI : wlJ Len x m o T H) (hL : Len ≤ 3072) (hi : 0 ≤ i ∧ i + 6 ≤ Len) (next : WL kt CB SB X 23 (wlL (i + 6) x m o) [] T H) : WL kt CB SB X 1653 (wlL i x m o) [] T H := by
  obtain ⟨⟨hW, g0, gx, gm, go, hK, hr⟩, hXI, hY1, hY2⟩ := hI
  refine wl_of hX hb cL_1653 (rw_iinc (pc' := 1656) (z := i) (L' := [(4, vI (i + 6)), (3, .ref o), (2, .ref m), (1, .ref x), (0, .ref 0)]) rfl rfl rfl rfl ?_)
  refine wl_of hX hb cL_1656 (rw_goto (p1 := 23) (by decide) ?_)
  exact next
/-- the call that may throw, as the loop wants it -/
def wlLed (kt : Nat → Option mc_E) (CB SB : Nat) (X : mc_S → Prop) (Len x m o : Nat) : Prop := ∀ (T : wq_T) (H : wq_H) (i z : Int), T.2.1 + 20 ≤ CB ∧ T.2.2.1 + 500 ≤ SB → wI z → wlJ Len x m o T H → (∀ (z' : Int), wI z' → ∀ (T' : wq_T) (H' : wq_H), wlJ Len x m o T' H' → T'.2.1 ≤ T.2.1 + 20 → T'.2.2.1 ≤ T.2.2.1 + 500 → WL kt CB SB X 1598 (wlL i x m o) [vI z'] T' H') → WL kt CB SB X 1595 (wlL i x m o) [.ref o, vI z, .ref x] T H
set_option maxRecDepth 40000 in
theorem wl_loopL {kt : Nat → Option mc_E} {CB SB : Nat} {X : mc_S → Prop} {Len x m o : Nat} (hX : wlX kt CB SB X) (hL : Len ≤ 3072) (hled : wlLed kt CB SB X Len x m o) : ∀ (n : Nat) (T : wq_T) (H : wq_H) (i : Int), 0 ≤ i ∧ i ≤ Len → (Len - i).toNat = n → T.2.1 + 4 * (n + 6) ≤ CB → T.2.2.1 + 100 * (n + 6) ≤ SB → wlJ Len x m o T H → WL kt CB SB X 23 (wlL i x m o) [] T H := by
  intro n
  induction n using Nat.strongRecOn with
  | _ n ih =>
    intro T H i hi hn hc hs hI
    have hb : T.2.1 ≤ CB ∧ T.2.2.1 ≤ SB := ⟨by omega, by omega⟩
    have hb2 : T.2.1 + 20 ≤ CB ∧ T.2.2.1 + 500 ≤ SB := ⟨by omega, by omega⟩
    refine wl_head hX hb hI hL hi (fun t ht h6 => ?_) (fun h6 => wl_back hX hb hI hL ⟨hi.1, h6⟩ (ih (Len - (i + 6)).toNat (by omega) T H (i + 6) ⟨by omega, by omega⟩ rfl (by omega) (by omega) hI))
    have next : ∀ T' H', wlJ Len x m o T' H' → T'.2.1 ≤ T.2.1 + 20 → T'.2.2.1 ≤ T.2.2.1 + 500 → WL kt CB SB X 1653 (wlL i x m o) [] T' H' := fun T' H' hI' h1 h2 => wl_back hX ⟨by omega, by omega⟩ hI' hL ⟨hi.1, h6⟩ (ih (Len - (i + 6)).toNat (by omega) T' H' (i + 6) ⟨by omega, by omega⟩ rfl (by omega) (by omega) hI')
    rcases List.mem_cons.mp ht with rfl | ht
    · exact wl_c0 hX hb hI hL ⟨hi.1, h6⟩ hb2 next
    rcases List.mem_cons.mp ht with rfl | ht
    · exact wl_c1 hX hb hI hL ⟨hi.1, h6⟩ hb2 next
    rcases List.mem_cons.mp ht with rfl | ht
    · exact wl_c2 hX hb hI hL ⟨hi.1, h6⟩ hb2 next
    rcases List.mem_cons.mp ht with rfl | ht
    · exact wl_c3 hX hb hI hL ⟨hi.1, h6⟩ hb2 next
    rcases List.mem_cons.mp ht with rfl | ht
    · exact wl_c4 hX hb hI hL ⟨hi.1, h6⟩ hb2 next
    rcases List.mem_cons.mp ht with rfl | ht
    · exact wl_c5 hX hb hI hL ⟨hi.1, h6⟩ hb2 next
    rcases List.mem_cons.mp ht with rfl | ht
    · exact wl_c6 hX hb hI hL ⟨hi.1, h6⟩ hb2 next
    rcases List.mem_cons.mp ht with rfl | ht
    · exact wl_c7 hX hb hI hL ⟨hi.1, h6⟩ hb2 next
    rcases List.mem_cons.mp ht with rfl | ht
    · exact wl_c8 hX hb hI hL ⟨hi.1, h6⟩ hb2 next
    rcases List.mem_cons.mp ht with rfl | ht
    · exact wl_c9 hX hb hI hL ⟨hi.1, h6⟩ hb2 next
    rcases List.mem_cons.mp ht with rfl | ht
    · exact wl_c10 hX hb hI hL ⟨hi.1, h6⟩ hb2 next
    rcases List.mem_cons.mp ht with rfl | ht
    · exact wl_c11 hX hb hI hL ⟨hi.1, h6⟩ hb2 next
    rcases List.mem_cons.mp ht with rfl | ht
    · exact wl_c12 hX hb hI hL ⟨hi.1, h6⟩ hb2 next
    rcases List.mem_cons.mp ht with rfl | ht
    · exact wl_c13 hX hb hI hL ⟨hi.1, h6⟩ hb2 next
    rcases List.mem_cons.mp ht with rfl | ht
    · exact wl_c14 hX hb hI hL ⟨hi.1, h6⟩ hb2 next
    rcases List.mem_cons.mp ht with rfl | ht
    · exact wl_c15 hX hb hI hL ⟨hi.1, h6⟩ hb2 next
    rcases List.mem_cons.mp ht with rfl | ht
    · exact wl_c16 hX hb hI hL ⟨hi.1, h6⟩ hb2 next
    rcases List.mem_cons.mp ht with rfl | ht
    · exact wl_c17 hX hb hI hL ⟨hi.1, h6⟩ hb2 next
    rcases List.mem_cons.mp ht with rfl | ht
    · exact wl_c18 hX hb hI hL ⟨hi.1, h6⟩ hb2 next
    rcases List.mem_cons.mp ht with rfl | ht
    · exact wl_c19 hX hb hI hL ⟨hi.1, h6⟩ hb2 next
    rcases List.mem_cons.mp ht with rfl | ht
    · exact wl_c20 hX hb hI hL ⟨hi.1, h6⟩ hb2 next
    rcases List.mem_cons.mp ht with rfl | ht
    · exact wl_c21 hX hb hI hL ⟨hi.1, h6⟩ hb2 next
    rcases List.mem_cons.mp ht with rfl | ht
    · exact wl_c22 hX hb hI hL ⟨hi.1, h6⟩ hb2 next
    rcases List.mem_cons.mp ht with rfl | ht
    · exact wl_c23 hX hb hI hL ⟨hi.1, h6⟩ hb2 next
    rcases List.mem_cons.mp ht with rfl | ht
    · exact wl_c24 hX hb hI hL ⟨hi.1, h6⟩ hb2 next
    rcases List.mem_cons.mp ht with rfl | ht
    · exact wl_c25 hX hb hI hL ⟨hi.1, h6⟩ hb2 next
    rcases List.mem_cons.mp ht with rfl | ht
    · exact wl_c26 hX hb hI hL ⟨hi.1, h6⟩ hb2 next
    rcases List.mem_cons.mp ht with rfl | ht
    · exact wl_c27 hX hb hI hL ⟨hi.1, h6⟩ hb2 next
    rcases List.mem_cons.mp ht with rfl | ht
    · exact wl_c28 hX hb hI hL ⟨hi.1, h6⟩ hb2 next
    rcases List.mem_cons.mp ht with rfl | ht
    · exact wl_c29 hX hb hI hL ⟨hi.1, h6⟩ hb2 next
    rcases List.mem_cons.mp ht with rfl | ht
    · exact wl_c30 hX hb hI hL ⟨hi.1, h6⟩ hb2 next
    rcases List.mem_cons.mp ht with rfl | ht
    · exact wl_c31 hX hb hI hL ⟨hi.1, h6⟩ hb2 next
    rcases List.mem_cons.mp ht with rfl | ht
    · exact wl_c32 hX hb hI hL ⟨hi.1, h6⟩ hb2 next
    rcases List.mem_cons.mp ht with rfl | ht
    · exact wl_c33 hX hb hI hL ⟨hi.1, h6⟩ hb2 next
    rcases List.mem_cons.mp ht with rfl | ht
    · exact wl_c34 hX hb hI hL ⟨hi.1, h6⟩ hb2 next
    rcases List.mem_cons.mp ht with rfl | ht
    · exact wl_c35 hX hb hI hL ⟨hi.1, h6⟩ hb2 next
    rcases List.mem_cons.mp ht with rfl | ht
    · exact wl_c36 hX hb hI hL ⟨hi.1, h6⟩ hb2 next
    rcases List.mem_cons.mp ht with rfl | ht
    · exact wl_c37 hX hb hI hL ⟨hi.1, h6⟩ hb2 next
    rcases List.mem_cons.mp ht with rfl | ht
    · exact wl_c38 hX hb hI hL ⟨hi.1, h6⟩ hb2 next
    rcases List.mem_cons.mp ht with rfl | ht
    · exact wl_c39 hX hb hI hL ⟨hi.1, h6⟩ hb2 next
    rcases List.mem_cons.mp ht with rfl | ht
    · exact wl_c40 hX hb hI hL ⟨hi.1, h6⟩ hb2 next
    rcases List.mem_cons.mp ht with rfl | ht
    · exact wl_c41 hX hb hI hL ⟨hi.1, h6⟩ hb2 next
    rcases List.mem_cons.mp ht with rfl | ht
    · exact wl_c42 hX hb hI hL ⟨hi.1, h6⟩ hb2 next
    rcases List.mem_cons.mp ht with rfl | ht
    · exact wl_c43 hX hb hI hL ⟨hi.1, h6⟩ hb2 next
    rcases List.mem_cons.mp ht with rfl | ht
    · exact wl_c44 hX hb hI hL ⟨hi.1, h6⟩ hb2 next
    rcases List.mem_cons.mp ht with rfl | ht
    · exact wl_c45 hX hb hI hL ⟨hi.1, h6⟩ hb2 next
    rcases List.mem_cons.mp ht with rfl | ht
    · exact wl_c46 hX hb hI hL ⟨hi.1, h6⟩ hb2 next
    rcases List.mem_cons.mp ht with rfl | ht
    · exact wl_c47 hX hb hI hL ⟨hi.1, h6⟩ hb2 (fun hz _ hI2 k => hled T H i _ hb2 hz hI2 k) next
    rcases List.mem_cons.mp ht with rfl | ht
    · exact wl_c48 hX hb hI hL ⟨hi.1, h6⟩ hb2 next
    rcases List.mem_cons.mp ht with rfl | ht
    · exact wl_c49 hX hb hI hL ⟨hi.1, h6⟩ hb2 next
    cases ht
