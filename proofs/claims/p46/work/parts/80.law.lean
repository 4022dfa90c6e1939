/-! THE LAW'S LOOP OVER PURE MEMORY (own work): X is any property of states that one instruction carries backwards; WL: from this place on it is good -/
def wlX (kt : Nat → Option mc_E) (CB SB : Nat) (X : mc_S → Prop) : Prop :=
  (∀ (F : Nat) (x : Instr) (n : Nat) (S0 S : mc_S), mc_lawcd S0.1 = some (x, n) → mc_step kt (mc_call kt F 11) 11 7 false (some .boolean) x n S0 = some (.inl S) → S.2.2.2.length ≤ CB ∧ mc_sz S.2.2.2 ≤ SB → X S → X S0) ∧
  (∀ (pc : Nat) (L L' : List (Nat × Value)) (st : List Value) (M : mc_M), (∀ q ∈ L, q ∈ L') → X (pc, L, st, M) → X (pc, L', st, M)) ∧
  ∀ (L : List (Nat × Value)) (M : mc_M), M.length ≤ CB → mc_sz M ≤ SB → X (1660, L, [.int 1], M)
theorem wmem_s {l : List (Nat × Nat)} {n j : Nat} (h : l.all (fun q => decide (q.1 < 1000)) = true) : wmem l (1000 + n) j = false := wmem_no (fun q hq hh => by
  have h1 := of_decide_eq_true (List.all_eq_true.mp h q hq)
  have h2 := hh.1
  omega)
def WL (kt : Nat → Option mc_E) (CB SB : Nat) (X : mc_S → Prop) (pc : Nat) (L : List (Nat × Value)) (st : List Value) (T : wq_T) (H : wq_H) : Prop := (T.2.1 ≤ CB ∧ T.2.2.1 ≤ SB) ∧ ∀ M, wq_R kt M T H → X (pc, L, st, M)
theorem wl_of {kt : Nat → Option mc_E} {CB SB : Nat} {X : mc_S → Prop} (hX : wlX kt CB SB X) {pc : Nat} {L : List (Nat × Value)} {st : List Value} {T : wq_T} {H : wq_H} (hb : T.2.1 ≤ CB ∧ T.2.2.1 ≤ SB) {x : Instr} {n : Nat} (hd : mc_lawcd pc = some (x, n)) (h : wq_s kt 11 (11, 7, false, some .boolean) x n pc L st T H (WL kt CB SB X)) : WL kt CB SB X pc L st T H := ⟨hb, fun M hM => by
  obtain ⟨F, pc', L', st', M', T', H', h1, h2, h3⟩ := h M hM
  have hl := h2.1
  have hz := h2.2.1
  have hb' := h3.1
  exact hX.1 F x n (pc, L, st, M) (pc', L', st', M') hd h1 ⟨by show M'.length ≤ CB; omega, by show mc_sz M' ≤ SB; omega⟩ (h3.2 M' h2)⟩
theorem WL.loc {kt : Nat → Option mc_E} {CB SB : Nat} {X : mc_S → Prop} (hX : wlX kt CB SB X) {pc : Nat} {L L' : List (Nat × Value)} {st : List Value} {T : wq_T} {H : wq_H} (hq : ∀ q ∈ L, q ∈ L') (h : WL kt CB SB X pc L st T H) : WL kt CB SB X pc L' st T H := ⟨h.1, fun M hM => hX.2.1 pc L L' st M hq (h.2 M hM)⟩
theorem WL.fin {kt : Nat → Option mc_E} {CB SB : Nat} {X : mc_S → Prop} (hX : wlX kt CB SB X) {L : List (Nat × Value)} {T : wq_T} {H : wq_H} (hb : T.2.1 ≤ CB ∧ T.2.2.1 ≤ SB) : WL kt CB SB X 1660 L [vI 1] T H := ⟨hb, fun M hM => hX.2.2 L M (by have := hM.1; omega) (by have := hM.2.1; omega)⟩
/-- what holds at the head of the law's loop -/
def wlI (Len x m o : Nat) (T : wq_T) (H : wq_H) : Prop := WT T H ∧ T.2.2.2 0 = some (1000 + Len) ∧ T.2.2.2 x = some 1 ∧ T.2.2.2 m = some 42 ∧ T.2.2.2 o = some 73 ∧ wKI H m = 1 ∧ H x 9 = H m 6
abbrev wlL (i : Int) (x m o : Nat) : List (Nat × Value) := [(4, vI i), (3, .ref o), (2, .ref m), (1, .ref x), (0, .ref 0)]
/-- and what the two have in common: THE TAPE; two PARISHES with six persons each; the FAULT's number; whether there is a PARISH -/
def wlJ (Len x m o : Nat) (T : wq_T) (H : wq_H) : Prop := wlI Len x m o T H ∧ XI T H x m ∧ H x 11 = H m 13 ∧ ((H x 8 = 0 ∧ H m 3 = -1) ∨ (H x 8 = 1 ∧ H m 3 ≠ -1))

theorem cL_23 : mc_lawcd 23 = some (.iload 4, 2) := by decide +kernel
theorem cL_25 : mc_lawcd 25 = some (.aload_n 0, 1) := by decide +kernel
theorem cL_26 : mc_lawcd 26 = some (.arraylength, 1) := by decide +kernel
theorem cL_27 : mc_lawcd 27 = some (.bipush 6, 2) := by decide +kernel
theorem cL_29 : mc_lawcd 29 = some (.isub, 1) := by decide +kernel
theorem cL_30 : mc_lawcd 30 = some (.if_icmp .gt 1629, 3) := by decide +kernel
theorem cL_33 : mc_lawcd 33 = some (.aload_n 0, 1) := by decide +kernel
theorem cL_34 : mc_lawcd 34 = some (.iload 4, 2) := by decide +kernel
theorem cL_36 : mc_lawcd 36 = some (.iaload, 1) := by decide +kernel
theorem cL_37 : mc_lawcd 37 = some (.bipush 63, 2) := by decide +kernel
theorem cL_39 : mc_lawcd 39 = some (.iand, 1) := by decide +kernel
theorem cL_40 : mc_lawcd 40 = some (.tableswitch 1613 0 49 #[216, 289, 314, 327, 340, 365, 414, 463, 476, 513, 538, 563, 576, 589, 602, 615, 628, 665, 678, 715, 752, 789, 842, 879, 904, 917, 954, 979, 1016, 1069, 1122, 1135, 1160, 1185, 1210, 1223, 1276, 1289, 1302, 1327, 1364, 1389, 1414, 1427, 1464, 1477, 1490, 1547, 1575, 1600], 216) := by decide +kernel
theorem cL_256 : mc_lawcd 256 = some (.aload_n 1, 1) := by decide +kernel
theorem cL_257 : mc_lawcd 257 = some (.aload_n 0, 1) := by decide +kernel
theorem cL_258 : mc_lawcd 258 = some (.iload 4, 2) := by decide +kernel
theorem cL_260 : mc_lawcd 260 = some (.iconst 1, 1) := by decide +kernel
theorem cL_261 : mc_lawcd 261 = some (.iadd, 1) := by decide +kernel
theorem cL_262 : mc_lawcd 262 = some (.iaload, 1) := by decide +kernel
theorem cL_263 : mc_lawcd 263 = some (.aload_n 0, 1) := by decide +kernel
theorem cL_264 : mc_lawcd 264 = some (.iload 4, 2) := by decide +kernel
theorem cL_266 : mc_lawcd 266 = some (.iconst 2, 1) := by decide +kernel
theorem cL_267 : mc_lawcd 267 = some (.iadd, 1) := by decide +kernel
theorem cL_268 : mc_lawcd 268 = some (.iaload, 1) := by decide +kernel
theorem cL_269 : mc_lawcd 269 = some (.aload_n 0, 1) := by decide +kernel
theorem cL_270 : mc_lawcd 270 = some (.iload 4, 2) := by decide +kernel
theorem cL_272 : mc_lawcd 272 = some (.iconst 3, 1) := by decide +kernel
theorem cL_273 : mc_lawcd 273 = some (.iadd, 1) := by decide +kernel
theorem cL_274 : mc_lawcd 274 = some (.iaload, 1) := by decide +kernel
theorem cL_275 : mc_lawcd 275 = some (.aload_n 0, 1) := by decide +kernel
theorem cL_276 : mc_lawcd 276 = some (.iload 4, 2) := by decide +kernel
theorem cL_278 : mc_lawcd 278 = some (.iconst 4, 1) := by decide +kernel
theorem cL_279 : mc_lawcd 279 = some (.iadd, 1) := by decide +kernel
theorem cL_280 : mc_lawcd 280 = some (.iaload, 1) := by decide +kernel
theorem cL_281 : mc_lawcd 281 = some (.aload_n 0, 1) := by decide +kernel
theorem cL_282 : mc_lawcd 282 = some (.iload 4, 2) := by decide +kernel
theorem cL_284 : mc_lawcd 284 = some (.iconst 5, 1) := by decide +kernel
theorem cL_285 : mc_lawcd 285 = some (.iadd, 1) := by decide +kernel
theorem cL_286 : mc_lawcd 286 = some (.iaload, 1) := by decide +kernel
theorem cL_287 : mc_lawcd 287 = some (.invokevirtual 19, 3) := by decide +kernel
theorem cL_290 : mc_lawcd 290 = some (.pop, 1) := by decide +kernel
theorem cL_291 : mc_lawcd 291 = some (.aload_n 2, 1) := by decide +kernel
theorem cL_292 : mc_lawcd 292 = some (.aload_n 0, 1) := by decide +kernel
theorem cL_293 : mc_lawcd 293 = some (.iload 4, 2) := by decide +kernel
theorem cL_295 : mc_lawcd 295 = some (.iconst 1, 1) := by decide +kernel
theorem cL_296 : mc_lawcd 296 = some (.iadd, 1) := by decide +kernel
theorem cL_297 : mc_lawcd 297 = some (.iaload, 1) := by decide +kernel
theorem cL_298 : mc_lawcd 298 = some (.aload_n 0, 1) := by decide +kernel
theorem cL_299 : mc_lawcd 299 = some (.iload 4, 2) := by decide +kernel
theorem cL_301 : mc_lawcd 301 = some (.iconst 2, 1) := by decide +kernel
theorem cL_302 : mc_lawcd 302 = some (.iadd, 1) := by decide +kernel
theorem cL_303 : mc_lawcd 303 = some (.iaload, 1) := by decide +kernel
theorem cL_304 : mc_lawcd 304 = some (.aload_n 0, 1) := by decide +kernel
theorem cL_305 : mc_lawcd 305 = some (.iload 4, 2) := by decide +kernel
theorem cL_307 : mc_lawcd 307 = some (.iconst 3, 1) := by decide +kernel
theorem cL_308 : mc_lawcd 308 = some (.iadd, 1) := by decide +kernel
theorem cL_309 : mc_lawcd 309 = some (.iaload, 1) := by decide +kernel
theorem cL_310 : mc_lawcd 310 = some (.aload_n 0, 1) := by decide +kernel
theorem cL_311 : mc_lawcd 311 = some (.iload 4, 2) := by decide +kernel
theorem cL_313 : mc_lawcd 313 = some (.iconst 4, 1) := by decide +kernel
theorem cL_314 : mc_lawcd 314 = some (.iadd, 1) := by decide +kernel
theorem cL_315 : mc_lawcd 315 = some (.iaload, 1) := by decide +kernel
theorem cL_316 : mc_lawcd 316 = some (.aload_n 0, 1) := by decide +kernel
theorem cL_317 : mc_lawcd 317 = some (.iload 4, 2) := by decide +kernel
theorem cL_319 : mc_lawcd 319 = some (.iconst 5, 1) := by decide +kernel
theorem cL_320 : mc_lawcd 320 = some (.iadd, 1) := by decide +kernel
theorem cL_321 : mc_lawcd 321 = some (.iaload, 1) := by decide +kernel
theorem cL_322 : mc_lawcd 322 = some (.invokevirtual 23, 3) := by decide +kernel
theorem cL_325 : mc_lawcd 325 = some (.pop, 1) := by decide +kernel
theorem cL_326 : mc_lawcd 326 = some (.goto 1327, 3) := by decide +kernel
theorem cL_329 : mc_lawcd 329 = some (.aload_n 1, 1) := by decide +kernel
theorem cL_330 : mc_lawcd 330 = some (.aload_n 0, 1) := by decide +kernel
theorem cL_331 : mc_lawcd 331 = some (.iload 4, 2) := by decide +kernel
theorem cL_333 : mc_lawcd 333 = some (.iconst 1, 1) := by decide +kernel
theorem cL_334 : mc_lawcd 334 = some (.iadd, 1) := by decide +kernel
theorem cL_335 : mc_lawcd 335 = some (.iaload, 1) := by decide +kernel
theorem cL_336 : mc_lawcd 336 = some (.invokevirtual 24, 3) := by decide +kernel
theorem cL_339 : mc_lawcd 339 = some (.pop, 1) := by decide +kernel
theorem cL_340 : mc_lawcd 340 = some (.aload_n 2, 1) := by decide +kernel
theorem cL_341 : mc_lawcd 341 = some (.aload_n 0, 1) := by decide +kernel
theorem cL_342 : mc_lawcd 342 = some (.iload 4, 2) := by decide +kernel
theorem cL_344 : mc_lawcd 344 = some (.iconst 1, 1) := by decide +kernel
theorem cL_345 : mc_lawcd 345 = some (.iadd, 1) := by decide +kernel
theorem cL_346 : mc_lawcd 346 = some (.iaload, 1) := by decide +kernel
theorem cL_347 : mc_lawcd 347 = some (.invokevirtual 27, 3) := by decide +kernel
theorem cL_350 : mc_lawcd 350 = some (.pop, 1) := by decide +kernel
theorem cL_351 : mc_lawcd 351 = some (.goto 1302, 3) := by decide +kernel
theorem cL_354 : mc_lawcd 354 = some (.aload_n 1, 1) := by decide +kernel
theorem cL_355 : mc_lawcd 355 = some (.invokevirtual 28, 3) := by decide +kernel
theorem cL_358 : mc_lawcd 358 = some (.pop, 1) := by decide +kernel
theorem cL_359 : mc_lawcd 359 = some (.aload_n 2, 1) := by decide +kernel
theorem cL_360 : mc_lawcd 360 = some (.invokevirtual 32, 3) := by decide +kernel
theorem cL_363 : mc_lawcd 363 = some (.pop, 1) := by decide +kernel
theorem cL_364 : mc_lawcd 364 = some (.goto 1289, 3) := by decide +kernel
theorem cL_367 : mc_lawcd 367 = some (.aload_n 1, 1) := by decide +kernel
theorem cL_368 : mc_lawcd 368 = some (.invokevirtual 33, 3) := by decide +kernel
theorem cL_371 : mc_lawcd 371 = some (.pop, 1) := by decide +kernel
theorem cL_372 : mc_lawcd 372 = some (.aload_n 2, 1) := by decide +kernel
theorem cL_373 : mc_lawcd 373 = some (.invokevirtual 36, 3) := by decide +kernel
theorem cL_376 : mc_lawcd 376 = some (.pop, 1) := by decide +kernel
theorem cL_377 : mc_lawcd 377 = some (.goto 1276, 3) := by decide +kernel
theorem cL_380 : mc_lawcd 380 = some (.aload_n 1, 1) := by decide +kernel
theorem cL_381 : mc_lawcd 381 = some (.aload_n 0, 1) := by decide +kernel
theorem cL_382 : mc_lawcd 382 = some (.iload 4, 2) := by decide +kernel
theorem cL_384 : mc_lawcd 384 = some (.iconst 1, 1) := by decide +kernel
theorem cL_385 : mc_lawcd 385 = some (.iadd, 1) := by decide +kernel
theorem cL_386 : mc_lawcd 386 = some (.iaload, 1) := by decide +kernel
theorem cL_387 : mc_lawcd 387 = some (.invokevirtual 37, 3) := by decide +kernel
theorem cL_390 : mc_lawcd 390 = some (.pop, 1) := by decide +kernel
theorem cL_391 : mc_lawcd 391 = some (.aload_n 2, 1) := by decide +kernel
theorem cL_392 : mc_lawcd 392 = some (.aload_n 0, 1) := by decide +kernel
theorem cL_393 : mc_lawcd 393 = some (.iload 4, 2) := by decide +kernel
theorem cL_395 : mc_lawcd 395 = some (.iconst 1, 1) := by decide +kernel
theorem cL_396 : mc_lawcd 396 = some (.iadd, 1) := by decide +kernel
theorem cL_397 : mc_lawcd 397 = some (.iaload, 1) := by decide +kernel
theorem cL_398 : mc_lawcd 398 = some (.invokevirtual 40, 3) := by decide +kernel
theorem cL_401 : mc_lawcd 401 = some (.pop, 1) := by decide +kernel
theorem cL_402 : mc_lawcd 402 = some (.goto 1251, 3) := by decide +kernel
theorem cL_405 : mc_lawcd 405 = some (.aload_n 1, 1) := by decide +kernel
theorem cL_406 : mc_lawcd 406 = some (.aload_n 0, 1) := by decide +kernel
theorem cL_407 : mc_lawcd 407 = some (.iload 4, 2) := by decide +kernel
theorem cL_409 : mc_lawcd 409 = some (.iconst 1, 1) := by decide +kernel
theorem cL_410 : mc_lawcd 410 = some (.iadd, 1) := by decide +kernel
theorem cL_411 : mc_lawcd 411 = some (.iaload, 1) := by decide +kernel
theorem cL_412 : mc_lawcd 412 = some (.aload_n 0, 1) := by decide +kernel
theorem cL_413 : mc_lawcd 413 = some (.iload 4, 2) := by decide +kernel
theorem cL_415 : mc_lawcd 415 = some (.iconst 2, 1) := by decide +kernel
theorem cL_416 : mc_lawcd 416 = some (.iadd, 1) := by decide +kernel
theorem cL_417 : mc_lawcd 417 = some (.iaload, 1) := by decide +kernel
theorem cL_418 : mc_lawcd 418 = some (.aload_n 0, 1) := by decide +kernel
theorem cL_419 : mc_lawcd 419 = some (.iload 4, 2) := by decide +kernel
theorem cL_421 : mc_lawcd 421 = some (.iconst 3, 1) := by decide +kernel
theorem cL_422 : mc_lawcd 422 = some (.iadd, 1) := by decide +kernel
theorem cL_423 : mc_lawcd 423 = some (.iaload, 1) := by decide +kernel
theorem cL_424 : mc_lawcd 424 = some (.invokevirtual 41, 3) := by decide +kernel
theorem cL_427 : mc_lawcd 427 = some (.pop, 1) := by decide +kernel
theorem cL_428 : mc_lawcd 428 = some (.aload_n 2, 1) := by decide +kernel
theorem cL_429 : mc_lawcd 429 = some (.aload_n 0, 1) := by decide +kernel
theorem cL_430 : mc_lawcd 430 = some (.iload 4, 2) := by decide +kernel
theorem cL_432 : mc_lawcd 432 = some (.iconst 1, 1) := by decide +kernel
theorem cL_433 : mc_lawcd 433 = some (.iadd, 1) := by decide +kernel
theorem cL_434 : mc_lawcd 434 = some (.iaload, 1) := by decide +kernel
theorem cL_435 : mc_lawcd 435 = some (.aload_n 0, 1) := by decide +kernel
theorem cL_436 : mc_lawcd 436 = some (.iload 4, 2) := by decide +kernel
theorem cL_438 : mc_lawcd 438 = some (.iconst 2, 1) := by decide +kernel
theorem cL_439 : mc_lawcd 439 = some (.iadd, 1) := by decide +kernel
theorem cL_440 : mc_lawcd 440 = some (.iaload, 1) := by decide +kernel
theorem cL_441 : mc_lawcd 441 = some (.aload_n 0, 1) := by decide +kernel
theorem cL_442 : mc_lawcd 442 = some (.iload 4, 2) := by decide +kernel
theorem cL_444 : mc_lawcd 444 = some (.iconst 3, 1) := by decide +kernel
theorem cL_445 : mc_lawcd 445 = some (.iadd, 1) := by decide +kernel
theorem cL_446 : mc_lawcd 446 = some (.iaload, 1) := by decide +kernel
theorem cL_447 : mc_lawcd 447 = some (.invokevirtual 45, 3) := by decide +kernel
theorem cL_450 : mc_lawcd 450 = some (.pop, 1) := by decide +kernel
theorem cL_451 : mc_lawcd 451 = some (.goto 1202, 3) := by decide +kernel
theorem cL_454 : mc_lawcd 454 = some (.aload_n 1, 1) := by decide +kernel
theorem cL_455 : mc_lawcd 455 = some (.aload_n 0, 1) := by decide +kernel
theorem cL_456 : mc_lawcd 456 = some (.iload 4, 2) := by decide +kernel
theorem cL_458 : mc_lawcd 458 = some (.iconst 1, 1) := by decide +kernel
theorem cL_459 : mc_lawcd 459 = some (.iadd, 1) := by decide +kernel
theorem cL_460 : mc_lawcd 460 = some (.iaload, 1) := by decide +kernel
theorem cL_461 : mc_lawcd 461 = some (.aload_n 0, 1) := by decide +kernel
theorem cL_462 : mc_lawcd 462 = some (.iload 4, 2) := by decide +kernel
theorem cL_464 : mc_lawcd 464 = some (.iconst 2, 1) := by decide +kernel
theorem cL_465 : mc_lawcd 465 = some (.iadd, 1) := by decide +kernel
theorem cL_466 : mc_lawcd 466 = some (.iaload, 1) := by decide +kernel
theorem cL_467 : mc_lawcd 467 = some (.aload_n 0, 1) := by decide +kernel
theorem cL_468 : mc_lawcd 468 = some (.iload 4, 2) := by decide +kernel
theorem cL_470 : mc_lawcd 470 = some (.iconst 3, 1) := by decide +kernel
theorem cL_471 : mc_lawcd 471 = some (.iadd, 1) := by decide +kernel
theorem cL_472 : mc_lawcd 472 = some (.iaload, 1) := by decide +kernel
theorem cL_473 : mc_lawcd 473 = some (.invokevirtual 46, 3) := by decide +kernel
theorem cL_476 : mc_lawcd 476 = some (.pop, 1) := by decide +kernel
theorem cL_477 : mc_lawcd 477 = some (.aload_n 2, 1) := by decide +kernel
theorem cL_478 : mc_lawcd 478 = some (.aload_n 0, 1) := by decide +kernel
theorem cL_479 : mc_lawcd 479 = some (.iload 4, 2) := by decide +kernel
theorem cL_481 : mc_lawcd 481 = some (.iconst 1, 1) := by decide +kernel
theorem cL_482 : mc_lawcd 482 = some (.iadd, 1) := by decide +kernel
theorem cL_483 : mc_lawcd 483 = some (.iaload, 1) := by decide +kernel
theorem cL_484 : mc_lawcd 484 = some (.aload_n 0, 1) := by decide +kernel
theorem cL_485 : mc_lawcd 485 = some (.iload 4, 2) := by decide +kernel
theorem cL_487 : mc_lawcd 487 = some (.iconst 2, 1) := by decide +kernel
theorem cL_488 : mc_lawcd 488 = some (.iadd, 1) := by decide +kernel
theorem cL_489 : mc_lawcd 489 = some (.iaload, 1) := by decide +kernel
theorem cL_490 : mc_lawcd 490 = some (.aload_n 0, 1) := by decide +kernel
theorem cL_491 : mc_lawcd 491 = some (.iload 4, 2) := by decide +kernel
theorem cL_493 : mc_lawcd 493 = some (.iconst 3, 1) := by decide +kernel
theorem cL_494 : mc_lawcd 494 = some (.iadd, 1) := by decide +kernel
theorem cL_495 : mc_lawcd 495 = some (.iaload, 1) := by decide +kernel
theorem cL_496 : mc_lawcd 496 = some (.invokevirtual 49, 3) := by decide +kernel
theorem cL_499 : mc_lawcd 499 = some (.pop, 1) := by decide +kernel
theorem cL_500 : mc_lawcd 500 = some (.goto 1153, 3) := by decide +kernel
theorem cL_503 : mc_lawcd 503 = some (.aload_n 1, 1) := by decide +kernel
theorem cL_504 : mc_lawcd 504 = some (.invokevirtual 50, 3) := by decide +kernel
theorem cL_507 : mc_lawcd 507 = some (.pop2, 1) := by decide +kernel
theorem cL_508 : mc_lawcd 508 = some (.aload_n 2, 1) := by decide +kernel
theorem cL_509 : mc_lawcd 509 = some (.invokevirtual 54, 3) := by decide +kernel
theorem cL_512 : mc_lawcd 512 = some (.pop2, 1) := by decide +kernel
theorem cL_513 : mc_lawcd 513 = some (.goto 1140, 3) := by decide +kernel
theorem cL_516 : mc_lawcd 516 = some (.aload_n 1, 1) := by decide +kernel
theorem cL_517 : mc_lawcd 517 = some (.aload_n 0, 1) := by decide +kernel
theorem cL_518 : mc_lawcd 518 = some (.iload 4, 2) := by decide +kernel
theorem cL_520 : mc_lawcd 520 = some (.iconst 1, 1) := by decide +kernel
theorem cL_521 : mc_lawcd 521 = some (.iadd, 1) := by decide +kernel
theorem cL_522 : mc_lawcd 522 = some (.iaload, 1) := by decide +kernel
theorem cL_523 : mc_lawcd 523 = some (.aload_n 0, 1) := by decide +kernel
theorem cL_524 : mc_lawcd 524 = some (.iload 4, 2) := by decide +kernel
theorem cL_526 : mc_lawcd 526 = some (.iconst 2, 1) := by decide +kernel
theorem cL_527 : mc_lawcd 527 = some (.iadd, 1) := by decide +kernel
theorem cL_528 : mc_lawcd 528 = some (.iaload, 1) := by decide +kernel
theorem cL_529 : mc_lawcd 529 = some (.invokevirtual 55, 3) := by decide +kernel
theorem cL_532 : mc_lawcd 532 = some (.pop, 1) := by decide +kernel
theorem cL_533 : mc_lawcd 533 = some (.aload_n 2, 1) := by decide +kernel
theorem cL_534 : mc_lawcd 534 = some (.aload_n 0, 1) := by decide +kernel
theorem cL_535 : mc_lawcd 535 = some (.iload 4, 2) := by decide +kernel
theorem cL_537 : mc_lawcd 537 = some (.iconst 1, 1) := by decide +kernel
theorem cL_538 : mc_lawcd 538 = some (.iadd, 1) := by decide +kernel
theorem cL_539 : mc_lawcd 539 = some (.iaload, 1) := by decide +kernel
theorem cL_540 : mc_lawcd 540 = some (.aload_n 0, 1) := by decide +kernel
theorem cL_541 : mc_lawcd 541 = some (.iload 4, 2) := by decide +kernel
theorem cL_543 : mc_lawcd 543 = some (.iconst 2, 1) := by decide +kernel
theorem cL_544 : mc_lawcd 544 = some (.iadd, 1) := by decide +kernel
theorem cL_545 : mc_lawcd 545 = some (.iaload, 1) := by decide +kernel
theorem cL_546 : mc_lawcd 546 = some (.invokevirtual 59, 3) := by decide +kernel
theorem cL_549 : mc_lawcd 549 = some (.pop, 1) := by decide +kernel
theorem cL_550 : mc_lawcd 550 = some (.goto 1103, 3) := by decide +kernel
theorem cL_553 : mc_lawcd 553 = some (.aload_n 1, 1) := by decide +kernel
theorem cL_554 : mc_lawcd 554 = some (.aload_n 0, 1) := by decide +kernel
theorem cL_555 : mc_lawcd 555 = some (.iload 4, 2) := by decide +kernel
theorem cL_557 : mc_lawcd 557 = some (.iconst 1, 1) := by decide +kernel
theorem cL_558 : mc_lawcd 558 = some (.iadd, 1) := by decide +kernel
theorem cL_559 : mc_lawcd 559 = some (.iaload, 1) := by decide +kernel
theorem cL_560 : mc_lawcd 560 = some (.invokevirtual 60, 3) := by decide +kernel
theorem cL_563 : mc_lawcd 563 = some (.pop, 1) := by decide +kernel
theorem cL_564 : mc_lawcd 564 = some (.aload_n 2, 1) := by decide +kernel
theorem cL_565 : mc_lawcd 565 = some (.aload_n 0, 1) := by decide +kernel
theorem cL_566 : mc_lawcd 566 = some (.iload 4, 2) := by decide +kernel
theorem cL_568 : mc_lawcd 568 = some (.iconst 1, 1) := by decide +kernel
theorem cL_569 : mc_lawcd 569 = some (.iadd, 1) := by decide +kernel
theorem cL_570 : mc_lawcd 570 = some (.iaload, 1) := by decide +kernel
theorem cL_571 : mc_lawcd 571 = some (.invokevirtual 63, 3) := by decide +kernel
theorem cL_574 : mc_lawcd 574 = some (.pop, 1) := by decide +kernel
theorem cL_575 : mc_lawcd 575 = some (.goto 1078, 3) := by decide +kernel
theorem cL_578 : mc_lawcd 578 = some (.aload_n 1, 1) := by decide +kernel
theorem cL_579 : mc_lawcd 579 = some (.aload_n 0, 1) := by decide +kernel
theorem cL_580 : mc_lawcd 580 = some (.iload 4, 2) := by decide +kernel
theorem cL_582 : mc_lawcd 582 = some (.iconst 1, 1) := by decide +kernel
theorem cL_583 : mc_lawcd 583 = some (.iadd, 1) := by decide +kernel
theorem cL_584 : mc_lawcd 584 = some (.iaload, 1) := by decide +kernel
theorem cL_585 : mc_lawcd 585 = some (.invokevirtual 64, 3) := by decide +kernel
theorem cL_588 : mc_lawcd 588 = some (.pop, 1) := by decide +kernel
theorem cL_589 : mc_lawcd 589 = some (.aload_n 2, 1) := by decide +kernel
theorem cL_590 : mc_lawcd 590 = some (.aload_n 0, 1) := by decide +kernel
theorem cL_591 : mc_lawcd 591 = some (.iload 4, 2) := by decide +kernel
theorem cL_593 : mc_lawcd 593 = some (.iconst 1, 1) := by decide +kernel
theorem cL_594 : mc_lawcd 594 = some (.iadd, 1) := by decide +kernel
theorem cL_595 : mc_lawcd 595 = some (.iaload, 1) := by decide +kernel
theorem cL_596 : mc_lawcd 596 = some (.invokevirtual 67, 3) := by decide +kernel
theorem cL_599 : mc_lawcd 599 = some (.pop, 1) := by decide +kernel
theorem cL_600 : mc_lawcd 600 = some (.goto 1053, 3) := by decide +kernel
theorem cL_603 : mc_lawcd 603 = some (.aload_n 1, 1) := by decide +kernel
theorem cL_604 : mc_lawcd 604 = some (.invokevirtual 68, 3) := by decide +kernel
theorem cL_607 : mc_lawcd 607 = some (.pop, 1) := by decide +kernel
theorem cL_608 : mc_lawcd 608 = some (.aload_n 2, 1) := by decide +kernel
theorem cL_609 : mc_lawcd 609 = some (.invokevirtual 71, 3) := by decide +kernel
theorem cL_612 : mc_lawcd 612 = some (.pop, 1) := by decide +kernel
theorem cL_613 : mc_lawcd 613 = some (.goto 1040, 3) := by decide +kernel
theorem cL_616 : mc_lawcd 616 = some (.aload_n 1, 1) := by decide +kernel
theorem cL_617 : mc_lawcd 617 = some (.invokevirtual 72, 3) := by decide +kernel
theorem cL_620 : mc_lawcd 620 = some (.pop, 1) := by decide +kernel
theorem cL_621 : mc_lawcd 621 = some (.aload_n 2, 1) := by decide +kernel
theorem cL_622 : mc_lawcd 622 = some (.invokevirtual 75, 3) := by decide +kernel
theorem cL_625 : mc_lawcd 625 = some (.pop, 1) := by decide +kernel
theorem cL_626 : mc_lawcd 626 = some (.goto 1027, 3) := by decide +kernel
theorem cL_629 : mc_lawcd 629 = some (.aload_n 1, 1) := by decide +kernel
theorem cL_630 : mc_lawcd 630 = some (.invokevirtual 76, 3) := by decide +kernel
theorem cL_633 : mc_lawcd 633 = some (.pop, 1) := by decide +kernel
theorem cL_634 : mc_lawcd 634 = some (.aload_n 2, 1) := by decide +kernel
theorem cL_635 : mc_lawcd 635 = some (.invokevirtual 79, 3) := by decide +kernel
theorem cL_638 : mc_lawcd 638 = some (.pop, 1) := by decide +kernel
theorem cL_639 : mc_lawcd 639 = some (.goto 1014, 3) := by decide +kernel
theorem cL_642 : mc_lawcd 642 = some (.aload_n 1, 1) := by decide +kernel
theorem cL_643 : mc_lawcd 643 = some (.invokevirtual 80, 3) := by decide +kernel
theorem cL_646 : mc_lawcd 646 = some (.pop, 1) := by decide +kernel
theorem cL_647 : mc_lawcd 647 = some (.aload_n 2, 1) := by decide +kernel
theorem cL_648 : mc_lawcd 648 = some (.invokevirtual 83, 3) := by decide +kernel
theorem cL_651 : mc_lawcd 651 = some (.pop, 1) := by decide +kernel
theorem cL_652 : mc_lawcd 652 = some (.goto 1001, 3) := by decide +kernel
theorem cL_655 : mc_lawcd 655 = some (.aload_n 1, 1) := by decide +kernel
theorem cL_656 : mc_lawcd 656 = some (.invokevirtual 84, 3) := by decide +kernel
theorem cL_659 : mc_lawcd 659 = some (.pop, 1) := by decide +kernel
theorem cL_660 : mc_lawcd 660 = some (.aload_n 2, 1) := by decide +kernel
theorem cL_661 : mc_lawcd 661 = some (.invokevirtual 87, 3) := by decide +kernel
theorem cL_664 : mc_lawcd 664 = some (.pop, 1) := by decide +kernel
theorem cL_665 : mc_lawcd 665 = some (.goto 988, 3) := by decide +kernel
theorem cL_668 : mc_lawcd 668 = some (.aload_n 1, 1) := by decide +kernel
theorem cL_669 : mc_lawcd 669 = some (.aload_n 0, 1) := by decide +kernel
theorem cL_670 : mc_lawcd 670 = some (.iload 4, 2) := by decide +kernel
theorem cL_672 : mc_lawcd 672 = some (.iconst 1, 1) := by decide +kernel
theorem cL_673 : mc_lawcd 673 = some (.iadd, 1) := by decide +kernel
theorem cL_674 : mc_lawcd 674 = some (.iaload, 1) := by decide +kernel
theorem cL_675 : mc_lawcd 675 = some (.aload_n 0, 1) := by decide +kernel
theorem cL_676 : mc_lawcd 676 = some (.iload 4, 2) := by decide +kernel
theorem cL_678 : mc_lawcd 678 = some (.iconst 2, 1) := by decide +kernel
theorem cL_679 : mc_lawcd 679 = some (.iadd, 1) := by decide +kernel
theorem cL_680 : mc_lawcd 680 = some (.iaload, 1) := by decide +kernel
theorem cL_681 : mc_lawcd 681 = some (.invokevirtual 88, 3) := by decide +kernel
theorem cL_684 : mc_lawcd 684 = some (.pop, 1) := by decide +kernel
theorem cL_685 : mc_lawcd 685 = some (.aload_n 2, 1) := by decide +kernel
theorem cL_686 : mc_lawcd 686 = some (.aload_n 0, 1) := by decide +kernel
theorem cL_687 : mc_lawcd 687 = some (.iload 4, 2) := by decide +kernel
theorem cL_689 : mc_lawcd 689 = some (.iconst 1, 1) := by decide +kernel
theorem cL_690 : mc_lawcd 690 = some (.iadd, 1) := by decide +kernel
theorem cL_691 : mc_lawcd 691 = some (.iaload, 1) := by decide +kernel
theorem cL_692 : mc_lawcd 692 = some (.aload_n 0, 1) := by decide +kernel
theorem cL_693 : mc_lawcd 693 = some (.iload 4, 2) := by decide +kernel
theorem cL_695 : mc_lawcd 695 = some (.iconst 2, 1) := by decide +kernel
theorem cL_696 : mc_lawcd 696 = some (.iadd, 1) := by decide +kernel
theorem cL_697 : mc_lawcd 697 = some (.iaload, 1) := by decide +kernel
theorem cL_698 : mc_lawcd 698 = some (.invokevirtual 92, 3) := by decide +kernel
theorem cL_701 : mc_lawcd 701 = some (.pop, 1) := by decide +kernel
theorem cL_702 : mc_lawcd 702 = some (.goto 951, 3) := by decide +kernel
theorem cL_705 : mc_lawcd 705 = some (.aload_n 1, 1) := by decide +kernel
theorem cL_706 : mc_lawcd 706 = some (.invokevirtual 93, 3) := by decide +kernel
theorem cL_709 : mc_lawcd 709 = some (.pop2, 1) := by decide +kernel
theorem cL_710 : mc_lawcd 710 = some (.aload_n 2, 1) := by decide +kernel
theorem cL_711 : mc_lawcd 711 = some (.invokevirtual 96, 3) := by decide +kernel
theorem cL_714 : mc_lawcd 714 = some (.pop2, 1) := by decide +kernel
theorem cL_715 : mc_lawcd 715 = some (.goto 938, 3) := by decide +kernel
theorem cL_718 : mc_lawcd 718 = some (.aload_n 1, 1) := by decide +kernel
theorem cL_719 : mc_lawcd 719 = some (.aload_n 0, 1) := by decide +kernel
theorem cL_720 : mc_lawcd 720 = some (.iload 4, 2) := by decide +kernel
theorem cL_722 : mc_lawcd 722 = some (.iconst 1, 1) := by decide +kernel
theorem cL_723 : mc_lawcd 723 = some (.iadd, 1) := by decide +kernel
theorem cL_724 : mc_lawcd 724 = some (.iaload, 1) := by decide +kernel
theorem cL_725 : mc_lawcd 725 = some (.aload_n 0, 1) := by decide +kernel
theorem cL_726 : mc_lawcd 726 = some (.iload 4, 2) := by decide +kernel
theorem cL_728 : mc_lawcd 728 = some (.iconst 2, 1) := by decide +kernel
theorem cL_729 : mc_lawcd 729 = some (.iadd, 1) := by decide +kernel
theorem cL_730 : mc_lawcd 730 = some (.iaload, 1) := by decide +kernel
theorem cL_731 : mc_lawcd 731 = some (.invokevirtual 97, 3) := by decide +kernel
theorem cL_734 : mc_lawcd 734 = some (.pop, 1) := by decide +kernel
theorem cL_735 : mc_lawcd 735 = some (.aload_n 2, 1) := by decide +kernel
theorem cL_736 : mc_lawcd 736 = some (.aload_n 0, 1) := by decide +kernel
theorem cL_737 : mc_lawcd 737 = some (.iload 4, 2) := by decide +kernel
theorem cL_739 : mc_lawcd 739 = some (.iconst 1, 1) := by decide +kernel
theorem cL_740 : mc_lawcd 740 = some (.iadd, 1) := by decide +kernel
theorem cL_741 : mc_lawcd 741 = some (.iaload, 1) := by decide +kernel
theorem cL_742 : mc_lawcd 742 = some (.aload_n 0, 1) := by decide +kernel
theorem cL_743 : mc_lawcd 743 = some (.iload 4, 2) := by decide +kernel
theorem cL_745 : mc_lawcd 745 = some (.iconst 2, 1) := by decide +kernel
theorem cL_746 : mc_lawcd 746 = some (.iadd, 1) := by decide +kernel
theorem cL_747 : mc_lawcd 747 = some (.iaload, 1) := by decide +kernel
theorem cL_748 : mc_lawcd 748 = some (.invokevirtual 100, 3) := by decide +kernel
theorem cL_751 : mc_lawcd 751 = some (.pop, 1) := by decide +kernel
theorem cL_752 : mc_lawcd 752 = some (.goto 901, 3) := by decide +kernel
theorem cL_755 : mc_lawcd 755 = some (.aload_n 1, 1) := by decide +kernel
theorem cL_756 : mc_lawcd 756 = some (.aload_n 0, 1) := by decide +kernel
theorem cL_757 : mc_lawcd 757 = some (.iload 4, 2) := by decide +kernel
theorem cL_759 : mc_lawcd 759 = some (.iconst 1, 1) := by decide +kernel
theorem cL_760 : mc_lawcd 760 = some (.iadd, 1) := by decide +kernel
theorem cL_761 : mc_lawcd 761 = some (.iaload, 1) := by decide +kernel
theorem cL_762 : mc_lawcd 762 = some (.aload_n 0, 1) := by decide +kernel
theorem cL_763 : mc_lawcd 763 = some (.iload 4, 2) := by decide +kernel
theorem cL_765 : mc_lawcd 765 = some (.iconst 2, 1) := by decide +kernel
theorem cL_766 : mc_lawcd 766 = some (.iadd, 1) := by decide +kernel
theorem cL_767 : mc_lawcd 767 = some (.iaload, 1) := by decide +kernel
theorem cL_768 : mc_lawcd 768 = some (.invokevirtual 101, 3) := by decide +kernel
theorem cL_771 : mc_lawcd 771 = some (.pop, 1) := by decide +kernel
theorem cL_772 : mc_lawcd 772 = some (.aload_n 2, 1) := by decide +kernel
theorem cL_773 : mc_lawcd 773 = some (.aload_n 0, 1) := by decide +kernel
theorem cL_774 : mc_lawcd 774 = some (.iload 4, 2) := by decide +kernel
theorem cL_776 : mc_lawcd 776 = some (.iconst 1, 1) := by decide +kernel
theorem cL_777 : mc_lawcd 777 = some (.iadd, 1) := by decide +kernel
theorem cL_778 : mc_lawcd 778 = some (.iaload, 1) := by decide +kernel
theorem cL_779 : mc_lawcd 779 = some (.aload_n 0, 1) := by decide +kernel
theorem cL_780 : mc_lawcd 780 = some (.iload 4, 2) := by decide +kernel
theorem cL_782 : mc_lawcd 782 = some (.iconst 2, 1) := by decide +kernel
theorem cL_783 : mc_lawcd 783 = some (.iadd, 1) := by decide +kernel
theorem cL_784 : mc_lawcd 784 = some (.iaload, 1) := by decide +kernel
theorem cL_785 : mc_lawcd 785 = some (.invokevirtual 104, 3) := by decide +kernel
theorem cL_788 : mc_lawcd 788 = some (.pop, 1) := by decide +kernel
theorem cL_789 : mc_lawcd 789 = some (.goto 864, 3) := by decide +kernel
theorem cL_792 : mc_lawcd 792 = some (.aload_n 1, 1) := by decide +kernel
theorem cL_793 : mc_lawcd 793 = some (.aload_n 0, 1) := by decide +kernel
theorem cL_794 : mc_lawcd 794 = some (.iload 4, 2) := by decide +kernel
theorem cL_796 : mc_lawcd 796 = some (.iconst 1, 1) := by decide +kernel
theorem cL_797 : mc_lawcd 797 = some (.iadd, 1) := by decide +kernel
theorem cL_798 : mc_lawcd 798 = some (.iaload, 1) := by decide +kernel
theorem cL_799 : mc_lawcd 799 = some (.aload_n 0, 1) := by decide +kernel
theorem cL_800 : mc_lawcd 800 = some (.iload 4, 2) := by decide +kernel
theorem cL_802 : mc_lawcd 802 = some (.iconst 2, 1) := by decide +kernel
theorem cL_803 : mc_lawcd 803 = some (.iadd, 1) := by decide +kernel
theorem cL_804 : mc_lawcd 804 = some (.iaload, 1) := by decide +kernel
theorem cL_805 : mc_lawcd 805 = some (.invokevirtual 105, 3) := by decide +kernel
theorem cL_808 : mc_lawcd 808 = some (.pop, 1) := by decide +kernel
theorem cL_809 : mc_lawcd 809 = some (.aload_n 2, 1) := by decide +kernel
theorem cL_810 : mc_lawcd 810 = some (.aload_n 0, 1) := by decide +kernel
theorem cL_811 : mc_lawcd 811 = some (.iload 4, 2) := by decide +kernel
theorem cL_813 : mc_lawcd 813 = some (.iconst 1, 1) := by decide +kernel
theorem cL_814 : mc_lawcd 814 = some (.iadd, 1) := by decide +kernel
theorem cL_815 : mc_lawcd 815 = some (.iaload, 1) := by decide +kernel
theorem cL_816 : mc_lawcd 816 = some (.aload_n 0, 1) := by decide +kernel
theorem cL_817 : mc_lawcd 817 = some (.iload 4, 2) := by decide +kernel
theorem cL_819 : mc_lawcd 819 = some (.iconst 2, 1) := by decide +kernel
theorem cL_820 : mc_lawcd 820 = some (.iadd, 1) := by decide +kernel
theorem cL_821 : mc_lawcd 821 = some (.iaload, 1) := by decide +kernel
theorem cL_822 : mc_lawcd 822 = some (.invokevirtual 108, 3) := by decide +kernel
theorem cL_825 : mc_lawcd 825 = some (.pop, 1) := by decide +kernel
theorem cL_826 : mc_lawcd 826 = some (.goto 827, 3) := by decide +kernel
theorem cL_829 : mc_lawcd 829 = some (.aload_n 1, 1) := by decide +kernel
theorem cL_830 : mc_lawcd 830 = some (.aload_n 0, 1) := by decide +kernel
theorem cL_831 : mc_lawcd 831 = some (.iload 4, 2) := by decide +kernel
theorem cL_833 : mc_lawcd 833 = some (.iconst 1, 1) := by decide +kernel
theorem cL_834 : mc_lawcd 834 = some (.iadd, 1) := by decide +kernel
theorem cL_835 : mc_lawcd 835 = some (.iaload, 1) := by decide +kernel
theorem cL_836 : mc_lawcd 836 = some (.aload_n 0, 1) := by decide +kernel
theorem cL_837 : mc_lawcd 837 = some (.iload 4, 2) := by decide +kernel
theorem cL_839 : mc_lawcd 839 = some (.iconst 2, 1) := by decide +kernel
theorem cL_840 : mc_lawcd 840 = some (.iadd, 1) := by decide +kernel
theorem cL_841 : mc_lawcd 841 = some (.iaload, 1) := by decide +kernel
theorem cL_842 : mc_lawcd 842 = some (.ifCond .eq 7, 3) := by decide +kernel
theorem cL_845 : mc_lawcd 845 = some (.iconst 1, 1) := by decide +kernel
theorem cL_846 : mc_lawcd 846 = some (.goto 4, 3) := by decide +kernel
theorem cL_849 : mc_lawcd 849 = some (.iconst 0, 1) := by decide +kernel
theorem cL_850 : mc_lawcd 850 = some (.invokevirtual 109, 3) := by decide +kernel
theorem cL_853 : mc_lawcd 853 = some (.pop, 1) := by decide +kernel
theorem cL_854 : mc_lawcd 854 = some (.aload_n 2, 1) := by decide +kernel
theorem cL_855 : mc_lawcd 855 = some (.aload_n 0, 1) := by decide +kernel
theorem cL_856 : mc_lawcd 856 = some (.iload 4, 2) := by decide +kernel
theorem cL_858 : mc_lawcd 858 = some (.iconst 1, 1) := by decide +kernel
theorem cL_859 : mc_lawcd 859 = some (.iadd, 1) := by decide +kernel
theorem cL_860 : mc_lawcd 860 = some (.iaload, 1) := by decide +kernel
theorem cL_861 : mc_lawcd 861 = some (.aload_n 0, 1) := by decide +kernel
theorem cL_862 : mc_lawcd 862 = some (.iload 4, 2) := by decide +kernel
theorem cL_864 : mc_lawcd 864 = some (.iconst 2, 1) := by decide +kernel
theorem cL_865 : mc_lawcd 865 = some (.iadd, 1) := by decide +kernel
theorem cL_866 : mc_lawcd 866 = some (.iaload, 1) := by decide +kernel
theorem cL_867 : mc_lawcd 867 = some (.ifCond .eq 7, 3) := by decide +kernel
theorem cL_870 : mc_lawcd 870 = some (.iconst 1, 1) := by decide +kernel
theorem cL_871 : mc_lawcd 871 = some (.goto 4, 3) := by decide +kernel
theorem cL_874 : mc_lawcd 874 = some (.iconst 0, 1) := by decide +kernel
theorem cL_875 : mc_lawcd 875 = some (.invokevirtual 113, 3) := by decide +kernel
theorem cL_878 : mc_lawcd 878 = some (.pop, 1) := by decide +kernel
theorem cL_879 : mc_lawcd 879 = some (.goto 774, 3) := by decide +kernel
theorem cL_882 : mc_lawcd 882 = some (.aload_n 1, 1) := by decide +kernel
theorem cL_883 : mc_lawcd 883 = some (.aload_n 0, 1) := by decide +kernel
theorem cL_884 : mc_lawcd 884 = some (.iload 4, 2) := by decide +kernel
theorem cL_886 : mc_lawcd 886 = some (.iconst 1, 1) := by decide +kernel
theorem cL_887 : mc_lawcd 887 = some (.iadd, 1) := by decide +kernel
theorem cL_888 : mc_lawcd 888 = some (.iaload, 1) := by decide +kernel
theorem cL_889 : mc_lawcd 889 = some (.aload_n 0, 1) := by decide +kernel
theorem cL_890 : mc_lawcd 890 = some (.iload 4, 2) := by decide +kernel
theorem cL_892 : mc_lawcd 892 = some (.iconst 2, 1) := by decide +kernel
theorem cL_893 : mc_lawcd 893 = some (.iadd, 1) := by decide +kernel
theorem cL_894 : mc_lawcd 894 = some (.iaload, 1) := by decide +kernel
theorem cL_895 : mc_lawcd 895 = some (.invokevirtual 114, 3) := by decide +kernel
theorem cL_898 : mc_lawcd 898 = some (.pop, 1) := by decide +kernel
theorem cL_899 : mc_lawcd 899 = some (.aload_n 2, 1) := by decide +kernel
theorem cL_900 : mc_lawcd 900 = some (.aload_n 0, 1) := by decide +kernel
theorem cL_901 : mc_lawcd 901 = some (.iload 4, 2) := by decide +kernel
theorem cL_903 : mc_lawcd 903 = some (.iconst 1, 1) := by decide +kernel
theorem cL_904 : mc_lawcd 904 = some (.iadd, 1) := by decide +kernel
theorem cL_905 : mc_lawcd 905 = some (.iaload, 1) := by decide +kernel
theorem cL_906 : mc_lawcd 906 = some (.aload_n 0, 1) := by decide +kernel
theorem cL_907 : mc_lawcd 907 = some (.iload 4, 2) := by decide +kernel
theorem cL_909 : mc_lawcd 909 = some (.iconst 2, 1) := by decide +kernel
theorem cL_910 : mc_lawcd 910 = some (.iadd, 1) := by decide +kernel
theorem cL_911 : mc_lawcd 911 = some (.iaload, 1) := by decide +kernel
theorem cL_912 : mc_lawcd 912 = some (.invokevirtual 117, 3) := by decide +kernel
theorem cL_915 : mc_lawcd 915 = some (.pop, 1) := by decide +kernel
theorem cL_916 : mc_lawcd 916 = some (.goto 737, 3) := by decide +kernel
theorem cL_919 : mc_lawcd 919 = some (.aload_n 1, 1) := by decide +kernel
theorem cL_920 : mc_lawcd 920 = some (.aload_n 0, 1) := by decide +kernel
theorem cL_921 : mc_lawcd 921 = some (.iload 4, 2) := by decide +kernel
theorem cL_923 : mc_lawcd 923 = some (.iconst 1, 1) := by decide +kernel
theorem cL_924 : mc_lawcd 924 = some (.iadd, 1) := by decide +kernel
theorem cL_925 : mc_lawcd 925 = some (.iaload, 1) := by decide +kernel
theorem cL_926 : mc_lawcd 926 = some (.invokevirtual 118, 3) := by decide +kernel
theorem cL_929 : mc_lawcd 929 = some (.pop, 1) := by decide +kernel
theorem cL_930 : mc_lawcd 930 = some (.aload_n 2, 1) := by decide +kernel
theorem cL_931 : mc_lawcd 931 = some (.aload_n 0, 1) := by decide +kernel
theorem cL_932 : mc_lawcd 932 = some (.iload 4, 2) := by decide +kernel
theorem cL_934 : mc_lawcd 934 = some (.iconst 1, 1) := by decide +kernel
theorem cL_935 : mc_lawcd 935 = some (.iadd, 1) := by decide +kernel
theorem cL_936 : mc_lawcd 936 = some (.iaload, 1) := by decide +kernel
theorem cL_937 : mc_lawcd 937 = some (.invokevirtual 121, 3) := by decide +kernel
theorem cL_940 : mc_lawcd 940 = some (.pop, 1) := by decide +kernel
theorem cL_941 : mc_lawcd 941 = some (.goto 712, 3) := by decide +kernel
theorem cL_944 : mc_lawcd 944 = some (.aload_n 1, 1) := by decide +kernel
theorem cL_945 : mc_lawcd 945 = some (.invokevirtual 122, 3) := by decide +kernel
theorem cL_948 : mc_lawcd 948 = some (.pop2, 1) := by decide +kernel
theorem cL_949 : mc_lawcd 949 = some (.aload_n 2, 1) := by decide +kernel
theorem cL_950 : mc_lawcd 950 = some (.invokevirtual 125, 3) := by decide +kernel
theorem cL_953 : mc_lawcd 953 = some (.pop2, 1) := by decide +kernel
theorem cL_954 : mc_lawcd 954 = some (.goto 699, 3) := by decide +kernel
theorem cL_957 : mc_lawcd 957 = some (.aload_n 1, 1) := by decide +kernel
theorem cL_958 : mc_lawcd 958 = some (.aload_n 0, 1) := by decide +kernel
theorem cL_959 : mc_lawcd 959 = some (.iload 4, 2) := by decide +kernel
theorem cL_961 : mc_lawcd 961 = some (.iconst 1, 1) := by decide +kernel
theorem cL_962 : mc_lawcd 962 = some (.iadd, 1) := by decide +kernel
theorem cL_963 : mc_lawcd 963 = some (.iaload, 1) := by decide +kernel
theorem cL_964 : mc_lawcd 964 = some (.aload_n 0, 1) := by decide +kernel
theorem cL_965 : mc_lawcd 965 = some (.iload 4, 2) := by decide +kernel
theorem cL_967 : mc_lawcd 967 = some (.iconst 2, 1) := by decide +kernel
theorem cL_968 : mc_lawcd 968 = some (.iadd, 1) := by decide +kernel
theorem cL_969 : mc_lawcd 969 = some (.iaload, 1) := by decide +kernel
theorem cL_970 : mc_lawcd 970 = some (.invokevirtual 126, 3) := by decide +kernel
theorem cL_973 : mc_lawcd 973 = some (.pop, 1) := by decide +kernel
theorem cL_974 : mc_lawcd 974 = some (.aload_n 2, 1) := by decide +kernel
theorem cL_975 : mc_lawcd 975 = some (.aload_n 0, 1) := by decide +kernel
theorem cL_976 : mc_lawcd 976 = some (.iload 4, 2) := by decide +kernel
theorem cL_978 : mc_lawcd 978 = some (.iconst 1, 1) := by decide +kernel
theorem cL_979 : mc_lawcd 979 = some (.iadd, 1) := by decide +kernel
theorem cL_980 : mc_lawcd 980 = some (.iaload, 1) := by decide +kernel
theorem cL_981 : mc_lawcd 981 = some (.aload_n 0, 1) := by decide +kernel
theorem cL_982 : mc_lawcd 982 = some (.iload 4, 2) := by decide +kernel
theorem cL_984 : mc_lawcd 984 = some (.iconst 2, 1) := by decide +kernel
theorem cL_985 : mc_lawcd 985 = some (.iadd, 1) := by decide +kernel
theorem cL_986 : mc_lawcd 986 = some (.iaload, 1) := by decide +kernel
theorem cL_987 : mc_lawcd 987 = some (.invokevirtual 129, 3) := by decide +kernel
theorem cL_990 : mc_lawcd 990 = some (.pop, 1) := by decide +kernel
theorem cL_991 : mc_lawcd 991 = some (.goto 662, 3) := by decide +kernel
theorem cL_994 : mc_lawcd 994 = some (.aload_n 1, 1) := by decide +kernel
theorem cL_995 : mc_lawcd 995 = some (.aload_n 0, 1) := by decide +kernel
theorem cL_996 : mc_lawcd 996 = some (.iload 4, 2) := by decide +kernel
theorem cL_998 : mc_lawcd 998 = some (.iconst 1, 1) := by decide +kernel
theorem cL_999 : mc_lawcd 999 = some (.iadd, 1) := by decide +kernel
theorem cL_1000 : mc_lawcd 1000 = some (.iaload, 1) := by decide +kernel
theorem cL_1001 : mc_lawcd 1001 = some (.invokevirtual 130, 3) := by decide +kernel
theorem cL_1004 : mc_lawcd 1004 = some (.pop2, 1) := by decide +kernel
theorem cL_1005 : mc_lawcd 1005 = some (.aload_n 2, 1) := by decide +kernel
theorem cL_1006 : mc_lawcd 1006 = some (.aload_n 0, 1) := by decide +kernel
theorem cL_1007 : mc_lawcd 1007 = some (.iload 4, 2) := by decide +kernel
theorem cL_1009 : mc_lawcd 1009 = some (.iconst 1, 1) := by decide +kernel
theorem cL_1010 : mc_lawcd 1010 = some (.iadd, 1) := by decide +kernel
theorem cL_1011 : mc_lawcd 1011 = some (.iaload, 1) := by decide +kernel
theorem cL_1012 : mc_lawcd 1012 = some (.invokevirtual 134, 3) := by decide +kernel
theorem cL_1015 : mc_lawcd 1015 = some (.pop2, 1) := by decide +kernel
theorem cL_1016 : mc_lawcd 1016 = some (.goto 637, 3) := by decide +kernel
theorem cL_1019 : mc_lawcd 1019 = some (.aload_n 1, 1) := by decide +kernel
theorem cL_1020 : mc_lawcd 1020 = some (.aload_n 0, 1) := by decide +kernel
theorem cL_1021 : mc_lawcd 1021 = some (.iload 4, 2) := by decide +kernel
theorem cL_1023 : mc_lawcd 1023 = some (.iconst 1, 1) := by decide +kernel
theorem cL_1024 : mc_lawcd 1024 = some (.iadd, 1) := by decide +kernel
theorem cL_1025 : mc_lawcd 1025 = some (.iaload, 1) := by decide +kernel
theorem cL_1026 : mc_lawcd 1026 = some (.aload_n 0, 1) := by decide +kernel
theorem cL_1027 : mc_lawcd 1027 = some (.iload 4, 2) := by decide +kernel
theorem cL_1029 : mc_lawcd 1029 = some (.iconst 2, 1) := by decide +kernel
theorem cL_1030 : mc_lawcd 1030 = some (.iadd, 1) := by decide +kernel
theorem cL_1031 : mc_lawcd 1031 = some (.iaload, 1) := by decide +kernel
theorem cL_1032 : mc_lawcd 1032 = some (.invokevirtual 135, 3) := by decide +kernel
theorem cL_1035 : mc_lawcd 1035 = some (.pop, 1) := by decide +kernel
theorem cL_1036 : mc_lawcd 1036 = some (.aload_n 2, 1) := by decide +kernel
theorem cL_1037 : mc_lawcd 1037 = some (.aload_n 0, 1) := by decide +kernel
theorem cL_1038 : mc_lawcd 1038 = some (.iload 4, 2) := by decide +kernel
theorem cL_1040 : mc_lawcd 1040 = some (.iconst 1, 1) := by decide +kernel
theorem cL_1041 : mc_lawcd 1041 = some (.iadd, 1) := by decide +kernel
theorem cL_1042 : mc_lawcd 1042 = some (.iaload, 1) := by decide +kernel
theorem cL_1043 : mc_lawcd 1043 = some (.aload_n 0, 1) := by decide +kernel
theorem cL_1044 : mc_lawcd 1044 = some (.iload 4, 2) := by decide +kernel
theorem cL_1046 : mc_lawcd 1046 = some (.iconst 2, 1) := by decide +kernel
theorem cL_1047 : mc_lawcd 1047 = some (.iadd, 1) := by decide +kernel
theorem cL_1048 : mc_lawcd 1048 = some (.iaload, 1) := by decide +kernel
theorem cL_1049 : mc_lawcd 1049 = some (.invokevirtual 138, 3) := by decide +kernel
theorem cL_1052 : mc_lawcd 1052 = some (.pop, 1) := by decide +kernel
theorem cL_1053 : mc_lawcd 1053 = some (.goto 600, 3) := by decide +kernel
theorem cL_1056 : mc_lawcd 1056 = some (.aload_n 1, 1) := by decide +kernel
theorem cL_1057 : mc_lawcd 1057 = some (.aload_n 0, 1) := by decide +kernel
theorem cL_1058 : mc_lawcd 1058 = some (.iload 4, 2) := by decide +kernel
theorem cL_1060 : mc_lawcd 1060 = some (.iconst 1, 1) := by decide +kernel
theorem cL_1061 : mc_lawcd 1061 = some (.iadd, 1) := by decide +kernel
theorem cL_1062 : mc_lawcd 1062 = some (.iaload, 1) := by decide +kernel
theorem cL_1063 : mc_lawcd 1063 = some (.aload_n 0, 1) := by decide +kernel
theorem cL_1064 : mc_lawcd 1064 = some (.iload 4, 2) := by decide +kernel
theorem cL_1066 : mc_lawcd 1066 = some (.iconst 2, 1) := by decide +kernel
theorem cL_1067 : mc_lawcd 1067 = some (.iadd, 1) := by decide +kernel
theorem cL_1068 : mc_lawcd 1068 = some (.iaload, 1) := by decide +kernel
theorem cL_1069 : mc_lawcd 1069 = some (.ifCond .eq 7, 3) := by decide +kernel
theorem cL_1072 : mc_lawcd 1072 = some (.iconst 1, 1) := by decide +kernel
theorem cL_1073 : mc_lawcd 1073 = some (.goto 4, 3) := by decide +kernel
theorem cL_1076 : mc_lawcd 1076 = some (.iconst 0, 1) := by decide +kernel
theorem cL_1077 : mc_lawcd 1077 = some (.invokevirtual 139, 3) := by decide +kernel
theorem cL_1080 : mc_lawcd 1080 = some (.pop, 1) := by decide +kernel
theorem cL_1081 : mc_lawcd 1081 = some (.aload_n 2, 1) := by decide +kernel
theorem cL_1082 : mc_lawcd 1082 = some (.aload_n 0, 1) := by decide +kernel
theorem cL_1083 : mc_lawcd 1083 = some (.iload 4, 2) := by decide +kernel
theorem cL_1085 : mc_lawcd 1085 = some (.iconst 1, 1) := by decide +kernel
theorem cL_1086 : mc_lawcd 1086 = some (.iadd, 1) := by decide +kernel
theorem cL_1087 : mc_lawcd 1087 = some (.iaload, 1) := by decide +kernel
theorem cL_1088 : mc_lawcd 1088 = some (.aload_n 0, 1) := by decide +kernel
theorem cL_1089 : mc_lawcd 1089 = some (.iload 4, 2) := by decide +kernel
theorem cL_1091 : mc_lawcd 1091 = some (.iconst 2, 1) := by decide +kernel
theorem cL_1092 : mc_lawcd 1092 = some (.iadd, 1) := by decide +kernel
theorem cL_1093 : mc_lawcd 1093 = some (.iaload, 1) := by decide +kernel
theorem cL_1094 : mc_lawcd 1094 = some (.ifCond .eq 7, 3) := by decide +kernel
theorem cL_1097 : mc_lawcd 1097 = some (.iconst 1, 1) := by decide +kernel
theorem cL_1098 : mc_lawcd 1098 = some (.goto 4, 3) := by decide +kernel
theorem cL_1101 : mc_lawcd 1101 = some (.iconst 0, 1) := by decide +kernel
theorem cL_1102 : mc_lawcd 1102 = some (.invokevirtual 142, 3) := by decide +kernel
theorem cL_1105 : mc_lawcd 1105 = some (.pop, 1) := by decide +kernel
theorem cL_1106 : mc_lawcd 1106 = some (.goto 547, 3) := by decide +kernel
theorem cL_1109 : mc_lawcd 1109 = some (.aload_n 1, 1) := by decide +kernel
theorem cL_1110 : mc_lawcd 1110 = some (.aload_n 0, 1) := by decide +kernel
theorem cL_1111 : mc_lawcd 1111 = some (.iload 4, 2) := by decide +kernel
theorem cL_1113 : mc_lawcd 1113 = some (.iconst 1, 1) := by decide +kernel
theorem cL_1114 : mc_lawcd 1114 = some (.iadd, 1) := by decide +kernel
theorem cL_1115 : mc_lawcd 1115 = some (.iaload, 1) := by decide +kernel
theorem cL_1116 : mc_lawcd 1116 = some (.aload_n 0, 1) := by decide +kernel
theorem cL_1117 : mc_lawcd 1117 = some (.iload 4, 2) := by decide +kernel
theorem cL_1119 : mc_lawcd 1119 = some (.iconst 2, 1) := by decide +kernel
theorem cL_1120 : mc_lawcd 1120 = some (.iadd, 1) := by decide +kernel
theorem cL_1121 : mc_lawcd 1121 = some (.iaload, 1) := by decide +kernel
theorem cL_1122 : mc_lawcd 1122 = some (.ifCond .eq 7, 3) := by decide +kernel
theorem cL_1125 : mc_lawcd 1125 = some (.iconst 1, 1) := by decide +kernel
theorem cL_1126 : mc_lawcd 1126 = some (.goto 4, 3) := by decide +kernel
theorem cL_1129 : mc_lawcd 1129 = some (.iconst 0, 1) := by decide +kernel
theorem cL_1130 : mc_lawcd 1130 = some (.invokevirtual 143, 3) := by decide +kernel
theorem cL_1133 : mc_lawcd 1133 = some (.pop, 1) := by decide +kernel
theorem cL_1134 : mc_lawcd 1134 = some (.aload_n 2, 1) := by decide +kernel
theorem cL_1135 : mc_lawcd 1135 = some (.aload_n 0, 1) := by decide +kernel
theorem cL_1136 : mc_lawcd 1136 = some (.iload 4, 2) := by decide +kernel
theorem cL_1138 : mc_lawcd 1138 = some (.iconst 1, 1) := by decide +kernel
theorem cL_1139 : mc_lawcd 1139 = some (.iadd, 1) := by decide +kernel
theorem cL_1140 : mc_lawcd 1140 = some (.iaload, 1) := by decide +kernel
theorem cL_1141 : mc_lawcd 1141 = some (.aload_n 0, 1) := by decide +kernel
theorem cL_1142 : mc_lawcd 1142 = some (.iload 4, 2) := by decide +kernel
theorem cL_1144 : mc_lawcd 1144 = some (.iconst 2, 1) := by decide +kernel
theorem cL_1145 : mc_lawcd 1145 = some (.iadd, 1) := by decide +kernel
theorem cL_1146 : mc_lawcd 1146 = some (.iaload, 1) := by decide +kernel
theorem cL_1147 : mc_lawcd 1147 = some (.ifCond .eq 7, 3) := by decide +kernel
theorem cL_1150 : mc_lawcd 1150 = some (.iconst 1, 1) := by decide +kernel
theorem cL_1151 : mc_lawcd 1151 = some (.goto 4, 3) := by decide +kernel
theorem cL_1154 : mc_lawcd 1154 = some (.iconst 0, 1) := by decide +kernel
theorem cL_1155 : mc_lawcd 1155 = some (.invokevirtual 146, 3) := by decide +kernel
theorem cL_1158 : mc_lawcd 1158 = some (.pop, 1) := by decide +kernel
theorem cL_1159 : mc_lawcd 1159 = some (.goto 494, 3) := by decide +kernel
theorem cL_1162 : mc_lawcd 1162 = some (.aload_n 1, 1) := by decide +kernel
theorem cL_1163 : mc_lawcd 1163 = some (.invokevirtual 147, 3) := by decide +kernel
theorem cL_1166 : mc_lawcd 1166 = some (.pop, 1) := by decide +kernel
theorem cL_1167 : mc_lawcd 1167 = some (.aload_n 2, 1) := by decide +kernel
theorem cL_1168 : mc_lawcd 1168 = some (.invokevirtual 150, 3) := by decide +kernel
theorem cL_1171 : mc_lawcd 1171 = some (.pop, 1) := by decide +kernel
theorem cL_1172 : mc_lawcd 1172 = some (.goto 481, 3) := by decide +kernel
theorem cL_1175 : mc_lawcd 1175 = some (.aload_n 1, 1) := by decide +kernel
theorem cL_1176 : mc_lawcd 1176 = some (.aload_n 0, 1) := by decide +kernel
theorem cL_1177 : mc_lawcd 1177 = some (.iload 4, 2) := by decide +kernel
theorem cL_1179 : mc_lawcd 1179 = some (.iconst 1, 1) := by decide +kernel
theorem cL_1180 : mc_lawcd 1180 = some (.iadd, 1) := by decide +kernel
theorem cL_1181 : mc_lawcd 1181 = some (.iaload, 1) := by decide +kernel
theorem cL_1182 : mc_lawcd 1182 = some (.invokevirtual 151, 3) := by decide +kernel
theorem cL_1185 : mc_lawcd 1185 = some (.pop, 1) := by decide +kernel
theorem cL_1186 : mc_lawcd 1186 = some (.aload_n 2, 1) := by decide +kernel
theorem cL_1187 : mc_lawcd 1187 = some (.aload_n 0, 1) := by decide +kernel
theorem cL_1188 : mc_lawcd 1188 = some (.iload 4, 2) := by decide +kernel
theorem cL_1190 : mc_lawcd 1190 = some (.iconst 1, 1) := by decide +kernel
theorem cL_1191 : mc_lawcd 1191 = some (.iadd, 1) := by decide +kernel
theorem cL_1192 : mc_lawcd 1192 = some (.iaload, 1) := by decide +kernel
theorem cL_1193 : mc_lawcd 1193 = some (.invokevirtual 154, 3) := by decide +kernel
theorem cL_1196 : mc_lawcd 1196 = some (.pop, 1) := by decide +kernel
theorem cL_1197 : mc_lawcd 1197 = some (.goto 456, 3) := by decide +kernel
theorem cL_1200 : mc_lawcd 1200 = some (.aload_n 1, 1) := by decide +kernel
theorem cL_1201 : mc_lawcd 1201 = some (.aload_n 0, 1) := by decide +kernel
theorem cL_1202 : mc_lawcd 1202 = some (.iload 4, 2) := by decide +kernel
theorem cL_1204 : mc_lawcd 1204 = some (.iconst 1, 1) := by decide +kernel
theorem cL_1205 : mc_lawcd 1205 = some (.iadd, 1) := by decide +kernel
theorem cL_1206 : mc_lawcd 1206 = some (.iaload, 1) := by decide +kernel
theorem cL_1207 : mc_lawcd 1207 = some (.invokevirtual 155, 3) := by decide +kernel
theorem cL_1210 : mc_lawcd 1210 = some (.pop, 1) := by decide +kernel
theorem cL_1211 : mc_lawcd 1211 = some (.aload_n 2, 1) := by decide +kernel
theorem cL_1212 : mc_lawcd 1212 = some (.aload_n 0, 1) := by decide +kernel
theorem cL_1213 : mc_lawcd 1213 = some (.iload 4, 2) := by decide +kernel
theorem cL_1215 : mc_lawcd 1215 = some (.iconst 1, 1) := by decide +kernel
theorem cL_1216 : mc_lawcd 1216 = some (.iadd, 1) := by decide +kernel
theorem cL_1217 : mc_lawcd 1217 = some (.iaload, 1) := by decide +kernel
theorem cL_1218 : mc_lawcd 1218 = some (.invokevirtual 158, 3) := by decide +kernel
theorem cL_1221 : mc_lawcd 1221 = some (.pop, 1) := by decide +kernel
theorem cL_1222 : mc_lawcd 1222 = some (.goto 431, 3) := by decide +kernel
theorem cL_1225 : mc_lawcd 1225 = some (.aload_n 1, 1) := by decide +kernel
theorem cL_1226 : mc_lawcd 1226 = some (.aload_n 0, 1) := by decide +kernel
theorem cL_1227 : mc_lawcd 1227 = some (.iload 4, 2) := by decide +kernel
theorem cL_1229 : mc_lawcd 1229 = some (.iconst 1, 1) := by decide +kernel
theorem cL_1230 : mc_lawcd 1230 = some (.iadd, 1) := by decide +kernel
theorem cL_1231 : mc_lawcd 1231 = some (.iaload, 1) := by decide +kernel
theorem cL_1232 : mc_lawcd 1232 = some (.invokevirtual 159, 3) := by decide +kernel
theorem cL_1235 : mc_lawcd 1235 = some (.pop, 1) := by decide +kernel
theorem cL_1236 : mc_lawcd 1236 = some (.aload_n 2, 1) := by decide +kernel
theorem cL_1237 : mc_lawcd 1237 = some (.aload_n 0, 1) := by decide +kernel
theorem cL_1238 : mc_lawcd 1238 = some (.iload 4, 2) := by decide +kernel
theorem cL_1240 : mc_lawcd 1240 = some (.iconst 1, 1) := by decide +kernel
theorem cL_1241 : mc_lawcd 1241 = some (.iadd, 1) := by decide +kernel
theorem cL_1242 : mc_lawcd 1242 = some (.iaload, 1) := by decide +kernel
theorem cL_1243 : mc_lawcd 1243 = some (.invokevirtual 162, 3) := by decide +kernel
theorem cL_1246 : mc_lawcd 1246 = some (.pop, 1) := by decide +kernel
theorem cL_1247 : mc_lawcd 1247 = some (.goto 406, 3) := by decide +kernel
theorem cL_1250 : mc_lawcd 1250 = some (.aload_n 1, 1) := by decide +kernel
theorem cL_1251 : mc_lawcd 1251 = some (.invokevirtual 163, 3) := by decide +kernel
theorem cL_1254 : mc_lawcd 1254 = some (.pop, 1) := by decide +kernel
theorem cL_1255 : mc_lawcd 1255 = some (.aload_n 2, 1) := by decide +kernel
theorem cL_1256 : mc_lawcd 1256 = some (.invokevirtual 166, 3) := by decide +kernel
theorem cL_1259 : mc_lawcd 1259 = some (.pop, 1) := by decide +kernel
theorem cL_1260 : mc_lawcd 1260 = some (.goto 393, 3) := by decide +kernel
theorem cL_1263 : mc_lawcd 1263 = some (.aload_n 1, 1) := by decide +kernel
theorem cL_1264 : mc_lawcd 1264 = some (.aload_n 0, 1) := by decide +kernel
theorem cL_1265 : mc_lawcd 1265 = some (.iload 4, 2) := by decide +kernel
theorem cL_1267 : mc_lawcd 1267 = some (.iconst 1, 1) := by decide +kernel
theorem cL_1268 : mc_lawcd 1268 = some (.iadd, 1) := by decide +kernel
theorem cL_1269 : mc_lawcd 1269 = some (.iaload, 1) := by decide +kernel
theorem cL_1270 : mc_lawcd 1270 = some (.aload_n 0, 1) := by decide +kernel
theorem cL_1271 : mc_lawcd 1271 = some (.iload 4, 2) := by decide +kernel
theorem cL_1273 : mc_lawcd 1273 = some (.iconst 2, 1) := by decide +kernel
theorem cL_1274 : mc_lawcd 1274 = some (.iadd, 1) := by decide +kernel
theorem cL_1275 : mc_lawcd 1275 = some (.iaload, 1) := by decide +kernel
theorem cL_1276 : mc_lawcd 1276 = some (.ifCond .eq 7, 3) := by decide +kernel
theorem cL_1279 : mc_lawcd 1279 = some (.iconst 1, 1) := by decide +kernel
theorem cL_1280 : mc_lawcd 1280 = some (.goto 4, 3) := by decide +kernel
theorem cL_1283 : mc_lawcd 1283 = some (.iconst 0, 1) := by decide +kernel
theorem cL_1284 : mc_lawcd 1284 = some (.invokevirtual 167, 3) := by decide +kernel
theorem cL_1287 : mc_lawcd 1287 = some (.pop, 1) := by decide +kernel
theorem cL_1288 : mc_lawcd 1288 = some (.aload_n 2, 1) := by decide +kernel
theorem cL_1289 : mc_lawcd 1289 = some (.aload_n 0, 1) := by decide +kernel
theorem cL_1290 : mc_lawcd 1290 = some (.iload 4, 2) := by decide +kernel
theorem cL_1292 : mc_lawcd 1292 = some (.iconst 1, 1) := by decide +kernel
theorem cL_1293 : mc_lawcd 1293 = some (.iadd, 1) := by decide +kernel
theorem cL_1294 : mc_lawcd 1294 = some (.iaload, 1) := by decide +kernel
theorem cL_1295 : mc_lawcd 1295 = some (.aload_n 0, 1) := by decide +kernel
theorem cL_1296 : mc_lawcd 1296 = some (.iload 4, 2) := by decide +kernel
theorem cL_1298 : mc_lawcd 1298 = some (.iconst 2, 1) := by decide +kernel
theorem cL_1299 : mc_lawcd 1299 = some (.iadd, 1) := by decide +kernel
theorem cL_1300 : mc_lawcd 1300 = some (.iaload, 1) := by decide +kernel
theorem cL_1301 : mc_lawcd 1301 = some (.ifCond .eq 7, 3) := by decide +kernel
theorem cL_1304 : mc_lawcd 1304 = some (.iconst 1, 1) := by decide +kernel
theorem cL_1305 : mc_lawcd 1305 = some (.goto 4, 3) := by decide +kernel
theorem cL_1308 : mc_lawcd 1308 = some (.iconst 0, 1) := by decide +kernel
theorem cL_1309 : mc_lawcd 1309 = some (.invokevirtual 170, 3) := by decide +kernel
theorem cL_1312 : mc_lawcd 1312 = some (.pop, 1) := by decide +kernel
theorem cL_1313 : mc_lawcd 1313 = some (.goto 340, 3) := by decide +kernel
theorem cL_1316 : mc_lawcd 1316 = some (.aload_n 1, 1) := by decide +kernel
theorem cL_1317 : mc_lawcd 1317 = some (.invokevirtual 171, 3) := by decide +kernel
theorem cL_1320 : mc_lawcd 1320 = some (.pop, 1) := by decide +kernel
theorem cL_1321 : mc_lawcd 1321 = some (.aload_n 2, 1) := by decide +kernel
theorem cL_1322 : mc_lawcd 1322 = some (.invokevirtual 174, 3) := by decide +kernel
theorem cL_1325 : mc_lawcd 1325 = some (.pop, 1) := by decide +kernel
theorem cL_1326 : mc_lawcd 1326 = some (.goto 327, 3) := by decide +kernel
theorem cL_1329 : mc_lawcd 1329 = some (.aload_n 1, 1) := by decide +kernel
theorem cL_1330 : mc_lawcd 1330 = some (.invokevirtual 175, 3) := by decide +kernel
theorem cL_1333 : mc_lawcd 1333 = some (.pop, 1) := by decide +kernel
theorem cL_1334 : mc_lawcd 1334 = some (.aload_n 2, 1) := by decide +kernel
theorem cL_1335 : mc_lawcd 1335 = some (.invokevirtual 178, 3) := by decide +kernel
theorem cL_1338 : mc_lawcd 1338 = some (.pop, 1) := by decide +kernel
theorem cL_1339 : mc_lawcd 1339 = some (.goto 314, 3) := by decide +kernel
theorem cL_1342 : mc_lawcd 1342 = some (.aload_n 1, 1) := by decide +kernel
theorem cL_1343 : mc_lawcd 1343 = some (.aload_n 0, 1) := by decide +kernel
theorem cL_1344 : mc_lawcd 1344 = some (.iload 4, 2) := by decide +kernel
theorem cL_1346 : mc_lawcd 1346 = some (.iconst 1, 1) := by decide +kernel
theorem cL_1347 : mc_lawcd 1347 = some (.iadd, 1) := by decide +kernel
theorem cL_1348 : mc_lawcd 1348 = some (.iaload, 1) := by decide +kernel
theorem cL_1349 : mc_lawcd 1349 = some (.invokevirtual 179, 3) := by decide +kernel
theorem cL_1352 : mc_lawcd 1352 = some (.pop, 1) := by decide +kernel
theorem cL_1353 : mc_lawcd 1353 = some (.aload_n 2, 1) := by decide +kernel
theorem cL_1354 : mc_lawcd 1354 = some (.aload_n 0, 1) := by decide +kernel
theorem cL_1355 : mc_lawcd 1355 = some (.iload 4, 2) := by decide +kernel
theorem cL_1357 : mc_lawcd 1357 = some (.iconst 1, 1) := by decide +kernel
theorem cL_1358 : mc_lawcd 1358 = some (.iadd, 1) := by decide +kernel
theorem cL_1359 : mc_lawcd 1359 = some (.iaload, 1) := by decide +kernel
theorem cL_1360 : mc_lawcd 1360 = some (.invokevirtual 182, 3) := by decide +kernel
theorem cL_1363 : mc_lawcd 1363 = some (.pop, 1) := by decide +kernel
theorem cL_1364 : mc_lawcd 1364 = some (.goto 289, 3) := by decide +kernel
theorem cL_1367 : mc_lawcd 1367 = some (.aload_n 1, 1) := by decide +kernel
theorem cL_1368 : mc_lawcd 1368 = some (.aload_n 0, 1) := by decide +kernel
theorem cL_1369 : mc_lawcd 1369 = some (.iload 4, 2) := by decide +kernel
theorem cL_1371 : mc_lawcd 1371 = some (.iconst 1, 1) := by decide +kernel
theorem cL_1372 : mc_lawcd 1372 = some (.iadd, 1) := by decide +kernel
theorem cL_1373 : mc_lawcd 1373 = some (.iaload, 1) := by decide +kernel
theorem cL_1374 : mc_lawcd 1374 = some (.aload_n 0, 1) := by decide +kernel
theorem cL_1375 : mc_lawcd 1375 = some (.iload 4, 2) := by decide +kernel
theorem cL_1377 : mc_lawcd 1377 = some (.iconst 2, 1) := by decide +kernel
theorem cL_1378 : mc_lawcd 1378 = some (.iadd, 1) := by decide +kernel
theorem cL_1379 : mc_lawcd 1379 = some (.iaload, 1) := by decide +kernel
theorem cL_1380 : mc_lawcd 1380 = some (.invokevirtual 183, 3) := by decide +kernel
theorem cL_1383 : mc_lawcd 1383 = some (.pop, 1) := by decide +kernel
theorem cL_1384 : mc_lawcd 1384 = some (.aload_n 2, 1) := by decide +kernel
theorem cL_1385 : mc_lawcd 1385 = some (.aload_n 0, 1) := by decide +kernel
theorem cL_1386 : mc_lawcd 1386 = some (.iload 4, 2) := by decide +kernel
theorem cL_1388 : mc_lawcd 1388 = some (.iconst 1, 1) := by decide +kernel
theorem cL_1389 : mc_lawcd 1389 = some (.iadd, 1) := by decide +kernel
theorem cL_1390 : mc_lawcd 1390 = some (.iaload, 1) := by decide +kernel
theorem cL_1391 : mc_lawcd 1391 = some (.aload_n 0, 1) := by decide +kernel
theorem cL_1392 : mc_lawcd 1392 = some (.iload 4, 2) := by decide +kernel
theorem cL_1394 : mc_lawcd 1394 = some (.iconst 2, 1) := by decide +kernel
theorem cL_1395 : mc_lawcd 1395 = some (.iadd, 1) := by decide +kernel
theorem cL_1396 : mc_lawcd 1396 = some (.iaload, 1) := by decide +kernel
theorem cL_1397 : mc_lawcd 1397 = some (.invokevirtual 186, 3) := by decide +kernel
theorem cL_1400 : mc_lawcd 1400 = some (.pop, 1) := by decide +kernel
theorem cL_1401 : mc_lawcd 1401 = some (.goto 252, 3) := by decide +kernel
theorem cL_1404 : mc_lawcd 1404 = some (.aload_n 1, 1) := by decide +kernel
theorem cL_1405 : mc_lawcd 1405 = some (.aload_n 0, 1) := by decide +kernel
theorem cL_1406 : mc_lawcd 1406 = some (.iload 4, 2) := by decide +kernel
theorem cL_1408 : mc_lawcd 1408 = some (.iconst 1, 1) := by decide +kernel
theorem cL_1409 : mc_lawcd 1409 = some (.iadd, 1) := by decide +kernel
theorem cL_1410 : mc_lawcd 1410 = some (.iaload, 1) := by decide +kernel
theorem cL_1411 : mc_lawcd 1411 = some (.invokevirtual 187, 3) := by decide +kernel
theorem cL_1414 : mc_lawcd 1414 = some (.pop, 1) := by decide +kernel
theorem cL_1415 : mc_lawcd 1415 = some (.aload_n 2, 1) := by decide +kernel
theorem cL_1416 : mc_lawcd 1416 = some (.aload_n 0, 1) := by decide +kernel
theorem cL_1417 : mc_lawcd 1417 = some (.iload 4, 2) := by decide +kernel
theorem cL_1419 : mc_lawcd 1419 = some (.iconst 1, 1) := by decide +kernel
theorem cL_1420 : mc_lawcd 1420 = some (.iadd, 1) := by decide +kernel
theorem cL_1421 : mc_lawcd 1421 = some (.iaload, 1) := by decide +kernel
theorem cL_1422 : mc_lawcd 1422 = some (.invokevirtual 191, 3) := by decide +kernel
theorem cL_1425 : mc_lawcd 1425 = some (.pop, 1) := by decide +kernel
theorem cL_1426 : mc_lawcd 1426 = some (.goto 227, 3) := by decide +kernel
theorem cL_1429 : mc_lawcd 1429 = some (.aload_n 1, 1) := by decide +kernel
theorem cL_1430 : mc_lawcd 1430 = some (.aload_n 0, 1) := by decide +kernel
theorem cL_1431 : mc_lawcd 1431 = some (.iload 4, 2) := by decide +kernel
theorem cL_1433 : mc_lawcd 1433 = some (.iconst 1, 1) := by decide +kernel
theorem cL_1434 : mc_lawcd 1434 = some (.iadd, 1) := by decide +kernel
theorem cL_1435 : mc_lawcd 1435 = some (.iaload, 1) := by decide +kernel
theorem cL_1436 : mc_lawcd 1436 = some (.invokevirtual 192, 3) := by decide +kernel
theorem cL_1439 : mc_lawcd 1439 = some (.pop, 1) := by decide +kernel
theorem cL_1440 : mc_lawcd 1440 = some (.aload_n 2, 1) := by decide +kernel
theorem cL_1441 : mc_lawcd 1441 = some (.aload_n 0, 1) := by decide +kernel
theorem cL_1442 : mc_lawcd 1442 = some (.iload 4, 2) := by decide +kernel
theorem cL_1444 : mc_lawcd 1444 = some (.iconst 1, 1) := by decide +kernel
theorem cL_1445 : mc_lawcd 1445 = some (.iadd, 1) := by decide +kernel
theorem cL_1446 : mc_lawcd 1446 = some (.iaload, 1) := by decide +kernel
theorem cL_1447 : mc_lawcd 1447 = some (.invokevirtual 195, 3) := by decide +kernel
theorem cL_1450 : mc_lawcd 1450 = some (.pop, 1) := by decide +kernel
theorem cL_1451 : mc_lawcd 1451 = some (.goto 202, 3) := by decide +kernel
theorem cL_1454 : mc_lawcd 1454 = some (.aload_n 1, 1) := by decide +kernel
theorem cL_1455 : mc_lawcd 1455 = some (.invokevirtual 196, 3) := by decide +kernel
theorem cL_1458 : mc_lawcd 1458 = some (.pop, 1) := by decide +kernel
theorem cL_1459 : mc_lawcd 1459 = some (.aload_n 2, 1) := by decide +kernel
theorem cL_1460 : mc_lawcd 1460 = some (.invokevirtual 199, 3) := by decide +kernel
theorem cL_1463 : mc_lawcd 1463 = some (.pop, 1) := by decide +kernel
theorem cL_1464 : mc_lawcd 1464 = some (.goto 189, 3) := by decide +kernel
theorem cL_1467 : mc_lawcd 1467 = some (.aload_n 1, 1) := by decide +kernel
theorem cL_1468 : mc_lawcd 1468 = some (.aload_n 0, 1) := by decide +kernel
theorem cL_1469 : mc_lawcd 1469 = some (.iload 4, 2) := by decide +kernel
theorem cL_1471 : mc_lawcd 1471 = some (.iconst 1, 1) := by decide +kernel
theorem cL_1472 : mc_lawcd 1472 = some (.iadd, 1) := by decide +kernel
theorem cL_1473 : mc_lawcd 1473 = some (.iaload, 1) := by decide +kernel
theorem cL_1474 : mc_lawcd 1474 = some (.aload_n 0, 1) := by decide +kernel
theorem cL_1475 : mc_lawcd 1475 = some (.iload 4, 2) := by decide +kernel
theorem cL_1477 : mc_lawcd 1477 = some (.iconst 2, 1) := by decide +kernel
theorem cL_1478 : mc_lawcd 1478 = some (.iadd, 1) := by decide +kernel
theorem cL_1479 : mc_lawcd 1479 = some (.iaload, 1) := by decide +kernel
theorem cL_1480 : mc_lawcd 1480 = some (.invokevirtual 200, 3) := by decide +kernel
theorem cL_1483 : mc_lawcd 1483 = some (.pop, 1) := by decide +kernel
theorem cL_1484 : mc_lawcd 1484 = some (.aload_n 2, 1) := by decide +kernel
theorem cL_1485 : mc_lawcd 1485 = some (.aload_n 0, 1) := by decide +kernel
theorem cL_1486 : mc_lawcd 1486 = some (.iload 4, 2) := by decide +kernel
theorem cL_1488 : mc_lawcd 1488 = some (.iconst 1, 1) := by decide +kernel
theorem cL_1489 : mc_lawcd 1489 = some (.iadd, 1) := by decide +kernel
theorem cL_1490 : mc_lawcd 1490 = some (.iaload, 1) := by decide +kernel
theorem cL_1491 : mc_lawcd 1491 = some (.aload_n 0, 1) := by decide +kernel
theorem cL_1492 : mc_lawcd 1492 = some (.iload 4, 2) := by decide +kernel
theorem cL_1494 : mc_lawcd 1494 = some (.iconst 2, 1) := by decide +kernel
theorem cL_1495 : mc_lawcd 1495 = some (.iadd, 1) := by decide +kernel
theorem cL_1496 : mc_lawcd 1496 = some (.iaload, 1) := by decide +kernel
theorem cL_1497 : mc_lawcd 1497 = some (.invokevirtual 203, 3) := by decide +kernel
theorem cL_1500 : mc_lawcd 1500 = some (.pop, 1) := by decide +kernel
theorem cL_1501 : mc_lawcd 1501 = some (.goto 152, 3) := by decide +kernel
theorem cL_1504 : mc_lawcd 1504 = some (.aload_n 1, 1) := by decide +kernel
theorem cL_1505 : mc_lawcd 1505 = some (.invokevirtual 204, 3) := by decide +kernel
theorem cL_1508 : mc_lawcd 1508 = some (.aload_n 2, 1) := by decide +kernel
theorem cL_1509 : mc_lawcd 1509 = some (.invokevirtual 208, 3) := by decide +kernel
theorem cL_1512 : mc_lawcd 1512 = some (.if_icmp .eq 141, 3) := by decide +kernel
theorem cL_1515 : mc_lawcd 1515 = some (.iconst 0, 1) := by decide +kernel
theorem cL_1517 : mc_lawcd 1517 = some (.aload_n 1, 1) := by decide +kernel
theorem cL_1518 : mc_lawcd 1518 = some (.invokevirtual 209, 3) := by decide +kernel
theorem cL_1521 : mc_lawcd 1521 = some (.pop2, 1) := by decide +kernel
theorem cL_1522 : mc_lawcd 1522 = some (.aload_n 2, 1) := by decide +kernel
theorem cL_1523 : mc_lawcd 1523 = some (.invokevirtual 212, 3) := by decide +kernel
theorem cL_1526 : mc_lawcd 1526 = some (.pop2, 1) := by decide +kernel
theorem cL_1527 : mc_lawcd 1527 = some (.goto 126, 3) := by decide +kernel
theorem cL_1530 : mc_lawcd 1530 = some (.aload_n 1, 1) := by decide +kernel
theorem cL_1531 : mc_lawcd 1531 = some (.aload_n 0, 1) := by decide +kernel
theorem cL_1532 : mc_lawcd 1532 = some (.iload 4, 2) := by decide +kernel
theorem cL_1534 : mc_lawcd 1534 = some (.iconst 1, 1) := by decide +kernel
theorem cL_1535 : mc_lawcd 1535 = some (.iadd, 1) := by decide +kernel
theorem cL_1536 : mc_lawcd 1536 = some (.iaload, 1) := by decide +kernel
theorem cL_1537 : mc_lawcd 1537 = some (.i2l, 1) := by decide +kernel
theorem cL_1538 : mc_lawcd 1538 = some (.bipush 32, 2) := by decide +kernel
theorem cL_1540 : mc_lawcd 1540 = some (.lshl, 1) := by decide +kernel
theorem cL_1541 : mc_lawcd 1541 = some (.aload_n 0, 1) := by decide +kernel
theorem cL_1542 : mc_lawcd 1542 = some (.iload 4, 2) := by decide +kernel
theorem cL_1544 : mc_lawcd 1544 = some (.iconst 2, 1) := by decide +kernel
theorem cL_1545 : mc_lawcd 1545 = some (.iadd, 1) := by decide +kernel
theorem cL_1546 : mc_lawcd 1546 = some (.iaload, 1) := by decide +kernel
theorem cL_1547 : mc_lawcd 1547 = some (.i2l, 1) := by decide +kernel
theorem cL_1548 : mc_lawcd 1548 = some (.ldc2_w 213, 3) := by decide +kernel
theorem cL_1551 : mc_lawcd 1551 = some (.land, 1) := by decide +kernel
theorem cL_1552 : mc_lawcd 1552 = some (.lor, 1) := by decide +kernel
theorem cL_1553 : mc_lawcd 1553 = some (.invokevirtual 215, 3) := by decide +kernel
theorem cL_1556 : mc_lawcd 1556 = some (.pop, 1) := by decide +kernel
theorem cL_1557 : mc_lawcd 1557 = some (.aload_n 2, 1) := by decide +kernel
theorem cL_1558 : mc_lawcd 1558 = some (.aload_n 0, 1) := by decide +kernel
theorem cL_1559 : mc_lawcd 1559 = some (.iload 4, 2) := by decide +kernel
theorem cL_1561 : mc_lawcd 1561 = some (.iconst 1, 1) := by decide +kernel
theorem cL_1562 : mc_lawcd 1562 = some (.iadd, 1) := by decide +kernel
theorem cL_1563 : mc_lawcd 1563 = some (.iaload, 1) := by decide +kernel
theorem cL_1564 : mc_lawcd 1564 = some (.i2l, 1) := by decide +kernel
theorem cL_1565 : mc_lawcd 1565 = some (.bipush 32, 2) := by decide +kernel
theorem cL_1567 : mc_lawcd 1567 = some (.lshl, 1) := by decide +kernel
theorem cL_1568 : mc_lawcd 1568 = some (.aload_n 0, 1) := by decide +kernel
theorem cL_1569 : mc_lawcd 1569 = some (.iload 4, 2) := by decide +kernel
theorem cL_1571 : mc_lawcd 1571 = some (.iconst 2, 1) := by decide +kernel
theorem cL_1572 : mc_lawcd 1572 = some (.iadd, 1) := by decide +kernel
theorem cL_1573 : mc_lawcd 1573 = some (.iaload, 1) := by decide +kernel
theorem cL_1574 : mc_lawcd 1574 = some (.i2l, 1) := by decide +kernel
theorem cL_1575 : mc_lawcd 1575 = some (.ldc2_w 213, 3) := by decide +kernel
theorem cL_1578 : mc_lawcd 1578 = some (.land, 1) := by decide +kernel
theorem cL_1579 : mc_lawcd 1579 = some (.lor, 1) := by decide +kernel
theorem cL_1580 : mc_lawcd 1580 = some (.invokevirtual 219, 3) := by decide +kernel
theorem cL_1583 : mc_lawcd 1583 = some (.pop, 1) := by decide +kernel
theorem cL_1584 : mc_lawcd 1584 = some (.goto 69, 3) := by decide +kernel
theorem cL_1587 : mc_lawcd 1587 = some (.aload_n 1, 1) := by decide +kernel
theorem cL_1588 : mc_lawcd 1588 = some (.aload_n 0, 1) := by decide +kernel
theorem cL_1589 : mc_lawcd 1589 = some (.iload 4, 2) := by decide +kernel
theorem cL_1591 : mc_lawcd 1591 = some (.iconst 1, 1) := by decide +kernel
theorem cL_1592 : mc_lawcd 1592 = some (.iadd, 1) := by decide +kernel
theorem cL_1593 : mc_lawcd 1593 = some (.iaload, 1) := by decide +kernel
theorem cL_1594 : mc_lawcd 1594 = some (.aload_n 3, 1) := by decide +kernel
theorem cL_1598 : mc_lawcd 1598 = some (.istore 5, 2) := by decide +kernel
theorem cL_1600 : mc_lawcd 1600 = some (.aload_n 2, 1) := by decide +kernel
theorem cL_1601 : mc_lawcd 1601 = some (.aload_n 0, 1) := by decide +kernel
theorem cL_1602 : mc_lawcd 1602 = some (.iload 4, 2) := by decide +kernel
theorem cL_1604 : mc_lawcd 1604 = some (.iconst 1, 1) := by decide +kernel
theorem cL_1605 : mc_lawcd 1605 = some (.iadd, 1) := by decide +kernel
theorem cL_1606 : mc_lawcd 1606 = some (.iaload, 1) := by decide +kernel
theorem cL_1607 : mc_lawcd 1607 = some (.invokevirtual 225, 3) := by decide +kernel
theorem cL_1610 : mc_lawcd 1610 = some (.istore 6, 2) := by decide +kernel
theorem cL_1612 : mc_lawcd 1612 = some (.goto 41, 3) := by decide +kernel
theorem cL_1615 : mc_lawcd 1615 = some (.aload_n 1, 1) := by decide +kernel
theorem cL_1616 : mc_lawcd 1616 = some (.aload_n 0, 1) := by decide +kernel
theorem cL_1617 : mc_lawcd 1617 = some (.iload 4, 2) := by decide +kernel
theorem cL_1619 : mc_lawcd 1619 = some (.iconst 1, 1) := by decide +kernel
theorem cL_1620 : mc_lawcd 1620 = some (.iadd, 1) := by decide +kernel
theorem cL_1621 : mc_lawcd 1621 = some (.iaload, 1) := by decide +kernel
theorem cL_1622 : mc_lawcd 1622 = some (.invokevirtual 226, 3) := by decide +kernel
theorem cL_1625 : mc_lawcd 1625 = some (.pop, 1) := by decide +kernel
theorem cL_1626 : mc_lawcd 1626 = some (.aload_n 2, 1) := by decide +kernel
theorem cL_1627 : mc_lawcd 1627 = some (.aload_n 0, 1) := by decide +kernel
theorem cL_1628 : mc_lawcd 1628 = some (.iload 4, 2) := by decide +kernel
theorem cL_1630 : mc_lawcd 1630 = some (.iconst 1, 1) := by decide +kernel
theorem cL_1631 : mc_lawcd 1631 = some (.iadd, 1) := by decide +kernel
theorem cL_1632 : mc_lawcd 1632 = some (.iaload, 1) := by decide +kernel
theorem cL_1633 : mc_lawcd 1633 = some (.invokevirtual 229, 3) := by decide +kernel
theorem cL_1636 : mc_lawcd 1636 = some (.pop, 1) := by decide +kernel
theorem cL_1637 : mc_lawcd 1637 = some (.goto 16, 3) := by decide +kernel
theorem cL_1640 : mc_lawcd 1640 = some (.aload_n 1, 1) := by decide +kernel
theorem cL_1641 : mc_lawcd 1641 = some (.invokevirtual 230, 3) := by decide +kernel
theorem cL_1644 : mc_lawcd 1644 = some (.pop, 1) := by decide +kernel
theorem cL_1645 : mc_lawcd 1645 = some (.aload_n 2, 1) := by decide +kernel
theorem cL_1646 : mc_lawcd 1646 = some (.invokevirtual 233, 3) := by decide +kernel
theorem cL_1649 : mc_lawcd 1649 = some (.pop, 1) := by decide +kernel
theorem cL_1650 : mc_lawcd 1650 = some (.goto 3, 3) := by decide +kernel
theorem cL_1653 : mc_lawcd 1653 = some (.iinc 4 6, 3) := by decide +kernel
theorem cL_1656 : mc_lawcd 1656 = some (.goto (-1633), 3) := by decide +kernel
theorem cL_1659 : mc_lawcd 1659 = some (.iconst 1, 1) := by decide +kernel
theorem cL_1660 : mc_lawcd 1660 = some (.ireturn, 1) := by decide +kernel
set_option maxHeartbeats 4000000 in
theorem wl_c0 {kt : Nat → Option mc_E} {CB SB : Nat} {X : mc_S → Prop} {T : wq_T} {H : wq_H} {Len x m o : Nat} {i : Int} (hX : wlX kt CB SB X) (hb : T.2.1 ≤ CB ∧ T.2.2.1 ≤ SB) (hI : wlJ Len x m o T H) (hL : Len ≤ 3072) (hi : 0 ≤ i ∧ i + 6 ≤ Len) (hb2 : T.2.1 + 20 ≤ CB ∧ T.2.2.1 + 500 ≤ SB)  (next : ∀ T' H', wlJ Len x m o T' H' → T'.2.1 ≤ T.2.1 + 20 → T'.2.2.1 ≤ T.2.2.1 + 500 → WL kt CB SB X 1653 (wlL i x m o) [] T' H') : WL kt CB SB X 256 (wlL i x m o) [] T H := by
  obtain ⟨⟨hW, g0, gx, gm, go, hK, hr⟩, hXI, hY1, hY2⟩ := hI
  refine wl_of hX hb cL_256 (rw_aload_n (pc' := 257) (v := .ref x) rfl rfl rfl ?_)
  refine wl_of hX hb cL_257 (rw_aload_n (pc' := 258) (v := .ref 0) rfl rfl rfl ?_)
  refine wl_of hX hb cL_258 (rw_iload (pc' := 260) (z := i) rfl rfl ?_)
  refine wl_of hX hb cL_260 (rw_iconst (pc' := 261) rfl ?_)
  refine wl_of hX hb cL_261 (rw_iadd (pc' := 262) rfl ?_)
  refine wl_of hX hb cL_262 (xa_I (so := 0) (pc' := 263) (a := 0) hW g0 (wsh_s _) (by omega) (wty_s _ _) (by omega) (by omega) rfl (fun b1093 b1094 => ?_))
  refine wl_of hX hb cL_263 (rw_aload_n (pc' := 264) (v := .ref 0) rfl rfl rfl ?_)
  refine wl_of hX hb cL_264 (rw_iload (pc' := 266) (z := i) rfl rfl ?_)
  refine wl_of hX hb cL_266 (rw_iconst (pc' := 267) rfl ?_)
  refine wl_of hX hb cL_267 (rw_iadd (pc' := 268) rfl ?_)
  refine wl_of hX hb cL_268 (xa_I (so := 0) (pc' := 269) (a := 0) hW g0 (wsh_s _) (by omega) (wty_s _ _) (by omega) (by omega) rfl (fun b1095 b1096 => ?_))
  refine wl_of hX hb cL_269 (rw_aload_n (pc' := 270) (v := .ref 0) rfl rfl rfl ?_)
  refine wl_of hX hb cL_270 (rw_iload (pc' := 272) (z := i) rfl rfl ?_)
  refine wl_of hX hb cL_272 (rw_iconst (pc' := 273) rfl ?_)
  refine wl_of hX hb cL_273 (rw_iadd (pc' := 274) rfl ?_)
  refine wl_of hX hb cL_274 (xa_I (so := 0) (pc' := 275) (a := 0) hW g0 (wsh_s _) (by omega) (wty_s _ _) (by omega) (by omega) rfl (fun b1097 b1098 => ?_))
  refine wl_of hX hb cL_275 (rw_aload_n (pc' := 276) (v := .ref 0) rfl rfl rfl ?_)
  refine wl_of hX hb cL_276 (rw_iload (pc' := 278) (z := i) rfl rfl ?_)
  refine wl_of hX hb cL_278 (rw_iconst (pc' := 279) rfl ?_)
  refine wl_of hX hb cL_279 (rw_iadd (pc' := 280) rfl ?_)
  refine wl_of hX hb cL_280 (xa_I (so := 0) (pc' := 281) (a := 0) hW g0 (wsh_s _) (by omega) (wty_s _ _) (by omega) (by omega) rfl (fun b1099 b1100 => ?_))
  refine wl_of hX hb cL_281 (rw_aload_n (pc' := 282) (v := .ref 0) rfl rfl rfl ?_)
  refine wl_of hX hb cL_282 (rw_iload (pc' := 284) (z := i) rfl rfl ?_)
  refine wl_of hX hb cL_284 (rw_iconst (pc' := 285) rfl ?_)
  refine wl_of hX hb cL_285 (rw_iadd (pc' := 286) rfl ?_)
  refine wl_of hX hb cL_286 (xa_I (so := 0) (pc' := 287) (a := 0) hW g0 (wsh_s _) (by omega) (wty_s _ _) (by omega) (by omega) rfl (fun b1101 b1102 => ?_))
  obtain ⟨B, tc, tm, cu, dr, e0, gtc, htc, em, gtm, htm, ecu, gcu, edr, gdr, hcu, hdr, -⟩ := hXI
  obtain ⟨t9, ht9⟩ : ∃ t : Int, t = H x 9 := ⟨_, rfl⟩
  obtain ⟨y9, hy9⟩ : ∃ y : Int, y = H 0 ((i + 5).toNat) := ⟨_, rfl⟩
  obtain ⟨d1, hd1⟩ : ∃ y : Int, y = H 0 ((i + 1).toNat) := ⟨_, rfl⟩
  obtain ⟨d2, hd2⟩ : ∃ y : Int, y = H 0 ((i + 2).toNat) := ⟨_, rfl⟩
  obtain ⟨d3, hd3⟩ : ∃ y : Int, y = H 0 ((i + 3).toNat) := ⟨_, rfl⟩
  obtain ⟨d4, hd4⟩ : ∃ y : Int, y = H 0 ((i + 4).toNat) := ⟨_, rfl⟩
  obtain ⟨d5, hd5⟩ : ∃ y : Int, y = H 0 ((i + 5).toNat) := ⟨_, rfl⟩
  refine wl_of hX hb cL_287 (xc_V (pc' := 290) (r := x) (as := [vI (H 0 ((i + 1).toNat)), vI (H 0 ((i + 2).toNat)), vI (H 0 ((i + 3).toNat)), vI (H 0 ((i + 4).toNat)), vI (H 0 ((i + 5).toNat))]) (st := []) (lm_11_19) rfl rfl (Nat.le_of_ble_eq_true rfl) hW gx sh_1 (by decide) rfl (by decide) (u_9 (B := B) (t := t9) (b1 := d1) (b2 := d2) (b3 := d3) (b4 := d4) (b5 := d5) hW gx ⟨by omega, by omega⟩ ⟨by omega, by omega⟩ ⟨by omega, by omega⟩ ⟨by omega, by omega⟩ ⟨by omega, by omega⟩ e0 gtc (by omega) (by omega) (by omega) (by omega) (by omega) (by omega) htc) (fun R1103 T1104 H1105 p1106 => ?_))
  obtain ⟨e1107, w1109, f1110, z1111, e1108, b1112, p1113⟩ := p1106
  subst e1107
  subst e1108
  rcases p1113 with ⟨a1114, a1115, a1116, a1117⟩ | ⟨a1118, a1119, a1120, a1121, a1122⟩
  · show WL _ _ _ _ 290 [(4, vI i), (3, .ref o), (2, .ref m), (1, .ref x), (0, .ref 0)] [vI z1111] _ H1105
    refine wl_of hX hb cL_290 (rw_pop (pc' := 291) rfl rfl ?_)
    refine wl_of hX hb cL_291 (rw_aload_n (pc' := 292) (v := .ref m) rfl rfl rfl ?_)
    refine wl_of hX hb cL_292 (rw_aload_n (pc' := 293) (v := .ref 0) rfl rfl rfl ?_)
    refine wl_of hX hb cL_293 (rw_iload (pc' := 295) (z := i) rfl rfl ?_)
    refine wl_of hX hb cL_295 (rw_iconst (pc' := 296) rfl ?_)
    refine wl_of hX hb cL_296 (rw_iadd (pc' := 297) rfl ?_)
    have k1125 : H1105 0 ((i + 1).toNat) = H 0 ((i + 1).toNat) := (f1110 0 ((i + 1).toNat) _ g0 (wmem_s rfl))
    refine wl_of hX hb cL_297 (xa_I (so := 0) (pc' := 298) (a := 0) w1109 g0 (wsh_s _) (by omega) (wty_s _ _) (by omega) (by omega) rfl (fun b1123 b1124 => ?_))
    refine wl_of hX hb cL_298 (rw_aload_n (pc' := 299) (v := .ref 0) rfl rfl rfl ?_)
    refine wl_of hX hb cL_299 (rw_iload (pc' := 301) (z := i) rfl rfl ?_)
    refine wl_of hX hb cL_301 (rw_iconst (pc' := 302) rfl ?_)
    refine wl_of hX hb cL_302 (rw_iadd (pc' := 303) rfl ?_)
    have k1128 : H1105 0 ((i + 2).toNat) = H 0 ((i + 2).toNat) := (f1110 0 ((i + 2).toNat) _ g0 (wmem_s rfl))
    refine wl_of hX hb cL_303 (xa_I (so := 0) (pc' := 304) (a := 0) w1109 g0 (wsh_s _) (by omega) (wty_s _ _) (by omega) (by omega) rfl (fun b1126 b1127 => ?_))
    refine wl_of hX hb cL_304 (rw_aload_n (pc' := 305) (v := .ref 0) rfl rfl rfl ?_)
    refine wl_of hX hb cL_305 (rw_iload (pc' := 307) (z := i) rfl rfl ?_)
    refine wl_of hX hb cL_307 (rw_iconst (pc' := 308) rfl ?_)
    refine wl_of hX hb cL_308 (rw_iadd (pc' := 309) rfl ?_)
    have k1131 : H1105 0 ((i + 3).toNat) = H 0 ((i + 3).toNat) := (f1110 0 ((i + 3).toNat) _ g0 (wmem_s rfl))
    refine wl_of hX hb cL_309 (xa_I (so := 0) (pc' := 310) (a := 0) w1109 g0 (wsh_s _) (by omega) (wty_s _ _) (by omega) (by omega) rfl (fun b1129 b1130 => ?_))
    refine wl_of hX hb cL_310 (rw_aload_n (pc' := 311) (v := .ref 0) rfl rfl rfl ?_)
    refine wl_of hX hb cL_311 (rw_iload (pc' := 313) (z := i) rfl rfl ?_)
    refine wl_of hX hb cL_313 (rw_iconst (pc' := 314) rfl ?_)
    refine wl_of hX hb cL_314 (rw_iadd (pc' := 315) rfl ?_)
    have k1134 : H1105 0 ((i + 4).toNat) = H 0 ((i + 4).toNat) := (f1110 0 ((i + 4).toNat) _ g0 (wmem_s rfl))
    refine wl_of hX hb cL_315 (xa_I (so := 0) (pc' := 316) (a := 0) w1109 g0 (wsh_s _) (by omega) (wty_s _ _) (by omega) (by omega) rfl (fun b1132 b1133 => ?_))
    refine wl_of hX hb cL_316 (rw_aload_n (pc' := 317) (v := .ref 0) rfl rfl rfl ?_)
    refine wl_of hX hb cL_317 (rw_iload (pc' := 319) (z := i) rfl rfl ?_)
    refine wl_of hX hb cL_319 (rw_iconst (pc' := 320) rfl ?_)
    refine wl_of hX hb cL_320 (rw_iadd (pc' := 321) rfl ?_)
    have k1137 : H1105 0 ((i + 5).toNat) = H 0 ((i + 5).toNat) := (f1110 0 ((i + 5).toNat) _ g0 (wmem_s rfl))
    refine wl_of hX hb cL_321 (xa_I (so := 0) (pc' := 322) (a := 0) w1109 g0 (wsh_s _) (by omega) (wty_s _ _) (by omega) (by omega) rfl (fun b1135 b1136 => ?_))
    have k1138 : wKI H1105 m = wKI H m := (wKI_fr hW gm f1110 rfl)
    have k1139 : H1105 m 6 = H m 6 := (f1110 m 6 _ gm rfl)
    have k1140 : H1105 x 11 = H x 11 := (f1110 x 11 _ gx rfl)
    have k1141 : H1105 m 13 = H m 13 := (f1110 m 13 _ gm rfl)
    have k1142 : H1105 x 8 = H x 8 := (f1110 x 8 _ gx rfl)
    have k1143 : H1105 m 3 = H m 3 := (f1110 m 3 _ gm rfl)
    have k1144 : H1105 m 5 = H m 5 := (f1110 m 5 _ gm rfl)
    have q1145 : H1105 m 5 = (tm : Int) := k1144.trans em
    have h1146 : TM T H1105 tm B := (TM_fr hW gtm f1110 rfl htm)
    refine wl_of hX hb cL_322 (xc_V (pc' := 325) (r := m) (as := [vI (H1105 0 ((i + 1).toNat)), vI (H1105 0 ((i + 2).toNat)), vI (H1105 0 ((i + 3).toNat)), vI (H1105 0 ((i + 4).toNat)), vI (H1105 0 ((i + 5).toNat))]) (st := []) (lm_11_23) rfl rfl (Nat.le_of_ble_eq_true rfl) w1109 gm sh_42 (by decide) rfl (by decide) (u_168 (B := B) (t := t9) (b1 := d1) (b2 := d2) (b3 := d3) (b4 := d4) (b5 := d5) w1109 gm ⟨by omega, by omega⟩ ⟨by omega, by omega⟩ ⟨by omega, by omega⟩ ⟨by omega, by omega⟩ ⟨by omega, by omega⟩ q1145 gtm (by omega) (by omega) (by omega) (by omega) (by omega) (by omega) h1146) (fun R1147 T1148 H1149 p1150 => ?_))
    obtain ⟨e1151, w1153, f1154, z1155, e1152, b1156, p1157⟩ := p1150
    subst e1151
    subst e1152
    rcases p1157 with ⟨a1158, a1159, a1160, a1161⟩ | ⟨a1162, a1163, a1164, a1165, a1166⟩
    · show WL _ _ _ _ 325 [(4, vI i), (3, .ref o), (2, .ref m), (1, .ref x), (0, .ref 0)] [vI z1155] _ H1149
      refine wl_of hX hb cL_325 (rw_pop (pc' := 326) rfl rfl ?_)
      refine wl_of hX hb cL_326 (rw_goto (p1 := 1653) (by decide) ?_)
      have k1167 : wKI H1149 m = wKI H1105 m := (wKI_fr w1109 gm f1154 rfl)
      have k1168 : H1149 x 9 = H1105 x 9 := (f1154 x 9 _ gx rfl)
      have k1169 : H1149 x 11 = H1105 x 11 := (f1154 x 11 _ gx rfl)
      have k1170 : H1149 m 13 = H1105 m 13 := (f1154 m 13 _ gm rfl)
      have k1171 : H1149 x 8 = H1105 x 8 := (f1154 x 8 _ gx rfl)
      have k1172 : H1149 m 3 = H1105 m 3 := (f1154 m 3 _ gm rfl)
      have k1173 : H1149 x 0 = H x 0 := ((f1154 x 0 _ gx rfl).trans (f1110 x 0 _ gx rfl))
      have q1174 : H1149 x 0 = (tc : Int) := k1173.trans e0
      have k1175 : H1149 m 5 = H1105 m 5 := (f1154 m 5 _ gm rfl)
      have q1176 : H1149 m 5 = (tm : Int) := k1175.trans q1145
      have k1177 : H1149 x 6 = H x 6 := ((f1154 x 6 _ gx rfl).trans (f1110 x 6 _ gx rfl))
      have q1178 : H1149 x 6 = (cu : Int) := k1177.trans ecu
      have k1179 : H1149 x 7 = H x 7 := ((f1154 x 7 _ gx rfl).trans (f1110 x 7 _ gx rfl))
      have q1180 : H1149 x 7 = (dr : Int) := k1179.trans edr
      have h1181 : TP T H1149 tc B := (TP_fr w1109 gtc f1154 rfl a1117)
      have h1182 : DD T H1149 cu  := (DD_fr w1109 gcu f1154 rfl (DD_fr hW gcu f1110 rfl hcu))
      have h1183 : DD T H1149 dr  := (DD_fr w1109 gdr f1154 rfl (DD_fr hW gdr f1110 rfl hdr))
      exact WL.loc hX (by simp) (next T H1149 ⟨⟨w1153, g0, gx, gm, go, by omega, by omega⟩, ⟨_, tc, tm, cu, dr, q1174, gtc, h1181, q1176, gtm, a1161, q1178, gcu, q1180, gdr, h1182, h1183, gm⟩, by omega, by omega⟩ (by omega) (by omega))
    · show WL _ _ _ _ 325 [(4, vI i), (3, .ref o), (2, .ref m), (1, .ref x), (0, .ref 0)] [vI z1155] _ H1149
      refine wl_of hX hb cL_325 (rw_pop (pc' := 326) rfl rfl ?_)
      refine wl_of hX hb cL_326 (rw_goto (p1 := 1653) (by decide) ?_)
      have k1184 : wKI H1149 m = wKI H1105 m := (wKI_fr w1109 gm f1154 rfl)
      have k1185 : H1149 x 9 = H1105 x 9 := (f1154 x 9 _ gx rfl)
      have k1186 : H1149 x 11 = H1105 x 11 := (f1154 x 11 _ gx rfl)
      have k1187 : H1149 m 13 = H1105 m 13 := (f1154 m 13 _ gm rfl)
      have k1188 : H1149 x 8 = H1105 x 8 := (f1154 x 8 _ gx rfl)
      have k1189 : H1149 m 3 = H1105 m 3 := (f1154 m 3 _ gm rfl)
      have k1190 : H1149 x 0 = H x 0 := ((f1154 x 0 _ gx rfl).trans (f1110 x 0 _ gx rfl))
      have q1191 : H1149 x 0 = (tc : Int) := k1190.trans e0
      have k1192 : H1149 m 5 = H1105 m 5 := (f1154 m 5 _ gm rfl)
      have q1193 : H1149 m 5 = (tm : Int) := k1192.trans q1145
      have k1194 : H1149 x 6 = H x 6 := ((f1154 x 6 _ gx rfl).trans (f1110 x 6 _ gx rfl))
      have q1195 : H1149 x 6 = (cu : Int) := k1194.trans ecu
      have k1196 : H1149 x 7 = H x 7 := ((f1154 x 7 _ gx rfl).trans (f1110 x 7 _ gx rfl))
      have q1197 : H1149 x 7 = (dr : Int) := k1196.trans edr
      have h1198 : TP T H1149 tc B := (TP_fr w1109 gtc f1154 rfl a1117)
      have h1199 : DD T H1149 cu  := (DD_fr w1109 gcu f1154 rfl (DD_fr hW gcu f1110 rfl hcu))
      have h1200 : DD T H1149 dr  := (DD_fr w1109 gdr f1154 rfl (DD_fr hW gdr f1110 rfl hdr))
      exfalso
      omega
  · show WL _ _ _ _ 290 [(4, vI i), (3, .ref o), (2, .ref m), (1, .ref x), (0, .ref 0)] [vI z1111] _ H1105
    refine wl_of hX hb cL_290 (rw_pop (pc' := 291) rfl rfl ?_)
    refine wl_of hX hb cL_291 (rw_aload_n (pc' := 292) (v := .ref m) rfl rfl rfl ?_)
    refine wl_of hX hb cL_292 (rw_aload_n (pc' := 293) (v := .ref 0) rfl rfl rfl ?_)
    refine wl_of hX hb cL_293 (rw_iload (pc' := 295) (z := i) rfl rfl ?_)
    refine wl_of hX hb cL_295 (rw_iconst (pc' := 296) rfl ?_)
    refine wl_of hX hb cL_296 (rw_iadd (pc' := 297) rfl ?_)
    have k1203 : H1105 0 ((i + 1).toNat) = H 0 ((i + 1).toNat) := (f1110 0 ((i + 1).toNat) _ g0 (wmem_s rfl))
    refine wl_of hX hb cL_297 (xa_I (so := 0) (pc' := 298) (a := 0) w1109 g0 (wsh_s _) (by omega) (wty_s _ _) (by omega) (by omega) rfl (fun b1201 b1202 => ?_))
    refine wl_of hX hb cL_298 (rw_aload_n (pc' := 299) (v := .ref 0) rfl rfl rfl ?_)
    refine wl_of hX hb cL_299 (rw_iload (pc' := 301) (z := i) rfl rfl ?_)
    refine wl_of hX hb cL_301 (rw_iconst (pc' := 302) rfl ?_)
    refine wl_of hX hb cL_302 (rw_iadd (pc' := 303) rfl ?_)
    have k1206 : H1105 0 ((i + 2).toNat) = H 0 ((i + 2).toNat) := (f1110 0 ((i + 2).toNat) _ g0 (wmem_s rfl))
    refine wl_of hX hb cL_303 (xa_I (so := 0) (pc' := 304) (a := 0) w1109 g0 (wsh_s _) (by omega) (wty_s _ _) (by omega) (by omega) rfl (fun b1204 b1205 => ?_))
    refine wl_of hX hb cL_304 (rw_aload_n (pc' := 305) (v := .ref 0) rfl rfl rfl ?_)
    refine wl_of hX hb cL_305 (rw_iload (pc' := 307) (z := i) rfl rfl ?_)
    refine wl_of hX hb cL_307 (rw_iconst (pc' := 308) rfl ?_)
    refine wl_of hX hb cL_308 (rw_iadd (pc' := 309) rfl ?_)
    have k1209 : H1105 0 ((i + 3).toNat) = H 0 ((i + 3).toNat) := (f1110 0 ((i + 3).toNat) _ g0 (wmem_s rfl))
    refine wl_of hX hb cL_309 (xa_I (so := 0) (pc' := 310) (a := 0) w1109 g0 (wsh_s _) (by omega) (wty_s _ _) (by omega) (by omega) rfl (fun b1207 b1208 => ?_))
    refine wl_of hX hb cL_310 (rw_aload_n (pc' := 311) (v := .ref 0) rfl rfl rfl ?_)
    refine wl_of hX hb cL_311 (rw_iload (pc' := 313) (z := i) rfl rfl ?_)
    refine wl_of hX hb cL_313 (rw_iconst (pc' := 314) rfl ?_)
    refine wl_of hX hb cL_314 (rw_iadd (pc' := 315) rfl ?_)
    have k1212 : H1105 0 ((i + 4).toNat) = H 0 ((i + 4).toNat) := (f1110 0 ((i + 4).toNat) _ g0 (wmem_s rfl))
    refine wl_of hX hb cL_315 (xa_I (so := 0) (pc' := 316) (a := 0) w1109 g0 (wsh_s _) (by omega) (wty_s _ _) (by omega) (by omega) rfl (fun b1210 b1211 => ?_))
    refine wl_of hX hb cL_316 (rw_aload_n (pc' := 317) (v := .ref 0) rfl rfl rfl ?_)
    refine wl_of hX hb cL_317 (rw_iload (pc' := 319) (z := i) rfl rfl ?_)
    refine wl_of hX hb cL_319 (rw_iconst (pc' := 320) rfl ?_)
    refine wl_of hX hb cL_320 (rw_iadd (pc' := 321) rfl ?_)
    have k1215 : H1105 0 ((i + 5).toNat) = H 0 ((i + 5).toNat) := (f1110 0 ((i + 5).toNat) _ g0 (wmem_s rfl))
    refine wl_of hX hb cL_321 (xa_I (so := 0) (pc' := 322) (a := 0) w1109 g0 (wsh_s _) (by omega) (wty_s _ _) (by omega) (by omega) rfl (fun b1213 b1214 => ?_))
    have k1216 : wKI H1105 m = wKI H m := (wKI_fr hW gm f1110 rfl)
    have k1217 : H1105 m 6 = H m 6 := (f1110 m 6 _ gm rfl)
    have k1218 : H1105 x 11 = H x 11 := (f1110 x 11 _ gx rfl)
    have k1219 : H1105 m 13 = H m 13 := (f1110 m 13 _ gm rfl)
    have k1220 : H1105 x 8 = H x 8 := (f1110 x 8 _ gx rfl)
    have k1221 : H1105 m 3 = H m 3 := (f1110 m 3 _ gm rfl)
    have k1222 : H1105 m 5 = H m 5 := (f1110 m 5 _ gm rfl)
    have q1223 : H1105 m 5 = (tm : Int) := k1222.trans em
    have h1224 : TM T H1105 tm B := (TM_fr hW gtm f1110 rfl htm)
    refine wl_of hX hb cL_322 (xc_V (pc' := 325) (r := m) (as := [vI (H1105 0 ((i + 1).toNat)), vI (H1105 0 ((i + 2).toNat)), vI (H1105 0 ((i + 3).toNat)), vI (H1105 0 ((i + 4).toNat)), vI (H1105 0 ((i + 5).toNat))]) (st := []) (lm_11_23) rfl rfl (Nat.le_of_ble_eq_true rfl) w1109 gm sh_42 (by decide) rfl (by decide) (u_168 (B := B) (t := t9) (b1 := d1) (b2 := d2) (b3 := d3) (b4 := d4) (b5 := d5) w1109 gm ⟨by omega, by omega⟩ ⟨by omega, by omega⟩ ⟨by omega, by omega⟩ ⟨by omega, by omega⟩ ⟨by omega, by omega⟩ q1223 gtm (by omega) (by omega) (by omega) (by omega) (by omega) (by omega) h1224) (fun R1225 T1226 H1227 p1228 => ?_))
    obtain ⟨e1229, w1231, f1232, z1233, e1230, b1234, p1235⟩ := p1228
    subst e1229
    subst e1230
    rcases p1235 with ⟨a1236, a1237, a1238, a1239⟩ | ⟨a1240, a1241, a1242, a1243, a1244⟩
    · show WL _ _ _ _ 325 [(4, vI i), (3, .ref o), (2, .ref m), (1, .ref x), (0, .ref 0)] [vI z1233] _ H1227
      refine wl_of hX hb cL_325 (rw_pop (pc' := 326) rfl rfl ?_)
      refine wl_of hX hb cL_326 (rw_goto (p1 := 1653) (by decide) ?_)
      have k1245 : wKI H1227 m = wKI H1105 m := (wKI_fr w1109 gm f1232 rfl)
      have k1246 : H1227 x 9 = H1105 x 9 := (f1232 x 9 _ gx rfl)
      have k1247 : H1227 x 11 = H1105 x 11 := (f1232 x 11 _ gx rfl)
      have k1248 : H1227 m 13 = H1105 m 13 := (f1232 m 13 _ gm rfl)
      have k1249 : H1227 x 8 = H1105 x 8 := (f1232 x 8 _ gx rfl)
      have k1250 : H1227 m 3 = H1105 m 3 := (f1232 m 3 _ gm rfl)
      have k1251 : H1227 x 0 = H x 0 := ((f1232 x 0 _ gx rfl).trans (f1110 x 0 _ gx rfl))
      have q1252 : H1227 x 0 = (tc : Int) := k1251.trans e0
      have k1253 : H1227 m 5 = H1105 m 5 := (f1232 m 5 _ gm rfl)
      have q1254 : H1227 m 5 = (tm : Int) := k1253.trans q1223
      have k1255 : H1227 x 6 = H x 6 := ((f1232 x 6 _ gx rfl).trans (f1110 x 6 _ gx rfl))
      have q1256 : H1227 x 6 = (cu : Int) := k1255.trans ecu
      have k1257 : H1227 x 7 = H x 7 := ((f1232 x 7 _ gx rfl).trans (f1110 x 7 _ gx rfl))
      have q1258 : H1227 x 7 = (dr : Int) := k1257.trans edr
      have h1259 : TP T H1227 tc (xfk B t9 d1 d2 d3 d4 d5 20) := (TP_fr w1109 gtc f1232 rfl a1122)
      have h1260 : DD T H1227 cu  := (DD_fr w1109 gcu f1232 rfl (DD_fr hW gcu f1110 rfl hcu))
      have h1261 : DD T H1227 dr  := (DD_fr w1109 gdr f1232 rfl (DD_fr hW gdr f1110 rfl hdr))
      exfalso
      omega
    · show WL _ _ _ _ 325 [(4, vI i), (3, .ref o), (2, .ref m), (1, .ref x), (0, .ref 0)] [vI z1233] _ H1227
      refine wl_of hX hb cL_325 (rw_pop (pc' := 326) rfl rfl ?_)
      refine wl_of hX hb cL_326 (rw_goto (p1 := 1653) (by decide) ?_)
      have k1262 : wKI H1227 m = wKI H1105 m := (wKI_fr w1109 gm f1232 rfl)
      have k1263 : H1227 x 9 = H1105 x 9 := (f1232 x 9 _ gx rfl)
      have k1264 : H1227 x 11 = H1105 x 11 := (f1232 x 11 _ gx rfl)
      have k1265 : H1227 m 13 = H1105 m 13 := (f1232 m 13 _ gm rfl)
      have k1266 : H1227 x 8 = H1105 x 8 := (f1232 x 8 _ gx rfl)
      have k1267 : H1227 m 3 = H1105 m 3 := (f1232 m 3 _ gm rfl)
      have k1268 : H1227 x 0 = H x 0 := ((f1232 x 0 _ gx rfl).trans (f1110 x 0 _ gx rfl))
      have q1269 : H1227 x 0 = (tc : Int) := k1268.trans e0
      have k1270 : H1227 m 5 = H1105 m 5 := (f1232 m 5 _ gm rfl)
      have q1271 : H1227 m 5 = (tm : Int) := k1270.trans q1223
      have k1272 : H1227 x 6 = H x 6 := ((f1232 x 6 _ gx rfl).trans (f1110 x 6 _ gx rfl))
      have q1273 : H1227 x 6 = (cu : Int) := k1272.trans ecu
      have k1274 : H1227 x 7 = H x 7 := ((f1232 x 7 _ gx rfl).trans (f1110 x 7 _ gx rfl))
      have q1275 : H1227 x 7 = (dr : Int) := k1274.trans edr
      have h1276 : TP T H1227 tc (xfk B t9 d1 d2 d3 d4 d5 20) := (TP_fr w1109 gtc f1232 rfl a1122)
      have h1277 : DD T H1227 cu  := (DD_fr w1109 gcu f1232 rfl (DD_fr hW gcu f1110 rfl hcu))
      have h1278 : DD T H1227 dr  := (DD_fr w1109 gdr f1232 rfl (DD_fr hW gdr f1110 rfl hdr))
      exact WL.loc hX (by simp) (next T H1227 ⟨⟨w1231, g0, gx, gm, go, by omega, by omega⟩, ⟨_, tc, tm, cu, dr, q1269, gtc, h1276, q1271, gtm, a1244, q1273, gcu, q1275, gdr, h1277, h1278, gm⟩, by omega, by omega⟩ (by omega) (by omega))
set_option maxHeartbeats 4000000 in
theorem wl_c1 {kt : Nat → Option mc_E} {CB SB : Nat} {X : mc_S → Prop} {T : wq_T} {H : wq_H} {Len x m o : Nat} {i : Int} (hX : wlX kt CB SB X) (hb : T.2.1 ≤ CB ∧ T.2.2.1 ≤ SB) (hI : wlJ Len x m o T H) (hL : Len ≤ 3072) (hi : 0 ≤ i ∧ i + 6 ≤ Len) (hb2 : T.2.1 + 20 ≤ CB ∧ T.2.2.1 + 500 ≤ SB)  (next : ∀ T' H', wlJ Len x m o T' H' → T'.2.1 ≤ T.2.1 + 20 → T'.2.2.1 ≤ T.2.2.1 + 500 → WL kt CB SB X 1653 (wlL i x m o) [] T' H') : WL kt CB SB X 329 (wlL i x m o) [] T H := by
  obtain ⟨⟨hW, g0, gx, gm, go, hK, hr⟩, hXI, hY1, hY2⟩ := hI
  refine wl_of hX hb cL_329 (rw_aload_n (pc' := 330) (v := .ref x) rfl rfl rfl ?_)
  refine wl_of hX hb cL_330 (rw_aload_n (pc' := 331) (v := .ref 0) rfl rfl rfl ?_)
  refine wl_of hX hb cL_331 (rw_iload (pc' := 333) (z := i) rfl rfl ?_)
  refine wl_of hX hb cL_333 (rw_iconst (pc' := 334) rfl ?_)
  refine wl_of hX hb cL_334 (rw_iadd (pc' := 335) rfl ?_)
  refine wl_of hX hb cL_335 (xa_I (so := 0) (pc' := 336) (a := 0) hW g0 (wsh_s _) (by omega) (wty_s _ _) (by omega) (by omega) rfl (fun b1279 b1280 => ?_))
  obtain ⟨B, tc, tm, cu, dr, e0, gtc, htc, em, gtm, htm, ecu, gcu, edr, gdr, hcu, hdr, -⟩ := hXI
  obtain ⟨t9, ht9⟩ : ∃ t : Int, t = H x 9 := ⟨_, rfl⟩
  obtain ⟨y9, hy9⟩ : ∃ y : Int, y = H 0 ((i + 1).toNat) := ⟨_, rfl⟩
  obtain ⟨r1281, q1282, g1283⟩ := hW.ref gx (t' := 3) (n := 13) (j := 1) (p := 0) (q := 0) rfl (by decide) rfl
  refine wl_of hX hb cL_336 (xc_V (pc' := 339) (r := x) (as := [vI (H 0 ((i + 1).toNat))]) (st := []) (lm_11_24) rfl rfl (Nat.le_of_ble_eq_true rfl) hW gx sh_1 (by decide) rfl (by decide) (u_11 (B := B) (y := y9) hW gx ⟨by omega, by omega⟩ e0 gtc q1282 g1283 ecu gcu edr gdr (by omega) htc hdr) (fun R1284 T1285 H1286 p1287 => ?_))
  obtain ⟨e1288, w1290, f1291, z1292, e1289, b1293, p1294⟩ := p1287
  subst e1288
  subst e1289
  rcases p1294 with ⟨a1295, a1296, a1297, a1298, a1299, a1300, a1301, a1302⟩ | ⟨a1303, a1304, a1305, a1306, a1307, a1308, a1309, a1310, a1311, a1312⟩ | ⟨a1313, a1314, a1315, a1316, a1317, a1318, a1319, a1320, a1321, a1322⟩
  · show WL _ _ _ _ 339 [(4, vI i), (3, .ref o), (2, .ref m), (1, .ref x), (0, .ref 0)] [vI z1292] _ H1286
    refine wl_of hX hb cL_339 (rw_pop (pc' := 340) rfl rfl ?_)
    refine wl_of hX hb cL_340 (rw_aload_n (pc' := 341) (v := .ref m) rfl rfl rfl ?_)
    refine wl_of hX hb cL_341 (rw_aload_n (pc' := 342) (v := .ref 0) rfl rfl rfl ?_)
    refine wl_of hX hb cL_342 (rw_iload (pc' := 344) (z := i) rfl rfl ?_)
    refine wl_of hX hb cL_344 (rw_iconst (pc' := 345) rfl ?_)
    refine wl_of hX hb cL_345 (rw_iadd (pc' := 346) rfl ?_)
    have k1325 : H1286 0 ((i + 1).toNat) = H 0 ((i + 1).toNat) := (f1291 0 ((i + 1).toNat) _ g0 (wmem_s rfl))
    refine wl_of hX hb cL_346 (xa_I (so := 0) (pc' := 347) (a := 0) w1290 g0 (wsh_s _) (by omega) (wty_s _ _) (by omega) (by omega) rfl (fun b1323 b1324 => ?_))
    have k1326 : wKI H1286 m = wKI H m := (wKI_fr hW gm f1291 rfl)
    have k1327 : H1286 m 6 = H m 6 := (f1291 m 6 _ gm rfl)
    have k1328 : H1286 m 13 = H m 13 := (f1291 m 13 _ gm rfl)
    have k1329 : H1286 m 3 = H m 3 := (f1291 m 3 _ gm rfl)
    have k1330 : H1286 m 5 = H m 5 := (f1291 m 5 _ gm rfl)
    have q1331 : H1286 m 5 = (tm : Int) := k1330.trans em
    have h1332 : TM T H1286 tm B := (TM_fr hW gtm f1291 rfl htm)
    refine wl_of hX hb cL_347 (xc_V (pc' := 350) (r := m) (as := [vI (H1286 0 ((i + 1).toNat))]) (st := []) lm_11_27 rfl rfl (Nat.le_of_ble_eq_true rfl) w1290 gm sh_42 (by decide) rfl (by decide) (u_169 (B := B) (y := y9) w1290 gm ⟨by omega, by omega⟩ q1331 gtm (by omega) (by omega) h1332) (fun R9 T9 H9 p9 => ?_))
    obtain ⟨mT, nT, zT, w9, f9, z9, e9, b9, pa⟩ := p9
    subst e9
    have k1333 : H9 x 9 = H1286 x 9 := (f9 x 9 _ gx rfl)
    have k1334 : H9 x 11 = H1286 x 11 := (f9 x 11 _ gx rfl)
    have k1335 : H9 x 8 = H1286 x 8 := (f9 x 8 _ gx rfl)
    have k1336 : H9 x 0 = H x 0 := ((f9 x 0 _ gx rfl).trans (f1291 x 0 _ gx rfl))
    have q1337 : H9 x 0 = (tc : Int) := k1336.trans e0
    have k1338 : H9 m 5 = H1286 m 5 := (f9 m 5 _ gm rfl)
    have q1339 : H9 m 5 = (tm : Int) := k1338.trans q1331
    have k1340 : H9 x 6 = H1286 x 6 := (f9 x 6 _ gx rfl)
    have q1341 : H9 x 6 = (cu : Int) := k1340.trans a1299
    have k1342 : H9 x 7 = H1286 x 7 := (f9 x 7 _ gx rfl)
    have q1343 : H9 x 7 = (dr : Int) := k1342.trans a1300
    have h1344 : TP T H9 tc B := (TP_fr w1290 gtc f9 rfl (TP_fr hW gtc f1291 rfl htc))
    have h1345 : TM T H9 tm B := (TM_fr w1290 gtm f9 rfl h1332)
    have h1346 : DD T H9 cu  := (DD_fr w1290 gcu f9 rfl (DD_fr hW gcu f1291 rfl hcu))
    have h1347 : DD T H9 dr  := (DD_fr w1290 gdr f9 rfl (DD_fr hW gdr f1291 rfl hdr))
    have hb : T9.2.1 ≤ CB ∧ T9.2.2.1 ≤ SB := ⟨by omega, by omega⟩
    have hXI9 : XI T9 H9 x m := ⟨B, tc, tm, cu, dr, q1337, mT _ _ gtc, h1344, q1339, mT _ _ gtm, h1345, q1341, mT _ _ gcu, q1343, mT _ _ gdr, DD_mono mT h1346, DD_mono mT h1347, mT _ _ gm⟩
    have g0 := mT _ _ g0
    have gx := mT _ _ gx
    have gm := mT _ _ gm
    have go := mT _ _ go
    rcases pa with ⟨y0, y1, y2, y3, y4, y5, y6, y7⟩ | ⟨y0, y1, y2, y3, y4, y5, y6, y7, y8⟩ | ⟨y0, y1, y2, y3, y4, y5, y6, y7, y8, y9b⟩
    · show WL _ _ _ _ 350 [(4, vI i), (3, .ref o), (2, .ref m), (1, .ref x), (0, .ref 0)] [vI z9] _ H9
      refine wl_of hX hb cL_350 (rw_pop (pc' := 351) rfl rfl ?_)
      refine wl_of hX hb cL_351 (rw_goto (p1 := 1653) (by decide) ?_)
      exact WL.loc hX (by simp) (next T9 H9 ⟨⟨w9, g0, gx, gm, go, by omega, by omega⟩, hXI9, by omega, by omega⟩ (by omega) (by omega))
    · show WL _ _ _ _ 350 [(4, vI i), (3, .ref o), (2, .ref m), (1, .ref x), (0, .ref 0)] [vI z9] _ H9
      refine wl_of hX hb cL_350 (rw_pop (pc' := 351) rfl rfl ?_)
      refine wl_of hX hb cL_351 (rw_goto (p1 := 1653) (by decide) ?_)
      exact WL.loc hX (by simp) (next T9 H9 ⟨⟨w9, g0, gx, gm, go, by omega, by omega⟩, hXI9, by omega, by omega⟩ (by omega) (by omega))
    · show WL _ _ _ _ 350 [(4, vI i), (3, .ref o), (2, .ref m), (1, .ref x), (0, .ref 0)] [vI z9] _ H9
      refine wl_of hX hb cL_350 (rw_pop (pc' := 351) rfl rfl ?_)
      refine wl_of hX hb cL_351 (rw_goto (p1 := 1653) (by decide) ?_)
      exact WL.loc hX (by simp) (next T9 H9 ⟨⟨w9, g0, gx, gm, go, by omega, by omega⟩, hXI9, by omega, by omega⟩ (by omega) (by omega))
  · show WL _ _ _ _ 339 [(4, vI i), (3, .ref o), (2, .ref m), (1, .ref x), (0, .ref 0)] [vI z1292] _ H1286
    refine wl_of hX hb cL_339 (rw_pop (pc' := 340) rfl rfl ?_)
    refine wl_of hX hb cL_340 (rw_aload_n (pc' := 341) (v := .ref m) rfl rfl rfl ?_)
    refine wl_of hX hb cL_341 (rw_aload_n (pc' := 342) (v := .ref 0) rfl rfl rfl ?_)
    refine wl_of hX hb cL_342 (rw_iload (pc' := 344) (z := i) rfl rfl ?_)
    refine wl_of hX hb cL_344 (rw_iconst (pc' := 345) rfl ?_)
    refine wl_of hX hb cL_345 (rw_iadd (pc' := 346) rfl ?_)
    have k1350 : H1286 0 ((i + 1).toNat) = H 0 ((i + 1).toNat) := (f1291 0 ((i + 1).toNat) _ g0 (wmem_s rfl))
    refine wl_of hX hb cL_346 (xa_I (so := 0) (pc' := 347) (a := 0) w1290 g0 (wsh_s _) (by omega) (wty_s _ _) (by omega) (by omega) rfl (fun b1348 b1349 => ?_))
    have k1351 : wKI H1286 m = wKI H m := (wKI_fr hW gm f1291 rfl)
    have k1352 : H1286 m 6 = H m 6 := (f1291 m 6 _ gm rfl)
    have k1353 : H1286 m 13 = H m 13 := (f1291 m 13 _ gm rfl)
    have k1354 : H1286 m 3 = H m 3 := (f1291 m 3 _ gm rfl)
    have k1355 : H1286 m 5 = H m 5 := (f1291 m 5 _ gm rfl)
    have q1356 : H1286 m 5 = (tm : Int) := k1355.trans em
    have h1357 : TM T H1286 tm B := (TM_fr hW gtm f1291 rfl htm)
    refine wl_of hX hb cL_347 (xc_V (pc' := 350) (r := m) (as := [vI (H1286 0 ((i + 1).toNat))]) (st := []) lm_11_27 rfl rfl (Nat.le_of_ble_eq_true rfl) w1290 gm sh_42 (by decide) rfl (by decide) (u_169 (B := B) (y := y9) w1290 gm ⟨by omega, by omega⟩ q1356 gtm (by omega) (by omega) h1357) (fun R9 T9 H9 p9 => ?_))
    obtain ⟨mT, nT, zT, w9, f9, z9, e9, b9, pa⟩ := p9
    subst e9
    have k1358 : H9 x 9 = H1286 x 9 := (f9 x 9 _ gx rfl)
    have k1359 : H9 x 11 = H1286 x 11 := (f9 x 11 _ gx rfl)
    have k1360 : H9 x 8 = H1286 x 8 := (f9 x 8 _ gx rfl)
    have k1361 : H9 x 0 = H x 0 := ((f9 x 0 _ gx rfl).trans (f1291 x 0 _ gx rfl))
    have q1362 : H9 x 0 = (tc : Int) := k1361.trans e0
    have k1363 : H9 m 5 = H1286 m 5 := (f9 m 5 _ gm rfl)
    have q1364 : H9 m 5 = (tm : Int) := k1363.trans q1356
    have k1365 : H9 x 6 = H1286 x 6 := (f9 x 6 _ gx rfl)
    have q1366 : H9 x 6 = (cu : Int) := k1365.trans a1310
    have k1367 : H9 x 7 = H1286 x 7 := (f9 x 7 _ gx rfl)
    have q1368 : H9 x 7 = (dr : Int) := k1367.trans a1311
    have h1369 : TP T H9 tc B := (TP_fr w1290 gtc f9 rfl (TP_fr hW gtc f1291 rfl htc))
    have h1370 : TM T H9 tm B := (TM_fr w1290 gtm f9 rfl h1357)
    have h1371 : DD T H9 cu  := (DD_fr w1290 gcu f9 rfl (DD_fr hW gcu f1291 rfl hcu))
    have h1372 : DD T H9 dr  := (DD_fr w1290 gdr f9 rfl (DD_fr hW gdr f1291 rfl hdr))
    have hb : T9.2.1 ≤ CB ∧ T9.2.2.1 ≤ SB := ⟨by omega, by omega⟩
    have hXI9 : XI T9 H9 x m := ⟨B, tc, tm, cu, dr, q1362, mT _ _ gtc, h1369, q1364, mT _ _ gtm, h1370, q1366, mT _ _ gcu, q1368, mT _ _ gdr, DD_mono mT h1371, DD_mono mT h1372, mT _ _ gm⟩
    have g0 := mT _ _ g0
    have gx := mT _ _ gx
    have gm := mT _ _ gm
    have go := mT _ _ go
    rcases pa with ⟨y0, y1, y2, y3, y4, y5, y6, y7⟩ | ⟨y0, y1, y2, y3, y4, y5, y6, y7, y8⟩ | ⟨y0, y1, y2, y3, y4, y5, y6, y7, y8, y9b⟩
    · show WL _ _ _ _ 350 [(4, vI i), (3, .ref o), (2, .ref m), (1, .ref x), (0, .ref 0)] [vI z9] _ H9
      refine wl_of hX hb cL_350 (rw_pop (pc' := 351) rfl rfl ?_)
      refine wl_of hX hb cL_351 (rw_goto (p1 := 1653) (by decide) ?_)
      exact WL.loc hX (by simp) (next T9 H9 ⟨⟨w9, g0, gx, gm, go, by omega, by omega⟩, hXI9, by omega, by omega⟩ (by omega) (by omega))
    · show WL _ _ _ _ 350 [(4, vI i), (3, .ref o), (2, .ref m), (1, .ref x), (0, .ref 0)] [vI z9] _ H9
      refine wl_of hX hb cL_350 (rw_pop (pc' := 351) rfl rfl ?_)
      refine wl_of hX hb cL_351 (rw_goto (p1 := 1653) (by decide) ?_)
      exact WL.loc hX (by simp) (next T9 H9 ⟨⟨w9, g0, gx, gm, go, by omega, by omega⟩, hXI9, by omega, by omega⟩ (by omega) (by omega))
    · show WL _ _ _ _ 350 [(4, vI i), (3, .ref o), (2, .ref m), (1, .ref x), (0, .ref 0)] [vI z9] _ H9
      refine wl_of hX hb cL_350 (rw_pop (pc' := 351) rfl rfl ?_)
      refine wl_of hX hb cL_351 (rw_goto (p1 := 1653) (by decide) ?_)
      exact WL.loc hX (by simp) (next T9 H9 ⟨⟨w9, g0, gx, gm, go, by omega, by omega⟩, hXI9, by omega, by omega⟩ (by omega) (by omega))
  · show WL _ _ _ _ 339 [(4, vI i), (3, .ref o), (2, .ref m), (1, .ref x), (0, .ref 0)] [vI z1292] _ H1286
    refine wl_of hX hb cL_339 (rw_pop (pc' := 340) rfl rfl ?_)
    refine wl_of hX hb cL_340 (rw_aload_n (pc' := 341) (v := .ref m) rfl rfl rfl ?_)
    refine wl_of hX hb cL_341 (rw_aload_n (pc' := 342) (v := .ref 0) rfl rfl rfl ?_)
    refine wl_of hX hb cL_342 (rw_iload (pc' := 344) (z := i) rfl rfl ?_)
    refine wl_of hX hb cL_344 (rw_iconst (pc' := 345) rfl ?_)
    refine wl_of hX hb cL_345 (rw_iadd (pc' := 346) rfl ?_)
    have k1375 : H1286 0 ((i + 1).toNat) = H 0 ((i + 1).toNat) := (f1291 0 ((i + 1).toNat) _ g0 (wmem_s rfl))
    refine wl_of hX hb cL_346 (xa_I (so := 0) (pc' := 347) (a := 0) w1290 g0 (wsh_s _) (by omega) (wty_s _ _) (by omega) (by omega) rfl (fun b1373 b1374 => ?_))
    have k1376 : wKI H1286 m = wKI H m := (wKI_fr hW gm f1291 rfl)
    have k1377 : H1286 m 6 = H m 6 := (f1291 m 6 _ gm rfl)
    have k1378 : H1286 m 13 = H m 13 := (f1291 m 13 _ gm rfl)
    have k1379 : H1286 m 3 = H m 3 := (f1291 m 3 _ gm rfl)
    have k1380 : H1286 m 5 = H m 5 := (f1291 m 5 _ gm rfl)
    have q1381 : H1286 m 5 = (tm : Int) := k1380.trans em
    have h1382 : TM T H1286 tm B := (TM_fr hW gtm f1291 rfl htm)
    refine wl_of hX hb cL_347 (xc_V (pc' := 350) (r := m) (as := [vI (H1286 0 ((i + 1).toNat))]) (st := []) lm_11_27 rfl rfl (Nat.le_of_ble_eq_true rfl) w1290 gm sh_42 (by decide) rfl (by decide) (u_169 (B := B) (y := y9) w1290 gm ⟨by omega, by omega⟩ q1381 gtm (by omega) (by omega) h1382) (fun R9 T9 H9 p9 => ?_))
    obtain ⟨mT, nT, zT, w9, f9, z9, e9, b9, pa⟩ := p9
    subst e9
    have k1383 : H9 x 9 = H1286 x 9 := (f9 x 9 _ gx rfl)
    have k1384 : H9 x 11 = H1286 x 11 := (f9 x 11 _ gx rfl)
    have k1385 : H9 x 8 = H1286 x 8 := (f9 x 8 _ gx rfl)
    have k1386 : H9 x 0 = H x 0 := ((f9 x 0 _ gx rfl).trans (f1291 x 0 _ gx rfl))
    have q1387 : H9 x 0 = (tc : Int) := k1386.trans e0
    have k1388 : H9 m 5 = H1286 m 5 := (f9 m 5 _ gm rfl)
    have q1389 : H9 m 5 = (tm : Int) := k1388.trans q1381
    have k1390 : H9 x 6 = H1286 x 6 := (f9 x 6 _ gx rfl)
    have q1391 : H9 x 6 = (dr : Int) := k1390.trans a1319
    have k1392 : H9 x 7 = H1286 x 7 := (f9 x 7 _ gx rfl)
    have q1393 : H9 x 7 = (cu : Int) := k1392.trans a1320
    have h1394 : TP T H9 tc B := (TP_fr w1290 gtc f9 rfl (TP_fr hW gtc f1291 rfl htc))
    have h1395 : TM T H9 tm B := (TM_fr w1290 gtm f9 rfl h1382)
    have h1396 : DD T H9 cu  := (DD_fr w1290 gcu f9 rfl (DD_fr hW gcu f1291 rfl hcu))
    have h1397 : DD T H9 dr  := (DD_fr w1290 gdr f9 rfl (DD_fr hW gdr f1291 rfl hdr))
    have hb : T9.2.1 ≤ CB ∧ T9.2.2.1 ≤ SB := ⟨by omega, by omega⟩
    have hXI9 : XI T9 H9 x m := ⟨B, tc, tm, dr, cu, q1387, mT _ _ gtc, h1394, q1389, mT _ _ gtm, h1395, q1391, mT _ _ gdr, q1393, mT _ _ gcu, DD_mono mT h1397, DD_mono mT h1396, mT _ _ gm⟩
    have g0 := mT _ _ g0
    have gx := mT _ _ gx
    have gm := mT _ _ gm
    have go := mT _ _ go
    rcases pa with ⟨y0, y1, y2, y3, y4, y5, y6, y7⟩ | ⟨y0, y1, y2, y3, y4, y5, y6, y7, y8⟩ | ⟨y0, y1, y2, y3, y4, y5, y6, y7, y8, y9b⟩
    · show WL _ _ _ _ 350 [(4, vI i), (3, .ref o), (2, .ref m), (1, .ref x), (0, .ref 0)] [vI z9] _ H9
      refine wl_of hX hb cL_350 (rw_pop (pc' := 351) rfl rfl ?_)
      refine wl_of hX hb cL_351 (rw_goto (p1 := 1653) (by decide) ?_)
      exact WL.loc hX (by simp) (next T9 H9 ⟨⟨w9, g0, gx, gm, go, by omega, by omega⟩, hXI9, by omega, by omega⟩ (by omega) (by omega))
    · show WL _ _ _ _ 350 [(4, vI i), (3, .ref o), (2, .ref m), (1, .ref x), (0, .ref 0)] [vI z9] _ H9
      refine wl_of hX hb cL_350 (rw_pop (pc' := 351) rfl rfl ?_)
      refine wl_of hX hb cL_351 (rw_goto (p1 := 1653) (by decide) ?_)
      exact WL.loc hX (by simp) (next T9 H9 ⟨⟨w9, g0, gx, gm, go, by omega, by omega⟩, hXI9, by omega, by omega⟩ (by omega) (by omega))
    · show WL _ _ _ _ 350 [(4, vI i), (3, .ref o), (2, .ref m), (1, .ref x), (0, .ref 0)] [vI z9] _ H9
      refine wl_of hX hb cL_350 (rw_pop (pc' := 351) rfl rfl ?_)
      refine wl_of hX hb cL_351 (rw_goto (p1 := 1653) (by decide) ?_)
      exact WL.loc hX (by simp) (next T9 H9 ⟨⟨w9, g0, gx, gm, go, by omega, by omega⟩, hXI9, by omega, by omega⟩ (by omega) (by omega))
set_option maxHeartbeats 4000000 in
theorem wl_c2 {kt : Nat → Option mc_E} {CB SB : Nat} {X : mc_S → Prop} {T : wq_T} {H : wq_H} {Len x m o : Nat} {i : Int} (hX : wlX kt CB SB X) (hb : T.2.1 ≤ CB ∧ T.2.2.1 ≤ SB) (hI : wlJ Len x m o T H) (hL : Len ≤ 3072) (hi : 0 ≤ i ∧ i + 6 ≤ Len) (hb2 : T.2.1 + 20 ≤ CB ∧ T.2.2.1 + 500 ≤ SB)  (next : ∀ T' H', wlJ Len x m o T' H' → T'.2.1 ≤ T.2.1 + 20 → T'.2.2.1 ≤ T.2.2.1 + 500 → WL kt CB SB X 1653 (wlL i x m o) [] T' H') : WL kt CB SB X 354 (wlL i x m o) [] T H := by
  obtain ⟨⟨hW, g0, gx, gm, go, hK, hr⟩, hXI, hY1, hY2⟩ := hI
  refine wl_of hX hb cL_354 (rw_aload_n (pc' := 355) (v := .ref x) rfl rfl rfl ?_)
  refine wl_of hX hb cL_355 (xc_V (pc' := 358) (r := x) (as := []) (st := []) (lm_11_28) rfl rfl (Nat.le_of_ble_eq_true rfl) hW gx sh_1 (by decide) rfl (by decide) (s_52 hW gx) (fun R1398 T1399 H1400 p1401 => ?_))
  obtain ⟨e1402, e1404, z1405, e1403, b1406⟩ := p1401
  subst e1402
  subst e1403
  subst e1404
  show WL _ _ _ _ 358 [(4, vI i), (3, .ref o), (2, .ref m), (1, .ref x), (0, .ref 0)] [vI z1405] _ H
  refine wl_of hX hb cL_358 (rw_pop (pc' := 359) rfl rfl ?_)
  refine wl_of hX hb cL_359 (rw_aload_n (pc' := 360) (v := .ref m) rfl rfl rfl ?_)
  refine wl_of hX hb cL_360 (xc_V (pc' := 363) (r := m) (as := []) (st := []) (lm_11_32) rfl rfl (Nat.le_of_ble_eq_true rfl) hW gm sh_42 (by decide) rfl (by decide) (s_210 hW gm (by omega)) (fun R1407 T1408 H1409 p1410 => ?_))
  obtain ⟨e1411, w1413, f1414, z1416, e1412, b1417, p1415⟩ := p1410
  subst e1411
  subst e1412
  show WL _ _ _ _ 363 [(4, vI i), (3, .ref o), (2, .ref m), (1, .ref x), (0, .ref 0)] [vI z1416] _ H1409
  refine wl_of hX hb cL_363 (rw_pop (pc' := 364) rfl rfl ?_)
  refine wl_of hX hb cL_364 (rw_goto (p1 := 1653) (by decide) ?_)
  have k1418 : H1409 x 9 = H x 9 := (f1414 x 9 _ gx rfl)
  have k1419 : H1409 m 6 = H m 6 := (f1414 m 6 _ gm rfl)
  have k1420 : H1409 x 11 = H x 11 := (f1414 x 11 _ gx rfl)
  have k1421 : H1409 m 13 = H m 13 := (f1414 m 13 _ gm rfl)
  have k1422 : H1409 x 8 = H x 8 := (f1414 x 8 _ gx rfl)
  have k1423 : H1409 m 3 = H m 3 := (f1414 m 3 _ gm rfl)
  have h1424 : XI T H1409 x m := (XI_fr hW gx f1414 rfl hXI)
  exact WL.loc hX (by simp) (next T H1409 ⟨⟨w1413, g0, gx, gm, go, by omega, by omega⟩, h1424, by omega, by omega⟩ (by omega) (by omega))
set_option maxHeartbeats 4000000 in
theorem wl_c3 {kt : Nat → Option mc_E} {CB SB : Nat} {X : mc_S → Prop} {T : wq_T} {H : wq_H} {Len x m o : Nat} {i : Int} (hX : wlX kt CB SB X) (hb : T.2.1 ≤ CB ∧ T.2.2.1 ≤ SB) (hI : wlJ Len x m o T H) (hL : Len ≤ 3072) (hi : 0 ≤ i ∧ i + 6 ≤ Len) (hb2 : T.2.1 + 20 ≤ CB ∧ T.2.2.1 + 500 ≤ SB)  (next : ∀ T' H', wlJ Len x m o T' H' → T'.2.1 ≤ T.2.1 + 20 → T'.2.2.1 ≤ T.2.2.1 + 500 → WL kt CB SB X 1653 (wlL i x m o) [] T' H') : WL kt CB SB X 367 (wlL i x m o) [] T H := by
  obtain ⟨⟨hW, g0, gx, gm, go, hK, hr⟩, hXI, hY1, hY2⟩ := hI
  refine wl_of hX hb cL_367 (rw_aload_n (pc' := 368) (v := .ref x) rfl rfl rfl ?_)
  refine wl_of hX hb cL_368 (xc_V (pc' := 371) (r := x) (as := []) (st := []) (lm_11_33) rfl rfl (Nat.le_of_ble_eq_true rfl) hW gx sh_1 (by decide) rfl (by decide) (s_53 hW gx) (fun R1425 T1426 H1427 p1428 => ?_))
  obtain ⟨e1429, e1431, z1432, e1430, b1433⟩ := p1428
  subst e1429
  subst e1430
  subst e1431
  show WL _ _ _ _ 371 [(4, vI i), (3, .ref o), (2, .ref m), (1, .ref x), (0, .ref 0)] [vI z1432] _ H
  refine wl_of hX hb cL_371 (rw_pop (pc' := 372) rfl rfl ?_)
  refine wl_of hX hb cL_372 (rw_aload_n (pc' := 373) (v := .ref m) rfl rfl rfl ?_)
  refine wl_of hX hb cL_373 (xc_V (pc' := 376) (r := m) (as := []) (st := []) (lm_11_36) rfl rfl (Nat.le_of_ble_eq_true rfl) hW gm sh_42 (by decide) rfl (by decide) (s_211 hW gm (by omega)) (fun R1434 T1435 H1436 p1437 => ?_))
  obtain ⟨e1438, w1440, f1441, z1443, e1439, b1444, p1442⟩ := p1437
  subst e1438
  subst e1439
  show WL _ _ _ _ 376 [(4, vI i), (3, .ref o), (2, .ref m), (1, .ref x), (0, .ref 0)] [vI z1443] _ H1436
  refine wl_of hX hb cL_376 (rw_pop (pc' := 377) rfl rfl ?_)
  refine wl_of hX hb cL_377 (rw_goto (p1 := 1653) (by decide) ?_)
  have k1445 : H1436 x 9 = H x 9 := (f1441 x 9 _ gx rfl)
  have k1446 : H1436 m 6 = H m 6 := (f1441 m 6 _ gm rfl)
  have k1447 : H1436 x 11 = H x 11 := (f1441 x 11 _ gx rfl)
  have k1448 : H1436 m 13 = H m 13 := (f1441 m 13 _ gm rfl)
  have k1449 : H1436 x 8 = H x 8 := (f1441 x 8 _ gx rfl)
  have k1450 : H1436 m 3 = H m 3 := (f1441 m 3 _ gm rfl)
  have h1451 : XI T H1436 x m := (XI_fr hW gx f1441 rfl hXI)
  exact WL.loc hX (by simp) (next T H1436 ⟨⟨w1440, g0, gx, gm, go, by omega, by omega⟩, h1451, by omega, by omega⟩ (by omega) (by omega))
set_option maxHeartbeats 4000000 in
theorem wl_c4 {kt : Nat → Option mc_E} {CB SB : Nat} {X : mc_S → Prop} {T : wq_T} {H : wq_H} {Len x m o : Nat} {i : Int} (hX : wlX kt CB SB X) (hb : T.2.1 ≤ CB ∧ T.2.2.1 ≤ SB) (hI : wlJ Len x m o T H) (hL : Len ≤ 3072) (hi : 0 ≤ i ∧ i + 6 ≤ Len) (hb2 : T.2.1 + 20 ≤ CB ∧ T.2.2.1 + 500 ≤ SB)  (next : ∀ T' H', wlJ Len x m o T' H' → T'.2.1 ≤ T.2.1 + 20 → T'.2.2.1 ≤ T.2.2.1 + 500 → WL kt CB SB X 1653 (wlL i x m o) [] T' H') : WL kt CB SB X 380 (wlL i x m o) [] T H := by
  obtain ⟨⟨hW, g0, gx, gm, go, hK, hr⟩, hXI, hY1, hY2⟩ := hI
  refine wl_of hX hb cL_380 (rw_aload_n (pc' := 381) (v := .ref x) rfl rfl rfl ?_)
  refine wl_of hX hb cL_381 (rw_aload_n (pc' := 382) (v := .ref 0) rfl rfl rfl ?_)
  refine wl_of hX hb cL_382 (rw_iload (pc' := 384) (z := i) rfl rfl ?_)
  refine wl_of hX hb cL_384 (rw_iconst (pc' := 385) rfl ?_)
  refine wl_of hX hb cL_385 (rw_iadd (pc' := 386) rfl ?_)
  refine wl_of hX hb cL_386 (xa_I (so := 0) (pc' := 387) (a := 0) hW g0 (wsh_s _) (by omega) (wty_s _ _) (by omega) (by omega) rfl (fun b1452 b1453 => ?_))
  refine wl_of hX hb cL_387 (xc_V (pc' := 390) (r := x) (as := [vI (H 0 ((i + 1).toNat))]) (st := []) (lm_11_37) rfl rfl (Nat.le_of_ble_eq_true rfl) hW gx sh_1 (by decide) rfl (by decide) (s_54 hW gx ⟨by omega, by omega⟩) (fun R1454 T1455 H1456 p1457 => ?_))
  obtain ⟨e1458, w1460, f1461, z1462, e1459, b1463⟩ := p1457
  subst e1458
  subst e1459
  show WL _ _ _ _ 390 [(4, vI i), (3, .ref o), (2, .ref m), (1, .ref x), (0, .ref 0)] [vI z1462] _ H1456
  refine wl_of hX hb cL_390 (rw_pop (pc' := 391) rfl rfl ?_)
  refine wl_of hX hb cL_391 (rw_aload_n (pc' := 392) (v := .ref m) rfl rfl rfl ?_)
  refine wl_of hX hb cL_392 (rw_aload_n (pc' := 393) (v := .ref 0) rfl rfl rfl ?_)
  refine wl_of hX hb cL_393 (rw_iload (pc' := 395) (z := i) rfl rfl ?_)
  refine wl_of hX hb cL_395 (rw_iconst (pc' := 396) rfl ?_)
  refine wl_of hX hb cL_396 (rw_iadd (pc' := 397) rfl ?_)
  have k1466 : H1456 0 ((i + 1).toNat) = H 0 ((i + 1).toNat) := (f1461 0 ((i + 1).toNat) _ g0 (wmem_s rfl))
  refine wl_of hX hb cL_397 (xa_I (so := 0) (pc' := 398) (a := 0) w1460 g0 (wsh_s _) (by omega) (wty_s _ _) (by omega) (by omega) rfl (fun b1464 b1465 => ?_))
  have k1467 : wKI H1456 m = wKI H m := (wKI_fr hW gm f1461 rfl)
  have k1468 : H1456 x 9 = H x 9 := (f1461 x 9 _ gx rfl)
  have k1469 : H1456 m 6 = H m 6 := (f1461 m 6 _ gm rfl)
  have k1470 : H1456 x 11 = H x 11 := (f1461 x 11 _ gx rfl)
  have k1471 : H1456 m 13 = H m 13 := (f1461 m 13 _ gm rfl)
  have k1472 : H1456 x 8 = H x 8 := (f1461 x 8 _ gx rfl)
  have k1473 : H1456 m 3 = H m 3 := (f1461 m 3 _ gm rfl)
  refine wl_of hX hb cL_398 (xc_V (pc' := 401) (r := m) (as := [vI (H1456 0 ((i + 1).toNat))]) (st := []) (lm_11_40) rfl rfl (Nat.le_of_ble_eq_true rfl) w1460 gm sh_42 (by decide) rfl (by decide) (s_212 w1460 gm ⟨by omega, by omega⟩ (by omega)) (fun R1474 T1475 H1476 p1477 => ?_))
  obtain ⟨e1478, w1480, f1481, z1483, e1479, b1484, p1482⟩ := p1477
  subst e1478
  subst e1479
  show WL _ _ _ _ 401 [(4, vI i), (3, .ref o), (2, .ref m), (1, .ref x), (0, .ref 0)] [vI z1483] _ H1476
  refine wl_of hX hb cL_401 (rw_pop (pc' := 402) rfl rfl ?_)
  refine wl_of hX hb cL_402 (rw_goto (p1 := 1653) (by decide) ?_)
  have k1485 : H1476 x 9 = H1456 x 9 := (f1481 x 9 _ gx rfl)
  have k1486 : H1476 m 6 = H1456 m 6 := (f1481 m 6 _ gm rfl)
  have k1487 : H1476 x 11 = H1456 x 11 := (f1481 x 11 _ gx rfl)
  have k1488 : H1476 m 13 = H1456 m 13 := (f1481 m 13 _ gm rfl)
  have k1489 : H1476 x 8 = H1456 x 8 := (f1481 x 8 _ gx rfl)
  have k1490 : H1476 m 3 = H1456 m 3 := (f1481 m 3 _ gm rfl)
  have h1491 : XI T H1476 x m := (XI_fr w1460 gx f1481 rfl (XI_fr hW gx f1461 rfl hXI))
  exact WL.loc hX (by simp) (next T H1476 ⟨⟨w1480, g0, gx, gm, go, by omega, by omega⟩, h1491, by omega, by omega⟩ (by omega) (by omega))
set_option maxHeartbeats 4000000 in
theorem wl_c5 {kt : Nat → Option mc_E} {CB SB : Nat} {X : mc_S → Prop} {T : wq_T} {H : wq_H} {Len x m o : Nat} {i : Int} (hX : wlX kt CB SB X) (hb : T.2.1 ≤ CB ∧ T.2.2.1 ≤ SB) (hI : wlJ Len x m o T H) (hL : Len ≤ 3072) (hi : 0 ≤ i ∧ i + 6 ≤ Len) (hb2 : T.2.1 + 20 ≤ CB ∧ T.2.2.1 + 500 ≤ SB)  (next : ∀ T' H', wlJ Len x m o T' H' → T'.2.1 ≤ T.2.1 + 20 → T'.2.2.1 ≤ T.2.2.1 + 500 → WL kt CB SB X 1653 (wlL i x m o) [] T' H') : WL kt CB SB X 405 (wlL i x m o) [] T H := by
  obtain ⟨⟨hW, g0, gx, gm, go, hK, hr⟩, hXI, hY1, hY2⟩ := hI
  refine wl_of hX hb cL_405 (rw_aload_n (pc' := 406) (v := .ref x) rfl rfl rfl ?_)
  refine wl_of hX hb cL_406 (rw_aload_n (pc' := 407) (v := .ref 0) rfl rfl rfl ?_)
  refine wl_of hX hb cL_407 (rw_iload (pc' := 409) (z := i) rfl rfl ?_)
  refine wl_of hX hb cL_409 (rw_iconst (pc' := 410) rfl ?_)
  refine wl_of hX hb cL_410 (rw_iadd (pc' := 411) rfl ?_)
  refine wl_of hX hb cL_411 (xa_I (so := 0) (pc' := 412) (a := 0) hW g0 (wsh_s _) (by omega) (wty_s _ _) (by omega) (by omega) rfl (fun b1492 b1493 => ?_))
  refine wl_of hX hb cL_412 (rw_aload_n (pc' := 413) (v := .ref 0) rfl rfl rfl ?_)
  refine wl_of hX hb cL_413 (rw_iload (pc' := 415) (z := i) rfl rfl ?_)
  refine wl_of hX hb cL_415 (rw_iconst (pc' := 416) rfl ?_)
  refine wl_of hX hb cL_416 (rw_iadd (pc' := 417) rfl ?_)
  refine wl_of hX hb cL_417 (xa_I (so := 0) (pc' := 418) (a := 0) hW g0 (wsh_s _) (by omega) (wty_s _ _) (by omega) (by omega) rfl (fun b1494 b1495 => ?_))
  refine wl_of hX hb cL_418 (rw_aload_n (pc' := 419) (v := .ref 0) rfl rfl rfl ?_)
  refine wl_of hX hb cL_419 (rw_iload (pc' := 421) (z := i) rfl rfl ?_)
  refine wl_of hX hb cL_421 (rw_iconst (pc' := 422) rfl ?_)
  refine wl_of hX hb cL_422 (rw_iadd (pc' := 423) rfl ?_)
  refine wl_of hX hb cL_423 (xa_I (so := 0) (pc' := 424) (a := 0) hW g0 (wsh_s _) (by omega) (wty_s _ _) (by omega) (by omega) rfl (fun b1496 b1497 => ?_))
  refine wl_of hX hb cL_424 (xc_V (pc' := 427) (r := x) (as := [vI (H 0 ((i + 1).toNat)), vI (H 0 ((i + 2).toNat)), vI (H 0 ((i + 3).toNat))]) (st := []) (lm_11_41) rfl rfl (Nat.le_of_ble_eq_true rfl) hW gx sh_1 (by decide) rfl (by decide) (s_56 hW gx ⟨by omega, by omega⟩ ⟨by omega, by omega⟩ ⟨by omega, by omega⟩) (fun R1498 T1499 H1500 p1501 => ?_))
  obtain ⟨e1502, w1504, f1505, z1506, e1503, b1507⟩ := p1501
  subst e1502
  subst e1503
  show WL _ _ _ _ 427 [(4, vI i), (3, .ref o), (2, .ref m), (1, .ref x), (0, .ref 0)] [vI z1506] _ H1500
  refine wl_of hX hb cL_427 (rw_pop (pc' := 428) rfl rfl ?_)
  refine wl_of hX hb cL_428 (rw_aload_n (pc' := 429) (v := .ref m) rfl rfl rfl ?_)
  refine wl_of hX hb cL_429 (rw_aload_n (pc' := 430) (v := .ref 0) rfl rfl rfl ?_)
  refine wl_of hX hb cL_430 (rw_iload (pc' := 432) (z := i) rfl rfl ?_)
  refine wl_of hX hb cL_432 (rw_iconst (pc' := 433) rfl ?_)
  refine wl_of hX hb cL_433 (rw_iadd (pc' := 434) rfl ?_)
  have k1510 : H1500 0 ((i + 1).toNat) = H 0 ((i + 1).toNat) := (f1505 0 ((i + 1).toNat) _ g0 (wmem_s rfl))
  refine wl_of hX hb cL_434 (xa_I (so := 0) (pc' := 435) (a := 0) w1504 g0 (wsh_s _) (by omega) (wty_s _ _) (by omega) (by omega) rfl (fun b1508 b1509 => ?_))
  refine wl_of hX hb cL_435 (rw_aload_n (pc' := 436) (v := .ref 0) rfl rfl rfl ?_)
  refine wl_of hX hb cL_436 (rw_iload (pc' := 438) (z := i) rfl rfl ?_)
  refine wl_of hX hb cL_438 (rw_iconst (pc' := 439) rfl ?_)
  refine wl_of hX hb cL_439 (rw_iadd (pc' := 440) rfl ?_)
  have k1513 : H1500 0 ((i + 2).toNat) = H 0 ((i + 2).toNat) := (f1505 0 ((i + 2).toNat) _ g0 (wmem_s rfl))
  refine wl_of hX hb cL_440 (xa_I (so := 0) (pc' := 441) (a := 0) w1504 g0 (wsh_s _) (by omega) (wty_s _ _) (by omega) (by omega) rfl (fun b1511 b1512 => ?_))
  refine wl_of hX hb cL_441 (rw_aload_n (pc' := 442) (v := .ref 0) rfl rfl rfl ?_)
  refine wl_of hX hb cL_442 (rw_iload (pc' := 444) (z := i) rfl rfl ?_)
  refine wl_of hX hb cL_444 (rw_iconst (pc' := 445) rfl ?_)
  refine wl_of hX hb cL_445 (rw_iadd (pc' := 446) rfl ?_)
  have k1516 : H1500 0 ((i + 3).toNat) = H 0 ((i + 3).toNat) := (f1505 0 ((i + 3).toNat) _ g0 (wmem_s rfl))
  refine wl_of hX hb cL_446 (xa_I (so := 0) (pc' := 447) (a := 0) w1504 g0 (wsh_s _) (by omega) (wty_s _ _) (by omega) (by omega) rfl (fun b1514 b1515 => ?_))
  have k1517 : wKI H1500 m = wKI H m := (wKI_fr hW gm f1505 rfl)
  have k1518 : H1500 x 9 = H x 9 := (f1505 x 9 _ gx rfl)
  have k1519 : H1500 m 6 = H m 6 := (f1505 m 6 _ gm rfl)
  have k1520 : H1500 x 11 = H x 11 := (f1505 x 11 _ gx rfl)
  have k1521 : H1500 m 13 = H m 13 := (f1505 m 13 _ gm rfl)
  have k1522 : H1500 x 8 = H x 8 := (f1505 x 8 _ gx rfl)
  have k1523 : H1500 m 3 = H m 3 := (f1505 m 3 _ gm rfl)
  refine wl_of hX hb cL_447 (xc_V (pc' := 450) (r := m) (as := [vI (H1500 0 ((i + 1).toNat)), vI (H1500 0 ((i + 2).toNat)), vI (H1500 0 ((i + 3).toNat))]) (st := []) (lm_11_45) rfl rfl (Nat.le_of_ble_eq_true rfl) w1504 gm sh_42 (by decide) rfl (by decide) (s_214 w1504 gm ⟨by omega, by omega⟩ ⟨by omega, by omega⟩ ⟨by omega, by omega⟩ (by omega)) (fun R1524 T1525 H1526 p1527 => ?_))
  obtain ⟨e1528, w1530, f1531, z1533, e1529, b1534, p1532⟩ := p1527
  subst e1528
  subst e1529
  show WL _ _ _ _ 450 [(4, vI i), (3, .ref o), (2, .ref m), (1, .ref x), (0, .ref 0)] [vI z1533] _ H1526
  refine wl_of hX hb cL_450 (rw_pop (pc' := 451) rfl rfl ?_)
  refine wl_of hX hb cL_451 (rw_goto (p1 := 1653) (by decide) ?_)
  have k1535 : H1526 x 9 = H1500 x 9 := (f1531 x 9 _ gx rfl)
  have k1536 : H1526 m 6 = H1500 m 6 := (f1531 m 6 _ gm rfl)
  have k1537 : H1526 x 11 = H1500 x 11 := (f1531 x 11 _ gx rfl)
  have k1538 : H1526 m 13 = H1500 m 13 := (f1531 m 13 _ gm rfl)
  have k1539 : H1526 x 8 = H1500 x 8 := (f1531 x 8 _ gx rfl)
  have k1540 : H1526 m 3 = H1500 m 3 := (f1531 m 3 _ gm rfl)
  have h1541 : XI T H1526 x m := (XI_fr w1504 gx f1531 rfl (XI_fr hW gx f1505 rfl hXI))
  exact WL.loc hX (by simp) (next T H1526 ⟨⟨w1530, g0, gx, gm, go, by omega, by omega⟩, h1541, by omega, by omega⟩ (by omega) (by omega))
set_option maxHeartbeats 4000000 in
theorem wl_c6 {kt : Nat → Option mc_E} {CB SB : Nat} {X : mc_S → Prop} {T : wq_T} {H : wq_H} {Len x m o : Nat} {i : Int} (hX : wlX kt CB SB X) (hb : T.2.1 ≤ CB ∧ T.2.2.1 ≤ SB) (hI : wlJ Len x m o T H) (hL : Len ≤ 3072) (hi : 0 ≤ i ∧ i + 6 ≤ Len) (hb2 : T.2.1 + 20 ≤ CB ∧ T.2.2.1 + 500 ≤ SB)  (next : ∀ T' H', wlJ Len x m o T' H' → T'.2.1 ≤ T.2.1 + 20 → T'.2.2.1 ≤ T.2.2.1 + 500 → WL kt CB SB X 1653 (wlL i x m o) [] T' H') : WL kt CB SB X 454 (wlL i x m o) [] T H := by
  obtain ⟨⟨hW, g0, gx, gm, go, hK, hr⟩, hXI, hY1, hY2⟩ := hI
  refine wl_of hX hb cL_454 (rw_aload_n (pc' := 455) (v := .ref x) rfl rfl rfl ?_)
  refine wl_of hX hb cL_455 (rw_aload_n (pc' := 456) (v := .ref 0) rfl rfl rfl ?_)
  refine wl_of hX hb cL_456 (rw_iload (pc' := 458) (z := i) rfl rfl ?_)
  refine wl_of hX hb cL_458 (rw_iconst (pc' := 459) rfl ?_)
  refine wl_of hX hb cL_459 (rw_iadd (pc' := 460) rfl ?_)
  refine wl_of hX hb cL_460 (xa_I (so := 0) (pc' := 461) (a := 0) hW g0 (wsh_s _) (by omega) (wty_s _ _) (by omega) (by omega) rfl (fun b1542 b1543 => ?_))
  refine wl_of hX hb cL_461 (rw_aload_n (pc' := 462) (v := .ref 0) rfl rfl rfl ?_)
  refine wl_of hX hb cL_462 (rw_iload (pc' := 464) (z := i) rfl rfl ?_)
  refine wl_of hX hb cL_464 (rw_iconst (pc' := 465) rfl ?_)
  refine wl_of hX hb cL_465 (rw_iadd (pc' := 466) rfl ?_)
  refine wl_of hX hb cL_466 (xa_I (so := 0) (pc' := 467) (a := 0) hW g0 (wsh_s _) (by omega) (wty_s _ _) (by omega) (by omega) rfl (fun b1544 b1545 => ?_))
  refine wl_of hX hb cL_467 (rw_aload_n (pc' := 468) (v := .ref 0) rfl rfl rfl ?_)
  refine wl_of hX hb cL_468 (rw_iload (pc' := 470) (z := i) rfl rfl ?_)
  refine wl_of hX hb cL_470 (rw_iconst (pc' := 471) rfl ?_)
  refine wl_of hX hb cL_471 (rw_iadd (pc' := 472) rfl ?_)
  refine wl_of hX hb cL_472 (xa_I (so := 0) (pc' := 473) (a := 0) hW g0 (wsh_s _) (by omega) (wty_s _ _) (by omega) (by omega) rfl (fun b1546 b1547 => ?_))
  refine wl_of hX hb cL_473 (xc_V (pc' := 476) (r := x) (as := [vI (H 0 ((i + 1).toNat)), vI (H 0 ((i + 2).toNat)), vI (H 0 ((i + 3).toNat))]) (st := []) (lm_11_46) rfl rfl (Nat.le_of_ble_eq_true rfl) hW gx sh_1 (by decide) rfl (by decide) (s_59 hW gx ⟨by omega, by omega⟩ ⟨by omega, by omega⟩ ⟨by omega, by omega⟩) (fun R1548 T1549 H1550 p1551 => ?_))
  obtain ⟨e1552, w1554, f1555, z1556, e1553, b1557⟩ := p1551
  subst e1552
  subst e1553
  show WL _ _ _ _ 476 [(4, vI i), (3, .ref o), (2, .ref m), (1, .ref x), (0, .ref 0)] [vI z1556] _ H1550
  refine wl_of hX hb cL_476 (rw_pop (pc' := 477) rfl rfl ?_)
  refine wl_of hX hb cL_477 (rw_aload_n (pc' := 478) (v := .ref m) rfl rfl rfl ?_)
  refine wl_of hX hb cL_478 (rw_aload_n (pc' := 479) (v := .ref 0) rfl rfl rfl ?_)
  refine wl_of hX hb cL_479 (rw_iload (pc' := 481) (z := i) rfl rfl ?_)
  refine wl_of hX hb cL_481 (rw_iconst (pc' := 482) rfl ?_)
  refine wl_of hX hb cL_482 (rw_iadd (pc' := 483) rfl ?_)
  have k1560 : H1550 0 ((i + 1).toNat) = H 0 ((i + 1).toNat) := (f1555 0 ((i + 1).toNat) _ g0 (wmem_s rfl))
  refine wl_of hX hb cL_483 (xa_I (so := 0) (pc' := 484) (a := 0) w1554 g0 (wsh_s _) (by omega) (wty_s _ _) (by omega) (by omega) rfl (fun b1558 b1559 => ?_))
  refine wl_of hX hb cL_484 (rw_aload_n (pc' := 485) (v := .ref 0) rfl rfl rfl ?_)
  refine wl_of hX hb cL_485 (rw_iload (pc' := 487) (z := i) rfl rfl ?_)
  refine wl_of hX hb cL_487 (rw_iconst (pc' := 488) rfl ?_)
  refine wl_of hX hb cL_488 (rw_iadd (pc' := 489) rfl ?_)
  have k1563 : H1550 0 ((i + 2).toNat) = H 0 ((i + 2).toNat) := (f1555 0 ((i + 2).toNat) _ g0 (wmem_s rfl))
  refine wl_of hX hb cL_489 (xa_I (so := 0) (pc' := 490) (a := 0) w1554 g0 (wsh_s _) (by omega) (wty_s _ _) (by omega) (by omega) rfl (fun b1561 b1562 => ?_))
  refine wl_of hX hb cL_490 (rw_aload_n (pc' := 491) (v := .ref 0) rfl rfl rfl ?_)
  refine wl_of hX hb cL_491 (rw_iload (pc' := 493) (z := i) rfl rfl ?_)
  refine wl_of hX hb cL_493 (rw_iconst (pc' := 494) rfl ?_)
  refine wl_of hX hb cL_494 (rw_iadd (pc' := 495) rfl ?_)
  have k1566 : H1550 0 ((i + 3).toNat) = H 0 ((i + 3).toNat) := (f1555 0 ((i + 3).toNat) _ g0 (wmem_s rfl))
  refine wl_of hX hb cL_495 (xa_I (so := 0) (pc' := 496) (a := 0) w1554 g0 (wsh_s _) (by omega) (wty_s _ _) (by omega) (by omega) rfl (fun b1564 b1565 => ?_))
  have k1567 : wKI H1550 m = wKI H m := (wKI_fr hW gm f1555 rfl)
  have k1568 : H1550 x 9 = H x 9 := (f1555 x 9 _ gx rfl)
  have k1569 : H1550 m 6 = H m 6 := (f1555 m 6 _ gm rfl)
  have k1570 : H1550 x 11 = H x 11 := (f1555 x 11 _ gx rfl)
  have k1571 : H1550 m 13 = H m 13 := (f1555 m 13 _ gm rfl)
  have k1572 : H1550 x 8 = H x 8 := (f1555 x 8 _ gx rfl)
  have k1573 : H1550 m 3 = H m 3 := (f1555 m 3 _ gm rfl)
  refine wl_of hX hb cL_496 (xc_V (pc' := 499) (r := m) (as := [vI (H1550 0 ((i + 1).toNat)), vI (H1550 0 ((i + 2).toNat)), vI (H1550 0 ((i + 3).toNat))]) (st := []) (lm_11_49) rfl rfl (Nat.le_of_ble_eq_true rfl) w1554 gm sh_42 (by decide) rfl (by decide) (s_217 w1554 gm ⟨by omega, by omega⟩ ⟨by omega, by omega⟩ ⟨by omega, by omega⟩ (by omega)) (fun R1574 T1575 H1576 p1577 => ?_))
  obtain ⟨e1578, w1580, f1581, z1583, e1579, b1584, p1582⟩ := p1577
  subst e1578
  subst e1579
  show WL _ _ _ _ 499 [(4, vI i), (3, .ref o), (2, .ref m), (1, .ref x), (0, .ref 0)] [vI z1583] _ H1576
  refine wl_of hX hb cL_499 (rw_pop (pc' := 500) rfl rfl ?_)
  refine wl_of hX hb cL_500 (rw_goto (p1 := 1653) (by decide) ?_)
  have k1585 : H1576 x 9 = H1550 x 9 := (f1581 x 9 _ gx rfl)
  have k1586 : H1576 m 6 = H1550 m 6 := (f1581 m 6 _ gm rfl)
  have k1587 : H1576 x 11 = H1550 x 11 := (f1581 x 11 _ gx rfl)
  have k1588 : H1576 m 13 = H1550 m 13 := (f1581 m 13 _ gm rfl)
  have k1589 : H1576 x 8 = H1550 x 8 := (f1581 x 8 _ gx rfl)
  have k1590 : H1576 m 3 = H1550 m 3 := (f1581 m 3 _ gm rfl)
  have h1591 : XI T H1576 x m := (XI_fr w1554 gx f1581 rfl (XI_fr hW gx f1555 rfl hXI))
  exact WL.loc hX (by simp) (next T H1576 ⟨⟨w1580, g0, gx, gm, go, by omega, by omega⟩, h1591, by omega, by omega⟩ (by omega) (by omega))
set_option maxHeartbeats 4000000 in
theorem wl_c7 {kt : Nat → Option mc_E} {CB SB : Nat} {X : mc_S → Prop} {T : wq_T} {H : wq_H} {Len x m o : Nat} {i : Int} (hX : wlX kt CB SB X) (hb : T.2.1 ≤ CB ∧ T.2.2.1 ≤ SB) (hI : wlJ Len x m o T H) (hL : Len ≤ 3072) (hi : 0 ≤ i ∧ i + 6 ≤ Len) (hb2 : T.2.1 + 20 ≤ CB ∧ T.2.2.1 + 500 ≤ SB)  (next : ∀ T' H', wlJ Len x m o T' H' → T'.2.1 ≤ T.2.1 + 20 → T'.2.2.1 ≤ T.2.2.1 + 500 → WL kt CB SB X 1653 (wlL i x m o) [] T' H') : WL kt CB SB X 503 (wlL i x m o) [] T H := by
  obtain ⟨⟨hW, g0, gx, gm, go, hK, hr⟩, hXI, hY1, hY2⟩ := hI
  refine wl_of hX hb cL_503 (rw_aload_n (pc' := 504) (v := .ref x) rfl rfl rfl ?_)
  refine wl_of hX hb cL_504 (xc_V (pc' := 507) (r := x) (as := []) (st := []) (lm_11_50) rfl rfl (Nat.le_of_ble_eq_true rfl) hW gx sh_1 (by decide) rfl (by decide) (s_61 hW gx) (fun R1592 T1593 H1594 p1595 => ?_))
  obtain ⟨e1596, w1598, f1599, z1600, e1597, b1601⟩ := p1595
  subst e1596
  subst e1597
  show WL _ _ _ _ 507 [(4, vI i), (3, .ref o), (2, .ref m), (1, .ref x), (0, .ref 0)] [vL z1600] _ H1594
  refine wl_of hX hb cL_507 (rw_pop2 (pc' := 508) rfl rfl ?_)
  refine wl_of hX hb cL_508 (rw_aload_n (pc' := 509) (v := .ref m) rfl rfl rfl ?_)
  have k1602 : wKI H1594 m = wKI H m := (wKI_fr hW gm f1599 rfl)
  have k1603 : H1594 x 9 = H x 9 := (f1599 x 9 _ gx rfl)
  have k1604 : H1594 m 6 = H m 6 := (f1599 m 6 _ gm rfl)
  have k1605 : H1594 x 11 = H x 11 := (f1599 x 11 _ gx rfl)
  have k1606 : H1594 m 13 = H m 13 := (f1599 m 13 _ gm rfl)
  have k1607 : H1594 x 8 = H x 8 := (f1599 x 8 _ gx rfl)
  have k1608 : H1594 m 3 = H m 3 := (f1599 m 3 _ gm rfl)
  refine wl_of hX hb cL_509 (xc_V (pc' := 512) (r := m) (as := []) (st := []) (lm_11_54) rfl rfl (Nat.le_of_ble_eq_true rfl) w1598 gm sh_42 (by decide) rfl (by decide) (s_219 w1598 gm (by omega)) (fun R1609 T1610 H1611 p1612 => ?_))
  obtain ⟨e1613, w1615, f1616, z1618, e1614, b1619, p1617⟩ := p1612
  subst e1613
  subst e1614
  show WL _ _ _ _ 512 [(4, vI i), (3, .ref o), (2, .ref m), (1, .ref x), (0, .ref 0)] [vL z1618] _ H1611
  refine wl_of hX hb cL_512 (rw_pop2 (pc' := 513) rfl rfl ?_)
  refine wl_of hX hb cL_513 (rw_goto (p1 := 1653) (by decide) ?_)
  have k1620 : H1611 x 9 = H1594 x 9 := (f1616 x 9 _ gx rfl)
  have k1621 : H1611 m 6 = H1594 m 6 := (f1616 m 6 _ gm rfl)
  have k1622 : H1611 x 11 = H1594 x 11 := (f1616 x 11 _ gx rfl)
  have k1623 : H1611 m 13 = H1594 m 13 := (f1616 m 13 _ gm rfl)
  have k1624 : H1611 x 8 = H1594 x 8 := (f1616 x 8 _ gx rfl)
  have k1625 : H1611 m 3 = H1594 m 3 := (f1616 m 3 _ gm rfl)
  have h1626 : XI T H1611 x m := (XI_fr w1598 gx f1616 rfl (XI_fr hW gx f1599 rfl hXI))
  exact WL.loc hX (by simp) (next T H1611 ⟨⟨w1615, g0, gx, gm, go, by omega, by omega⟩, h1626, by omega, by omega⟩ (by omega) (by omega))
set_option maxHeartbeats 4000000 in
theorem wl_c8 {kt : Nat → Option mc_E} {CB SB : Nat} {X : mc_S → Prop} {T : wq_T} {H : wq_H} {Len x m o : Nat} {i : Int} (hX : wlX kt CB SB X) (hb : T.2.1 ≤ CB ∧ T.2.2.1 ≤ SB) (hI : wlJ Len x m o T H) (hL : Len ≤ 3072) (hi : 0 ≤ i ∧ i + 6 ≤ Len) (hb2 : T.2.1 + 20 ≤ CB ∧ T.2.2.1 + 500 ≤ SB)  (next : ∀ T' H', wlJ Len x m o T' H' → T'.2.1 ≤ T.2.1 + 20 → T'.2.2.1 ≤ T.2.2.1 + 500 → WL kt CB SB X 1653 (wlL i x m o) [] T' H') : WL kt CB SB X 516 (wlL i x m o) [] T H := by
  obtain ⟨⟨hW, g0, gx, gm, go, hK, hr⟩, hXI, hY1, hY2⟩ := hI
  refine wl_of hX hb cL_516 (rw_aload_n (pc' := 517) (v := .ref x) rfl rfl rfl ?_)
  refine wl_of hX hb cL_517 (rw_aload_n (pc' := 518) (v := .ref 0) rfl rfl rfl ?_)
  refine wl_of hX hb cL_518 (rw_iload (pc' := 520) (z := i) rfl rfl ?_)
  refine wl_of hX hb cL_520 (rw_iconst (pc' := 521) rfl ?_)
  refine wl_of hX hb cL_521 (rw_iadd (pc' := 522) rfl ?_)
  refine wl_of hX hb cL_522 (xa_I (so := 0) (pc' := 523) (a := 0) hW g0 (wsh_s _) (by omega) (wty_s _ _) (by omega) (by omega) rfl (fun b1627 b1628 => ?_))
  refine wl_of hX hb cL_523 (rw_aload_n (pc' := 524) (v := .ref 0) rfl rfl rfl ?_)
  refine wl_of hX hb cL_524 (rw_iload (pc' := 526) (z := i) rfl rfl ?_)
  refine wl_of hX hb cL_526 (rw_iconst (pc' := 527) rfl ?_)
  refine wl_of hX hb cL_527 (rw_iadd (pc' := 528) rfl ?_)
  refine wl_of hX hb cL_528 (xa_I (so := 0) (pc' := 529) (a := 0) hW g0 (wsh_s _) (by omega) (wty_s _ _) (by omega) (by omega) rfl (fun b1629 b1630 => ?_))
  refine wl_of hX hb cL_529 (xc_V (pc' := 532) (r := x) (as := [vI (H 0 ((i + 1).toNat)), vI (H 0 ((i + 2).toNat))]) (st := []) (lm_11_55) rfl rfl (Nat.le_of_ble_eq_true rfl) hW gx sh_1 (by decide) rfl (by decide) (s_62 hW gx ⟨by omega, by omega⟩ ⟨by omega, by omega⟩) (fun R1631 T1632 H1633 p1634 => ?_))
  obtain ⟨e1635, w1637, f1638, z1639, e1636, b1640⟩ := p1634
  subst e1635
  subst e1636
  show WL _ _ _ _ 532 [(4, vI i), (3, .ref o), (2, .ref m), (1, .ref x), (0, .ref 0)] [vI z1639] _ H1633
  refine wl_of hX hb cL_532 (rw_pop (pc' := 533) rfl rfl ?_)
  refine wl_of hX hb cL_533 (rw_aload_n (pc' := 534) (v := .ref m) rfl rfl rfl ?_)
  refine wl_of hX hb cL_534 (rw_aload_n (pc' := 535) (v := .ref 0) rfl rfl rfl ?_)
  refine wl_of hX hb cL_535 (rw_iload (pc' := 537) (z := i) rfl rfl ?_)
  refine wl_of hX hb cL_537 (rw_iconst (pc' := 538) rfl ?_)
  refine wl_of hX hb cL_538 (rw_iadd (pc' := 539) rfl ?_)
  have k1643 : H1633 0 ((i + 1).toNat) = H 0 ((i + 1).toNat) := (f1638 0 ((i + 1).toNat) _ g0 (wmem_s rfl))
  refine wl_of hX hb cL_539 (xa_I (so := 0) (pc' := 540) (a := 0) w1637 g0 (wsh_s _) (by omega) (wty_s _ _) (by omega) (by omega) rfl (fun b1641 b1642 => ?_))
  refine wl_of hX hb cL_540 (rw_aload_n (pc' := 541) (v := .ref 0) rfl rfl rfl ?_)
  refine wl_of hX hb cL_541 (rw_iload (pc' := 543) (z := i) rfl rfl ?_)
  refine wl_of hX hb cL_543 (rw_iconst (pc' := 544) rfl ?_)
  refine wl_of hX hb cL_544 (rw_iadd (pc' := 545) rfl ?_)
  have k1646 : H1633 0 ((i + 2).toNat) = H 0 ((i + 2).toNat) := (f1638 0 ((i + 2).toNat) _ g0 (wmem_s rfl))
  refine wl_of hX hb cL_545 (xa_I (so := 0) (pc' := 546) (a := 0) w1637 g0 (wsh_s _) (by omega) (wty_s _ _) (by omega) (by omega) rfl (fun b1644 b1645 => ?_))
  have k1647 : wKI H1633 m = wKI H m := (wKI_fr hW gm f1638 rfl)
  have k1648 : H1633 x 9 = H x 9 := (f1638 x 9 _ gx rfl)
  have k1649 : H1633 m 6 = H m 6 := (f1638 m 6 _ gm rfl)
  have k1650 : H1633 x 11 = H x 11 := (f1638 x 11 _ gx rfl)
  have k1651 : H1633 m 13 = H m 13 := (f1638 m 13 _ gm rfl)
  have k1652 : H1633 x 8 = H x 8 := (f1638 x 8 _ gx rfl)
  have k1653 : H1633 m 3 = H m 3 := (f1638 m 3 _ gm rfl)
  refine wl_of hX hb cL_546 (xc_V (pc' := 549) (r := m) (as := [vI (H1633 0 ((i + 1).toNat)), vI (H1633 0 ((i + 2).toNat))]) (st := []) (lm_11_59) rfl rfl (Nat.le_of_ble_eq_true rfl) w1637 gm sh_42 (by decide) rfl (by decide) (s_222 w1637 gm ⟨by omega, by omega⟩ ⟨by omega, by omega⟩ (by omega)) (fun R1654 T1655 H1656 p1657 => ?_))
  obtain ⟨e1658, w1660, f1661, z1663, e1659, b1664, p1662⟩ := p1657
  subst e1658
  subst e1659
  show WL _ _ _ _ 549 [(4, vI i), (3, .ref o), (2, .ref m), (1, .ref x), (0, .ref 0)] [vI z1663] _ H1656
  refine wl_of hX hb cL_549 (rw_pop (pc' := 550) rfl rfl ?_)
  refine wl_of hX hb cL_550 (rw_goto (p1 := 1653) (by decide) ?_)
  have k1665 : H1656 x 9 = H1633 x 9 := (f1661 x 9 _ gx rfl)
  have k1666 : H1656 m 6 = H1633 m 6 := (f1661 m 6 _ gm rfl)
  have k1667 : H1656 x 11 = H1633 x 11 := (f1661 x 11 _ gx rfl)
  have k1668 : H1656 m 13 = H1633 m 13 := (f1661 m 13 _ gm rfl)
  have k1669 : H1656 x 8 = H1633 x 8 := (f1661 x 8 _ gx rfl)
  have k1670 : H1656 m 3 = H1633 m 3 := (f1661 m 3 _ gm rfl)
  have h1671 : XI T H1656 x m := (XI_fr w1637 gx f1661 rfl (XI_fr hW gx f1638 rfl hXI))
  exact WL.loc hX (by simp) (next T H1656 ⟨⟨w1660, g0, gx, gm, go, by omega, by omega⟩, h1671, by omega, by omega⟩ (by omega) (by omega))
set_option maxHeartbeats 4000000 in
theorem wl_c9 {kt : Nat → Option mc_E} {CB SB : Nat} {X : mc_S → Prop} {T : wq_T} {H : wq_H} {Len x m o : Nat} {i : Int} (hX : wlX kt CB SB X) (hb : T.2.1 ≤ CB ∧ T.2.2.1 ≤ SB) (hI : wlJ Len x m o T H) (hL : Len ≤ 3072) (hi : 0 ≤ i ∧ i + 6 ≤ Len) (hb2 : T.2.1 + 20 ≤ CB ∧ T.2.2.1 + 500 ≤ SB)  (next : ∀ T' H', wlJ Len x m o T' H' → T'.2.1 ≤ T.2.1 + 20 → T'.2.2.1 ≤ T.2.2.1 + 500 → WL kt CB SB X 1653 (wlL i x m o) [] T' H') : WL kt CB SB X 553 (wlL i x m o) [] T H := by
  obtain ⟨⟨hW, g0, gx, gm, go, hK, hr⟩, hXI, hY1, hY2⟩ := hI
  refine wl_of hX hb cL_553 (rw_aload_n (pc' := 554) (v := .ref x) rfl rfl rfl ?_)
  refine wl_of hX hb cL_554 (rw_aload_n (pc' := 555) (v := .ref 0) rfl rfl rfl ?_)
  refine wl_of hX hb cL_555 (rw_iload (pc' := 557) (z := i) rfl rfl ?_)
  refine wl_of hX hb cL_557 (rw_iconst (pc' := 558) rfl ?_)
  refine wl_of hX hb cL_558 (rw_iadd (pc' := 559) rfl ?_)
  refine wl_of hX hb cL_559 (xa_I (so := 0) (pc' := 560) (a := 0) hW g0 (wsh_s _) (by omega) (wty_s _ _) (by omega) (by omega) rfl (fun b1672 b1673 => ?_))
  refine wl_of hX hb cL_560 (xc_V (pc' := 563) (r := x) (as := [vI (H 0 ((i + 1).toNat))]) (st := []) (lm_11_60) rfl rfl (Nat.le_of_ble_eq_true rfl) hW gx sh_1 (by decide) rfl (by decide) (s_65 hW gx ⟨by omega, by omega⟩) (fun R1674 T1675 H1676 p1677 => ?_))
  obtain ⟨e1678, w1680, f1681, z1682, e1679, b1683⟩ := p1677
  subst e1678
  subst e1679
  show WL _ _ _ _ 563 [(4, vI i), (3, .ref o), (2, .ref m), (1, .ref x), (0, .ref 0)] [vI z1682] _ H1676
  refine wl_of hX hb cL_563 (rw_pop (pc' := 564) rfl rfl ?_)
  refine wl_of hX hb cL_564 (rw_aload_n (pc' := 565) (v := .ref m) rfl rfl rfl ?_)
  refine wl_of hX hb cL_565 (rw_aload_n (pc' := 566) (v := .ref 0) rfl rfl rfl ?_)
  refine wl_of hX hb cL_566 (rw_iload (pc' := 568) (z := i) rfl rfl ?_)
  refine wl_of hX hb cL_568 (rw_iconst (pc' := 569) rfl ?_)
  refine wl_of hX hb cL_569 (rw_iadd (pc' := 570) rfl ?_)
  have k1686 : H1676 0 ((i + 1).toNat) = H 0 ((i + 1).toNat) := (f1681 0 ((i + 1).toNat) _ g0 (wmem_s rfl))
  refine wl_of hX hb cL_570 (xa_I (so := 0) (pc' := 571) (a := 0) w1680 g0 (wsh_s _) (by omega) (wty_s _ _) (by omega) (by omega) rfl (fun b1684 b1685 => ?_))
  have k1687 : wKI H1676 m = wKI H m := (wKI_fr hW gm f1681 rfl)
  have k1688 : H1676 x 9 = H x 9 := (f1681 x 9 _ gx rfl)
  have k1689 : H1676 m 6 = H m 6 := (f1681 m 6 _ gm rfl)
  have k1690 : H1676 x 11 = H x 11 := (f1681 x 11 _ gx rfl)
  have k1691 : H1676 m 13 = H m 13 := (f1681 m 13 _ gm rfl)
  have k1692 : H1676 x 8 = H x 8 := (f1681 x 8 _ gx rfl)
  have k1693 : H1676 m 3 = H m 3 := (f1681 m 3 _ gm rfl)
  refine wl_of hX hb cL_571 (xc_V (pc' := 574) (r := m) (as := [vI (H1676 0 ((i + 1).toNat))]) (st := []) (lm_11_63) rfl rfl (Nat.le_of_ble_eq_true rfl) w1680 gm sh_42 (by decide) rfl (by decide) (s_225 w1680 gm ⟨by omega, by omega⟩ (by omega)) (fun R1694 T1695 H1696 p1697 => ?_))
  obtain ⟨e1698, w1700, f1701, z1703, e1699, b1704, p1702⟩ := p1697
  subst e1698
  subst e1699
  show WL _ _ _ _ 574 [(4, vI i), (3, .ref o), (2, .ref m), (1, .ref x), (0, .ref 0)] [vI z1703] _ H1696
  refine wl_of hX hb cL_574 (rw_pop (pc' := 575) rfl rfl ?_)
  refine wl_of hX hb cL_575 (rw_goto (p1 := 1653) (by decide) ?_)
  have k1705 : H1696 x 9 = H1676 x 9 := (f1701 x 9 _ gx rfl)
  have k1706 : H1696 m 6 = H1676 m 6 := (f1701 m 6 _ gm rfl)
  have k1707 : H1696 x 11 = H1676 x 11 := (f1701 x 11 _ gx rfl)
  have k1708 : H1696 m 13 = H1676 m 13 := (f1701 m 13 _ gm rfl)
  have k1709 : H1696 x 8 = H1676 x 8 := (f1701 x 8 _ gx rfl)
  have k1710 : H1696 m 3 = H1676 m 3 := (f1701 m 3 _ gm rfl)
  have h1711 : XI T H1696 x m := (XI_fr w1680 gx f1701 rfl (XI_fr hW gx f1681 rfl hXI))
  exact WL.loc hX (by simp) (next T H1696 ⟨⟨w1700, g0, gx, gm, go, by omega, by omega⟩, h1711, by omega, by omega⟩ (by omega) (by omega))
set_option maxHeartbeats 4000000 in
theorem wl_c10 {kt : Nat → Option mc_E} {CB SB : Nat} {X : mc_S → Prop} {T : wq_T} {H : wq_H} {Len x m o : Nat} {i : Int} (hX : wlX kt CB SB X) (hb : T.2.1 ≤ CB ∧ T.2.2.1 ≤ SB) (hI : wlJ Len x m o T H) (hL : Len ≤ 3072) (hi : 0 ≤ i ∧ i + 6 ≤ Len) (hb2 : T.2.1 + 20 ≤ CB ∧ T.2.2.1 + 500 ≤ SB)  (next : ∀ T' H', wlJ Len x m o T' H' → T'.2.1 ≤ T.2.1 + 20 → T'.2.2.1 ≤ T.2.2.1 + 500 → WL kt CB SB X 1653 (wlL i x m o) [] T' H') : WL kt CB SB X 578 (wlL i x m o) [] T H := by
  obtain ⟨⟨hW, g0, gx, gm, go, hK, hr⟩, hXI, hY1, hY2⟩ := hI
  refine wl_of hX hb cL_578 (rw_aload_n (pc' := 579) (v := .ref x) rfl rfl rfl ?_)
  refine wl_of hX hb cL_579 (rw_aload_n (pc' := 580) (v := .ref 0) rfl rfl rfl ?_)
  refine wl_of hX hb cL_580 (rw_iload (pc' := 582) (z := i) rfl rfl ?_)
  refine wl_of hX hb cL_582 (rw_iconst (pc' := 583) rfl ?_)
  refine wl_of hX hb cL_583 (rw_iadd (pc' := 584) rfl ?_)
  refine wl_of hX hb cL_584 (xa_I (so := 0) (pc' := 585) (a := 0) hW g0 (wsh_s _) (by omega) (wty_s _ _) (by omega) (by omega) rfl (fun b1712 b1713 => ?_))
  refine wl_of hX hb cL_585 (xc_V (pc' := 588) (r := x) (as := [vI (H 0 ((i + 1).toNat))]) (st := []) (lm_11_64) rfl rfl (Nat.le_of_ble_eq_true rfl) hW gx sh_1 (by decide) rfl (by decide) (s_66 hW gx ⟨by omega, by omega⟩) (fun R1714 T1715 H1716 p1717 => ?_))
  obtain ⟨e1718, w1720, f1721, z1722, e1719, b1723⟩ := p1717
  subst e1718
  subst e1719
  show WL _ _ _ _ 588 [(4, vI i), (3, .ref o), (2, .ref m), (1, .ref x), (0, .ref 0)] [vI z1722] _ H1716
  refine wl_of hX hb cL_588 (rw_pop (pc' := 589) rfl rfl ?_)
  refine wl_of hX hb cL_589 (rw_aload_n (pc' := 590) (v := .ref m) rfl rfl rfl ?_)
  refine wl_of hX hb cL_590 (rw_aload_n (pc' := 591) (v := .ref 0) rfl rfl rfl ?_)
  refine wl_of hX hb cL_591 (rw_iload (pc' := 593) (z := i) rfl rfl ?_)
  refine wl_of hX hb cL_593 (rw_iconst (pc' := 594) rfl ?_)
  refine wl_of hX hb cL_594 (rw_iadd (pc' := 595) rfl ?_)
  have k1726 : H1716 0 ((i + 1).toNat) = H 0 ((i + 1).toNat) := (f1721 0 ((i + 1).toNat) _ g0 (wmem_s rfl))
  refine wl_of hX hb cL_595 (xa_I (so := 0) (pc' := 596) (a := 0) w1720 g0 (wsh_s _) (by omega) (wty_s _ _) (by omega) (by omega) rfl (fun b1724 b1725 => ?_))
  have k1727 : wKI H1716 m = wKI H m := (wKI_fr hW gm f1721 rfl)
  have k1728 : H1716 x 9 = H x 9 := (f1721 x 9 _ gx rfl)
  have k1729 : H1716 m 6 = H m 6 := (f1721 m 6 _ gm rfl)
  have k1730 : H1716 x 11 = H x 11 := (f1721 x 11 _ gx rfl)
  have k1731 : H1716 m 13 = H m 13 := (f1721 m 13 _ gm rfl)
  have k1732 : H1716 x 8 = H x 8 := (f1721 x 8 _ gx rfl)
  have k1733 : H1716 m 3 = H m 3 := (f1721 m 3 _ gm rfl)
  refine wl_of hX hb cL_596 (xc_V (pc' := 599) (r := m) (as := [vI (H1716 0 ((i + 1).toNat))]) (st := []) (lm_11_67) rfl rfl (Nat.le_of_ble_eq_true rfl) w1720 gm sh_42 (by decide) rfl (by decide) (s_226 w1720 gm ⟨by omega, by omega⟩ (by omega)) (fun R1734 T1735 H1736 p1737 => ?_))
  obtain ⟨e1738, w1740, f1741, z1743, e1739, b1744, p1742⟩ := p1737
  subst e1738
  subst e1739
  show WL _ _ _ _ 599 [(4, vI i), (3, .ref o), (2, .ref m), (1, .ref x), (0, .ref 0)] [vI z1743] _ H1736
  refine wl_of hX hb cL_599 (rw_pop (pc' := 600) rfl rfl ?_)
  refine wl_of hX hb cL_600 (rw_goto (p1 := 1653) (by decide) ?_)
  have k1745 : H1736 x 9 = H1716 x 9 := (f1741 x 9 _ gx rfl)
  have k1746 : H1736 m 6 = H1716 m 6 := (f1741 m 6 _ gm rfl)
  have k1747 : H1736 x 11 = H1716 x 11 := (f1741 x 11 _ gx rfl)
  have k1748 : H1736 m 13 = H1716 m 13 := (f1741 m 13 _ gm rfl)
  have k1749 : H1736 x 8 = H1716 x 8 := (f1741 x 8 _ gx rfl)
  have k1750 : H1736 m 3 = H1716 m 3 := (f1741 m 3 _ gm rfl)
  have h1751 : XI T H1736 x m := (XI_fr w1720 gx f1741 rfl (XI_fr hW gx f1721 rfl hXI))
  exact WL.loc hX (by simp) (next T H1736 ⟨⟨w1740, g0, gx, gm, go, by omega, by omega⟩, h1751, by omega, by omega⟩ (by omega) (by omega))
set_option maxHeartbeats 4000000 in
theorem wl_c11 {kt : Nat → Option mc_E} {CB SB : Nat} {X : mc_S → Prop} {T : wq_T} {H : wq_H} {Len x m o : Nat} {i : Int} (hX : wlX kt CB SB X) (hb : T.2.1 ≤ CB ∧ T.2.2.1 ≤ SB) (hI : wlJ Len x m o T H) (hL : Len ≤ 3072) (hi : 0 ≤ i ∧ i + 6 ≤ Len) (hb2 : T.2.1 + 20 ≤ CB ∧ T.2.2.1 + 500 ≤ SB)  (next : ∀ T' H', wlJ Len x m o T' H' → T'.2.1 ≤ T.2.1 + 20 → T'.2.2.1 ≤ T.2.2.1 + 500 → WL kt CB SB X 1653 (wlL i x m o) [] T' H') : WL kt CB SB X 603 (wlL i x m o) [] T H := by
  obtain ⟨⟨hW, g0, gx, gm, go, hK, hr⟩, hXI, hY1, hY2⟩ := hI
  refine wl_of hX hb cL_603 (rw_aload_n (pc' := 604) (v := .ref x) rfl rfl rfl ?_)
  refine wl_of hX hb cL_604 (xc_V (pc' := 607) (r := x) (as := []) (st := []) (lm_11_68) rfl rfl (Nat.le_of_ble_eq_true rfl) hW gx sh_1 (by decide) rfl (by decide) (s_73 hW gx) (fun R1752 T1753 H1754 p1755 => ?_))
  obtain ⟨e1756, w1758, f1759, z1760, e1757, b1761⟩ := p1755
  subst e1756
  subst e1757
  show WL _ _ _ _ 607 [(4, vI i), (3, .ref o), (2, .ref m), (1, .ref x), (0, .ref 0)] [vI z1760] _ H1754
  refine wl_of hX hb cL_607 (rw_pop (pc' := 608) rfl rfl ?_)
  refine wl_of hX hb cL_608 (rw_aload_n (pc' := 609) (v := .ref m) rfl rfl rfl ?_)
  have k1762 : wKI H1754 m = wKI H m := (wKI_fr hW gm f1759 rfl)
  have k1763 : H1754 x 9 = H x 9 := (f1759 x 9 _ gx rfl)
  have k1764 : H1754 m 6 = H m 6 := (f1759 m 6 _ gm rfl)
  have k1765 : H1754 x 11 = H x 11 := (f1759 x 11 _ gx rfl)
  have k1766 : H1754 m 13 = H m 13 := (f1759 m 13 _ gm rfl)
  have k1767 : H1754 x 8 = H x 8 := (f1759 x 8 _ gx rfl)
  have k1768 : H1754 m 3 = H m 3 := (f1759 m 3 _ gm rfl)
  refine wl_of hX hb cL_609 (xc_V (pc' := 612) (r := m) (as := []) (st := []) (lm_11_71) rfl rfl (Nat.le_of_ble_eq_true rfl) w1758 gm sh_42 (by decide) rfl (by decide) (s_230 w1758 gm (by omega)) (fun R1769 T1770 H1771 p1772 => ?_))
  obtain ⟨e1773, w1775, f1776, z1778, e1774, b1779, p1777⟩ := p1772
  subst e1773
  subst e1774
  show WL _ _ _ _ 612 [(4, vI i), (3, .ref o), (2, .ref m), (1, .ref x), (0, .ref 0)] [vI z1778] _ H1771
  refine wl_of hX hb cL_612 (rw_pop (pc' := 613) rfl rfl ?_)
  refine wl_of hX hb cL_613 (rw_goto (p1 := 1653) (by decide) ?_)
  have k1780 : H1771 x 9 = H1754 x 9 := (f1776 x 9 _ gx rfl)
  have k1781 : H1771 m 6 = H1754 m 6 := (f1776 m 6 _ gm rfl)
  have k1782 : H1771 x 11 = H1754 x 11 := (f1776 x 11 _ gx rfl)
  have k1783 : H1771 m 13 = H1754 m 13 := (f1776 m 13 _ gm rfl)
  have k1784 : H1771 x 8 = H1754 x 8 := (f1776 x 8 _ gx rfl)
  have k1785 : H1771 m 3 = H1754 m 3 := (f1776 m 3 _ gm rfl)
  have h1786 : XI T H1771 x m := (XI_fr w1758 gx f1776 rfl (XI_fr hW gx f1759 rfl hXI))
  exact WL.loc hX (by simp) (next T H1771 ⟨⟨w1775, g0, gx, gm, go, by omega, by omega⟩, h1786, by omega, by omega⟩ (by omega) (by omega))
set_option maxHeartbeats 4000000 in
theorem wl_c12 {kt : Nat → Option mc_E} {CB SB : Nat} {X : mc_S → Prop} {T : wq_T} {H : wq_H} {Len x m o : Nat} {i : Int} (hX : wlX kt CB SB X) (hb : T.2.1 ≤ CB ∧ T.2.2.1 ≤ SB) (hI : wlJ Len x m o T H) (hL : Len ≤ 3072) (hi : 0 ≤ i ∧ i + 6 ≤ Len) (hb2 : T.2.1 + 20 ≤ CB ∧ T.2.2.1 + 500 ≤ SB)  (next : ∀ T' H', wlJ Len x m o T' H' → T'.2.1 ≤ T.2.1 + 20 → T'.2.2.1 ≤ T.2.2.1 + 500 → WL kt CB SB X 1653 (wlL i x m o) [] T' H') : WL kt CB SB X 616 (wlL i x m o) [] T H := by
  obtain ⟨⟨hW, g0, gx, gm, go, hK, hr⟩, hXI, hY1, hY2⟩ := hI
  refine wl_of hX hb cL_616 (rw_aload_n (pc' := 617) (v := .ref x) rfl rfl rfl ?_)
  refine wl_of hX hb cL_617 (xc_V (pc' := 620) (r := x) (as := []) (st := []) (lm_11_72) rfl rfl (Nat.le_of_ble_eq_true rfl) hW gx sh_1 (by decide) rfl (by decide) (s_77 hW gx) (fun R1787 T1788 H1789 p1790 => ?_))
  obtain ⟨e1791, w1793, f1794, z1795, e1792, b1796⟩ := p1790
  subst e1791
  subst e1792
  show WL _ _ _ _ 620 [(4, vI i), (3, .ref o), (2, .ref m), (1, .ref x), (0, .ref 0)] [vI z1795] _ H1789
  refine wl_of hX hb cL_620 (rw_pop (pc' := 621) rfl rfl ?_)
  refine wl_of hX hb cL_621 (rw_aload_n (pc' := 622) (v := .ref m) rfl rfl rfl ?_)
  have k1797 : wKI H1789 m = wKI H m := (wKI_fr hW gm f1794 rfl)
  have k1798 : H1789 x 9 = H x 9 := (f1794 x 9 _ gx rfl)
  have k1799 : H1789 m 6 = H m 6 := (f1794 m 6 _ gm rfl)
  have k1800 : H1789 x 11 = H x 11 := (f1794 x 11 _ gx rfl)
  have k1801 : H1789 m 13 = H m 13 := (f1794 m 13 _ gm rfl)
  have k1802 : H1789 x 8 = H x 8 := (f1794 x 8 _ gx rfl)
  have k1803 : H1789 m 3 = H m 3 := (f1794 m 3 _ gm rfl)
  refine wl_of hX hb cL_622 (xc_V (pc' := 625) (r := m) (as := []) (st := []) (lm_11_75) rfl rfl (Nat.le_of_ble_eq_true rfl) w1793 gm sh_42 (by decide) rfl (by decide) (s_236 w1793 gm (by omega)) (fun R1804 T1805 H1806 p1807 => ?_))
  obtain ⟨e1808, w1810, f1811, z1813, e1809, b1814, p1812⟩ := p1807
  subst e1808
  subst e1809
  show WL _ _ _ _ 625 [(4, vI i), (3, .ref o), (2, .ref m), (1, .ref x), (0, .ref 0)] [vI z1813] _ H1806
  refine wl_of hX hb cL_625 (rw_pop (pc' := 626) rfl rfl ?_)
  refine wl_of hX hb cL_626 (rw_goto (p1 := 1653) (by decide) ?_)
  have k1815 : H1806 x 9 = H1789 x 9 := (f1811 x 9 _ gx rfl)
  have k1816 : H1806 m 6 = H1789 m 6 := (f1811 m 6 _ gm rfl)
  have k1817 : H1806 x 11 = H1789 x 11 := (f1811 x 11 _ gx rfl)
  have k1818 : H1806 m 13 = H1789 m 13 := (f1811 m 13 _ gm rfl)
  have k1819 : H1806 x 8 = H1789 x 8 := (f1811 x 8 _ gx rfl)
  have k1820 : H1806 m 3 = H1789 m 3 := (f1811 m 3 _ gm rfl)
  have h1821 : XI T H1806 x m := (XI_fr w1793 gx f1811 rfl (XI_fr hW gx f1794 rfl hXI))
  exact WL.loc hX (by simp) (next T H1806 ⟨⟨w1810, g0, gx, gm, go, by omega, by omega⟩, h1821, by omega, by omega⟩ (by omega) (by omega))
set_option maxHeartbeats 4000000 in
theorem wl_c13 {kt : Nat → Option mc_E} {CB SB : Nat} {X : mc_S → Prop} {T : wq_T} {H : wq_H} {Len x m o : Nat} {i : Int} (hX : wlX kt CB SB X) (hb : T.2.1 ≤ CB ∧ T.2.2.1 ≤ SB) (hI : wlJ Len x m o T H) (hL : Len ≤ 3072) (hi : 0 ≤ i ∧ i + 6 ≤ Len) (hb2 : T.2.1 + 20 ≤ CB ∧ T.2.2.1 + 500 ≤ SB)  (next : ∀ T' H', wlJ Len x m o T' H' → T'.2.1 ≤ T.2.1 + 20 → T'.2.2.1 ≤ T.2.2.1 + 500 → WL kt CB SB X 1653 (wlL i x m o) [] T' H') : WL kt CB SB X 629 (wlL i x m o) [] T H := by
  obtain ⟨⟨hW, g0, gx, gm, go, hK, hr⟩, hXI, hY1, hY2⟩ := hI
  refine wl_of hX hb cL_629 (rw_aload_n (pc' := 630) (v := .ref x) rfl rfl rfl ?_)
  refine wl_of hX hb cL_630 (xc_V (pc' := 633) (r := x) (as := []) (st := []) (lm_11_76) rfl rfl (Nat.le_of_ble_eq_true rfl) hW gx sh_1 (by decide) rfl (by decide) (s_78 hW gx) (fun R1822 T1823 H1824 p1825 => ?_))
  obtain ⟨e1826, w1828, f1829, z1830, e1827, b1831⟩ := p1825
  subst e1826
  subst e1827
  show WL _ _ _ _ 633 [(4, vI i), (3, .ref o), (2, .ref m), (1, .ref x), (0, .ref 0)] [vI z1830] _ H1824
  refine wl_of hX hb cL_633 (rw_pop (pc' := 634) rfl rfl ?_)
  refine wl_of hX hb cL_634 (rw_aload_n (pc' := 635) (v := .ref m) rfl rfl rfl ?_)
  have k1832 : wKI H1824 m = wKI H m := (wKI_fr hW gm f1829 rfl)
  have k1833 : H1824 x 9 = H x 9 := (f1829 x 9 _ gx rfl)
  have k1834 : H1824 m 6 = H m 6 := (f1829 m 6 _ gm rfl)
  have k1835 : H1824 x 11 = H x 11 := (f1829 x 11 _ gx rfl)
  have k1836 : H1824 m 13 = H m 13 := (f1829 m 13 _ gm rfl)
  have k1837 : H1824 x 8 = H x 8 := (f1829 x 8 _ gx rfl)
  have k1838 : H1824 m 3 = H m 3 := (f1829 m 3 _ gm rfl)
  refine wl_of hX hb cL_635 (xc_V (pc' := 638) (r := m) (as := []) (st := []) (lm_11_79) rfl rfl (Nat.le_of_ble_eq_true rfl) w1828 gm sh_42 (by decide) rfl (by decide) (s_237 w1828 gm (by omega)) (fun R1839 T1840 H1841 p1842 => ?_))
  obtain ⟨e1843, w1845, f1846, z1848, e1844, b1849, p1847⟩ := p1842
  subst e1843
  subst e1844
  show WL _ _ _ _ 638 [(4, vI i), (3, .ref o), (2, .ref m), (1, .ref x), (0, .ref 0)] [vI z1848] _ H1841
  refine wl_of hX hb cL_638 (rw_pop (pc' := 639) rfl rfl ?_)
  refine wl_of hX hb cL_639 (rw_goto (p1 := 1653) (by decide) ?_)
  have k1850 : H1841 x 9 = H1824 x 9 := (f1846 x 9 _ gx rfl)
  have k1851 : H1841 m 6 = H1824 m 6 := (f1846 m 6 _ gm rfl)
  have k1852 : H1841 x 11 = H1824 x 11 := (f1846 x 11 _ gx rfl)
  have k1853 : H1841 m 13 = H1824 m 13 := (f1846 m 13 _ gm rfl)
  have k1854 : H1841 x 8 = H1824 x 8 := (f1846 x 8 _ gx rfl)
  have k1855 : H1841 m 3 = H1824 m 3 := (f1846 m 3 _ gm rfl)
  have h1856 : XI T H1841 x m := (XI_fr w1828 gx f1846 rfl (XI_fr hW gx f1829 rfl hXI))
  exact WL.loc hX (by simp) (next T H1841 ⟨⟨w1845, g0, gx, gm, go, by omega, by omega⟩, h1856, by omega, by omega⟩ (by omega) (by omega))
set_option maxHeartbeats 4000000 in
theorem wl_c14 {kt : Nat → Option mc_E} {CB SB : Nat} {X : mc_S → Prop} {T : wq_T} {H : wq_H} {Len x m o : Nat} {i : Int} (hX : wlX kt CB SB X) (hb : T.2.1 ≤ CB ∧ T.2.2.1 ≤ SB) (hI : wlJ Len x m o T H) (hL : Len ≤ 3072) (hi : 0 ≤ i ∧ i + 6 ≤ Len) (hb2 : T.2.1 + 20 ≤ CB ∧ T.2.2.1 + 500 ≤ SB)  (next : ∀ T' H', wlJ Len x m o T' H' → T'.2.1 ≤ T.2.1 + 20 → T'.2.2.1 ≤ T.2.2.1 + 500 → WL kt CB SB X 1653 (wlL i x m o) [] T' H') : WL kt CB SB X 642 (wlL i x m o) [] T H := by
  obtain ⟨⟨hW, g0, gx, gm, go, hK, hr⟩, hXI, hY1, hY2⟩ := hI
  refine wl_of hX hb cL_642 (rw_aload_n (pc' := 643) (v := .ref x) rfl rfl rfl ?_)
  refine wl_of hX hb cL_643 (xc_V (pc' := 646) (r := x) (as := []) (st := []) (lm_11_80) rfl rfl (Nat.le_of_ble_eq_true rfl) hW gx sh_1 (by decide) rfl (by decide) (s_82 hW gx) (fun R1857 T1858 H1859 p1860 => ?_))
  obtain ⟨e1861, w1863, f1864, z1865, e1862, b1866⟩ := p1860
  subst e1861
  subst e1862
  show WL _ _ _ _ 646 [(4, vI i), (3, .ref o), (2, .ref m), (1, .ref x), (0, .ref 0)] [vI z1865] _ H1859
  refine wl_of hX hb cL_646 (rw_pop (pc' := 647) rfl rfl ?_)
  refine wl_of hX hb cL_647 (rw_aload_n (pc' := 648) (v := .ref m) rfl rfl rfl ?_)
  have k1867 : wKI H1859 m = wKI H m := (wKI_fr hW gm f1864 rfl)
  have k1868 : H1859 x 9 = H x 9 := (f1864 x 9 _ gx rfl)
  have k1869 : H1859 m 6 = H m 6 := (f1864 m 6 _ gm rfl)
  have k1870 : H1859 x 11 = H x 11 := (f1864 x 11 _ gx rfl)
  have k1871 : H1859 m 13 = H m 13 := (f1864 m 13 _ gm rfl)
  have k1872 : H1859 x 8 = H x 8 := (f1864 x 8 _ gx rfl)
  have k1873 : H1859 m 3 = H m 3 := (f1864 m 3 _ gm rfl)
  refine wl_of hX hb cL_648 (xc_V (pc' := 651) (r := m) (as := []) (st := []) (lm_11_83) rfl rfl (Nat.le_of_ble_eq_true rfl) w1863 gm sh_42 (by decide) rfl (by decide) (s_240 w1863 gm (by omega)) (fun R1874 T1875 H1876 p1877 => ?_))
  obtain ⟨e1878, w1880, f1881, z1883, e1879, b1884, p1882⟩ := p1877
  subst e1878
  subst e1879
  show WL _ _ _ _ 651 [(4, vI i), (3, .ref o), (2, .ref m), (1, .ref x), (0, .ref 0)] [vI z1883] _ H1876
  refine wl_of hX hb cL_651 (rw_pop (pc' := 652) rfl rfl ?_)
  refine wl_of hX hb cL_652 (rw_goto (p1 := 1653) (by decide) ?_)
  have k1885 : H1876 x 9 = H1859 x 9 := (f1881 x 9 _ gx rfl)
  have k1886 : H1876 m 6 = H1859 m 6 := (f1881 m 6 _ gm rfl)
  have k1887 : H1876 x 11 = H1859 x 11 := (f1881 x 11 _ gx rfl)
  have k1888 : H1876 m 13 = H1859 m 13 := (f1881 m 13 _ gm rfl)
  have k1889 : H1876 x 8 = H1859 x 8 := (f1881 x 8 _ gx rfl)
  have k1890 : H1876 m 3 = H1859 m 3 := (f1881 m 3 _ gm rfl)
  have h1891 : XI T H1876 x m := (XI_fr w1863 gx f1881 rfl (XI_fr hW gx f1864 rfl hXI))
  exact WL.loc hX (by simp) (next T H1876 ⟨⟨w1880, g0, gx, gm, go, by omega, by omega⟩, h1891, by omega, by omega⟩ (by omega) (by omega))
set_option maxHeartbeats 4000000 in
theorem wl_c15 {kt : Nat → Option mc_E} {CB SB : Nat} {X : mc_S → Prop} {T : wq_T} {H : wq_H} {Len x m o : Nat} {i : Int} (hX : wlX kt CB SB X) (hb : T.2.1 ≤ CB ∧ T.2.2.1 ≤ SB) (hI : wlJ Len x m o T H) (hL : Len ≤ 3072) (hi : 0 ≤ i ∧ i + 6 ≤ Len) (hb2 : T.2.1 + 20 ≤ CB ∧ T.2.2.1 + 500 ≤ SB)  (next : ∀ T' H', wlJ Len x m o T' H' → T'.2.1 ≤ T.2.1 + 20 → T'.2.2.1 ≤ T.2.2.1 + 500 → WL kt CB SB X 1653 (wlL i x m o) [] T' H') : WL kt CB SB X 655 (wlL i x m o) [] T H := by
  obtain ⟨⟨hW, g0, gx, gm, go, hK, hr⟩, hXI, hY1, hY2⟩ := hI
  refine wl_of hX hb cL_655 (rw_aload_n (pc' := 656) (v := .ref x) rfl rfl rfl ?_)
  refine wl_of hX hb cL_656 (xc_V (pc' := 659) (r := x) (as := []) (st := []) (lm_11_84) rfl rfl (Nat.le_of_ble_eq_true rfl) hW gx sh_1 (by decide) rfl (by decide) (s_92 hW gx) (fun R1892 T1893 H1894 p1895 => ?_))
  obtain ⟨e1896, w1898, f1899, z1900, e1897, b1901⟩ := p1895
  subst e1896
  subst e1897
  show WL _ _ _ _ 659 [(4, vI i), (3, .ref o), (2, .ref m), (1, .ref x), (0, .ref 0)] [vI z1900] _ H1894
  refine wl_of hX hb cL_659 (rw_pop (pc' := 660) rfl rfl ?_)
  refine wl_of hX hb cL_660 (rw_aload_n (pc' := 661) (v := .ref m) rfl rfl rfl ?_)
  have k1902 : wKI H1894 m = wKI H m := (wKI_fr hW gm f1899 rfl)
  have k1903 : H1894 x 9 = H x 9 := (f1899 x 9 _ gx rfl)
  have k1904 : H1894 m 6 = H m 6 := (f1899 m 6 _ gm rfl)
  have k1905 : H1894 x 11 = H x 11 := (f1899 x 11 _ gx rfl)
  have k1906 : H1894 m 13 = H m 13 := (f1899 m 13 _ gm rfl)
  have k1907 : H1894 x 8 = H x 8 := (f1899 x 8 _ gx rfl)
  have k1908 : H1894 m 3 = H m 3 := (f1899 m 3 _ gm rfl)
  refine wl_of hX hb cL_661 (xc_V (pc' := 664) (r := m) (as := []) (st := []) (lm_11_87) rfl rfl (Nat.le_of_ble_eq_true rfl) w1898 gm sh_42 (by decide) rfl (by decide) (s_244 w1898 gm (by omega)) (fun R1909 T1910 H1911 p1912 => ?_))
  obtain ⟨e1913, w1915, f1916, z1918, e1914, b1919, p1917⟩ := p1912
  subst e1913
  subst e1914
  show WL _ _ _ _ 664 [(4, vI i), (3, .ref o), (2, .ref m), (1, .ref x), (0, .ref 0)] [vI z1918] _ H1911
  refine wl_of hX hb cL_664 (rw_pop (pc' := 665) rfl rfl ?_)
  refine wl_of hX hb cL_665 (rw_goto (p1 := 1653) (by decide) ?_)
  have k1920 : H1911 x 9 = H1894 x 9 := (f1916 x 9 _ gx rfl)
  have k1921 : H1911 m 6 = H1894 m 6 := (f1916 m 6 _ gm rfl)
  have k1922 : H1911 x 11 = H1894 x 11 := (f1916 x 11 _ gx rfl)
  have k1923 : H1911 m 13 = H1894 m 13 := (f1916 m 13 _ gm rfl)
  have k1924 : H1911 x 8 = H1894 x 8 := (f1916 x 8 _ gx rfl)
  have k1925 : H1911 m 3 = H1894 m 3 := (f1916 m 3 _ gm rfl)
  have h1926 : XI T H1911 x m := (XI_fr w1898 gx f1916 rfl (XI_fr hW gx f1899 rfl hXI))
  exact WL.loc hX (by simp) (next T H1911 ⟨⟨w1915, g0, gx, gm, go, by omega, by omega⟩, h1926, by omega, by omega⟩ (by omega) (by omega))
set_option maxHeartbeats 4000000 in
theorem wl_c16 {kt : Nat → Option mc_E} {CB SB : Nat} {X : mc_S → Prop} {T : wq_T} {H : wq_H} {Len x m o : Nat} {i : Int} (hX : wlX kt CB SB X) (hb : T.2.1 ≤ CB ∧ T.2.2.1 ≤ SB) (hI : wlJ Len x m o T H) (hL : Len ≤ 3072) (hi : 0 ≤ i ∧ i + 6 ≤ Len) (hb2 : T.2.1 + 20 ≤ CB ∧ T.2.2.1 + 500 ≤ SB)  (next : ∀ T' H', wlJ Len x m o T' H' → T'.2.1 ≤ T.2.1 + 20 → T'.2.2.1 ≤ T.2.2.1 + 500 → WL kt CB SB X 1653 (wlL i x m o) [] T' H') : WL kt CB SB X 668 (wlL i x m o) [] T H := by
  obtain ⟨⟨hW, g0, gx, gm, go, hK, hr⟩, hXI, hY1, hY2⟩ := hI
  refine wl_of hX hb cL_668 (rw_aload_n (pc' := 669) (v := .ref x) rfl rfl rfl ?_)
  refine wl_of hX hb cL_669 (rw_aload_n (pc' := 670) (v := .ref 0) rfl rfl rfl ?_)
  refine wl_of hX hb cL_670 (rw_iload (pc' := 672) (z := i) rfl rfl ?_)
  refine wl_of hX hb cL_672 (rw_iconst (pc' := 673) rfl ?_)
  refine wl_of hX hb cL_673 (rw_iadd (pc' := 674) rfl ?_)
  refine wl_of hX hb cL_674 (xa_I (so := 0) (pc' := 675) (a := 0) hW g0 (wsh_s _) (by omega) (wty_s _ _) (by omega) (by omega) rfl (fun b1927 b1928 => ?_))
  refine wl_of hX hb cL_675 (rw_aload_n (pc' := 676) (v := .ref 0) rfl rfl rfl ?_)
  refine wl_of hX hb cL_676 (rw_iload (pc' := 678) (z := i) rfl rfl ?_)
  refine wl_of hX hb cL_678 (rw_iconst (pc' := 679) rfl ?_)
  refine wl_of hX hb cL_679 (rw_iadd (pc' := 680) rfl ?_)
  refine wl_of hX hb cL_680 (xa_I (so := 0) (pc' := 681) (a := 0) hW g0 (wsh_s _) (by omega) (wty_s _ _) (by omega) (by omega) rfl (fun b1929 b1930 => ?_))
  refine wl_of hX hb cL_681 (xc_V (pc' := 684) (r := x) (as := [vI (H 0 ((i + 1).toNat)), vI (H 0 ((i + 2).toNat))]) (st := []) (lm_11_88) rfl rfl (Nat.le_of_ble_eq_true rfl) hW gx sh_1 (by decide) rfl (by decide) (s_93 hW gx ⟨by omega, by omega⟩ ⟨by omega, by omega⟩) (fun R1931 T1932 H1933 p1934 => ?_))
  obtain ⟨e1935, w1937, f1938, z1939, e1936, b1940⟩ := p1934
  subst e1935
  subst e1936
  show WL _ _ _ _ 684 [(4, vI i), (3, .ref o), (2, .ref m), (1, .ref x), (0, .ref 0)] [vI z1939] _ H1933
  refine wl_of hX hb cL_684 (rw_pop (pc' := 685) rfl rfl ?_)
  refine wl_of hX hb cL_685 (rw_aload_n (pc' := 686) (v := .ref m) rfl rfl rfl ?_)
  refine wl_of hX hb cL_686 (rw_aload_n (pc' := 687) (v := .ref 0) rfl rfl rfl ?_)
  refine wl_of hX hb cL_687 (rw_iload (pc' := 689) (z := i) rfl rfl ?_)
  refine wl_of hX hb cL_689 (rw_iconst (pc' := 690) rfl ?_)
  refine wl_of hX hb cL_690 (rw_iadd (pc' := 691) rfl ?_)
  have k1943 : H1933 0 ((i + 1).toNat) = H 0 ((i + 1).toNat) := (f1938 0 ((i + 1).toNat) _ g0 (wmem_s rfl))
  refine wl_of hX hb cL_691 (xa_I (so := 0) (pc' := 692) (a := 0) w1937 g0 (wsh_s _) (by omega) (wty_s _ _) (by omega) (by omega) rfl (fun b1941 b1942 => ?_))
  refine wl_of hX hb cL_692 (rw_aload_n (pc' := 693) (v := .ref 0) rfl rfl rfl ?_)
  refine wl_of hX hb cL_693 (rw_iload (pc' := 695) (z := i) rfl rfl ?_)
  refine wl_of hX hb cL_695 (rw_iconst (pc' := 696) rfl ?_)
  refine wl_of hX hb cL_696 (rw_iadd (pc' := 697) rfl ?_)
  have k1946 : H1933 0 ((i + 2).toNat) = H 0 ((i + 2).toNat) := (f1938 0 ((i + 2).toNat) _ g0 (wmem_s rfl))
  refine wl_of hX hb cL_697 (xa_I (so := 0) (pc' := 698) (a := 0) w1937 g0 (wsh_s _) (by omega) (wty_s _ _) (by omega) (by omega) rfl (fun b1944 b1945 => ?_))
  have k1947 : wKI H1933 m = wKI H m := (wKI_fr hW gm f1938 rfl)
  have k1948 : H1933 x 9 = H x 9 := (f1938 x 9 _ gx rfl)
  have k1949 : H1933 m 6 = H m 6 := (f1938 m 6 _ gm rfl)
  have k1950 : H1933 x 11 = H x 11 := (f1938 x 11 _ gx rfl)
  have k1951 : H1933 m 13 = H m 13 := (f1938 m 13 _ gm rfl)
  have k1952 : H1933 x 8 = H x 8 := (f1938 x 8 _ gx rfl)
  have k1953 : H1933 m 3 = H m 3 := (f1938 m 3 _ gm rfl)
  refine wl_of hX hb cL_698 (xc_V (pc' := 701) (r := m) (as := [vI (H1933 0 ((i + 1).toNat)), vI (H1933 0 ((i + 2).toNat))]) (st := []) (lm_11_92) rfl rfl (Nat.le_of_ble_eq_true rfl) w1937 gm sh_42 (by decide) rfl (by decide) (s_245 w1937 gm ⟨by omega, by omega⟩ ⟨by omega, by omega⟩ (by omega)) (fun R1954 T1955 H1956 p1957 => ?_))
  obtain ⟨e1958, w1960, f1961, z1963, e1959, b1964, p1962⟩ := p1957
  subst e1958
  subst e1959
  show WL _ _ _ _ 701 [(4, vI i), (3, .ref o), (2, .ref m), (1, .ref x), (0, .ref 0)] [vI z1963] _ H1956
  refine wl_of hX hb cL_701 (rw_pop (pc' := 702) rfl rfl ?_)
  refine wl_of hX hb cL_702 (rw_goto (p1 := 1653) (by decide) ?_)
  have k1965 : H1956 x 9 = H1933 x 9 := (f1961 x 9 _ gx rfl)
  have k1966 : H1956 m 6 = H1933 m 6 := (f1961 m 6 _ gm rfl)
  have k1967 : H1956 x 11 = H1933 x 11 := (f1961 x 11 _ gx rfl)
  have k1968 : H1956 m 13 = H1933 m 13 := (f1961 m 13 _ gm rfl)
  have k1969 : H1956 x 8 = H1933 x 8 := (f1961 x 8 _ gx rfl)
  have k1970 : H1956 m 3 = H1933 m 3 := (f1961 m 3 _ gm rfl)
  have h1971 : XI T H1956 x m := (XI_fr w1937 gx f1961 rfl (XI_fr hW gx f1938 rfl hXI))
  exact WL.loc hX (by simp) (next T H1956 ⟨⟨w1960, g0, gx, gm, go, by omega, by omega⟩, h1971, by omega, by omega⟩ (by omega) (by omega))
set_option maxHeartbeats 4000000 in
theorem wl_c17 {kt : Nat → Option mc_E} {CB SB : Nat} {X : mc_S → Prop} {T : wq_T} {H : wq_H} {Len x m o : Nat} {i : Int} (hX : wlX kt CB SB X) (hb : T.2.1 ≤ CB ∧ T.2.2.1 ≤ SB) (hI : wlJ Len x m o T H) (hL : Len ≤ 3072) (hi : 0 ≤ i ∧ i + 6 ≤ Len) (hb2 : T.2.1 + 20 ≤ CB ∧ T.2.2.1 + 500 ≤ SB)  (next : ∀ T' H', wlJ Len x m o T' H' → T'.2.1 ≤ T.2.1 + 20 → T'.2.2.1 ≤ T.2.2.1 + 500 → WL kt CB SB X 1653 (wlL i x m o) [] T' H') : WL kt CB SB X 705 (wlL i x m o) [] T H := by
  obtain ⟨⟨hW, g0, gx, gm, go, hK, hr⟩, hXI, hY1, hY2⟩ := hI
  refine wl_of hX hb cL_705 (rw_aload_n (pc' := 706) (v := .ref x) rfl rfl rfl ?_)
  refine wl_of hX hb cL_706 (xc_V (pc' := 709) (r := x) (as := []) (st := []) (lm_11_93) rfl rfl (Nat.le_of_ble_eq_true rfl) hW gx sh_1 (by decide) rfl (by decide) (s_97 hW gx) (fun R1972 T1973 H1974 p1975 => ?_))
  obtain ⟨e1976, w1978, f1979, z1980, e1977, b1981⟩ := p1975
  subst e1976
  subst e1977
  show WL _ _ _ _ 709 [(4, vI i), (3, .ref o), (2, .ref m), (1, .ref x), (0, .ref 0)] [vL z1980] _ H1974
  refine wl_of hX hb cL_709 (rw_pop2 (pc' := 710) rfl rfl ?_)
  refine wl_of hX hb cL_710 (rw_aload_n (pc' := 711) (v := .ref m) rfl rfl rfl ?_)
  have k1982 : wKI H1974 m = wKI H m := (wKI_fr hW gm f1979 rfl)
  have k1983 : H1974 x 9 = H x 9 := (f1979 x 9 _ gx rfl)
  have k1984 : H1974 m 6 = H m 6 := (f1979 m 6 _ gm rfl)
  have k1985 : H1974 x 11 = H x 11 := (f1979 x 11 _ gx rfl)
  have k1986 : H1974 m 13 = H m 13 := (f1979 m 13 _ gm rfl)
  have k1987 : H1974 x 8 = H x 8 := (f1979 x 8 _ gx rfl)
  have k1988 : H1974 m 3 = H m 3 := (f1979 m 3 _ gm rfl)
  refine wl_of hX hb cL_711 (xc_V (pc' := 714) (r := m) (as := []) (st := []) (lm_11_96) rfl rfl (Nat.le_of_ble_eq_true rfl) w1978 gm sh_42 (by decide) rfl (by decide) (s_246 w1978 gm (by omega)) (fun R1989 T1990 H1991 p1992 => ?_))
  obtain ⟨e1993, w1995, f1996, z1998, e1994, b1999, p1997⟩ := p1992
  subst e1993
  subst e1994
  show WL _ _ _ _ 714 [(4, vI i), (3, .ref o), (2, .ref m), (1, .ref x), (0, .ref 0)] [vL z1998] _ H1991
  refine wl_of hX hb cL_714 (rw_pop2 (pc' := 715) rfl rfl ?_)
  refine wl_of hX hb cL_715 (rw_goto (p1 := 1653) (by decide) ?_)
  have k2000 : H1991 x 9 = H1974 x 9 := (f1996 x 9 _ gx rfl)
  have k2001 : H1991 m 6 = H1974 m 6 := (f1996 m 6 _ gm rfl)
  have k2002 : H1991 x 11 = H1974 x 11 := (f1996 x 11 _ gx rfl)
  have k2003 : H1991 m 13 = H1974 m 13 := (f1996 m 13 _ gm rfl)
  have k2004 : H1991 x 8 = H1974 x 8 := (f1996 x 8 _ gx rfl)
  have k2005 : H1991 m 3 = H1974 m 3 := (f1996 m 3 _ gm rfl)
  have h2006 : XI T H1991 x m := (XI_fr w1978 gx f1996 rfl (XI_fr hW gx f1979 rfl hXI))
  exact WL.loc hX (by simp) (next T H1991 ⟨⟨w1995, g0, gx, gm, go, by omega, by omega⟩, h2006, by omega, by omega⟩ (by omega) (by omega))
set_option maxHeartbeats 4000000 in
theorem wl_c18 {kt : Nat → Option mc_E} {CB SB : Nat} {X : mc_S → Prop} {T : wq_T} {H : wq_H} {Len x m o : Nat} {i : Int} (hX : wlX kt CB SB X) (hb : T.2.1 ≤ CB ∧ T.2.2.1 ≤ SB) (hI : wlJ Len x m o T H) (hL : Len ≤ 3072) (hi : 0 ≤ i ∧ i + 6 ≤ Len) (hb2 : T.2.1 + 20 ≤ CB ∧ T.2.2.1 + 500 ≤ SB)  (next : ∀ T' H', wlJ Len x m o T' H' → T'.2.1 ≤ T.2.1 + 20 → T'.2.2.1 ≤ T.2.2.1 + 500 → WL kt CB SB X 1653 (wlL i x m o) [] T' H') : WL kt CB SB X 718 (wlL i x m o) [] T H := by
  obtain ⟨⟨hW, g0, gx, gm, go, hK, hr⟩, hXI, hY1, hY2⟩ := hI
  refine wl_of hX hb cL_718 (rw_aload_n (pc' := 719) (v := .ref x) rfl rfl rfl ?_)
  refine wl_of hX hb cL_719 (rw_aload_n (pc' := 720) (v := .ref 0) rfl rfl rfl ?_)
  refine wl_of hX hb cL_720 (rw_iload (pc' := 722) (z := i) rfl rfl ?_)
  refine wl_of hX hb cL_722 (rw_iconst (pc' := 723) rfl ?_)
  refine wl_of hX hb cL_723 (rw_iadd (pc' := 724) rfl ?_)
  refine wl_of hX hb cL_724 (xa_I (so := 0) (pc' := 725) (a := 0) hW g0 (wsh_s _) (by omega) (wty_s _ _) (by omega) (by omega) rfl (fun b2007 b2008 => ?_))
  refine wl_of hX hb cL_725 (rw_aload_n (pc' := 726) (v := .ref 0) rfl rfl rfl ?_)
  refine wl_of hX hb cL_726 (rw_iload (pc' := 728) (z := i) rfl rfl ?_)
  refine wl_of hX hb cL_728 (rw_iconst (pc' := 729) rfl ?_)
  refine wl_of hX hb cL_729 (rw_iadd (pc' := 730) rfl ?_)
  refine wl_of hX hb cL_730 (xa_I (so := 0) (pc' := 731) (a := 0) hW g0 (wsh_s _) (by omega) (wty_s _ _) (by omega) (by omega) rfl (fun b2009 b2010 => ?_))
  refine wl_of hX hb cL_731 (xc_V (pc' := 734) (r := x) (as := [vI (H 0 ((i + 1).toNat)), vI (H 0 ((i + 2).toNat))]) (st := []) (lm_11_97) rfl rfl (Nat.le_of_ble_eq_true rfl) hW gx sh_1 (by decide) rfl (by decide) (s_98 hW gx ⟨by omega, by omega⟩ ⟨by omega, by omega⟩) (fun R2011 T2012 H2013 p2014 => ?_))
  obtain ⟨e2015, w2017, f2018, z2019, e2016, b2020⟩ := p2014
  subst e2015
  subst e2016
  show WL _ _ _ _ 734 [(4, vI i), (3, .ref o), (2, .ref m), (1, .ref x), (0, .ref 0)] [vI z2019] _ H2013
  refine wl_of hX hb cL_734 (rw_pop (pc' := 735) rfl rfl ?_)
  refine wl_of hX hb cL_735 (rw_aload_n (pc' := 736) (v := .ref m) rfl rfl rfl ?_)
  refine wl_of hX hb cL_736 (rw_aload_n (pc' := 737) (v := .ref 0) rfl rfl rfl ?_)
  refine wl_of hX hb cL_737 (rw_iload (pc' := 739) (z := i) rfl rfl ?_)
  refine wl_of hX hb cL_739 (rw_iconst (pc' := 740) rfl ?_)
  refine wl_of hX hb cL_740 (rw_iadd (pc' := 741) rfl ?_)
  have k2023 : H2013 0 ((i + 1).toNat) = H 0 ((i + 1).toNat) := (f2018 0 ((i + 1).toNat) _ g0 (wmem_s rfl))
  refine wl_of hX hb cL_741 (xa_I (so := 0) (pc' := 742) (a := 0) w2017 g0 (wsh_s _) (by omega) (wty_s _ _) (by omega) (by omega) rfl (fun b2021 b2022 => ?_))
  refine wl_of hX hb cL_742 (rw_aload_n (pc' := 743) (v := .ref 0) rfl rfl rfl ?_)
  refine wl_of hX hb cL_743 (rw_iload (pc' := 745) (z := i) rfl rfl ?_)
  refine wl_of hX hb cL_745 (rw_iconst (pc' := 746) rfl ?_)
  refine wl_of hX hb cL_746 (rw_iadd (pc' := 747) rfl ?_)
  have k2026 : H2013 0 ((i + 2).toNat) = H 0 ((i + 2).toNat) := (f2018 0 ((i + 2).toNat) _ g0 (wmem_s rfl))
  refine wl_of hX hb cL_747 (xa_I (so := 0) (pc' := 748) (a := 0) w2017 g0 (wsh_s _) (by omega) (wty_s _ _) (by omega) (by omega) rfl (fun b2024 b2025 => ?_))
  have k2027 : wKI H2013 m = wKI H m := (wKI_fr hW gm f2018 rfl)
  have k2028 : H2013 x 9 = H x 9 := (f2018 x 9 _ gx rfl)
  have k2029 : H2013 m 6 = H m 6 := (f2018 m 6 _ gm rfl)
  have k2030 : H2013 x 11 = H x 11 := (f2018 x 11 _ gx rfl)
  have k2031 : H2013 m 13 = H m 13 := (f2018 m 13 _ gm rfl)
  have k2032 : H2013 x 8 = H x 8 := (f2018 x 8 _ gx rfl)
  have k2033 : H2013 m 3 = H m 3 := (f2018 m 3 _ gm rfl)
  refine wl_of hX hb cL_748 (xc_V (pc' := 751) (r := m) (as := [vI (H2013 0 ((i + 1).toNat)), vI (H2013 0 ((i + 2).toNat))]) (st := []) (lm_11_100) rfl rfl (Nat.le_of_ble_eq_true rfl) w2017 gm sh_42 (by decide) rfl (by decide) (s_249 w2017 gm ⟨by omega, by omega⟩ ⟨by omega, by omega⟩ (by omega)) (fun R2034 T2035 H2036 p2037 => ?_))
  obtain ⟨e2038, w2040, f2041, z2043, e2039, b2044, p2042⟩ := p2037
  subst e2038
  subst e2039
  show WL _ _ _ _ 751 [(4, vI i), (3, .ref o), (2, .ref m), (1, .ref x), (0, .ref 0)] [vI z2043] _ H2036
  refine wl_of hX hb cL_751 (rw_pop (pc' := 752) rfl rfl ?_)
  refine wl_of hX hb cL_752 (rw_goto (p1 := 1653) (by decide) ?_)
  have k2045 : H2036 x 9 = H2013 x 9 := (f2041 x 9 _ gx rfl)
  have k2046 : H2036 m 6 = H2013 m 6 := (f2041 m 6 _ gm rfl)
  have k2047 : H2036 x 11 = H2013 x 11 := (f2041 x 11 _ gx rfl)
  have k2048 : H2036 m 13 = H2013 m 13 := (f2041 m 13 _ gm rfl)
  have k2049 : H2036 x 8 = H2013 x 8 := (f2041 x 8 _ gx rfl)
  have k2050 : H2036 m 3 = H2013 m 3 := (f2041 m 3 _ gm rfl)
  have h2051 : XI T H2036 x m := (XI_fr w2017 gx f2041 rfl (XI_fr hW gx f2018 rfl hXI))
  exact WL.loc hX (by simp) (next T H2036 ⟨⟨w2040, g0, gx, gm, go, by omega, by omega⟩, h2051, by omega, by omega⟩ (by omega) (by omega))
set_option maxHeartbeats 4000000 in
theorem wl_c19 {kt : Nat → Option mc_E} {CB SB : Nat} {X : mc_S → Prop} {T : wq_T} {H : wq_H} {Len x m o : Nat} {i : Int} (hX : wlX kt CB SB X) (hb : T.2.1 ≤ CB ∧ T.2.2.1 ≤ SB) (hI : wlJ Len x m o T H) (hL : Len ≤ 3072) (hi : 0 ≤ i ∧ i + 6 ≤ Len) (hb2 : T.2.1 + 20 ≤ CB ∧ T.2.2.1 + 500 ≤ SB)  (next : ∀ T' H', wlJ Len x m o T' H' → T'.2.1 ≤ T.2.1 + 20 → T'.2.2.1 ≤ T.2.2.1 + 500 → WL kt CB SB X 1653 (wlL i x m o) [] T' H') : WL kt CB SB X 755 (wlL i x m o) [] T H := by
  obtain ⟨⟨hW, g0, gx, gm, go, hK, hr⟩, hXI, hY1, hY2⟩ := hI
  refine wl_of hX hb cL_755 (rw_aload_n (pc' := 756) (v := .ref x) rfl rfl rfl ?_)
  refine wl_of hX hb cL_756 (rw_aload_n (pc' := 757) (v := .ref 0) rfl rfl rfl ?_)
  refine wl_of hX hb cL_757 (rw_iload (pc' := 759) (z := i) rfl rfl ?_)
  refine wl_of hX hb cL_759 (rw_iconst (pc' := 760) rfl ?_)
  refine wl_of hX hb cL_760 (rw_iadd (pc' := 761) rfl ?_)
  refine wl_of hX hb cL_761 (xa_I (so := 0) (pc' := 762) (a := 0) hW g0 (wsh_s _) (by omega) (wty_s _ _) (by omega) (by omega) rfl (fun b2052 b2053 => ?_))
  refine wl_of hX hb cL_762 (rw_aload_n (pc' := 763) (v := .ref 0) rfl rfl rfl ?_)
  refine wl_of hX hb cL_763 (rw_iload (pc' := 765) (z := i) rfl rfl ?_)
  refine wl_of hX hb cL_765 (rw_iconst (pc' := 766) rfl ?_)
  refine wl_of hX hb cL_766 (rw_iadd (pc' := 767) rfl ?_)
  refine wl_of hX hb cL_767 (xa_I (so := 0) (pc' := 768) (a := 0) hW g0 (wsh_s _) (by omega) (wty_s _ _) (by omega) (by omega) rfl (fun b2054 b2055 => ?_))
  refine wl_of hX hb cL_768 (xc_V (pc' := 771) (r := x) (as := [vI (H 0 ((i + 1).toNat)), vI (H 0 ((i + 2).toNat))]) (st := []) (lm_11_101) rfl rfl (Nat.le_of_ble_eq_true rfl) hW gx sh_1 (by decide) rfl (by decide) (s_99 hW gx ⟨by omega, by omega⟩ ⟨by omega, by omega⟩) (fun R2056 T2057 H2058 p2059 => ?_))
  obtain ⟨e2060, w2062, f2063, z2064, e2061, b2065⟩ := p2059
  subst e2060
  subst e2061
  show WL _ _ _ _ 771 [(4, vI i), (3, .ref o), (2, .ref m), (1, .ref x), (0, .ref 0)] [vI z2064] _ H2058
  refine wl_of hX hb cL_771 (rw_pop (pc' := 772) rfl rfl ?_)
  refine wl_of hX hb cL_772 (rw_aload_n (pc' := 773) (v := .ref m) rfl rfl rfl ?_)
  refine wl_of hX hb cL_773 (rw_aload_n (pc' := 774) (v := .ref 0) rfl rfl rfl ?_)
  refine wl_of hX hb cL_774 (rw_iload (pc' := 776) (z := i) rfl rfl ?_)
  refine wl_of hX hb cL_776 (rw_iconst (pc' := 777) rfl ?_)
  refine wl_of hX hb cL_777 (rw_iadd (pc' := 778) rfl ?_)
  have k2068 : H2058 0 ((i + 1).toNat) = H 0 ((i + 1).toNat) := (f2063 0 ((i + 1).toNat) _ g0 (wmem_s rfl))
  refine wl_of hX hb cL_778 (xa_I (so := 0) (pc' := 779) (a := 0) w2062 g0 (wsh_s _) (by omega) (wty_s _ _) (by omega) (by omega) rfl (fun b2066 b2067 => ?_))
  refine wl_of hX hb cL_779 (rw_aload_n (pc' := 780) (v := .ref 0) rfl rfl rfl ?_)
  refine wl_of hX hb cL_780 (rw_iload (pc' := 782) (z := i) rfl rfl ?_)
  refine wl_of hX hb cL_782 (rw_iconst (pc' := 783) rfl ?_)
  refine wl_of hX hb cL_783 (rw_iadd (pc' := 784) rfl ?_)
  have k2071 : H2058 0 ((i + 2).toNat) = H 0 ((i + 2).toNat) := (f2063 0 ((i + 2).toNat) _ g0 (wmem_s rfl))
  refine wl_of hX hb cL_784 (xa_I (so := 0) (pc' := 785) (a := 0) w2062 g0 (wsh_s _) (by omega) (wty_s _ _) (by omega) (by omega) rfl (fun b2069 b2070 => ?_))
  have k2072 : wKI H2058 m = wKI H m := (wKI_fr hW gm f2063 rfl)
  have k2073 : H2058 x 9 = H x 9 := (f2063 x 9 _ gx rfl)
  have k2074 : H2058 m 6 = H m 6 := (f2063 m 6 _ gm rfl)
  have k2075 : H2058 x 11 = H x 11 := (f2063 x 11 _ gx rfl)
  have k2076 : H2058 m 13 = H m 13 := (f2063 m 13 _ gm rfl)
  have k2077 : H2058 x 8 = H x 8 := (f2063 x 8 _ gx rfl)
  have k2078 : H2058 m 3 = H m 3 := (f2063 m 3 _ gm rfl)
  refine wl_of hX hb cL_785 (xc_V (pc' := 788) (r := m) (as := [vI (H2058 0 ((i + 1).toNat)), vI (H2058 0 ((i + 2).toNat))]) (st := []) (lm_11_104) rfl rfl (Nat.le_of_ble_eq_true rfl) w2062 gm sh_42 (by decide) rfl (by decide) (s_250 w2062 gm ⟨by omega, by omega⟩ ⟨by omega, by omega⟩ (by omega)) (fun R2079 T2080 H2081 p2082 => ?_))
  obtain ⟨e2083, w2085, f2086, z2088, e2084, b2089, p2087⟩ := p2082
  subst e2083
  subst e2084
  show WL _ _ _ _ 788 [(4, vI i), (3, .ref o), (2, .ref m), (1, .ref x), (0, .ref 0)] [vI z2088] _ H2081
  refine wl_of hX hb cL_788 (rw_pop (pc' := 789) rfl rfl ?_)
  refine wl_of hX hb cL_789 (rw_goto (p1 := 1653) (by decide) ?_)
  have k2090 : H2081 x 9 = H2058 x 9 := (f2086 x 9 _ gx rfl)
  have k2091 : H2081 m 6 = H2058 m 6 := (f2086 m 6 _ gm rfl)
  have k2092 : H2081 x 11 = H2058 x 11 := (f2086 x 11 _ gx rfl)
  have k2093 : H2081 m 13 = H2058 m 13 := (f2086 m 13 _ gm rfl)
  have k2094 : H2081 x 8 = H2058 x 8 := (f2086 x 8 _ gx rfl)
  have k2095 : H2081 m 3 = H2058 m 3 := (f2086 m 3 _ gm rfl)
  have h2096 : XI T H2081 x m := (XI_fr w2062 gx f2086 rfl (XI_fr hW gx f2063 rfl hXI))
  exact WL.loc hX (by simp) (next T H2081 ⟨⟨w2085, g0, gx, gm, go, by omega, by omega⟩, h2096, by omega, by omega⟩ (by omega) (by omega))
set_option maxHeartbeats 4000000 in
theorem wl_c20 {kt : Nat → Option mc_E} {CB SB : Nat} {X : mc_S → Prop} {T : wq_T} {H : wq_H} {Len x m o : Nat} {i : Int} (hX : wlX kt CB SB X) (hb : T.2.1 ≤ CB ∧ T.2.2.1 ≤ SB) (hI : wlJ Len x m o T H) (hL : Len ≤ 3072) (hi : 0 ≤ i ∧ i + 6 ≤ Len) (hb2 : T.2.1 + 20 ≤ CB ∧ T.2.2.1 + 500 ≤ SB)  (next : ∀ T' H', wlJ Len x m o T' H' → T'.2.1 ≤ T.2.1 + 20 → T'.2.2.1 ≤ T.2.2.1 + 500 → WL kt CB SB X 1653 (wlL i x m o) [] T' H') : WL kt CB SB X 792 (wlL i x m o) [] T H := by
  obtain ⟨⟨hW, g0, gx, gm, go, hK, hr⟩, hXI, hY1, hY2⟩ := hI
  refine wl_of hX hb cL_792 (rw_aload_n (pc' := 793) (v := .ref x) rfl rfl rfl ?_)
  refine wl_of hX hb cL_793 (rw_aload_n (pc' := 794) (v := .ref 0) rfl rfl rfl ?_)
  refine wl_of hX hb cL_794 (rw_iload (pc' := 796) (z := i) rfl rfl ?_)
  refine wl_of hX hb cL_796 (rw_iconst (pc' := 797) rfl ?_)
  refine wl_of hX hb cL_797 (rw_iadd (pc' := 798) rfl ?_)
  refine wl_of hX hb cL_798 (xa_I (so := 0) (pc' := 799) (a := 0) hW g0 (wsh_s _) (by omega) (wty_s _ _) (by omega) (by omega) rfl (fun b2097 b2098 => ?_))
  refine wl_of hX hb cL_799 (rw_aload_n (pc' := 800) (v := .ref 0) rfl rfl rfl ?_)
  refine wl_of hX hb cL_800 (rw_iload (pc' := 802) (z := i) rfl rfl ?_)
  refine wl_of hX hb cL_802 (rw_iconst (pc' := 803) rfl ?_)
  refine wl_of hX hb cL_803 (rw_iadd (pc' := 804) rfl ?_)
  refine wl_of hX hb cL_804 (xa_I (so := 0) (pc' := 805) (a := 0) hW g0 (wsh_s _) (by omega) (wty_s _ _) (by omega) (by omega) rfl (fun b2099 b2100 => ?_))
  refine wl_of hX hb cL_805 (xc_V (pc' := 808) (r := x) (as := [vI (H 0 ((i + 1).toNat)), vI (H 0 ((i + 2).toNat))]) (st := []) (lm_11_105) rfl rfl (Nat.le_of_ble_eq_true rfl) hW gx sh_1 (by decide) rfl (by decide) (s_101 hW gx ⟨by omega, by omega⟩ ⟨by omega, by omega⟩) (fun R2101 T2102 H2103 p2104 => ?_))
  obtain ⟨e2105, w2107, f2108, z2109, e2106, b2110⟩ := p2104
  subst e2105
  subst e2106
  show WL _ _ _ _ 808 [(4, vI i), (3, .ref o), (2, .ref m), (1, .ref x), (0, .ref 0)] [vI z2109] _ H2103
  refine wl_of hX hb cL_808 (rw_pop (pc' := 809) rfl rfl ?_)
  refine wl_of hX hb cL_809 (rw_aload_n (pc' := 810) (v := .ref m) rfl rfl rfl ?_)
  refine wl_of hX hb cL_810 (rw_aload_n (pc' := 811) (v := .ref 0) rfl rfl rfl ?_)
  refine wl_of hX hb cL_811 (rw_iload (pc' := 813) (z := i) rfl rfl ?_)
  refine wl_of hX hb cL_813 (rw_iconst (pc' := 814) rfl ?_)
  refine wl_of hX hb cL_814 (rw_iadd (pc' := 815) rfl ?_)
  have k2113 : H2103 0 ((i + 1).toNat) = H 0 ((i + 1).toNat) := (f2108 0 ((i + 1).toNat) _ g0 (wmem_s rfl))
  refine wl_of hX hb cL_815 (xa_I (so := 0) (pc' := 816) (a := 0) w2107 g0 (wsh_s _) (by omega) (wty_s _ _) (by omega) (by omega) rfl (fun b2111 b2112 => ?_))
  refine wl_of hX hb cL_816 (rw_aload_n (pc' := 817) (v := .ref 0) rfl rfl rfl ?_)
  refine wl_of hX hb cL_817 (rw_iload (pc' := 819) (z := i) rfl rfl ?_)
  refine wl_of hX hb cL_819 (rw_iconst (pc' := 820) rfl ?_)
  refine wl_of hX hb cL_820 (rw_iadd (pc' := 821) rfl ?_)
  have k2116 : H2103 0 ((i + 2).toNat) = H 0 ((i + 2).toNat) := (f2108 0 ((i + 2).toNat) _ g0 (wmem_s rfl))
  refine wl_of hX hb cL_821 (xa_I (so := 0) (pc' := 822) (a := 0) w2107 g0 (wsh_s _) (by omega) (wty_s _ _) (by omega) (by omega) rfl (fun b2114 b2115 => ?_))
  have k2117 : wKI H2103 m = wKI H m := (wKI_fr hW gm f2108 rfl)
  have k2118 : H2103 x 9 = H x 9 := (f2108 x 9 _ gx rfl)
  have k2119 : H2103 m 6 = H m 6 := (f2108 m 6 _ gm rfl)
  have k2120 : H2103 x 11 = H x 11 := (f2108 x 11 _ gx rfl)
  have k2121 : H2103 m 13 = H m 13 := (f2108 m 13 _ gm rfl)
  have k2122 : H2103 x 8 = H x 8 := (f2108 x 8 _ gx rfl)
  have k2123 : H2103 m 3 = H m 3 := (f2108 m 3 _ gm rfl)
  refine wl_of hX hb cL_822 (xc_V (pc' := 825) (r := m) (as := [vI (H2103 0 ((i + 1).toNat)), vI (H2103 0 ((i + 2).toNat))]) (st := []) (lm_11_108) rfl rfl (Nat.le_of_ble_eq_true rfl) w2107 gm sh_42 (by decide) rfl (by decide) (s_252 w2107 gm ⟨by omega, by omega⟩ ⟨by omega, by omega⟩ (by omega)) (fun R2124 T2125 H2126 p2127 => ?_))
  obtain ⟨e2128, w2130, f2131, z2133, e2129, b2134, p2132⟩ := p2127
  subst e2128
  subst e2129
  show WL _ _ _ _ 825 [(4, vI i), (3, .ref o), (2, .ref m), (1, .ref x), (0, .ref 0)] [vI z2133] _ H2126
  refine wl_of hX hb cL_825 (rw_pop (pc' := 826) rfl rfl ?_)
  refine wl_of hX hb cL_826 (rw_goto (p1 := 1653) (by decide) ?_)
  have k2135 : H2126 x 9 = H2103 x 9 := (f2131 x 9 _ gx rfl)
  have k2136 : H2126 m 6 = H2103 m 6 := (f2131 m 6 _ gm rfl)
  have k2137 : H2126 x 11 = H2103 x 11 := (f2131 x 11 _ gx rfl)
  have k2138 : H2126 m 13 = H2103 m 13 := (f2131 m 13 _ gm rfl)
  have k2139 : H2126 x 8 = H2103 x 8 := (f2131 x 8 _ gx rfl)
  have k2140 : H2126 m 3 = H2103 m 3 := (f2131 m 3 _ gm rfl)
  have h2141 : XI T H2126 x m := (XI_fr w2107 gx f2131 rfl (XI_fr hW gx f2108 rfl hXI))
  exact WL.loc hX (by simp) (next T H2126 ⟨⟨w2130, g0, gx, gm, go, by omega, by omega⟩, h2141, by omega, by omega⟩ (by omega) (by omega))
set_option maxHeartbeats 4000000 in
theorem wl_c21 {kt : Nat → Option mc_E} {CB SB : Nat} {X : mc_S → Prop} {T : wq_T} {H : wq_H} {Len x m o : Nat} {i : Int} (hX : wlX kt CB SB X) (hb : T.2.1 ≤ CB ∧ T.2.2.1 ≤ SB) (hI : wlJ Len x m o T H) (hL : Len ≤ 3072) (hi : 0 ≤ i ∧ i + 6 ≤ Len) (hb2 : T.2.1 + 20 ≤ CB ∧ T.2.2.1 + 500 ≤ SB)  (next : ∀ T' H', wlJ Len x m o T' H' → T'.2.1 ≤ T.2.1 + 20 → T'.2.2.1 ≤ T.2.2.1 + 500 → WL kt CB SB X 1653 (wlL i x m o) [] T' H') : WL kt CB SB X 829 (wlL i x m o) [] T H := by
  obtain ⟨⟨hW, g0, gx, gm, go, hK, hr⟩, hXI, hY1, hY2⟩ := hI
  refine wl_of hX hb cL_829 (rw_aload_n (pc' := 830) (v := .ref x) rfl rfl rfl ?_)
  refine wl_of hX hb cL_830 (rw_aload_n (pc' := 831) (v := .ref 0) rfl rfl rfl ?_)
  refine wl_of hX hb cL_831 (rw_iload (pc' := 833) (z := i) rfl rfl ?_)
  refine wl_of hX hb cL_833 (rw_iconst (pc' := 834) rfl ?_)
  refine wl_of hX hb cL_834 (rw_iadd (pc' := 835) rfl ?_)
  refine wl_of hX hb cL_835 (xa_I (so := 0) (pc' := 836) (a := 0) hW g0 (wsh_s _) (by omega) (wty_s _ _) (by omega) (by omega) rfl (fun b2142 b2143 => ?_))
  refine wl_of hX hb cL_836 (rw_aload_n (pc' := 837) (v := .ref 0) rfl rfl rfl ?_)
  refine wl_of hX hb cL_837 (rw_iload (pc' := 839) (z := i) rfl rfl ?_)
  refine wl_of hX hb cL_839 (rw_iconst (pc' := 840) rfl ?_)
  refine wl_of hX hb cL_840 (rw_iadd (pc' := 841) rfl ?_)
  refine wl_of hX hb cL_841 (xa_I (so := 0) (pc' := 842) (a := 0) hW g0 (wsh_s _) (by omega) (wty_s _ _) (by omega) (by omega) rfl (fun b2144 b2145 => ?_))
  refine wl_of hX hb cL_842 (rw_if_eq (p1 := 849) (p2 := 845) (by decide) rfl ⟨by omega, by omega⟩ (fun c2146 => ?_) (fun c2146 => ?_))
  · refine wl_of hX hb cL_849 (rw_iconst (pc' := 850) rfl ?_)
    refine wl_of hX hb cL_850 (xc_V (pc' := 853) (r := x) (as := [vI (H 0 ((i + 1).toNat)), vI 0]) (st := []) (lm_11_109) rfl rfl (Nat.le_of_ble_eq_true rfl) hW gx sh_1 (by decide) rfl (by decide) (s_104 hW gx ⟨by omega, by omega⟩ ⟨by omega, by omega⟩) (fun R2147 T2148 H2149 p2150 => ?_))
    obtain ⟨e2151, w2153, f2154, z2155, e2152, b2156⟩ := p2150
    subst e2151
    subst e2152
    show WL _ _ _ _ 853 [(4, vI i), (3, .ref o), (2, .ref m), (1, .ref x), (0, .ref 0)] [vI z2155] _ H2149
    refine wl_of hX hb cL_853 (rw_pop (pc' := 854) rfl rfl ?_)
    refine wl_of hX hb cL_854 (rw_aload_n (pc' := 855) (v := .ref m) rfl rfl rfl ?_)
    refine wl_of hX hb cL_855 (rw_aload_n (pc' := 856) (v := .ref 0) rfl rfl rfl ?_)
    refine wl_of hX hb cL_856 (rw_iload (pc' := 858) (z := i) rfl rfl ?_)
    refine wl_of hX hb cL_858 (rw_iconst (pc' := 859) rfl ?_)
    refine wl_of hX hb cL_859 (rw_iadd (pc' := 860) rfl ?_)
    have k2159 : H2149 0 ((i + 1).toNat) = H 0 ((i + 1).toNat) := (f2154 0 ((i + 1).toNat) _ g0 (wmem_s rfl))
    refine wl_of hX hb cL_860 (xa_I (so := 0) (pc' := 861) (a := 0) w2153 g0 (wsh_s _) (by omega) (wty_s _ _) (by omega) (by omega) rfl (fun b2157 b2158 => ?_))
    refine wl_of hX hb cL_861 (rw_aload_n (pc' := 862) (v := .ref 0) rfl rfl rfl ?_)
    refine wl_of hX hb cL_862 (rw_iload (pc' := 864) (z := i) rfl rfl ?_)
    refine wl_of hX hb cL_864 (rw_iconst (pc' := 865) rfl ?_)
    refine wl_of hX hb cL_865 (rw_iadd (pc' := 866) rfl ?_)
    have k2162 : H2149 0 ((i + 2).toNat) = H 0 ((i + 2).toNat) := (f2154 0 ((i + 2).toNat) _ g0 (wmem_s rfl))
    refine wl_of hX hb cL_866 (xa_I (so := 0) (pc' := 867) (a := 0) w2153 g0 (wsh_s _) (by omega) (wty_s _ _) (by omega) (by omega) rfl (fun b2160 b2161 => ?_))
    refine wl_of hX hb cL_867 (rw_if_eq (p1 := 874) (p2 := 870) (by decide) rfl ⟨by omega, by omega⟩ (fun c2163 => ?_) (fun c2163 => ?_))
    · refine wl_of hX hb cL_874 (rw_iconst (pc' := 875) rfl ?_)
      have k2164 : wKI H2149 m = wKI H m := (wKI_fr hW gm f2154 rfl)
      have k2165 : H2149 x 9 = H x 9 := (f2154 x 9 _ gx rfl)
      have k2166 : H2149 m 6 = H m 6 := (f2154 m 6 _ gm rfl)
      have k2167 : H2149 x 11 = H x 11 := (f2154 x 11 _ gx rfl)
      have k2168 : H2149 m 13 = H m 13 := (f2154 m 13 _ gm rfl)
      have k2169 : H2149 x 8 = H x 8 := (f2154 x 8 _ gx rfl)
      have k2170 : H2149 m 3 = H m 3 := (f2154 m 3 _ gm rfl)
      refine wl_of hX hb cL_875 (xc_V (pc' := 878) (r := m) (as := [vI (H2149 0 ((i + 1).toNat)), vI 0]) (st := []) (lm_11_113) rfl rfl (Nat.le_of_ble_eq_true rfl) w2153 gm sh_42 (by decide) rfl (by decide) (s_254 w2153 gm ⟨by omega, by omega⟩ ⟨by omega, by omega⟩ (by omega)) (fun R2171 T2172 H2173 p2174 => ?_))
      obtain ⟨e2175, w2177, f2178, z2180, e2176, b2181, p2179⟩ := p2174
      subst e2175
      subst e2176
      show WL _ _ _ _ 878 [(4, vI i), (3, .ref o), (2, .ref m), (1, .ref x), (0, .ref 0)] [vI z2180] _ H2173
      refine wl_of hX hb cL_878 (rw_pop (pc' := 879) rfl rfl ?_)
      refine wl_of hX hb cL_879 (rw_goto (p1 := 1653) (by decide) ?_)
      have k2182 : H2173 x 9 = H2149 x 9 := (f2178 x 9 _ gx rfl)
      have k2183 : H2173 m 6 = H2149 m 6 := (f2178 m 6 _ gm rfl)
      have k2184 : H2173 x 11 = H2149 x 11 := (f2178 x 11 _ gx rfl)
      have k2185 : H2173 m 13 = H2149 m 13 := (f2178 m 13 _ gm rfl)
      have k2186 : H2173 x 8 = H2149 x 8 := (f2178 x 8 _ gx rfl)
      have k2187 : H2173 m 3 = H2149 m 3 := (f2178 m 3 _ gm rfl)
      have h2188 : XI T H2173 x m := (XI_fr w2153 gx f2178 rfl (XI_fr hW gx f2154 rfl hXI))
      exact WL.loc hX (by simp) (next T H2173 ⟨⟨w2177, g0, gx, gm, go, by omega, by omega⟩, h2188, by omega, by omega⟩ (by omega) (by omega))
    · exfalso
      omega
  · refine wl_of hX hb cL_845 (rw_iconst (pc' := 846) rfl ?_)
    refine wl_of hX hb cL_846 (rw_goto (p1 := 850) (by decide) ?_)
    refine wl_of hX hb cL_850 (xc_V (pc' := 853) (r := x) (as := [vI (H 0 ((i + 1).toNat)), vI 1]) (st := []) (lm_11_109) rfl rfl (Nat.le_of_ble_eq_true rfl) hW gx sh_1 (by decide) rfl (by decide) (s_104 hW gx ⟨by omega, by omega⟩ ⟨by omega, by omega⟩) (fun R2189 T2190 H2191 p2192 => ?_))
    obtain ⟨e2193, w2195, f2196, z2197, e2194, b2198⟩ := p2192
    subst e2193
    subst e2194
    show WL _ _ _ _ 853 [(4, vI i), (3, .ref o), (2, .ref m), (1, .ref x), (0, .ref 0)] [vI z2197] _ H2191
    refine wl_of hX hb cL_853 (rw_pop (pc' := 854) rfl rfl ?_)
    refine wl_of hX hb cL_854 (rw_aload_n (pc' := 855) (v := .ref m) rfl rfl rfl ?_)
    refine wl_of hX hb cL_855 (rw_aload_n (pc' := 856) (v := .ref 0) rfl rfl rfl ?_)
    refine wl_of hX hb cL_856 (rw_iload (pc' := 858) (z := i) rfl rfl ?_)
    refine wl_of hX hb cL_858 (rw_iconst (pc' := 859) rfl ?_)
    refine wl_of hX hb cL_859 (rw_iadd (pc' := 860) rfl ?_)
    have k2201 : H2191 0 ((i + 1).toNat) = H 0 ((i + 1).toNat) := (f2196 0 ((i + 1).toNat) _ g0 (wmem_s rfl))
    refine wl_of hX hb cL_860 (xa_I (so := 0) (pc' := 861) (a := 0) w2195 g0 (wsh_s _) (by omega) (wty_s _ _) (by omega) (by omega) rfl (fun b2199 b2200 => ?_))
    refine wl_of hX hb cL_861 (rw_aload_n (pc' := 862) (v := .ref 0) rfl rfl rfl ?_)
    refine wl_of hX hb cL_862 (rw_iload (pc' := 864) (z := i) rfl rfl ?_)
    refine wl_of hX hb cL_864 (rw_iconst (pc' := 865) rfl ?_)
    refine wl_of hX hb cL_865 (rw_iadd (pc' := 866) rfl ?_)
    have k2204 : H2191 0 ((i + 2).toNat) = H 0 ((i + 2).toNat) := (f2196 0 ((i + 2).toNat) _ g0 (wmem_s rfl))
    refine wl_of hX hb cL_866 (xa_I (so := 0) (pc' := 867) (a := 0) w2195 g0 (wsh_s _) (by omega) (wty_s _ _) (by omega) (by omega) rfl (fun b2202 b2203 => ?_))
    refine wl_of hX hb cL_867 (rw_if_eq (p1 := 874) (p2 := 870) (by decide) rfl ⟨by omega, by omega⟩ (fun c2205 => ?_) (fun c2205 => ?_))
    · refine wl_of hX hb cL_874 (rw_iconst (pc' := 875) rfl ?_)
      have k2206 : wKI H2191 m = wKI H m := (wKI_fr hW gm f2196 rfl)
      have k2207 : H2191 x 9 = H x 9 := (f2196 x 9 _ gx rfl)
      have k2208 : H2191 m 6 = H m 6 := (f2196 m 6 _ gm rfl)
      have k2209 : H2191 x 11 = H x 11 := (f2196 x 11 _ gx rfl)
      have k2210 : H2191 m 13 = H m 13 := (f2196 m 13 _ gm rfl)
      have k2211 : H2191 x 8 = H x 8 := (f2196 x 8 _ gx rfl)
      have k2212 : H2191 m 3 = H m 3 := (f2196 m 3 _ gm rfl)
      refine wl_of hX hb cL_875 (xc_V (pc' := 878) (r := m) (as := [vI (H2191 0 ((i + 1).toNat)), vI 0]) (st := []) (lm_11_113) rfl rfl (Nat.le_of_ble_eq_true rfl) w2195 gm sh_42 (by decide) rfl (by decide) (s_254 w2195 gm ⟨by omega, by omega⟩ ⟨by omega, by omega⟩ (by omega)) (fun R2213 T2214 H2215 p2216 => ?_))
      obtain ⟨e2217, w2219, f2220, z2222, e2218, b2223, p2221⟩ := p2216
      subst e2217
      subst e2218
      show WL _ _ _ _ 878 [(4, vI i), (3, .ref o), (2, .ref m), (1, .ref x), (0, .ref 0)] [vI z2222] _ H2215
      refine wl_of hX hb cL_878 (rw_pop (pc' := 879) rfl rfl ?_)
      refine wl_of hX hb cL_879 (rw_goto (p1 := 1653) (by decide) ?_)
      have k2224 : H2215 x 9 = H2191 x 9 := (f2220 x 9 _ gx rfl)
      have k2225 : H2215 m 6 = H2191 m 6 := (f2220 m 6 _ gm rfl)
      have k2226 : H2215 x 11 = H2191 x 11 := (f2220 x 11 _ gx rfl)
      have k2227 : H2215 m 13 = H2191 m 13 := (f2220 m 13 _ gm rfl)
      have k2228 : H2215 x 8 = H2191 x 8 := (f2220 x 8 _ gx rfl)
      have k2229 : H2215 m 3 = H2191 m 3 := (f2220 m 3 _ gm rfl)
      have h2230 : XI T H2215 x m := (XI_fr w2195 gx f2220 rfl (XI_fr hW gx f2196 rfl hXI))
      exact WL.loc hX (by simp) (next T H2215 ⟨⟨w2219, g0, gx, gm, go, by omega, by omega⟩, h2230, by omega, by omega⟩ (by omega) (by omega))
    · refine wl_of hX hb cL_870 (rw_iconst (pc' := 871) rfl ?_)
      refine wl_of hX hb cL_871 (rw_goto (p1 := 875) (by decide) ?_)
      have k2231 : wKI H2191 m = wKI H m := (wKI_fr hW gm f2196 rfl)
      have k2232 : H2191 x 9 = H x 9 := (f2196 x 9 _ gx rfl)
      have k2233 : H2191 m 6 = H m 6 := (f2196 m 6 _ gm rfl)
      have k2234 : H2191 x 11 = H x 11 := (f2196 x 11 _ gx rfl)
      have k2235 : H2191 m 13 = H m 13 := (f2196 m 13 _ gm rfl)
      have k2236 : H2191 x 8 = H x 8 := (f2196 x 8 _ gx rfl)
      have k2237 : H2191 m 3 = H m 3 := (f2196 m 3 _ gm rfl)
      refine wl_of hX hb cL_875 (xc_V (pc' := 878) (r := m) (as := [vI (H2191 0 ((i + 1).toNat)), vI 1]) (st := []) (lm_11_113) rfl rfl (Nat.le_of_ble_eq_true rfl) w2195 gm sh_42 (by decide) rfl (by decide) (s_254 w2195 gm ⟨by omega, by omega⟩ ⟨by omega, by omega⟩ (by omega)) (fun R2238 T2239 H2240 p2241 => ?_))
      obtain ⟨e2242, w2244, f2245, z2247, e2243, b2248, p2246⟩ := p2241
      subst e2242
      subst e2243
      show WL _ _ _ _ 878 [(4, vI i), (3, .ref o), (2, .ref m), (1, .ref x), (0, .ref 0)] [vI z2247] _ H2240
      refine wl_of hX hb cL_878 (rw_pop (pc' := 879) rfl rfl ?_)
      refine wl_of hX hb cL_879 (rw_goto (p1 := 1653) (by decide) ?_)
      have k2249 : H2240 x 9 = H2191 x 9 := (f2245 x 9 _ gx rfl)
      have k2250 : H2240 m 6 = H2191 m 6 := (f2245 m 6 _ gm rfl)
      have k2251 : H2240 x 11 = H2191 x 11 := (f2245 x 11 _ gx rfl)
      have k2252 : H2240 m 13 = H2191 m 13 := (f2245 m 13 _ gm rfl)
      have k2253 : H2240 x 8 = H2191 x 8 := (f2245 x 8 _ gx rfl)
      have k2254 : H2240 m 3 = H2191 m 3 := (f2245 m 3 _ gm rfl)
      have h2255 : XI T H2240 x m := (XI_fr w2195 gx f2245 rfl (XI_fr hW gx f2196 rfl hXI))
      exact WL.loc hX (by simp) (next T H2240 ⟨⟨w2244, g0, gx, gm, go, by omega, by omega⟩, h2255, by omega, by omega⟩ (by omega) (by omega))
set_option maxHeartbeats 4000000 in
theorem wl_c22 {kt : Nat → Option mc_E} {CB SB : Nat} {X : mc_S → Prop} {T : wq_T} {H : wq_H} {Len x m o : Nat} {i : Int} (hX : wlX kt CB SB X) (hb : T.2.1 ≤ CB ∧ T.2.2.1 ≤ SB) (hI : wlJ Len x m o T H) (hL : Len ≤ 3072) (hi : 0 ≤ i ∧ i + 6 ≤ Len) (hb2 : T.2.1 + 20 ≤ CB ∧ T.2.2.1 + 500 ≤ SB)  (next : ∀ T' H', wlJ Len x m o T' H' → T'.2.1 ≤ T.2.1 + 20 → T'.2.2.1 ≤ T.2.2.1 + 500 → WL kt CB SB X 1653 (wlL i x m o) [] T' H') : WL kt CB SB X 882 (wlL i x m o) [] T H := by
  obtain ⟨⟨hW, g0, gx, gm, go, hK, hr⟩, hXI, hY1, hY2⟩ := hI
  refine wl_of hX hb cL_882 (rw_aload_n (pc' := 883) (v := .ref x) rfl rfl rfl ?_)
  refine wl_of hX hb cL_883 (rw_aload_n (pc' := 884) (v := .ref 0) rfl rfl rfl ?_)
  refine wl_of hX hb cL_884 (rw_iload (pc' := 886) (z := i) rfl rfl ?_)
  refine wl_of hX hb cL_886 (rw_iconst (pc' := 887) rfl ?_)
  refine wl_of hX hb cL_887 (rw_iadd (pc' := 888) rfl ?_)
  refine wl_of hX hb cL_888 (xa_I (so := 0) (pc' := 889) (a := 0) hW g0 (wsh_s _) (by omega) (wty_s _ _) (by omega) (by omega) rfl (fun b2256 b2257 => ?_))
  refine wl_of hX hb cL_889 (rw_aload_n (pc' := 890) (v := .ref 0) rfl rfl rfl ?_)
  refine wl_of hX hb cL_890 (rw_iload (pc' := 892) (z := i) rfl rfl ?_)
  refine wl_of hX hb cL_892 (rw_iconst (pc' := 893) rfl ?_)
  refine wl_of hX hb cL_893 (rw_iadd (pc' := 894) rfl ?_)
  refine wl_of hX hb cL_894 (xa_I (so := 0) (pc' := 895) (a := 0) hW g0 (wsh_s _) (by omega) (wty_s _ _) (by omega) (by omega) rfl (fun b2258 b2259 => ?_))
  refine wl_of hX hb cL_895 (xc_V (pc' := 898) (r := x) (as := [vI (H 0 ((i + 1).toNat)), vI (H 0 ((i + 2).toNat))]) (st := []) (lm_11_114) rfl rfl (Nat.le_of_ble_eq_true rfl) hW gx sh_1 (by decide) rfl (by decide) (s_105 hW gx ⟨by omega, by omega⟩ ⟨by omega, by omega⟩) (fun R2260 T2261 H2262 p2263 => ?_))
  obtain ⟨e2264, w2266, f2267, z2268, e2265, b2269⟩ := p2263
  subst e2264
  subst e2265
  show WL _ _ _ _ 898 [(4, vI i), (3, .ref o), (2, .ref m), (1, .ref x), (0, .ref 0)] [vI z2268] _ H2262
  refine wl_of hX hb cL_898 (rw_pop (pc' := 899) rfl rfl ?_)
  refine wl_of hX hb cL_899 (rw_aload_n (pc' := 900) (v := .ref m) rfl rfl rfl ?_)
  refine wl_of hX hb cL_900 (rw_aload_n (pc' := 901) (v := .ref 0) rfl rfl rfl ?_)
  refine wl_of hX hb cL_901 (rw_iload (pc' := 903) (z := i) rfl rfl ?_)
  refine wl_of hX hb cL_903 (rw_iconst (pc' := 904) rfl ?_)
  refine wl_of hX hb cL_904 (rw_iadd (pc' := 905) rfl ?_)
  have k2272 : H2262 0 ((i + 1).toNat) = H 0 ((i + 1).toNat) := (f2267 0 ((i + 1).toNat) _ g0 (wmem_s rfl))
  refine wl_of hX hb cL_905 (xa_I (so := 0) (pc' := 906) (a := 0) w2266 g0 (wsh_s _) (by omega) (wty_s _ _) (by omega) (by omega) rfl (fun b2270 b2271 => ?_))
  refine wl_of hX hb cL_906 (rw_aload_n (pc' := 907) (v := .ref 0) rfl rfl rfl ?_)
  refine wl_of hX hb cL_907 (rw_iload (pc' := 909) (z := i) rfl rfl ?_)
  refine wl_of hX hb cL_909 (rw_iconst (pc' := 910) rfl ?_)
  refine wl_of hX hb cL_910 (rw_iadd (pc' := 911) rfl ?_)
  have k2275 : H2262 0 ((i + 2).toNat) = H 0 ((i + 2).toNat) := (f2267 0 ((i + 2).toNat) _ g0 (wmem_s rfl))
  refine wl_of hX hb cL_911 (xa_I (so := 0) (pc' := 912) (a := 0) w2266 g0 (wsh_s _) (by omega) (wty_s _ _) (by omega) (by omega) rfl (fun b2273 b2274 => ?_))
  have k2276 : wKI H2262 m = wKI H m := (wKI_fr hW gm f2267 rfl)
  have k2277 : H2262 x 9 = H x 9 := (f2267 x 9 _ gx rfl)
  have k2278 : H2262 m 6 = H m 6 := (f2267 m 6 _ gm rfl)
  have k2279 : H2262 x 11 = H x 11 := (f2267 x 11 _ gx rfl)
  have k2280 : H2262 m 13 = H m 13 := (f2267 m 13 _ gm rfl)
  have k2281 : H2262 x 8 = H x 8 := (f2267 x 8 _ gx rfl)
  have k2282 : H2262 m 3 = H m 3 := (f2267 m 3 _ gm rfl)
  refine wl_of hX hb cL_912 (xc_V (pc' := 915) (r := m) (as := [vI (H2262 0 ((i + 1).toNat)), vI (H2262 0 ((i + 2).toNat))]) (st := []) (lm_11_117) rfl rfl (Nat.le_of_ble_eq_true rfl) w2266 gm sh_42 (by decide) rfl (by decide) (s_255 w2266 gm ⟨by omega, by omega⟩ ⟨by omega, by omega⟩ (by omega)) (fun R2283 T2284 H2285 p2286 => ?_))
  obtain ⟨e2287, w2289, f2290, z2292, e2288, b2293, p2291⟩ := p2286
  subst e2287
  subst e2288
  show WL _ _ _ _ 915 [(4, vI i), (3, .ref o), (2, .ref m), (1, .ref x), (0, .ref 0)] [vI z2292] _ H2285
  refine wl_of hX hb cL_915 (rw_pop (pc' := 916) rfl rfl ?_)
  refine wl_of hX hb cL_916 (rw_goto (p1 := 1653) (by decide) ?_)
  have k2294 : H2285 x 9 = H2262 x 9 := (f2290 x 9 _ gx rfl)
  have k2295 : H2285 m 6 = H2262 m 6 := (f2290 m 6 _ gm rfl)
  have k2296 : H2285 x 11 = H2262 x 11 := (f2290 x 11 _ gx rfl)
  have k2297 : H2285 m 13 = H2262 m 13 := (f2290 m 13 _ gm rfl)
  have k2298 : H2285 x 8 = H2262 x 8 := (f2290 x 8 _ gx rfl)
  have k2299 : H2285 m 3 = H2262 m 3 := (f2290 m 3 _ gm rfl)
  have h2300 : XI T H2285 x m := (XI_fr w2266 gx f2290 rfl (XI_fr hW gx f2267 rfl hXI))
  exact WL.loc hX (by simp) (next T H2285 ⟨⟨w2289, g0, gx, gm, go, by omega, by omega⟩, h2300, by omega, by omega⟩ (by omega) (by omega))
set_option maxHeartbeats 4000000 in
theorem wl_c23 {kt : Nat → Option mc_E} {CB SB : Nat} {X : mc_S → Prop} {T : wq_T} {H : wq_H} {Len x m o : Nat} {i : Int} (hX : wlX kt CB SB X) (hb : T.2.1 ≤ CB ∧ T.2.2.1 ≤ SB) (hI : wlJ Len x m o T H) (hL : Len ≤ 3072) (hi : 0 ≤ i ∧ i + 6 ≤ Len) (hb2 : T.2.1 + 20 ≤ CB ∧ T.2.2.1 + 500 ≤ SB)  (next : ∀ T' H', wlJ Len x m o T' H' → T'.2.1 ≤ T.2.1 + 20 → T'.2.2.1 ≤ T.2.2.1 + 500 → WL kt CB SB X 1653 (wlL i x m o) [] T' H') : WL kt CB SB X 919 (wlL i x m o) [] T H := by
  obtain ⟨⟨hW, g0, gx, gm, go, hK, hr⟩, hXI, hY1, hY2⟩ := hI
  refine wl_of hX hb cL_919 (rw_aload_n (pc' := 920) (v := .ref x) rfl rfl rfl ?_)
  refine wl_of hX hb cL_920 (rw_aload_n (pc' := 921) (v := .ref 0) rfl rfl rfl ?_)
  refine wl_of hX hb cL_921 (rw_iload (pc' := 923) (z := i) rfl rfl ?_)
  refine wl_of hX hb cL_923 (rw_iconst (pc' := 924) rfl ?_)
  refine wl_of hX hb cL_924 (rw_iadd (pc' := 925) rfl ?_)
  refine wl_of hX hb cL_925 (xa_I (so := 0) (pc' := 926) (a := 0) hW g0 (wsh_s _) (by omega) (wty_s _ _) (by omega) (by omega) rfl (fun b2301 b2302 => ?_))
  refine wl_of hX hb cL_926 (xc_V (pc' := 929) (r := x) (as := [vI (H 0 ((i + 1).toNat))]) (st := []) (lm_11_118) rfl rfl (Nat.le_of_ble_eq_true rfl) hW gx sh_1 (by decide) rfl (by decide) (s_107 hW gx ⟨by omega, by omega⟩) (fun R2303 T2304 H2305 p2306 => ?_))
  obtain ⟨e2307, w2309, f2310, z2311, e2308, b2312⟩ := p2306
  subst e2307
  subst e2308
  show WL _ _ _ _ 929 [(4, vI i), (3, .ref o), (2, .ref m), (1, .ref x), (0, .ref 0)] [vI z2311] _ H2305
  refine wl_of hX hb cL_929 (rw_pop (pc' := 930) rfl rfl ?_)
  refine wl_of hX hb cL_930 (rw_aload_n (pc' := 931) (v := .ref m) rfl rfl rfl ?_)
  refine wl_of hX hb cL_931 (rw_aload_n (pc' := 932) (v := .ref 0) rfl rfl rfl ?_)
  refine wl_of hX hb cL_932 (rw_iload (pc' := 934) (z := i) rfl rfl ?_)
  refine wl_of hX hb cL_934 (rw_iconst (pc' := 935) rfl ?_)
  refine wl_of hX hb cL_935 (rw_iadd (pc' := 936) rfl ?_)
  have k2315 : H2305 0 ((i + 1).toNat) = H 0 ((i + 1).toNat) := (f2310 0 ((i + 1).toNat) _ g0 (wmem_s rfl))
  refine wl_of hX hb cL_936 (xa_I (so := 0) (pc' := 937) (a := 0) w2309 g0 (wsh_s _) (by omega) (wty_s _ _) (by omega) (by omega) rfl (fun b2313 b2314 => ?_))
  have k2316 : wKI H2305 m = wKI H m := (wKI_fr hW gm f2310 rfl)
  have k2317 : H2305 x 9 = H x 9 := (f2310 x 9 _ gx rfl)
  have k2318 : H2305 m 6 = H m 6 := (f2310 m 6 _ gm rfl)
  have k2319 : H2305 x 11 = H x 11 := (f2310 x 11 _ gx rfl)
  have k2320 : H2305 m 13 = H m 13 := (f2310 m 13 _ gm rfl)
  have k2321 : H2305 x 8 = H x 8 := (f2310 x 8 _ gx rfl)
  have k2322 : H2305 m 3 = H m 3 := (f2310 m 3 _ gm rfl)
  refine wl_of hX hb cL_937 (xc_V (pc' := 940) (r := m) (as := [vI (H2305 0 ((i + 1).toNat))]) (st := []) (lm_11_121) rfl rfl (Nat.le_of_ble_eq_true rfl) w2309 gm sh_42 (by decide) rfl (by decide) (s_256 w2309 gm ⟨by omega, by omega⟩ (by omega)) (fun R2323 T2324 H2325 p2326 => ?_))
  obtain ⟨e2327, w2329, f2330, z2332, e2328, b2333, p2331⟩ := p2326
  subst e2327
  subst e2328
  show WL _ _ _ _ 940 [(4, vI i), (3, .ref o), (2, .ref m), (1, .ref x), (0, .ref 0)] [vI z2332] _ H2325
  refine wl_of hX hb cL_940 (rw_pop (pc' := 941) rfl rfl ?_)
  refine wl_of hX hb cL_941 (rw_goto (p1 := 1653) (by decide) ?_)
  have k2334 : H2325 x 9 = H2305 x 9 := (f2330 x 9 _ gx rfl)
  have k2335 : H2325 m 6 = H2305 m 6 := (f2330 m 6 _ gm rfl)
  have k2336 : H2325 x 11 = H2305 x 11 := (f2330 x 11 _ gx rfl)
  have k2337 : H2325 m 13 = H2305 m 13 := (f2330 m 13 _ gm rfl)
  have k2338 : H2325 x 8 = H2305 x 8 := (f2330 x 8 _ gx rfl)
  have k2339 : H2325 m 3 = H2305 m 3 := (f2330 m 3 _ gm rfl)
  have h2340 : XI T H2325 x m := (XI_fr w2309 gx f2330 rfl (XI_fr hW gx f2310 rfl hXI))
  exact WL.loc hX (by simp) (next T H2325 ⟨⟨w2329, g0, gx, gm, go, by omega, by omega⟩, h2340, by omega, by omega⟩ (by omega) (by omega))
set_option maxHeartbeats 4000000 in
theorem wl_c24 {kt : Nat → Option mc_E} {CB SB : Nat} {X : mc_S → Prop} {T : wq_T} {H : wq_H} {Len x m o : Nat} {i : Int} (hX : wlX kt CB SB X) (hb : T.2.1 ≤ CB ∧ T.2.2.1 ≤ SB) (hI : wlJ Len x m o T H) (hL : Len ≤ 3072) (hi : 0 ≤ i ∧ i + 6 ≤ Len) (hb2 : T.2.1 + 20 ≤ CB ∧ T.2.2.1 + 500 ≤ SB)  (next : ∀ T' H', wlJ Len x m o T' H' → T'.2.1 ≤ T.2.1 + 20 → T'.2.2.1 ≤ T.2.2.1 + 500 → WL kt CB SB X 1653 (wlL i x m o) [] T' H') : WL kt CB SB X 944 (wlL i x m o) [] T H := by
  obtain ⟨⟨hW, g0, gx, gm, go, hK, hr⟩, hXI, hY1, hY2⟩ := hI
  refine wl_of hX hb cL_944 (rw_aload_n (pc' := 945) (v := .ref x) rfl rfl rfl ?_)
  refine wl_of hX hb cL_945 (xc_V (pc' := 948) (r := x) (as := []) (st := []) (lm_11_122) rfl rfl (Nat.le_of_ble_eq_true rfl) hW gx sh_1 (by decide) rfl (by decide) (s_108 hW gx) (fun R2341 T2342 H2343 p2344 => ?_))
  obtain ⟨e2345, w2347, f2348, z2349, e2346, b2350⟩ := p2344
  subst e2345
  subst e2346
  show WL _ _ _ _ 948 [(4, vI i), (3, .ref o), (2, .ref m), (1, .ref x), (0, .ref 0)] [vL z2349] _ H2343
  refine wl_of hX hb cL_948 (rw_pop2 (pc' := 949) rfl rfl ?_)
  refine wl_of hX hb cL_949 (rw_aload_n (pc' := 950) (v := .ref m) rfl rfl rfl ?_)
  have k2351 : wKI H2343 m = wKI H m := (wKI_fr hW gm f2348 rfl)
  have k2352 : H2343 x 9 = H x 9 := (f2348 x 9 _ gx rfl)
  have k2353 : H2343 m 6 = H m 6 := (f2348 m 6 _ gm rfl)
  have k2354 : H2343 x 11 = H x 11 := (f2348 x 11 _ gx rfl)
  have k2355 : H2343 m 13 = H m 13 := (f2348 m 13 _ gm rfl)
  have k2356 : H2343 x 8 = H x 8 := (f2348 x 8 _ gx rfl)
  have k2357 : H2343 m 3 = H m 3 := (f2348 m 3 _ gm rfl)
  refine wl_of hX hb cL_950 (xc_V (pc' := 953) (r := m) (as := []) (st := []) (lm_11_125) rfl rfl (Nat.le_of_ble_eq_true rfl) w2347 gm sh_42 (by decide) rfl (by decide) (s_258 w2347 gm (by omega)) (fun R2358 T2359 H2360 p2361 => ?_))
  obtain ⟨e2362, w2364, f2365, z2367, e2363, b2368, p2366⟩ := p2361
  subst e2362
  subst e2363
  show WL _ _ _ _ 953 [(4, vI i), (3, .ref o), (2, .ref m), (1, .ref x), (0, .ref 0)] [vL z2367] _ H2360
  refine wl_of hX hb cL_953 (rw_pop2 (pc' := 954) rfl rfl ?_)
  refine wl_of hX hb cL_954 (rw_goto (p1 := 1653) (by decide) ?_)
  have k2369 : H2360 x 9 = H2343 x 9 := (f2365 x 9 _ gx rfl)
  have k2370 : H2360 m 6 = H2343 m 6 := (f2365 m 6 _ gm rfl)
  have k2371 : H2360 x 11 = H2343 x 11 := (f2365 x 11 _ gx rfl)
  have k2372 : H2360 m 13 = H2343 m 13 := (f2365 m 13 _ gm rfl)
  have k2373 : H2360 x 8 = H2343 x 8 := (f2365 x 8 _ gx rfl)
  have k2374 : H2360 m 3 = H2343 m 3 := (f2365 m 3 _ gm rfl)
  have h2375 : XI T H2360 x m := (XI_fr w2347 gx f2365 rfl (XI_fr hW gx f2348 rfl hXI))
  exact WL.loc hX (by simp) (next T H2360 ⟨⟨w2364, g0, gx, gm, go, by omega, by omega⟩, h2375, by omega, by omega⟩ (by omega) (by omega))
set_option maxHeartbeats 4000000 in
theorem wl_c25 {kt : Nat → Option mc_E} {CB SB : Nat} {X : mc_S → Prop} {T : wq_T} {H : wq_H} {Len x m o : Nat} {i : Int} (hX : wlX kt CB SB X) (hb : T.2.1 ≤ CB ∧ T.2.2.1 ≤ SB) (hI : wlJ Len x m o T H) (hL : Len ≤ 3072) (hi : 0 ≤ i ∧ i + 6 ≤ Len) (hb2 : T.2.1 + 20 ≤ CB ∧ T.2.2.1 + 500 ≤ SB)  (next : ∀ T' H', wlJ Len x m o T' H' → T'.2.1 ≤ T.2.1 + 20 → T'.2.2.1 ≤ T.2.2.1 + 500 → WL kt CB SB X 1653 (wlL i x m o) [] T' H') : WL kt CB SB X 957 (wlL i x m o) [] T H := by
  obtain ⟨⟨hW, g0, gx, gm, go, hK, hr⟩, hXI, hY1, hY2⟩ := hI
  refine wl_of hX hb cL_957 (rw_aload_n (pc' := 958) (v := .ref x) rfl rfl rfl ?_)
  refine wl_of hX hb cL_958 (rw_aload_n (pc' := 959) (v := .ref 0) rfl rfl rfl ?_)
  refine wl_of hX hb cL_959 (rw_iload (pc' := 961) (z := i) rfl rfl ?_)
  refine wl_of hX hb cL_961 (rw_iconst (pc' := 962) rfl ?_)
  refine wl_of hX hb cL_962 (rw_iadd (pc' := 963) rfl ?_)
  refine wl_of hX hb cL_963 (xa_I (so := 0) (pc' := 964) (a := 0) hW g0 (wsh_s _) (by omega) (wty_s _ _) (by omega) (by omega) rfl (fun b2376 b2377 => ?_))
  refine wl_of hX hb cL_964 (rw_aload_n (pc' := 965) (v := .ref 0) rfl rfl rfl ?_)
  refine wl_of hX hb cL_965 (rw_iload (pc' := 967) (z := i) rfl rfl ?_)
  refine wl_of hX hb cL_967 (rw_iconst (pc' := 968) rfl ?_)
  refine wl_of hX hb cL_968 (rw_iadd (pc' := 969) rfl ?_)
  refine wl_of hX hb cL_969 (xa_I (so := 0) (pc' := 970) (a := 0) hW g0 (wsh_s _) (by omega) (wty_s _ _) (by omega) (by omega) rfl (fun b2378 b2379 => ?_))
  refine wl_of hX hb cL_970 (xc_V (pc' := 973) (r := x) (as := [vI (H 0 ((i + 1).toNat)), vI (H 0 ((i + 2).toNat))]) (st := []) (lm_11_126) rfl rfl (Nat.le_of_ble_eq_true rfl) hW gx sh_1 (by decide) rfl (by decide) (s_109 hW gx ⟨by omega, by omega⟩ ⟨by omega, by omega⟩) (fun R2380 T2381 H2382 p2383 => ?_))
  obtain ⟨e2384, w2386, f2387, z2388, e2385, b2389⟩ := p2383
  subst e2384
  subst e2385
  show WL _ _ _ _ 973 [(4, vI i), (3, .ref o), (2, .ref m), (1, .ref x), (0, .ref 0)] [vI z2388] _ H2382
  refine wl_of hX hb cL_973 (rw_pop (pc' := 974) rfl rfl ?_)
  refine wl_of hX hb cL_974 (rw_aload_n (pc' := 975) (v := .ref m) rfl rfl rfl ?_)
  refine wl_of hX hb cL_975 (rw_aload_n (pc' := 976) (v := .ref 0) rfl rfl rfl ?_)
  refine wl_of hX hb cL_976 (rw_iload (pc' := 978) (z := i) rfl rfl ?_)
  refine wl_of hX hb cL_978 (rw_iconst (pc' := 979) rfl ?_)
  refine wl_of hX hb cL_979 (rw_iadd (pc' := 980) rfl ?_)
  have k2392 : H2382 0 ((i + 1).toNat) = H 0 ((i + 1).toNat) := (f2387 0 ((i + 1).toNat) _ g0 (wmem_s rfl))
  refine wl_of hX hb cL_980 (xa_I (so := 0) (pc' := 981) (a := 0) w2386 g0 (wsh_s _) (by omega) (wty_s _ _) (by omega) (by omega) rfl (fun b2390 b2391 => ?_))
  refine wl_of hX hb cL_981 (rw_aload_n (pc' := 982) (v := .ref 0) rfl rfl rfl ?_)
  refine wl_of hX hb cL_982 (rw_iload (pc' := 984) (z := i) rfl rfl ?_)
  refine wl_of hX hb cL_984 (rw_iconst (pc' := 985) rfl ?_)
  refine wl_of hX hb cL_985 (rw_iadd (pc' := 986) rfl ?_)
  have k2395 : H2382 0 ((i + 2).toNat) = H 0 ((i + 2).toNat) := (f2387 0 ((i + 2).toNat) _ g0 (wmem_s rfl))
  refine wl_of hX hb cL_986 (xa_I (so := 0) (pc' := 987) (a := 0) w2386 g0 (wsh_s _) (by omega) (wty_s _ _) (by omega) (by omega) rfl (fun b2393 b2394 => ?_))
  have k2396 : wKI H2382 m = wKI H m := (wKI_fr hW gm f2387 rfl)
  have k2397 : H2382 x 9 = H x 9 := (f2387 x 9 _ gx rfl)
  have k2398 : H2382 m 6 = H m 6 := (f2387 m 6 _ gm rfl)
  have k2399 : H2382 x 11 = H x 11 := (f2387 x 11 _ gx rfl)
  have k2400 : H2382 m 13 = H m 13 := (f2387 m 13 _ gm rfl)
  have k2401 : H2382 x 8 = H x 8 := (f2387 x 8 _ gx rfl)
  have k2402 : H2382 m 3 = H m 3 := (f2387 m 3 _ gm rfl)
  refine wl_of hX hb cL_987 (xc_V (pc' := 990) (r := m) (as := [vI (H2382 0 ((i + 1).toNat)), vI (H2382 0 ((i + 2).toNat))]) (st := []) (lm_11_129) rfl rfl (Nat.le_of_ble_eq_true rfl) w2386 gm sh_42 (by decide) rfl (by decide) (s_259 w2386 gm ⟨by omega, by omega⟩ ⟨by omega, by omega⟩ (by omega)) (fun R2403 T2404 H2405 p2406 => ?_))
  obtain ⟨e2407, w2409, f2410, z2412, e2408, b2413, p2411⟩ := p2406
  subst e2407
  subst e2408
  show WL _ _ _ _ 990 [(4, vI i), (3, .ref o), (2, .ref m), (1, .ref x), (0, .ref 0)] [vI z2412] _ H2405
  refine wl_of hX hb cL_990 (rw_pop (pc' := 991) rfl rfl ?_)
  refine wl_of hX hb cL_991 (rw_goto (p1 := 1653) (by decide) ?_)
  have k2414 : H2405 x 9 = H2382 x 9 := (f2410 x 9 _ gx rfl)
  have k2415 : H2405 m 6 = H2382 m 6 := (f2410 m 6 _ gm rfl)
  have k2416 : H2405 x 11 = H2382 x 11 := (f2410 x 11 _ gx rfl)
  have k2417 : H2405 m 13 = H2382 m 13 := (f2410 m 13 _ gm rfl)
  have k2418 : H2405 x 8 = H2382 x 8 := (f2410 x 8 _ gx rfl)
  have k2419 : H2405 m 3 = H2382 m 3 := (f2410 m 3 _ gm rfl)
  have h2420 : XI T H2405 x m := (XI_fr w2386 gx f2410 rfl (XI_fr hW gx f2387 rfl hXI))
  exact WL.loc hX (by simp) (next T H2405 ⟨⟨w2409, g0, gx, gm, go, by omega, by omega⟩, h2420, by omega, by omega⟩ (by omega) (by omega))
set_option maxHeartbeats 4000000 in
theorem wl_c26 {kt : Nat → Option mc_E} {CB SB : Nat} {X : mc_S → Prop} {T : wq_T} {H : wq_H} {Len x m o : Nat} {i : Int} (hX : wlX kt CB SB X) (hb : T.2.1 ≤ CB ∧ T.2.2.1 ≤ SB) (hI : wlJ Len x m o T H) (hL : Len ≤ 3072) (hi : 0 ≤ i ∧ i + 6 ≤ Len) (hb2 : T.2.1 + 20 ≤ CB ∧ T.2.2.1 + 500 ≤ SB)  (next : ∀ T' H', wlJ Len x m o T' H' → T'.2.1 ≤ T.2.1 + 20 → T'.2.2.1 ≤ T.2.2.1 + 500 → WL kt CB SB X 1653 (wlL i x m o) [] T' H') : WL kt CB SB X 994 (wlL i x m o) [] T H := by
  obtain ⟨⟨hW, g0, gx, gm, go, hK, hr⟩, hXI, hY1, hY2⟩ := hI
  refine wl_of hX hb cL_994 (rw_aload_n (pc' := 995) (v := .ref x) rfl rfl rfl ?_)
  refine wl_of hX hb cL_995 (rw_aload_n (pc' := 996) (v := .ref 0) rfl rfl rfl ?_)
  refine wl_of hX hb cL_996 (rw_iload (pc' := 998) (z := i) rfl rfl ?_)
  refine wl_of hX hb cL_998 (rw_iconst (pc' := 999) rfl ?_)
  refine wl_of hX hb cL_999 (rw_iadd (pc' := 1000) rfl ?_)
  refine wl_of hX hb cL_1000 (xa_I (so := 0) (pc' := 1001) (a := 0) hW g0 (wsh_s _) (by omega) (wty_s _ _) (by omega) (by omega) rfl (fun b2421 b2422 => ?_))
  refine wl_of hX hb cL_1001 (xc_V (pc' := 1004) (r := x) (as := [vI (H 0 ((i + 1).toNat))]) (st := []) (lm_11_130) rfl rfl (Nat.le_of_ble_eq_true rfl) hW gx sh_1 (by decide) rfl (by decide) (s_112 hW gx ⟨by omega, by omega⟩) (fun R2423 T2424 H2425 p2426 => ?_))
  obtain ⟨e2427, w2429, f2430, z2431, e2428, b2432⟩ := p2426
  subst e2427
  subst e2428
  show WL _ _ _ _ 1004 [(4, vI i), (3, .ref o), (2, .ref m), (1, .ref x), (0, .ref 0)] [vL z2431] _ H2425
  refine wl_of hX hb cL_1004 (rw_pop2 (pc' := 1005) rfl rfl ?_)
  refine wl_of hX hb cL_1005 (rw_aload_n (pc' := 1006) (v := .ref m) rfl rfl rfl ?_)
  refine wl_of hX hb cL_1006 (rw_aload_n (pc' := 1007) (v := .ref 0) rfl rfl rfl ?_)
  refine wl_of hX hb cL_1007 (rw_iload (pc' := 1009) (z := i) rfl rfl ?_)
  refine wl_of hX hb cL_1009 (rw_iconst (pc' := 1010) rfl ?_)
  refine wl_of hX hb cL_1010 (rw_iadd (pc' := 1011) rfl ?_)
  have k2435 : H2425 0 ((i + 1).toNat) = H 0 ((i + 1).toNat) := (f2430 0 ((i + 1).toNat) _ g0 (wmem_s rfl))
  refine wl_of hX hb cL_1011 (xa_I (so := 0) (pc' := 1012) (a := 0) w2429 g0 (wsh_s _) (by omega) (wty_s _ _) (by omega) (by omega) rfl (fun b2433 b2434 => ?_))
  have k2436 : wKI H2425 m = wKI H m := (wKI_fr hW gm f2430 rfl)
  have k2437 : H2425 x 9 = H x 9 := (f2430 x 9 _ gx rfl)
  have k2438 : H2425 m 6 = H m 6 := (f2430 m 6 _ gm rfl)
  have k2439 : H2425 x 11 = H x 11 := (f2430 x 11 _ gx rfl)
  have k2440 : H2425 m 13 = H m 13 := (f2430 m 13 _ gm rfl)
  have k2441 : H2425 x 8 = H x 8 := (f2430 x 8 _ gx rfl)
  have k2442 : H2425 m 3 = H m 3 := (f2430 m 3 _ gm rfl)
  refine wl_of hX hb cL_1012 (xc_V (pc' := 1015) (r := m) (as := [vI (H2425 0 ((i + 1).toNat))]) (st := []) (lm_11_134) rfl rfl (Nat.le_of_ble_eq_true rfl) w2429 gm sh_42 (by decide) rfl (by decide) (s_260 w2429 gm ⟨by omega, by omega⟩ (by omega)) (fun R2443 T2444 H2445 p2446 => ?_))
  obtain ⟨e2447, w2449, f2450, z2452, e2448, b2453, p2451⟩ := p2446
  subst e2447
  subst e2448
  show WL _ _ _ _ 1015 [(4, vI i), (3, .ref o), (2, .ref m), (1, .ref x), (0, .ref 0)] [vL z2452] _ H2445
  refine wl_of hX hb cL_1015 (rw_pop2 (pc' := 1016) rfl rfl ?_)
  refine wl_of hX hb cL_1016 (rw_goto (p1 := 1653) (by decide) ?_)
  have k2454 : H2445 x 9 = H2425 x 9 := (f2450 x 9 _ gx rfl)
  have k2455 : H2445 m 6 = H2425 m 6 := (f2450 m 6 _ gm rfl)
  have k2456 : H2445 x 11 = H2425 x 11 := (f2450 x 11 _ gx rfl)
  have k2457 : H2445 m 13 = H2425 m 13 := (f2450 m 13 _ gm rfl)
  have k2458 : H2445 x 8 = H2425 x 8 := (f2450 x 8 _ gx rfl)
  have k2459 : H2445 m 3 = H2425 m 3 := (f2450 m 3 _ gm rfl)
  have h2460 : XI T H2445 x m := (XI_fr w2429 gx f2450 rfl (XI_fr hW gx f2430 rfl hXI))
  exact WL.loc hX (by simp) (next T H2445 ⟨⟨w2449, g0, gx, gm, go, by omega, by omega⟩, h2460, by omega, by omega⟩ (by omega) (by omega))
set_option maxHeartbeats 4000000 in
theorem wl_c27 {kt : Nat → Option mc_E} {CB SB : Nat} {X : mc_S → Prop} {T : wq_T} {H : wq_H} {Len x m o : Nat} {i : Int} (hX : wlX kt CB SB X) (hb : T.2.1 ≤ CB ∧ T.2.2.1 ≤ SB) (hI : wlJ Len x m o T H) (hL : Len ≤ 3072) (hi : 0 ≤ i ∧ i + 6 ≤ Len) (hb2 : T.2.1 + 20 ≤ CB ∧ T.2.2.1 + 500 ≤ SB)  (next : ∀ T' H', wlJ Len x m o T' H' → T'.2.1 ≤ T.2.1 + 20 → T'.2.2.1 ≤ T.2.2.1 + 500 → WL kt CB SB X 1653 (wlL i x m o) [] T' H') : WL kt CB SB X 1019 (wlL i x m o) [] T H := by
  obtain ⟨⟨hW, g0, gx, gm, go, hK, hr⟩, hXI, hY1, hY2⟩ := hI
  refine wl_of hX hb cL_1019 (rw_aload_n (pc' := 1020) (v := .ref x) rfl rfl rfl ?_)
  refine wl_of hX hb cL_1020 (rw_aload_n (pc' := 1021) (v := .ref 0) rfl rfl rfl ?_)
  refine wl_of hX hb cL_1021 (rw_iload (pc' := 1023) (z := i) rfl rfl ?_)
  refine wl_of hX hb cL_1023 (rw_iconst (pc' := 1024) rfl ?_)
  refine wl_of hX hb cL_1024 (rw_iadd (pc' := 1025) rfl ?_)
  refine wl_of hX hb cL_1025 (xa_I (so := 0) (pc' := 1026) (a := 0) hW g0 (wsh_s _) (by omega) (wty_s _ _) (by omega) (by omega) rfl (fun b2461 b2462 => ?_))
  refine wl_of hX hb cL_1026 (rw_aload_n (pc' := 1027) (v := .ref 0) rfl rfl rfl ?_)
  refine wl_of hX hb cL_1027 (rw_iload (pc' := 1029) (z := i) rfl rfl ?_)
  refine wl_of hX hb cL_1029 (rw_iconst (pc' := 1030) rfl ?_)
  refine wl_of hX hb cL_1030 (rw_iadd (pc' := 1031) rfl ?_)
  refine wl_of hX hb cL_1031 (xa_I (so := 0) (pc' := 1032) (a := 0) hW g0 (wsh_s _) (by omega) (wty_s _ _) (by omega) (by omega) rfl (fun b2463 b2464 => ?_))
  refine wl_of hX hb cL_1032 (xc_V (pc' := 1035) (r := x) (as := [vI (H 0 ((i + 1).toNat)), vI (H 0 ((i + 2).toNat))]) (st := []) (lm_11_135) rfl rfl (Nat.le_of_ble_eq_true rfl) hW gx sh_1 (by decide) rfl (by decide) (s_114 hW gx ⟨by omega, by omega⟩ ⟨by omega, by omega⟩) (fun R2465 T2466 H2467 p2468 => ?_))
  obtain ⟨e2469, w2471, f2472, z2473, e2470, b2474⟩ := p2468
  subst e2469
  subst e2470
  show WL _ _ _ _ 1035 [(4, vI i), (3, .ref o), (2, .ref m), (1, .ref x), (0, .ref 0)] [vI z2473] _ H2467
  refine wl_of hX hb cL_1035 (rw_pop (pc' := 1036) rfl rfl ?_)
  refine wl_of hX hb cL_1036 (rw_aload_n (pc' := 1037) (v := .ref m) rfl rfl rfl ?_)
  refine wl_of hX hb cL_1037 (rw_aload_n (pc' := 1038) (v := .ref 0) rfl rfl rfl ?_)
  refine wl_of hX hb cL_1038 (rw_iload (pc' := 1040) (z := i) rfl rfl ?_)
  refine wl_of hX hb cL_1040 (rw_iconst (pc' := 1041) rfl ?_)
  refine wl_of hX hb cL_1041 (rw_iadd (pc' := 1042) rfl ?_)
  have k2477 : H2467 0 ((i + 1).toNat) = H 0 ((i + 1).toNat) := (f2472 0 ((i + 1).toNat) _ g0 (wmem_s rfl))
  refine wl_of hX hb cL_1042 (xa_I (so := 0) (pc' := 1043) (a := 0) w2471 g0 (wsh_s _) (by omega) (wty_s _ _) (by omega) (by omega) rfl (fun b2475 b2476 => ?_))
  refine wl_of hX hb cL_1043 (rw_aload_n (pc' := 1044) (v := .ref 0) rfl rfl rfl ?_)
  refine wl_of hX hb cL_1044 (rw_iload (pc' := 1046) (z := i) rfl rfl ?_)
  refine wl_of hX hb cL_1046 (rw_iconst (pc' := 1047) rfl ?_)
  refine wl_of hX hb cL_1047 (rw_iadd (pc' := 1048) rfl ?_)
  have k2480 : H2467 0 ((i + 2).toNat) = H 0 ((i + 2).toNat) := (f2472 0 ((i + 2).toNat) _ g0 (wmem_s rfl))
  refine wl_of hX hb cL_1048 (xa_I (so := 0) (pc' := 1049) (a := 0) w2471 g0 (wsh_s _) (by omega) (wty_s _ _) (by omega) (by omega) rfl (fun b2478 b2479 => ?_))
  have k2481 : wKI H2467 m = wKI H m := (wKI_fr hW gm f2472 rfl)
  have k2482 : H2467 x 9 = H x 9 := (f2472 x 9 _ gx rfl)
  have k2483 : H2467 m 6 = H m 6 := (f2472 m 6 _ gm rfl)
  have k2484 : H2467 x 11 = H x 11 := (f2472 x 11 _ gx rfl)
  have k2485 : H2467 m 13 = H m 13 := (f2472 m 13 _ gm rfl)
  have k2486 : H2467 x 8 = H x 8 := (f2472 x 8 _ gx rfl)
  have k2487 : H2467 m 3 = H m 3 := (f2472 m 3 _ gm rfl)
  refine wl_of hX hb cL_1049 (xc_V (pc' := 1052) (r := m) (as := [vI (H2467 0 ((i + 1).toNat)), vI (H2467 0 ((i + 2).toNat))]) (st := []) (lm_11_138) rfl rfl (Nat.le_of_ble_eq_true rfl) w2471 gm sh_42 (by decide) rfl (by decide) (s_261 w2471 gm ⟨by omega, by omega⟩ ⟨by omega, by omega⟩ (by omega)) (fun R2488 T2489 H2490 p2491 => ?_))
  obtain ⟨e2492, w2494, f2495, z2497, e2493, b2498, p2496⟩ := p2491
  subst e2492
  subst e2493
  show WL _ _ _ _ 1052 [(4, vI i), (3, .ref o), (2, .ref m), (1, .ref x), (0, .ref 0)] [vI z2497] _ H2490
  refine wl_of hX hb cL_1052 (rw_pop (pc' := 1053) rfl rfl ?_)
  refine wl_of hX hb cL_1053 (rw_goto (p1 := 1653) (by decide) ?_)
  have k2499 : H2490 x 9 = H2467 x 9 := (f2495 x 9 _ gx rfl)
  have k2500 : H2490 m 6 = H2467 m 6 := (f2495 m 6 _ gm rfl)
  have k2501 : H2490 x 11 = H2467 x 11 := (f2495 x 11 _ gx rfl)
  have k2502 : H2490 m 13 = H2467 m 13 := (f2495 m 13 _ gm rfl)
  have k2503 : H2490 x 8 = H2467 x 8 := (f2495 x 8 _ gx rfl)
  have k2504 : H2490 m 3 = H2467 m 3 := (f2495 m 3 _ gm rfl)
  have h2505 : XI T H2490 x m := (XI_fr w2471 gx f2495 rfl (XI_fr hW gx f2472 rfl hXI))
  exact WL.loc hX (by simp) (next T H2490 ⟨⟨w2494, g0, gx, gm, go, by omega, by omega⟩, h2505, by omega, by omega⟩ (by omega) (by omega))
set_option maxHeartbeats 4000000 in
theorem wl_c28 {kt : Nat → Option mc_E} {CB SB : Nat} {X : mc_S → Prop} {T : wq_T} {H : wq_H} {Len x m o : Nat} {i : Int} (hX : wlX kt CB SB X) (hb : T.2.1 ≤ CB ∧ T.2.2.1 ≤ SB) (hI : wlJ Len x m o T H) (hL : Len ≤ 3072) (hi : 0 ≤ i ∧ i + 6 ≤ Len) (hb2 : T.2.1 + 20 ≤ CB ∧ T.2.2.1 + 500 ≤ SB)  (next : ∀ T' H', wlJ Len x m o T' H' → T'.2.1 ≤ T.2.1 + 20 → T'.2.2.1 ≤ T.2.2.1 + 500 → WL kt CB SB X 1653 (wlL i x m o) [] T' H') : WL kt CB SB X 1056 (wlL i x m o) [] T H := by
  obtain ⟨⟨hW, g0, gx, gm, go, hK, hr⟩, hXI, hY1, hY2⟩ := hI
  refine wl_of hX hb cL_1056 (rw_aload_n (pc' := 1057) (v := .ref x) rfl rfl rfl ?_)
  refine wl_of hX hb cL_1057 (rw_aload_n (pc' := 1058) (v := .ref 0) rfl rfl rfl ?_)
  refine wl_of hX hb cL_1058 (rw_iload (pc' := 1060) (z := i) rfl rfl ?_)
  refine wl_of hX hb cL_1060 (rw_iconst (pc' := 1061) rfl ?_)
  refine wl_of hX hb cL_1061 (rw_iadd (pc' := 1062) rfl ?_)
  refine wl_of hX hb cL_1062 (xa_I (so := 0) (pc' := 1063) (a := 0) hW g0 (wsh_s _) (by omega) (wty_s _ _) (by omega) (by omega) rfl (fun b2506 b2507 => ?_))
  refine wl_of hX hb cL_1063 (rw_aload_n (pc' := 1064) (v := .ref 0) rfl rfl rfl ?_)
  refine wl_of hX hb cL_1064 (rw_iload (pc' := 1066) (z := i) rfl rfl ?_)
  refine wl_of hX hb cL_1066 (rw_iconst (pc' := 1067) rfl ?_)
  refine wl_of hX hb cL_1067 (rw_iadd (pc' := 1068) rfl ?_)
  refine wl_of hX hb cL_1068 (xa_I (so := 0) (pc' := 1069) (a := 0) hW g0 (wsh_s _) (by omega) (wty_s _ _) (by omega) (by omega) rfl (fun b2508 b2509 => ?_))
  refine wl_of hX hb cL_1069 (rw_if_eq (p1 := 1076) (p2 := 1072) (by decide) rfl ⟨by omega, by omega⟩ (fun c2510 => ?_) (fun c2510 => ?_))
  · refine wl_of hX hb cL_1076 (rw_iconst (pc' := 1077) rfl ?_)
    refine wl_of hX hb cL_1077 (xc_V (pc' := 1080) (r := x) (as := [vI (H 0 ((i + 1).toNat)), vI 0]) (st := []) (lm_11_139) rfl rfl (Nat.le_of_ble_eq_true rfl) hW gx sh_1 (by decide) rfl (by decide) (s_117 hW gx ⟨by omega, by omega⟩ ⟨by omega, by omega⟩) (fun R2511 T2512 H2513 p2514 => ?_))
    obtain ⟨e2515, w2517, f2518, z2519, e2516, b2520⟩ := p2514
    subst e2515
    subst e2516
    show WL _ _ _ _ 1080 [(4, vI i), (3, .ref o), (2, .ref m), (1, .ref x), (0, .ref 0)] [vI z2519] _ H2513
    refine wl_of hX hb cL_1080 (rw_pop (pc' := 1081) rfl rfl ?_)
    refine wl_of hX hb cL_1081 (rw_aload_n (pc' := 1082) (v := .ref m) rfl rfl rfl ?_)
    refine wl_of hX hb cL_1082 (rw_aload_n (pc' := 1083) (v := .ref 0) rfl rfl rfl ?_)
    refine wl_of hX hb cL_1083 (rw_iload (pc' := 1085) (z := i) rfl rfl ?_)
    refine wl_of hX hb cL_1085 (rw_iconst (pc' := 1086) rfl ?_)
    refine wl_of hX hb cL_1086 (rw_iadd (pc' := 1087) rfl ?_)
    have k2523 : H2513 0 ((i + 1).toNat) = H 0 ((i + 1).toNat) := (f2518 0 ((i + 1).toNat) _ g0 (wmem_s rfl))
    refine wl_of hX hb cL_1087 (xa_I (so := 0) (pc' := 1088) (a := 0) w2517 g0 (wsh_s _) (by omega) (wty_s _ _) (by omega) (by omega) rfl (fun b2521 b2522 => ?_))
    refine wl_of hX hb cL_1088 (rw_aload_n (pc' := 1089) (v := .ref 0) rfl rfl rfl ?_)
    refine wl_of hX hb cL_1089 (rw_iload (pc' := 1091) (z := i) rfl rfl ?_)
    refine wl_of hX hb cL_1091 (rw_iconst (pc' := 1092) rfl ?_)
    refine wl_of hX hb cL_1092 (rw_iadd (pc' := 1093) rfl ?_)
    have k2526 : H2513 0 ((i + 2).toNat) = H 0 ((i + 2).toNat) := (f2518 0 ((i + 2).toNat) _ g0 (wmem_s rfl))
    refine wl_of hX hb cL_1093 (xa_I (so := 0) (pc' := 1094) (a := 0) w2517 g0 (wsh_s _) (by omega) (wty_s _ _) (by omega) (by omega) rfl (fun b2524 b2525 => ?_))
    refine wl_of hX hb cL_1094 (rw_if_eq (p1 := 1101) (p2 := 1097) (by decide) rfl ⟨by omega, by omega⟩ (fun c2527 => ?_) (fun c2527 => ?_))
    · refine wl_of hX hb cL_1101 (rw_iconst (pc' := 1102) rfl ?_)
      have k2528 : wKI H2513 m = wKI H m := (wKI_fr hW gm f2518 rfl)
      have k2529 : H2513 x 9 = H x 9 := (f2518 x 9 _ gx rfl)
      have k2530 : H2513 m 6 = H m 6 := (f2518 m 6 _ gm rfl)
      have k2531 : H2513 x 11 = H x 11 := (f2518 x 11 _ gx rfl)
      have k2532 : H2513 m 13 = H m 13 := (f2518 m 13 _ gm rfl)
      have k2533 : H2513 x 8 = H x 8 := (f2518 x 8 _ gx rfl)
      have k2534 : H2513 m 3 = H m 3 := (f2518 m 3 _ gm rfl)
      refine wl_of hX hb cL_1102 (xc_V (pc' := 1105) (r := m) (as := [vI (H2513 0 ((i + 1).toNat)), vI 0]) (st := []) (lm_11_142) rfl rfl (Nat.le_of_ble_eq_true rfl) w2517 gm sh_42 (by decide) rfl (by decide) (s_263 w2517 gm ⟨by omega, by omega⟩ ⟨by omega, by omega⟩ (by omega)) (fun R2535 T2536 H2537 p2538 => ?_))
      obtain ⟨e2539, w2541, f2542, z2544, e2540, b2545, p2543⟩ := p2538
      subst e2539
      subst e2540
      show WL _ _ _ _ 1105 [(4, vI i), (3, .ref o), (2, .ref m), (1, .ref x), (0, .ref 0)] [vI z2544] _ H2537
      refine wl_of hX hb cL_1105 (rw_pop (pc' := 1106) rfl rfl ?_)
      refine wl_of hX hb cL_1106 (rw_goto (p1 := 1653) (by decide) ?_)
      have k2546 : H2537 x 9 = H2513 x 9 := (f2542 x 9 _ gx rfl)
      have k2547 : H2537 m 6 = H2513 m 6 := (f2542 m 6 _ gm rfl)
      have k2548 : H2537 x 11 = H2513 x 11 := (f2542 x 11 _ gx rfl)
      have k2549 : H2537 m 13 = H2513 m 13 := (f2542 m 13 _ gm rfl)
      have k2550 : H2537 x 8 = H2513 x 8 := (f2542 x 8 _ gx rfl)
      have k2551 : H2537 m 3 = H2513 m 3 := (f2542 m 3 _ gm rfl)
      have h2552 : XI T H2537 x m := (XI_fr w2517 gx f2542 rfl (XI_fr hW gx f2518 rfl hXI))
      exact WL.loc hX (by simp) (next T H2537 ⟨⟨w2541, g0, gx, gm, go, by omega, by omega⟩, h2552, by omega, by omega⟩ (by omega) (by omega))
    · exfalso
      omega
  · refine wl_of hX hb cL_1072 (rw_iconst (pc' := 1073) rfl ?_)
    refine wl_of hX hb cL_1073 (rw_goto (p1 := 1077) (by decide) ?_)
    refine wl_of hX hb cL_1077 (xc_V (pc' := 1080) (r := x) (as := [vI (H 0 ((i + 1).toNat)), vI 1]) (st := []) (lm_11_139) rfl rfl (Nat.le_of_ble_eq_true rfl) hW gx sh_1 (by decide) rfl (by decide) (s_117 hW gx ⟨by omega, by omega⟩ ⟨by omega, by omega⟩) (fun R2553 T2554 H2555 p2556 => ?_))
    obtain ⟨e2557, w2559, f2560, z2561, e2558, b2562⟩ := p2556
    subst e2557
    subst e2558
    show WL _ _ _ _ 1080 [(4, vI i), (3, .ref o), (2, .ref m), (1, .ref x), (0, .ref 0)] [vI z2561] _ H2555
    refine wl_of hX hb cL_1080 (rw_pop (pc' := 1081) rfl rfl ?_)
    refine wl_of hX hb cL_1081 (rw_aload_n (pc' := 1082) (v := .ref m) rfl rfl rfl ?_)
    refine wl_of hX hb cL_1082 (rw_aload_n (pc' := 1083) (v := .ref 0) rfl rfl rfl ?_)
    refine wl_of hX hb cL_1083 (rw_iload (pc' := 1085) (z := i) rfl rfl ?_)
    refine wl_of hX hb cL_1085 (rw_iconst (pc' := 1086) rfl ?_)
    refine wl_of hX hb cL_1086 (rw_iadd (pc' := 1087) rfl ?_)
    have k2565 : H2555 0 ((i + 1).toNat) = H 0 ((i + 1).toNat) := (f2560 0 ((i + 1).toNat) _ g0 (wmem_s rfl))
    refine wl_of hX hb cL_1087 (xa_I (so := 0) (pc' := 1088) (a := 0) w2559 g0 (wsh_s _) (by omega) (wty_s _ _) (by omega) (by omega) rfl (fun b2563 b2564 => ?_))
    refine wl_of hX hb cL_1088 (rw_aload_n (pc' := 1089) (v := .ref 0) rfl rfl rfl ?_)
    refine wl_of hX hb cL_1089 (rw_iload (pc' := 1091) (z := i) rfl rfl ?_)
    refine wl_of hX hb cL_1091 (rw_iconst (pc' := 1092) rfl ?_)
    refine wl_of hX hb cL_1092 (rw_iadd (pc' := 1093) rfl ?_)
    have k2568 : H2555 0 ((i + 2).toNat) = H 0 ((i + 2).toNat) := (f2560 0 ((i + 2).toNat) _ g0 (wmem_s rfl))
    refine wl_of hX hb cL_1093 (xa_I (so := 0) (pc' := 1094) (a := 0) w2559 g0 (wsh_s _) (by omega) (wty_s _ _) (by omega) (by omega) rfl (fun b2566 b2567 => ?_))
    refine wl_of hX hb cL_1094 (rw_if_eq (p1 := 1101) (p2 := 1097) (by decide) rfl ⟨by omega, by omega⟩ (fun c2569 => ?_) (fun c2569 => ?_))
    · refine wl_of hX hb cL_1101 (rw_iconst (pc' := 1102) rfl ?_)
      have k2570 : wKI H2555 m = wKI H m := (wKI_fr hW gm f2560 rfl)
      have k2571 : H2555 x 9 = H x 9 := (f2560 x 9 _ gx rfl)
      have k2572 : H2555 m 6 = H m 6 := (f2560 m 6 _ gm rfl)
      have k2573 : H2555 x 11 = H x 11 := (f2560 x 11 _ gx rfl)
      have k2574 : H2555 m 13 = H m 13 := (f2560 m 13 _ gm rfl)
      have k2575 : H2555 x 8 = H x 8 := (f2560 x 8 _ gx rfl)
      have k2576 : H2555 m 3 = H m 3 := (f2560 m 3 _ gm rfl)
      refine wl_of hX hb cL_1102 (xc_V (pc' := 1105) (r := m) (as := [vI (H2555 0 ((i + 1).toNat)), vI 0]) (st := []) (lm_11_142) rfl rfl (Nat.le_of_ble_eq_true rfl) w2559 gm sh_42 (by decide) rfl (by decide) (s_263 w2559 gm ⟨by omega, by omega⟩ ⟨by omega, by omega⟩ (by omega)) (fun R2577 T2578 H2579 p2580 => ?_))
      obtain ⟨e2581, w2583, f2584, z2586, e2582, b2587, p2585⟩ := p2580
      subst e2581
      subst e2582
      show WL _ _ _ _ 1105 [(4, vI i), (3, .ref o), (2, .ref m), (1, .ref x), (0, .ref 0)] [vI z2586] _ H2579
      refine wl_of hX hb cL_1105 (rw_pop (pc' := 1106) rfl rfl ?_)
      refine wl_of hX hb cL_1106 (rw_goto (p1 := 1653) (by decide) ?_)
      have k2588 : H2579 x 9 = H2555 x 9 := (f2584 x 9 _ gx rfl)
      have k2589 : H2579 m 6 = H2555 m 6 := (f2584 m 6 _ gm rfl)
      have k2590 : H2579 x 11 = H2555 x 11 := (f2584 x 11 _ gx rfl)
      have k2591 : H2579 m 13 = H2555 m 13 := (f2584 m 13 _ gm rfl)
      have k2592 : H2579 x 8 = H2555 x 8 := (f2584 x 8 _ gx rfl)
      have k2593 : H2579 m 3 = H2555 m 3 := (f2584 m 3 _ gm rfl)
      have h2594 : XI T H2579 x m := (XI_fr w2559 gx f2584 rfl (XI_fr hW gx f2560 rfl hXI))
      exact WL.loc hX (by simp) (next T H2579 ⟨⟨w2583, g0, gx, gm, go, by omega, by omega⟩, h2594, by omega, by omega⟩ (by omega) (by omega))
    · refine wl_of hX hb cL_1097 (rw_iconst (pc' := 1098) rfl ?_)
      refine wl_of hX hb cL_1098 (rw_goto (p1 := 1102) (by decide) ?_)
      have k2595 : wKI H2555 m = wKI H m := (wKI_fr hW gm f2560 rfl)
      have k2596 : H2555 x 9 = H x 9 := (f2560 x 9 _ gx rfl)
      have k2597 : H2555 m 6 = H m 6 := (f2560 m 6 _ gm rfl)
      have k2598 : H2555 x 11 = H x 11 := (f2560 x 11 _ gx rfl)
      have k2599 : H2555 m 13 = H m 13 := (f2560 m 13 _ gm rfl)
      have k2600 : H2555 x 8 = H x 8 := (f2560 x 8 _ gx rfl)
      have k2601 : H2555 m 3 = H m 3 := (f2560 m 3 _ gm rfl)
      refine wl_of hX hb cL_1102 (xc_V (pc' := 1105) (r := m) (as := [vI (H2555 0 ((i + 1).toNat)), vI 1]) (st := []) (lm_11_142) rfl rfl (Nat.le_of_ble_eq_true rfl) w2559 gm sh_42 (by decide) rfl (by decide) (s_263 w2559 gm ⟨by omega, by omega⟩ ⟨by omega, by omega⟩ (by omega)) (fun R2602 T2603 H2604 p2605 => ?_))
      obtain ⟨e2606, w2608, f2609, z2611, e2607, b2612, p2610⟩ := p2605
      subst e2606
      subst e2607
      show WL _ _ _ _ 1105 [(4, vI i), (3, .ref o), (2, .ref m), (1, .ref x), (0, .ref 0)] [vI z2611] _ H2604
      refine wl_of hX hb cL_1105 (rw_pop (pc' := 1106) rfl rfl ?_)
      refine wl_of hX hb cL_1106 (rw_goto (p1 := 1653) (by decide) ?_)
      have k2613 : H2604 x 9 = H2555 x 9 := (f2609 x 9 _ gx rfl)
      have k2614 : H2604 m 6 = H2555 m 6 := (f2609 m 6 _ gm rfl)
      have k2615 : H2604 x 11 = H2555 x 11 := (f2609 x 11 _ gx rfl)
      have k2616 : H2604 m 13 = H2555 m 13 := (f2609 m 13 _ gm rfl)
      have k2617 : H2604 x 8 = H2555 x 8 := (f2609 x 8 _ gx rfl)
      have k2618 : H2604 m 3 = H2555 m 3 := (f2609 m 3 _ gm rfl)
      have h2619 : XI T H2604 x m := (XI_fr w2559 gx f2609 rfl (XI_fr hW gx f2560 rfl hXI))
      exact WL.loc hX (by simp) (next T H2604 ⟨⟨w2608, g0, gx, gm, go, by omega, by omega⟩, h2619, by omega, by omega⟩ (by omega) (by omega))
set_option maxHeartbeats 4000000 in
theorem wl_c29 {kt : Nat → Option mc_E} {CB SB : Nat} {X : mc_S → Prop} {T : wq_T} {H : wq_H} {Len x m o : Nat} {i : Int} (hX : wlX kt CB SB X) (hb : T.2.1 ≤ CB ∧ T.2.2.1 ≤ SB) (hI : wlJ Len x m o T H) (hL : Len ≤ 3072) (hi : 0 ≤ i ∧ i + 6 ≤ Len) (hb2 : T.2.1 + 20 ≤ CB ∧ T.2.2.1 + 500 ≤ SB)  (next : ∀ T' H', wlJ Len x m o T' H' → T'.2.1 ≤ T.2.1 + 20 → T'.2.2.1 ≤ T.2.2.1 + 500 → WL kt CB SB X 1653 (wlL i x m o) [] T' H') : WL kt CB SB X 1109 (wlL i x m o) [] T H := by
  obtain ⟨⟨hW, g0, gx, gm, go, hK, hr⟩, hXI, hY1, hY2⟩ := hI
  refine wl_of hX hb cL_1109 (rw_aload_n (pc' := 1110) (v := .ref x) rfl rfl rfl ?_)
  refine wl_of hX hb cL_1110 (rw_aload_n (pc' := 1111) (v := .ref 0) rfl rfl rfl ?_)
  refine wl_of hX hb cL_1111 (rw_iload (pc' := 1113) (z := i) rfl rfl ?_)
  refine wl_of hX hb cL_1113 (rw_iconst (pc' := 1114) rfl ?_)
  refine wl_of hX hb cL_1114 (rw_iadd (pc' := 1115) rfl ?_)
  refine wl_of hX hb cL_1115 (xa_I (so := 0) (pc' := 1116) (a := 0) hW g0 (wsh_s _) (by omega) (wty_s _ _) (by omega) (by omega) rfl (fun b2620 b2621 => ?_))
  refine wl_of hX hb cL_1116 (rw_aload_n (pc' := 1117) (v := .ref 0) rfl rfl rfl ?_)
  refine wl_of hX hb cL_1117 (rw_iload (pc' := 1119) (z := i) rfl rfl ?_)
  refine wl_of hX hb cL_1119 (rw_iconst (pc' := 1120) rfl ?_)
  refine wl_of hX hb cL_1120 (rw_iadd (pc' := 1121) rfl ?_)
  refine wl_of hX hb cL_1121 (xa_I (so := 0) (pc' := 1122) (a := 0) hW g0 (wsh_s _) (by omega) (wty_s _ _) (by omega) (by omega) rfl (fun b2622 b2623 => ?_))
  refine wl_of hX hb cL_1122 (rw_if_eq (p1 := 1129) (p2 := 1125) (by decide) rfl ⟨by omega, by omega⟩ (fun c2624 => ?_) (fun c2624 => ?_))
  · refine wl_of hX hb cL_1129 (rw_iconst (pc' := 1130) rfl ?_)
    refine wl_of hX hb cL_1130 (xc_V (pc' := 1133) (r := x) (as := [vI (H 0 ((i + 1).toNat)), vI 0]) (st := []) (lm_11_143) rfl rfl (Nat.le_of_ble_eq_true rfl) hW gx sh_1 (by decide) rfl (by decide) (s_119 hW gx ⟨by omega, by omega⟩ ⟨by omega, by omega⟩) (fun R2625 T2626 H2627 p2628 => ?_))
    obtain ⟨e2629, w2631, f2632, z2633, e2630, b2634⟩ := p2628
    subst e2629
    subst e2630
    show WL _ _ _ _ 1133 [(4, vI i), (3, .ref o), (2, .ref m), (1, .ref x), (0, .ref 0)] [vI z2633] _ H2627
    refine wl_of hX hb cL_1133 (rw_pop (pc' := 1134) rfl rfl ?_)
    refine wl_of hX hb cL_1134 (rw_aload_n (pc' := 1135) (v := .ref m) rfl rfl rfl ?_)
    refine wl_of hX hb cL_1135 (rw_aload_n (pc' := 1136) (v := .ref 0) rfl rfl rfl ?_)
    refine wl_of hX hb cL_1136 (rw_iload (pc' := 1138) (z := i) rfl rfl ?_)
    refine wl_of hX hb cL_1138 (rw_iconst (pc' := 1139) rfl ?_)
    refine wl_of hX hb cL_1139 (rw_iadd (pc' := 1140) rfl ?_)
    have k2637 : H2627 0 ((i + 1).toNat) = H 0 ((i + 1).toNat) := (f2632 0 ((i + 1).toNat) _ g0 (wmem_s rfl))
    refine wl_of hX hb cL_1140 (xa_I (so := 0) (pc' := 1141) (a := 0) w2631 g0 (wsh_s _) (by omega) (wty_s _ _) (by omega) (by omega) rfl (fun b2635 b2636 => ?_))
    refine wl_of hX hb cL_1141 (rw_aload_n (pc' := 1142) (v := .ref 0) rfl rfl rfl ?_)
    refine wl_of hX hb cL_1142 (rw_iload (pc' := 1144) (z := i) rfl rfl ?_)
    refine wl_of hX hb cL_1144 (rw_iconst (pc' := 1145) rfl ?_)
    refine wl_of hX hb cL_1145 (rw_iadd (pc' := 1146) rfl ?_)
    have k2640 : H2627 0 ((i + 2).toNat) = H 0 ((i + 2).toNat) := (f2632 0 ((i + 2).toNat) _ g0 (wmem_s rfl))
    refine wl_of hX hb cL_1146 (xa_I (so := 0) (pc' := 1147) (a := 0) w2631 g0 (wsh_s _) (by omega) (wty_s _ _) (by omega) (by omega) rfl (fun b2638 b2639 => ?_))
    refine wl_of hX hb cL_1147 (rw_if_eq (p1 := 1154) (p2 := 1150) (by decide) rfl ⟨by omega, by omega⟩ (fun c2641 => ?_) (fun c2641 => ?_))
    · refine wl_of hX hb cL_1154 (rw_iconst (pc' := 1155) rfl ?_)
      have k2642 : wKI H2627 m = wKI H m := (wKI_fr hW gm f2632 rfl)
      have k2643 : H2627 x 9 = H x 9 := (f2632 x 9 _ gx rfl)
      have k2644 : H2627 m 6 = H m 6 := (f2632 m 6 _ gm rfl)
      have k2645 : H2627 x 11 = H x 11 := (f2632 x 11 _ gx rfl)
      have k2646 : H2627 m 13 = H m 13 := (f2632 m 13 _ gm rfl)
      have k2647 : H2627 x 8 = H x 8 := (f2632 x 8 _ gx rfl)
      have k2648 : H2627 m 3 = H m 3 := (f2632 m 3 _ gm rfl)
      refine wl_of hX hb cL_1155 (xc_V (pc' := 1158) (r := m) (as := [vI (H2627 0 ((i + 1).toNat)), vI 0]) (st := []) (lm_11_146) rfl rfl (Nat.le_of_ble_eq_true rfl) w2631 gm sh_42 (by decide) rfl (by decide) (s_265 w2631 gm ⟨by omega, by omega⟩ ⟨by omega, by omega⟩ (by omega)) (fun R2649 T2650 H2651 p2652 => ?_))
      obtain ⟨e2653, w2655, f2656, z2658, e2654, b2659, p2657⟩ := p2652
      subst e2653
      subst e2654
      show WL _ _ _ _ 1158 [(4, vI i), (3, .ref o), (2, .ref m), (1, .ref x), (0, .ref 0)] [vI z2658] _ H2651
      refine wl_of hX hb cL_1158 (rw_pop (pc' := 1159) rfl rfl ?_)
      refine wl_of hX hb cL_1159 (rw_goto (p1 := 1653) (by decide) ?_)
      have k2660 : H2651 x 9 = H2627 x 9 := (f2656 x 9 _ gx rfl)
      have k2661 : H2651 m 6 = H2627 m 6 := (f2656 m 6 _ gm rfl)
      have k2662 : H2651 x 11 = H2627 x 11 := (f2656 x 11 _ gx rfl)
      have k2663 : H2651 m 13 = H2627 m 13 := (f2656 m 13 _ gm rfl)
      have k2664 : H2651 x 8 = H2627 x 8 := (f2656 x 8 _ gx rfl)
      have k2665 : H2651 m 3 = H2627 m 3 := (f2656 m 3 _ gm rfl)
      have h2666 : XI T H2651 x m := (XI_fr w2631 gx f2656 rfl (XI_fr hW gx f2632 rfl hXI))
      exact WL.loc hX (by simp) (next T H2651 ⟨⟨w2655, g0, gx, gm, go, by omega, by omega⟩, h2666, by omega, by omega⟩ (by omega) (by omega))
    · exfalso
      omega
  · refine wl_of hX hb cL_1125 (rw_iconst (pc' := 1126) rfl ?_)
    refine wl_of hX hb cL_1126 (rw_goto (p1 := 1130) (by decide) ?_)
    refine wl_of hX hb cL_1130 (xc_V (pc' := 1133) (r := x) (as := [vI (H 0 ((i + 1).toNat)), vI 1]) (st := []) (lm_11_143) rfl rfl (Nat.le_of_ble_eq_true rfl) hW gx sh_1 (by decide) rfl (by decide) (s_119 hW gx ⟨by omega, by omega⟩ ⟨by omega, by omega⟩) (fun R2667 T2668 H2669 p2670 => ?_))
    obtain ⟨e2671, w2673, f2674, z2675, e2672, b2676⟩ := p2670
    subst e2671
    subst e2672
    show WL _ _ _ _ 1133 [(4, vI i), (3, .ref o), (2, .ref m), (1, .ref x), (0, .ref 0)] [vI z2675] _ H2669
    refine wl_of hX hb cL_1133 (rw_pop (pc' := 1134) rfl rfl ?_)
    refine wl_of hX hb cL_1134 (rw_aload_n (pc' := 1135) (v := .ref m) rfl rfl rfl ?_)
    refine wl_of hX hb cL_1135 (rw_aload_n (pc' := 1136) (v := .ref 0) rfl rfl rfl ?_)
    refine wl_of hX hb cL_1136 (rw_iload (pc' := 1138) (z := i) rfl rfl ?_)
    refine wl_of hX hb cL_1138 (rw_iconst (pc' := 1139) rfl ?_)
    refine wl_of hX hb cL_1139 (rw_iadd (pc' := 1140) rfl ?_)
    have k2679 : H2669 0 ((i + 1).toNat) = H 0 ((i + 1).toNat) := (f2674 0 ((i + 1).toNat) _ g0 (wmem_s rfl))
    refine wl_of hX hb cL_1140 (xa_I (so := 0) (pc' := 1141) (a := 0) w2673 g0 (wsh_s _) (by omega) (wty_s _ _) (by omega) (by omega) rfl (fun b2677 b2678 => ?_))
    refine wl_of hX hb cL_1141 (rw_aload_n (pc' := 1142) (v := .ref 0) rfl rfl rfl ?_)
    refine wl_of hX hb cL_1142 (rw_iload (pc' := 1144) (z := i) rfl rfl ?_)
    refine wl_of hX hb cL_1144 (rw_iconst (pc' := 1145) rfl ?_)
    refine wl_of hX hb cL_1145 (rw_iadd (pc' := 1146) rfl ?_)
    have k2682 : H2669 0 ((i + 2).toNat) = H 0 ((i + 2).toNat) := (f2674 0 ((i + 2).toNat) _ g0 (wmem_s rfl))
    refine wl_of hX hb cL_1146 (xa_I (so := 0) (pc' := 1147) (a := 0) w2673 g0 (wsh_s _) (by omega) (wty_s _ _) (by omega) (by omega) rfl (fun b2680 b2681 => ?_))
    refine wl_of hX hb cL_1147 (rw_if_eq (p1 := 1154) (p2 := 1150) (by decide) rfl ⟨by omega, by omega⟩ (fun c2683 => ?_) (fun c2683 => ?_))
    · refine wl_of hX hb cL_1154 (rw_iconst (pc' := 1155) rfl ?_)
      have k2684 : wKI H2669 m = wKI H m := (wKI_fr hW gm f2674 rfl)
      have k2685 : H2669 x 9 = H x 9 := (f2674 x 9 _ gx rfl)
      have k2686 : H2669 m 6 = H m 6 := (f2674 m 6 _ gm rfl)
      have k2687 : H2669 x 11 = H x 11 := (f2674 x 11 _ gx rfl)
      have k2688 : H2669 m 13 = H m 13 := (f2674 m 13 _ gm rfl)
      have k2689 : H2669 x 8 = H x 8 := (f2674 x 8 _ gx rfl)
      have k2690 : H2669 m 3 = H m 3 := (f2674 m 3 _ gm rfl)
      refine wl_of hX hb cL_1155 (xc_V (pc' := 1158) (r := m) (as := [vI (H2669 0 ((i + 1).toNat)), vI 0]) (st := []) (lm_11_146) rfl rfl (Nat.le_of_ble_eq_true rfl) w2673 gm sh_42 (by decide) rfl (by decide) (s_265 w2673 gm ⟨by omega, by omega⟩ ⟨by omega, by omega⟩ (by omega)) (fun R2691 T2692 H2693 p2694 => ?_))
      obtain ⟨e2695, w2697, f2698, z2700, e2696, b2701, p2699⟩ := p2694
      subst e2695
      subst e2696
      show WL _ _ _ _ 1158 [(4, vI i), (3, .ref o), (2, .ref m), (1, .ref x), (0, .ref 0)] [vI z2700] _ H2693
      refine wl_of hX hb cL_1158 (rw_pop (pc' := 1159) rfl rfl ?_)
      refine wl_of hX hb cL_1159 (rw_goto (p1 := 1653) (by decide) ?_)
      have k2702 : H2693 x 9 = H2669 x 9 := (f2698 x 9 _ gx rfl)
      have k2703 : H2693 m 6 = H2669 m 6 := (f2698 m 6 _ gm rfl)
      have k2704 : H2693 x 11 = H2669 x 11 := (f2698 x 11 _ gx rfl)
      have k2705 : H2693 m 13 = H2669 m 13 := (f2698 m 13 _ gm rfl)
      have k2706 : H2693 x 8 = H2669 x 8 := (f2698 x 8 _ gx rfl)
      have k2707 : H2693 m 3 = H2669 m 3 := (f2698 m 3 _ gm rfl)
      have h2708 : XI T H2693 x m := (XI_fr w2673 gx f2698 rfl (XI_fr hW gx f2674 rfl hXI))
      exact WL.loc hX (by simp) (next T H2693 ⟨⟨w2697, g0, gx, gm, go, by omega, by omega⟩, h2708, by omega, by omega⟩ (by omega) (by omega))
    · refine wl_of hX hb cL_1150 (rw_iconst (pc' := 1151) rfl ?_)
      refine wl_of hX hb cL_1151 (rw_goto (p1 := 1155) (by decide) ?_)
      have k2709 : wKI H2669 m = wKI H m := (wKI_fr hW gm f2674 rfl)
      have k2710 : H2669 x 9 = H x 9 := (f2674 x 9 _ gx rfl)
      have k2711 : H2669 m 6 = H m 6 := (f2674 m 6 _ gm rfl)
      have k2712 : H2669 x 11 = H x 11 := (f2674 x 11 _ gx rfl)
      have k2713 : H2669 m 13 = H m 13 := (f2674 m 13 _ gm rfl)
      have k2714 : H2669 x 8 = H x 8 := (f2674 x 8 _ gx rfl)
      have k2715 : H2669 m 3 = H m 3 := (f2674 m 3 _ gm rfl)
      refine wl_of hX hb cL_1155 (xc_V (pc' := 1158) (r := m) (as := [vI (H2669 0 ((i + 1).toNat)), vI 1]) (st := []) (lm_11_146) rfl rfl (Nat.le_of_ble_eq_true rfl) w2673 gm sh_42 (by decide) rfl (by decide) (s_265 w2673 gm ⟨by omega, by omega⟩ ⟨by omega, by omega⟩ (by omega)) (fun R2716 T2717 H2718 p2719 => ?_))
      obtain ⟨e2720, w2722, f2723, z2725, e2721, b2726, p2724⟩ := p2719
      subst e2720
      subst e2721
      show WL _ _ _ _ 1158 [(4, vI i), (3, .ref o), (2, .ref m), (1, .ref x), (0, .ref 0)] [vI z2725] _ H2718
      refine wl_of hX hb cL_1158 (rw_pop (pc' := 1159) rfl rfl ?_)
      refine wl_of hX hb cL_1159 (rw_goto (p1 := 1653) (by decide) ?_)
      have k2727 : H2718 x 9 = H2669 x 9 := (f2723 x 9 _ gx rfl)
      have k2728 : H2718 m 6 = H2669 m 6 := (f2723 m 6 _ gm rfl)
      have k2729 : H2718 x 11 = H2669 x 11 := (f2723 x 11 _ gx rfl)
      have k2730 : H2718 m 13 = H2669 m 13 := (f2723 m 13 _ gm rfl)
      have k2731 : H2718 x 8 = H2669 x 8 := (f2723 x 8 _ gx rfl)
      have k2732 : H2718 m 3 = H2669 m 3 := (f2723 m 3 _ gm rfl)
      have h2733 : XI T H2718 x m := (XI_fr w2673 gx f2723 rfl (XI_fr hW gx f2674 rfl hXI))
      exact WL.loc hX (by simp) (next T H2718 ⟨⟨w2722, g0, gx, gm, go, by omega, by omega⟩, h2733, by omega, by omega⟩ (by omega) (by omega))
set_option maxHeartbeats 4000000 in
theorem wl_c30 {kt : Nat → Option mc_E} {CB SB : Nat} {X : mc_S → Prop} {T : wq_T} {H : wq_H} {Len x m o : Nat} {i : Int} (hX : wlX kt CB SB X) (hb : T.2.1 ≤ CB ∧ T.2.2.1 ≤ SB) (hI : wlJ Len x m o T H) (hL : Len ≤ 3072) (hi : 0 ≤ i ∧ i + 6 ≤ Len) (hb2 : T.2.1 + 20 ≤ CB ∧ T.2.2.1 + 500 ≤ SB)  (next : ∀ T' H', wlJ Len x m o T' H' → T'.2.1 ≤ T.2.1 + 20 → T'.2.2.1 ≤ T.2.2.1 + 500 → WL kt CB SB X 1653 (wlL i x m o) [] T' H') : WL kt CB SB X 1162 (wlL i x m o) [] T H := by
  obtain ⟨⟨hW, g0, gx, gm, go, hK, hr⟩, hXI, hY1, hY2⟩ := hI
  refine wl_of hX hb cL_1162 (rw_aload_n (pc' := 1163) (v := .ref x) rfl rfl rfl ?_)
  refine wl_of hX hb cL_1163 (xc_V (pc' := 1166) (r := x) (as := []) (st := []) (lm_11_147) rfl rfl (Nat.le_of_ble_eq_true rfl) hW gx sh_1 (by decide) rfl (by decide) (s_120 hW gx) (fun R2734 T2735 H2736 p2737 => ?_))
  obtain ⟨e2738, w2740, f2741, z2742, e2739, b2743⟩ := p2737
  subst e2738
  subst e2739
  show WL _ _ _ _ 1166 [(4, vI i), (3, .ref o), (2, .ref m), (1, .ref x), (0, .ref 0)] [vI z2742] _ H2736
  refine wl_of hX hb cL_1166 (rw_pop (pc' := 1167) rfl rfl ?_)
  refine wl_of hX hb cL_1167 (rw_aload_n (pc' := 1168) (v := .ref m) rfl rfl rfl ?_)
  have k2744 : wKI H2736 m = wKI H m := (wKI_fr hW gm f2741 rfl)
  have k2745 : H2736 x 9 = H x 9 := (f2741 x 9 _ gx rfl)
  have k2746 : H2736 m 6 = H m 6 := (f2741 m 6 _ gm rfl)
  have k2747 : H2736 x 11 = H x 11 := (f2741 x 11 _ gx rfl)
  have k2748 : H2736 m 13 = H m 13 := (f2741 m 13 _ gm rfl)
  have k2749 : H2736 x 8 = H x 8 := (f2741 x 8 _ gx rfl)
  have k2750 : H2736 m 3 = H m 3 := (f2741 m 3 _ gm rfl)
  refine wl_of hX hb cL_1168 (xc_V (pc' := 1171) (r := m) (as := []) (st := []) (lm_11_150) rfl rfl (Nat.le_of_ble_eq_true rfl) w2740 gm sh_42 (by decide) rfl (by decide) (s_266 w2740 gm (by omega)) (fun R2751 T2752 H2753 p2754 => ?_))
  obtain ⟨e2755, w2757, f2758, z2760, e2756, b2761, p2759⟩ := p2754
  subst e2755
  subst e2756
  show WL _ _ _ _ 1171 [(4, vI i), (3, .ref o), (2, .ref m), (1, .ref x), (0, .ref 0)] [vI z2760] _ H2753
  refine wl_of hX hb cL_1171 (rw_pop (pc' := 1172) rfl rfl ?_)
  refine wl_of hX hb cL_1172 (rw_goto (p1 := 1653) (by decide) ?_)
  have k2762 : H2753 x 9 = H2736 x 9 := (f2758 x 9 _ gx rfl)
  have k2763 : H2753 m 6 = H2736 m 6 := (f2758 m 6 _ gm rfl)
  have k2764 : H2753 x 11 = H2736 x 11 := (f2758 x 11 _ gx rfl)
  have k2765 : H2753 m 13 = H2736 m 13 := (f2758 m 13 _ gm rfl)
  have k2766 : H2753 x 8 = H2736 x 8 := (f2758 x 8 _ gx rfl)
  have k2767 : H2753 m 3 = H2736 m 3 := (f2758 m 3 _ gm rfl)
  have h2768 : XI T H2753 x m := (XI_fr w2740 gx f2758 rfl (XI_fr hW gx f2741 rfl hXI))
  exact WL.loc hX (by simp) (next T H2753 ⟨⟨w2757, g0, gx, gm, go, by omega, by omega⟩, h2768, by omega, by omega⟩ (by omega) (by omega))
set_option maxHeartbeats 4000000 in
theorem wl_c31 {kt : Nat → Option mc_E} {CB SB : Nat} {X : mc_S → Prop} {T : wq_T} {H : wq_H} {Len x m o : Nat} {i : Int} (hX : wlX kt CB SB X) (hb : T.2.1 ≤ CB ∧ T.2.2.1 ≤ SB) (hI : wlJ Len x m o T H) (hL : Len ≤ 3072) (hi : 0 ≤ i ∧ i + 6 ≤ Len) (hb2 : T.2.1 + 20 ≤ CB ∧ T.2.2.1 + 500 ≤ SB)  (next : ∀ T' H', wlJ Len x m o T' H' → T'.2.1 ≤ T.2.1 + 20 → T'.2.2.1 ≤ T.2.2.1 + 500 → WL kt CB SB X 1653 (wlL i x m o) [] T' H') : WL kt CB SB X 1175 (wlL i x m o) [] T H := by
  obtain ⟨⟨hW, g0, gx, gm, go, hK, hr⟩, hXI, hY1, hY2⟩ := hI
  refine wl_of hX hb cL_1175 (rw_aload_n (pc' := 1176) (v := .ref x) rfl rfl rfl ?_)
  refine wl_of hX hb cL_1176 (rw_aload_n (pc' := 1177) (v := .ref 0) rfl rfl rfl ?_)
  refine wl_of hX hb cL_1177 (rw_iload (pc' := 1179) (z := i) rfl rfl ?_)
  refine wl_of hX hb cL_1179 (rw_iconst (pc' := 1180) rfl ?_)
  refine wl_of hX hb cL_1180 (rw_iadd (pc' := 1181) rfl ?_)
  refine wl_of hX hb cL_1181 (xa_I (so := 0) (pc' := 1182) (a := 0) hW g0 (wsh_s _) (by omega) (wty_s _ _) (by omega) (by omega) rfl (fun b2769 b2770 => ?_))
  refine wl_of hX hb cL_1182 (xc_V (pc' := 1185) (r := x) (as := [vI (H 0 ((i + 1).toNat))]) (st := []) (lm_11_151) rfl rfl (Nat.le_of_ble_eq_true rfl) hW gx sh_1 (by decide) rfl (by decide) (s_130 hW gx ⟨by omega, by omega⟩) (fun R2771 T2772 H2773 p2774 => ?_))
  obtain ⟨e2775, w2777, f2778, z2779, e2776, b2780⟩ := p2774
  subst e2775
  subst e2776
  show WL _ _ _ _ 1185 [(4, vI i), (3, .ref o), (2, .ref m), (1, .ref x), (0, .ref 0)] [vI z2779] _ H2773
  refine wl_of hX hb cL_1185 (rw_pop (pc' := 1186) rfl rfl ?_)
  refine wl_of hX hb cL_1186 (rw_aload_n (pc' := 1187) (v := .ref m) rfl rfl rfl ?_)
  refine wl_of hX hb cL_1187 (rw_aload_n (pc' := 1188) (v := .ref 0) rfl rfl rfl ?_)
  refine wl_of hX hb cL_1188 (rw_iload (pc' := 1190) (z := i) rfl rfl ?_)
  refine wl_of hX hb cL_1190 (rw_iconst (pc' := 1191) rfl ?_)
  refine wl_of hX hb cL_1191 (rw_iadd (pc' := 1192) rfl ?_)
  have k2783 : H2773 0 ((i + 1).toNat) = H 0 ((i + 1).toNat) := (f2778 0 ((i + 1).toNat) _ g0 (wmem_s rfl))
  refine wl_of hX hb cL_1192 (xa_I (so := 0) (pc' := 1193) (a := 0) w2777 g0 (wsh_s _) (by omega) (wty_s _ _) (by omega) (by omega) rfl (fun b2781 b2782 => ?_))
  have k2784 : wKI H2773 m = wKI H m := (wKI_fr hW gm f2778 rfl)
  have k2785 : H2773 x 9 = H x 9 := (f2778 x 9 _ gx rfl)
  have k2786 : H2773 m 6 = H m 6 := (f2778 m 6 _ gm rfl)
  have k2787 : H2773 x 11 = H x 11 := (f2778 x 11 _ gx rfl)
  have k2788 : H2773 m 13 = H m 13 := (f2778 m 13 _ gm rfl)
  have k2789 : H2773 x 8 = H x 8 := (f2778 x 8 _ gx rfl)
  have k2790 : H2773 m 3 = H m 3 := (f2778 m 3 _ gm rfl)
  refine wl_of hX hb cL_1193 (xc_V (pc' := 1196) (r := m) (as := [vI (H2773 0 ((i + 1).toNat))]) (st := []) (lm_11_154) rfl rfl (Nat.le_of_ble_eq_true rfl) w2777 gm sh_42 (by decide) rfl (by decide) (s_271 w2777 gm ⟨by omega, by omega⟩ (by omega)) (fun R2791 T2792 H2793 p2794 => ?_))
  obtain ⟨e2795, w2797, f2798, z2800, e2796, b2801, p2799⟩ := p2794
  subst e2795
  subst e2796
  show WL _ _ _ _ 1196 [(4, vI i), (3, .ref o), (2, .ref m), (1, .ref x), (0, .ref 0)] [vI z2800] _ H2793
  refine wl_of hX hb cL_1196 (rw_pop (pc' := 1197) rfl rfl ?_)
  refine wl_of hX hb cL_1197 (rw_goto (p1 := 1653) (by decide) ?_)
  have k2802 : H2793 x 9 = H2773 x 9 := (f2798 x 9 _ gx rfl)
  have k2803 : H2793 m 6 = H2773 m 6 := (f2798 m 6 _ gm rfl)
  have k2804 : H2793 x 11 = H2773 x 11 := (f2798 x 11 _ gx rfl)
  have k2805 : H2793 m 13 = H2773 m 13 := (f2798 m 13 _ gm rfl)
  have k2806 : H2793 x 8 = H2773 x 8 := (f2798 x 8 _ gx rfl)
  have k2807 : H2793 m 3 = H2773 m 3 := (f2798 m 3 _ gm rfl)
  have h2808 : XI T H2793 x m := (XI_fr w2777 gx f2798 rfl (XI_fr hW gx f2778 rfl hXI))
  exact WL.loc hX (by simp) (next T H2793 ⟨⟨w2797, g0, gx, gm, go, by omega, by omega⟩, h2808, by omega, by omega⟩ (by omega) (by omega))
set_option maxHeartbeats 4000000 in
theorem wl_c32 {kt : Nat → Option mc_E} {CB SB : Nat} {X : mc_S → Prop} {T : wq_T} {H : wq_H} {Len x m o : Nat} {i : Int} (hX : wlX kt CB SB X) (hb : T.2.1 ≤ CB ∧ T.2.2.1 ≤ SB) (hI : wlJ Len x m o T H) (hL : Len ≤ 3072) (hi : 0 ≤ i ∧ i + 6 ≤ Len) (hb2 : T.2.1 + 20 ≤ CB ∧ T.2.2.1 + 500 ≤ SB)  (next : ∀ T' H', wlJ Len x m o T' H' → T'.2.1 ≤ T.2.1 + 20 → T'.2.2.1 ≤ T.2.2.1 + 500 → WL kt CB SB X 1653 (wlL i x m o) [] T' H') : WL kt CB SB X 1200 (wlL i x m o) [] T H := by
  obtain ⟨⟨hW, g0, gx, gm, go, hK, hr⟩, hXI, hY1, hY2⟩ := hI
  refine wl_of hX hb cL_1200 (rw_aload_n (pc' := 1201) (v := .ref x) rfl rfl rfl ?_)
  refine wl_of hX hb cL_1201 (rw_aload_n (pc' := 1202) (v := .ref 0) rfl rfl rfl ?_)
  refine wl_of hX hb cL_1202 (rw_iload (pc' := 1204) (z := i) rfl rfl ?_)
  refine wl_of hX hb cL_1204 (rw_iconst (pc' := 1205) rfl ?_)
  refine wl_of hX hb cL_1205 (rw_iadd (pc' := 1206) rfl ?_)
  refine wl_of hX hb cL_1206 (xa_I (so := 0) (pc' := 1207) (a := 0) hW g0 (wsh_s _) (by omega) (wty_s _ _) (by omega) (by omega) rfl (fun b2809 b2810 => ?_))
  refine wl_of hX hb cL_1207 (xc_V (pc' := 1210) (r := x) (as := [vI (H 0 ((i + 1).toNat))]) (st := []) (lm_11_155) rfl rfl (Nat.le_of_ble_eq_true rfl) hW gx sh_1 (by decide) rfl (by decide) (s_132 hW gx ⟨by omega, by omega⟩) (fun R2811 T2812 H2813 p2814 => ?_))
  obtain ⟨e2815, w2817, f2818, z2819, e2816, b2820⟩ := p2814
  subst e2815
  subst e2816
  show WL _ _ _ _ 1210 [(4, vI i), (3, .ref o), (2, .ref m), (1, .ref x), (0, .ref 0)] [vI z2819] _ H2813
  refine wl_of hX hb cL_1210 (rw_pop (pc' := 1211) rfl rfl ?_)
  refine wl_of hX hb cL_1211 (rw_aload_n (pc' := 1212) (v := .ref m) rfl rfl rfl ?_)
  refine wl_of hX hb cL_1212 (rw_aload_n (pc' := 1213) (v := .ref 0) rfl rfl rfl ?_)
  refine wl_of hX hb cL_1213 (rw_iload (pc' := 1215) (z := i) rfl rfl ?_)
  refine wl_of hX hb cL_1215 (rw_iconst (pc' := 1216) rfl ?_)
  refine wl_of hX hb cL_1216 (rw_iadd (pc' := 1217) rfl ?_)
  have k2823 : H2813 0 ((i + 1).toNat) = H 0 ((i + 1).toNat) := (f2818 0 ((i + 1).toNat) _ g0 (wmem_s rfl))
  refine wl_of hX hb cL_1217 (xa_I (so := 0) (pc' := 1218) (a := 0) w2817 g0 (wsh_s _) (by omega) (wty_s _ _) (by omega) (by omega) rfl (fun b2821 b2822 => ?_))
  have k2824 : wKI H2813 m = wKI H m := (wKI_fr hW gm f2818 rfl)
  have k2825 : H2813 x 9 = H x 9 := (f2818 x 9 _ gx rfl)
  have k2826 : H2813 m 6 = H m 6 := (f2818 m 6 _ gm rfl)
  have k2827 : H2813 x 11 = H x 11 := (f2818 x 11 _ gx rfl)
  have k2828 : H2813 m 13 = H m 13 := (f2818 m 13 _ gm rfl)
  have k2829 : H2813 x 8 = H x 8 := (f2818 x 8 _ gx rfl)
  have k2830 : H2813 m 3 = H m 3 := (f2818 m 3 _ gm rfl)
  refine wl_of hX hb cL_1218 (xc_V (pc' := 1221) (r := m) (as := [vI (H2813 0 ((i + 1).toNat))]) (st := []) (lm_11_158) rfl rfl (Nat.le_of_ble_eq_true rfl) w2817 gm sh_42 (by decide) rfl (by decide) (s_272 w2817 gm ⟨by omega, by omega⟩ (by omega)) (fun R2831 T2832 H2833 p2834 => ?_))
  obtain ⟨e2835, w2837, f2838, z2840, e2836, b2841, p2839⟩ := p2834
  subst e2835
  subst e2836
  show WL _ _ _ _ 1221 [(4, vI i), (3, .ref o), (2, .ref m), (1, .ref x), (0, .ref 0)] [vI z2840] _ H2833
  refine wl_of hX hb cL_1221 (rw_pop (pc' := 1222) rfl rfl ?_)
  refine wl_of hX hb cL_1222 (rw_goto (p1 := 1653) (by decide) ?_)
  have k2842 : H2833 x 9 = H2813 x 9 := (f2838 x 9 _ gx rfl)
  have k2843 : H2833 m 6 = H2813 m 6 := (f2838 m 6 _ gm rfl)
  have k2844 : H2833 x 11 = H2813 x 11 := (f2838 x 11 _ gx rfl)
  have k2845 : H2833 m 13 = H2813 m 13 := (f2838 m 13 _ gm rfl)
  have k2846 : H2833 x 8 = H2813 x 8 := (f2838 x 8 _ gx rfl)
  have k2847 : H2833 m 3 = H2813 m 3 := (f2838 m 3 _ gm rfl)
  have h2848 : XI T H2833 x m := (XI_fr w2817 gx f2838 rfl (XI_fr hW gx f2818 rfl hXI))
  exact WL.loc hX (by simp) (next T H2833 ⟨⟨w2837, g0, gx, gm, go, by omega, by omega⟩, h2848, by omega, by omega⟩ (by omega) (by omega))
set_option maxHeartbeats 4000000 in
theorem wl_c33 {kt : Nat → Option mc_E} {CB SB : Nat} {X : mc_S → Prop} {T : wq_T} {H : wq_H} {Len x m o : Nat} {i : Int} (hX : wlX kt CB SB X) (hb : T.2.1 ≤ CB ∧ T.2.2.1 ≤ SB) (hI : wlJ Len x m o T H) (hL : Len ≤ 3072) (hi : 0 ≤ i ∧ i + 6 ≤ Len) (hb2 : T.2.1 + 20 ≤ CB ∧ T.2.2.1 + 500 ≤ SB)  (next : ∀ T' H', wlJ Len x m o T' H' → T'.2.1 ≤ T.2.1 + 20 → T'.2.2.1 ≤ T.2.2.1 + 500 → WL kt CB SB X 1653 (wlL i x m o) [] T' H') : WL kt CB SB X 1225 (wlL i x m o) [] T H := by
  obtain ⟨⟨hW, g0, gx, gm, go, hK, hr⟩, hXI, hY1, hY2⟩ := hI
  refine wl_of hX hb cL_1225 (rw_aload_n (pc' := 1226) (v := .ref x) rfl rfl rfl ?_)
  refine wl_of hX hb cL_1226 (rw_aload_n (pc' := 1227) (v := .ref 0) rfl rfl rfl ?_)
  refine wl_of hX hb cL_1227 (rw_iload (pc' := 1229) (z := i) rfl rfl ?_)
  refine wl_of hX hb cL_1229 (rw_iconst (pc' := 1230) rfl ?_)
  refine wl_of hX hb cL_1230 (rw_iadd (pc' := 1231) rfl ?_)
  refine wl_of hX hb cL_1231 (xa_I (so := 0) (pc' := 1232) (a := 0) hW g0 (wsh_s _) (by omega) (wty_s _ _) (by omega) (by omega) rfl (fun b2849 b2850 => ?_))
  refine wl_of hX hb cL_1232 (xc_V (pc' := 1235) (r := x) (as := [vI (H 0 ((i + 1).toNat))]) (st := []) (lm_11_159) rfl rfl (Nat.le_of_ble_eq_true rfl) hW gx sh_1 (by decide) rfl (by decide) (s_135 hW gx ⟨by omega, by omega⟩) (fun R2851 T2852 H2853 p2854 => ?_))
  obtain ⟨e2855, w2857, f2858, z2859, e2856, b2860⟩ := p2854
  subst e2855
  subst e2856
  show WL _ _ _ _ 1235 [(4, vI i), (3, .ref o), (2, .ref m), (1, .ref x), (0, .ref 0)] [vI z2859] _ H2853
  refine wl_of hX hb cL_1235 (rw_pop (pc' := 1236) rfl rfl ?_)
  refine wl_of hX hb cL_1236 (rw_aload_n (pc' := 1237) (v := .ref m) rfl rfl rfl ?_)
  refine wl_of hX hb cL_1237 (rw_aload_n (pc' := 1238) (v := .ref 0) rfl rfl rfl ?_)
  refine wl_of hX hb cL_1238 (rw_iload (pc' := 1240) (z := i) rfl rfl ?_)
  refine wl_of hX hb cL_1240 (rw_iconst (pc' := 1241) rfl ?_)
  refine wl_of hX hb cL_1241 (rw_iadd (pc' := 1242) rfl ?_)
  have k2863 : H2853 0 ((i + 1).toNat) = H 0 ((i + 1).toNat) := (f2858 0 ((i + 1).toNat) _ g0 (wmem_s rfl))
  refine wl_of hX hb cL_1242 (xa_I (so := 0) (pc' := 1243) (a := 0) w2857 g0 (wsh_s _) (by omega) (wty_s _ _) (by omega) (by omega) rfl (fun b2861 b2862 => ?_))
  have k2864 : wKI H2853 m = wKI H m := (wKI_fr hW gm f2858 rfl)
  have k2865 : H2853 x 9 = H x 9 := (f2858 x 9 _ gx rfl)
  have k2866 : H2853 m 6 = H m 6 := (f2858 m 6 _ gm rfl)
  have k2867 : H2853 x 11 = H x 11 := (f2858 x 11 _ gx rfl)
  have k2868 : H2853 m 13 = H m 13 := (f2858 m 13 _ gm rfl)
  have k2869 : H2853 x 8 = H x 8 := (f2858 x 8 _ gx rfl)
  have k2870 : H2853 m 3 = H m 3 := (f2858 m 3 _ gm rfl)
  refine wl_of hX hb cL_1243 (xc_V (pc' := 1246) (r := m) (as := [vI (H2853 0 ((i + 1).toNat))]) (st := []) (lm_11_162) rfl rfl (Nat.le_of_ble_eq_true rfl) w2857 gm sh_42 (by decide) rfl (by decide) (s_275 w2857 gm ⟨by omega, by omega⟩ (by omega)) (fun R2871 T2872 H2873 p2874 => ?_))
  obtain ⟨e2875, w2877, f2878, z2880, e2876, b2881, p2879⟩ := p2874
  subst e2875
  subst e2876
  show WL _ _ _ _ 1246 [(4, vI i), (3, .ref o), (2, .ref m), (1, .ref x), (0, .ref 0)] [vI z2880] _ H2873
  refine wl_of hX hb cL_1246 (rw_pop (pc' := 1247) rfl rfl ?_)
  refine wl_of hX hb cL_1247 (rw_goto (p1 := 1653) (by decide) ?_)
  have k2882 : H2873 x 9 = H2853 x 9 := (f2878 x 9 _ gx rfl)
  have k2883 : H2873 m 6 = H2853 m 6 := (f2878 m 6 _ gm rfl)
  have k2884 : H2873 x 11 = H2853 x 11 := (f2878 x 11 _ gx rfl)
  have k2885 : H2873 m 13 = H2853 m 13 := (f2878 m 13 _ gm rfl)
  have k2886 : H2873 x 8 = H2853 x 8 := (f2878 x 8 _ gx rfl)
  have k2887 : H2873 m 3 = H2853 m 3 := (f2878 m 3 _ gm rfl)
  have h2888 : XI T H2873 x m := (XI_fr w2857 gx f2878 rfl (XI_fr hW gx f2858 rfl hXI))
  exact WL.loc hX (by simp) (next T H2873 ⟨⟨w2877, g0, gx, gm, go, by omega, by omega⟩, h2888, by omega, by omega⟩ (by omega) (by omega))
set_option maxHeartbeats 4000000 in
theorem wl_c34 {kt : Nat → Option mc_E} {CB SB : Nat} {X : mc_S → Prop} {T : wq_T} {H : wq_H} {Len x m o : Nat} {i : Int} (hX : wlX kt CB SB X) (hb : T.2.1 ≤ CB ∧ T.2.2.1 ≤ SB) (hI : wlJ Len x m o T H) (hL : Len ≤ 3072) (hi : 0 ≤ i ∧ i + 6 ≤ Len) (hb2 : T.2.1 + 20 ≤ CB ∧ T.2.2.1 + 500 ≤ SB)  (next : ∀ T' H', wlJ Len x m o T' H' → T'.2.1 ≤ T.2.1 + 20 → T'.2.2.1 ≤ T.2.2.1 + 500 → WL kt CB SB X 1653 (wlL i x m o) [] T' H') : WL kt CB SB X 1250 (wlL i x m o) [] T H := by
  obtain ⟨⟨hW, g0, gx, gm, go, hK, hr⟩, hXI, hY1, hY2⟩ := hI
  refine wl_of hX hb cL_1250 (rw_aload_n (pc' := 1251) (v := .ref x) rfl rfl rfl ?_)
  refine wl_of hX hb cL_1251 (xc_V (pc' := 1254) (r := x) (as := []) (st := []) (lm_11_163) rfl rfl (Nat.le_of_ble_eq_true rfl) hW gx sh_1 (by decide) rfl (by decide) (s_137 hW gx) (fun R2889 T2890 H2891 p2892 => ?_))
  obtain ⟨e2893, w2895, f2896, z2897, e2894, b2898⟩ := p2892
  subst e2893
  subst e2894
  show WL _ _ _ _ 1254 [(4, vI i), (3, .ref o), (2, .ref m), (1, .ref x), (0, .ref 0)] [vI z2897] _ H2891
  refine wl_of hX hb cL_1254 (rw_pop (pc' := 1255) rfl rfl ?_)
  refine wl_of hX hb cL_1255 (rw_aload_n (pc' := 1256) (v := .ref m) rfl rfl rfl ?_)
  have k2899 : wKI H2891 m = wKI H m := (wKI_fr hW gm f2896 rfl)
  have k2900 : H2891 x 9 = H x 9 := (f2896 x 9 _ gx rfl)
  have k2901 : H2891 m 6 = H m 6 := (f2896 m 6 _ gm rfl)
  have k2902 : H2891 x 11 = H x 11 := (f2896 x 11 _ gx rfl)
  have k2903 : H2891 m 13 = H m 13 := (f2896 m 13 _ gm rfl)
  have k2904 : H2891 x 8 = H x 8 := (f2896 x 8 _ gx rfl)
  have k2905 : H2891 m 3 = H m 3 := (f2896 m 3 _ gm rfl)
  refine wl_of hX hb cL_1256 (xc_V (pc' := 1259) (r := m) (as := []) (st := []) (lm_11_166) rfl rfl (Nat.le_of_ble_eq_true rfl) w2895 gm sh_42 (by decide) rfl (by decide) (s_276 w2895 gm (by omega)) (fun R2906 T2907 H2908 p2909 => ?_))
  obtain ⟨e2910, w2912, f2913, z2915, e2911, b2916, p2914⟩ := p2909
  subst e2910
  subst e2911
  show WL _ _ _ _ 1259 [(4, vI i), (3, .ref o), (2, .ref m), (1, .ref x), (0, .ref 0)] [vI z2915] _ H2908
  refine wl_of hX hb cL_1259 (rw_pop (pc' := 1260) rfl rfl ?_)
  refine wl_of hX hb cL_1260 (rw_goto (p1 := 1653) (by decide) ?_)
  have k2917 : H2908 x 9 = H2891 x 9 := (f2913 x 9 _ gx rfl)
  have k2918 : H2908 m 6 = H2891 m 6 := (f2913 m 6 _ gm rfl)
  have k2919 : H2908 x 11 = H2891 x 11 := (f2913 x 11 _ gx rfl)
  have k2920 : H2908 m 13 = H2891 m 13 := (f2913 m 13 _ gm rfl)
  have k2921 : H2908 x 8 = H2891 x 8 := (f2913 x 8 _ gx rfl)
  have k2922 : H2908 m 3 = H2891 m 3 := (f2913 m 3 _ gm rfl)
  have h2923 : XI T H2908 x m := (XI_fr w2895 gx f2913 rfl (XI_fr hW gx f2896 rfl hXI))
  exact WL.loc hX (by simp) (next T H2908 ⟨⟨w2912, g0, gx, gm, go, by omega, by omega⟩, h2923, by omega, by omega⟩ (by omega) (by omega))
set_option maxHeartbeats 4000000 in
theorem wl_c35 {kt : Nat → Option mc_E} {CB SB : Nat} {X : mc_S → Prop} {T : wq_T} {H : wq_H} {Len x m o : Nat} {i : Int} (hX : wlX kt CB SB X) (hb : T.2.1 ≤ CB ∧ T.2.2.1 ≤ SB) (hI : wlJ Len x m o T H) (hL : Len ≤ 3072) (hi : 0 ≤ i ∧ i + 6 ≤ Len) (hb2 : T.2.1 + 20 ≤ CB ∧ T.2.2.1 + 500 ≤ SB)  (next : ∀ T' H', wlJ Len x m o T' H' → T'.2.1 ≤ T.2.1 + 20 → T'.2.2.1 ≤ T.2.2.1 + 500 → WL kt CB SB X 1653 (wlL i x m o) [] T' H') : WL kt CB SB X 1263 (wlL i x m o) [] T H := by
  obtain ⟨⟨hW, g0, gx, gm, go, hK, hr⟩, hXI, hY1, hY2⟩ := hI
  refine wl_of hX hb cL_1263 (rw_aload_n (pc' := 1264) (v := .ref x) rfl rfl rfl ?_)
  refine wl_of hX hb cL_1264 (rw_aload_n (pc' := 1265) (v := .ref 0) rfl rfl rfl ?_)
  refine wl_of hX hb cL_1265 (rw_iload (pc' := 1267) (z := i) rfl rfl ?_)
  refine wl_of hX hb cL_1267 (rw_iconst (pc' := 1268) rfl ?_)
  refine wl_of hX hb cL_1268 (rw_iadd (pc' := 1269) rfl ?_)
  refine wl_of hX hb cL_1269 (xa_I (so := 0) (pc' := 1270) (a := 0) hW g0 (wsh_s _) (by omega) (wty_s _ _) (by omega) (by omega) rfl (fun b2924 b2925 => ?_))
  refine wl_of hX hb cL_1270 (rw_aload_n (pc' := 1271) (v := .ref 0) rfl rfl rfl ?_)
  refine wl_of hX hb cL_1271 (rw_iload (pc' := 1273) (z := i) rfl rfl ?_)
  refine wl_of hX hb cL_1273 (rw_iconst (pc' := 1274) rfl ?_)
  refine wl_of hX hb cL_1274 (rw_iadd (pc' := 1275) rfl ?_)
  refine wl_of hX hb cL_1275 (xa_I (so := 0) (pc' := 1276) (a := 0) hW g0 (wsh_s _) (by omega) (wty_s _ _) (by omega) (by omega) rfl (fun b2926 b2927 => ?_))
  refine wl_of hX hb cL_1276 (rw_if_eq (p1 := 1283) (p2 := 1279) (by decide) rfl ⟨by omega, by omega⟩ (fun c2928 => ?_) (fun c2928 => ?_))
  · refine wl_of hX hb cL_1283 (rw_iconst (pc' := 1284) rfl ?_)
    refine wl_of hX hb cL_1284 (xc_V (pc' := 1287) (r := x) (as := [vI (H 0 ((i + 1).toNat)), vI 0]) (st := []) (lm_11_167) rfl rfl (Nat.le_of_ble_eq_true rfl) hW gx sh_1 (by decide) rfl (by decide) (s_146 hW gx ⟨by omega, by omega⟩ ⟨by omega, by omega⟩) (fun R2929 T2930 H2931 p2932 => ?_))
    obtain ⟨e2933, w2935, f2936, z2937, e2934, b2938⟩ := p2932
    subst e2933
    subst e2934
    show WL _ _ _ _ 1287 [(4, vI i), (3, .ref o), (2, .ref m), (1, .ref x), (0, .ref 0)] [vI z2937] _ H2931
    refine wl_of hX hb cL_1287 (rw_pop (pc' := 1288) rfl rfl ?_)
    refine wl_of hX hb cL_1288 (rw_aload_n (pc' := 1289) (v := .ref m) rfl rfl rfl ?_)
    refine wl_of hX hb cL_1289 (rw_aload_n (pc' := 1290) (v := .ref 0) rfl rfl rfl ?_)
    refine wl_of hX hb cL_1290 (rw_iload (pc' := 1292) (z := i) rfl rfl ?_)
    refine wl_of hX hb cL_1292 (rw_iconst (pc' := 1293) rfl ?_)
    refine wl_of hX hb cL_1293 (rw_iadd (pc' := 1294) rfl ?_)
    have k2941 : H2931 0 ((i + 1).toNat) = H 0 ((i + 1).toNat) := (f2936 0 ((i + 1).toNat) _ g0 (wmem_s rfl))
    refine wl_of hX hb cL_1294 (xa_I (so := 0) (pc' := 1295) (a := 0) w2935 g0 (wsh_s _) (by omega) (wty_s _ _) (by omega) (by omega) rfl (fun b2939 b2940 => ?_))
    refine wl_of hX hb cL_1295 (rw_aload_n (pc' := 1296) (v := .ref 0) rfl rfl rfl ?_)
    refine wl_of hX hb cL_1296 (rw_iload (pc' := 1298) (z := i) rfl rfl ?_)
    refine wl_of hX hb cL_1298 (rw_iconst (pc' := 1299) rfl ?_)
    refine wl_of hX hb cL_1299 (rw_iadd (pc' := 1300) rfl ?_)
    have k2944 : H2931 0 ((i + 2).toNat) = H 0 ((i + 2).toNat) := (f2936 0 ((i + 2).toNat) _ g0 (wmem_s rfl))
    refine wl_of hX hb cL_1300 (xa_I (so := 0) (pc' := 1301) (a := 0) w2935 g0 (wsh_s _) (by omega) (wty_s _ _) (by omega) (by omega) rfl (fun b2942 b2943 => ?_))
    refine wl_of hX hb cL_1301 (rw_if_eq (p1 := 1308) (p2 := 1304) (by decide) rfl ⟨by omega, by omega⟩ (fun c2945 => ?_) (fun c2945 => ?_))
    · refine wl_of hX hb cL_1308 (rw_iconst (pc' := 1309) rfl ?_)
      have k2946 : wKI H2931 m = wKI H m := (wKI_fr hW gm f2936 rfl)
      have k2947 : H2931 x 9 = H x 9 := (f2936 x 9 _ gx rfl)
      have k2948 : H2931 m 6 = H m 6 := (f2936 m 6 _ gm rfl)
      have k2949 : H2931 x 11 = H x 11 := (f2936 x 11 _ gx rfl)
      have k2950 : H2931 m 13 = H m 13 := (f2936 m 13 _ gm rfl)
      have k2951 : H2931 x 8 = H x 8 := (f2936 x 8 _ gx rfl)
      have k2952 : H2931 m 3 = H m 3 := (f2936 m 3 _ gm rfl)
      refine wl_of hX hb cL_1309 (xc_V (pc' := 1312) (r := m) (as := [vI (H2931 0 ((i + 1).toNat)), vI 0]) (st := []) (lm_11_170) rfl rfl (Nat.le_of_ble_eq_true rfl) w2935 gm sh_42 (by decide) rfl (by decide) (s_279 w2935 gm ⟨by omega, by omega⟩ ⟨by omega, by omega⟩ (by omega)) (fun R2953 T2954 H2955 p2956 => ?_))
      obtain ⟨e2957, w2959, f2960, z2962, e2958, b2963, p2961⟩ := p2956
      subst e2957
      subst e2958
      show WL _ _ _ _ 1312 [(4, vI i), (3, .ref o), (2, .ref m), (1, .ref x), (0, .ref 0)] [vI z2962] _ H2955
      refine wl_of hX hb cL_1312 (rw_pop (pc' := 1313) rfl rfl ?_)
      refine wl_of hX hb cL_1313 (rw_goto (p1 := 1653) (by decide) ?_)
      have k2964 : H2955 x 9 = H2931 x 9 := (f2960 x 9 _ gx rfl)
      have k2965 : H2955 m 6 = H2931 m 6 := (f2960 m 6 _ gm rfl)
      have k2966 : H2955 x 11 = H2931 x 11 := (f2960 x 11 _ gx rfl)
      have k2967 : H2955 m 13 = H2931 m 13 := (f2960 m 13 _ gm rfl)
      have k2968 : H2955 x 8 = H2931 x 8 := (f2960 x 8 _ gx rfl)
      have k2969 : H2955 m 3 = H2931 m 3 := (f2960 m 3 _ gm rfl)
      have h2970 : XI T H2955 x m := (XI_fr w2935 gx f2960 rfl (XI_fr hW gx f2936 rfl hXI))
      exact WL.loc hX (by simp) (next T H2955 ⟨⟨w2959, g0, gx, gm, go, by omega, by omega⟩, h2970, by omega, by omega⟩ (by omega) (by omega))
    · exfalso
      omega
  · refine wl_of hX hb cL_1279 (rw_iconst (pc' := 1280) rfl ?_)
    refine wl_of hX hb cL_1280 (rw_goto (p1 := 1284) (by decide) ?_)
    refine wl_of hX hb cL_1284 (xc_V (pc' := 1287) (r := x) (as := [vI (H 0 ((i + 1).toNat)), vI 1]) (st := []) (lm_11_167) rfl rfl (Nat.le_of_ble_eq_true rfl) hW gx sh_1 (by decide) rfl (by decide) (s_146 hW gx ⟨by omega, by omega⟩ ⟨by omega, by omega⟩) (fun R2971 T2972 H2973 p2974 => ?_))
    obtain ⟨e2975, w2977, f2978, z2979, e2976, b2980⟩ := p2974
    subst e2975
    subst e2976
    show WL _ _ _ _ 1287 [(4, vI i), (3, .ref o), (2, .ref m), (1, .ref x), (0, .ref 0)] [vI z2979] _ H2973
    refine wl_of hX hb cL_1287 (rw_pop (pc' := 1288) rfl rfl ?_)
    refine wl_of hX hb cL_1288 (rw_aload_n (pc' := 1289) (v := .ref m) rfl rfl rfl ?_)
    refine wl_of hX hb cL_1289 (rw_aload_n (pc' := 1290) (v := .ref 0) rfl rfl rfl ?_)
    refine wl_of hX hb cL_1290 (rw_iload (pc' := 1292) (z := i) rfl rfl ?_)
    refine wl_of hX hb cL_1292 (rw_iconst (pc' := 1293) rfl ?_)
    refine wl_of hX hb cL_1293 (rw_iadd (pc' := 1294) rfl ?_)
    have k2983 : H2973 0 ((i + 1).toNat) = H 0 ((i + 1).toNat) := (f2978 0 ((i + 1).toNat) _ g0 (wmem_s rfl))
    refine wl_of hX hb cL_1294 (xa_I (so := 0) (pc' := 1295) (a := 0) w2977 g0 (wsh_s _) (by omega) (wty_s _ _) (by omega) (by omega) rfl (fun b2981 b2982 => ?_))
    refine wl_of hX hb cL_1295 (rw_aload_n (pc' := 1296) (v := .ref 0) rfl rfl rfl ?_)
    refine wl_of hX hb cL_1296 (rw_iload (pc' := 1298) (z := i) rfl rfl ?_)
    refine wl_of hX hb cL_1298 (rw_iconst (pc' := 1299) rfl ?_)
    refine wl_of hX hb cL_1299 (rw_iadd (pc' := 1300) rfl ?_)
    have k2986 : H2973 0 ((i + 2).toNat) = H 0 ((i + 2).toNat) := (f2978 0 ((i + 2).toNat) _ g0 (wmem_s rfl))
    refine wl_of hX hb cL_1300 (xa_I (so := 0) (pc' := 1301) (a := 0) w2977 g0 (wsh_s _) (by omega) (wty_s _ _) (by omega) (by omega) rfl (fun b2984 b2985 => ?_))
    refine wl_of hX hb cL_1301 (rw_if_eq (p1 := 1308) (p2 := 1304) (by decide) rfl ⟨by omega, by omega⟩ (fun c2987 => ?_) (fun c2987 => ?_))
    · refine wl_of hX hb cL_1308 (rw_iconst (pc' := 1309) rfl ?_)
      have k2988 : wKI H2973 m = wKI H m := (wKI_fr hW gm f2978 rfl)
      have k2989 : H2973 x 9 = H x 9 := (f2978 x 9 _ gx rfl)
      have k2990 : H2973 m 6 = H m 6 := (f2978 m 6 _ gm rfl)
      have k2991 : H2973 x 11 = H x 11 := (f2978 x 11 _ gx rfl)
      have k2992 : H2973 m 13 = H m 13 := (f2978 m 13 _ gm rfl)
      have k2993 : H2973 x 8 = H x 8 := (f2978 x 8 _ gx rfl)
      have k2994 : H2973 m 3 = H m 3 := (f2978 m 3 _ gm rfl)
      refine wl_of hX hb cL_1309 (xc_V (pc' := 1312) (r := m) (as := [vI (H2973 0 ((i + 1).toNat)), vI 0]) (st := []) (lm_11_170) rfl rfl (Nat.le_of_ble_eq_true rfl) w2977 gm sh_42 (by decide) rfl (by decide) (s_279 w2977 gm ⟨by omega, by omega⟩ ⟨by omega, by omega⟩ (by omega)) (fun R2995 T2996 H2997 p2998 => ?_))
      obtain ⟨e2999, w3001, f3002, z3004, e3000, b3005, p3003⟩ := p2998
      subst e2999
      subst e3000
      show WL _ _ _ _ 1312 [(4, vI i), (3, .ref o), (2, .ref m), (1, .ref x), (0, .ref 0)] [vI z3004] _ H2997
      refine wl_of hX hb cL_1312 (rw_pop (pc' := 1313) rfl rfl ?_)
      refine wl_of hX hb cL_1313 (rw_goto (p1 := 1653) (by decide) ?_)
      have k3006 : H2997 x 9 = H2973 x 9 := (f3002 x 9 _ gx rfl)
      have k3007 : H2997 m 6 = H2973 m 6 := (f3002 m 6 _ gm rfl)
      have k3008 : H2997 x 11 = H2973 x 11 := (f3002 x 11 _ gx rfl)
      have k3009 : H2997 m 13 = H2973 m 13 := (f3002 m 13 _ gm rfl)
      have k3010 : H2997 x 8 = H2973 x 8 := (f3002 x 8 _ gx rfl)
      have k3011 : H2997 m 3 = H2973 m 3 := (f3002 m 3 _ gm rfl)
      have h3012 : XI T H2997 x m := (XI_fr w2977 gx f3002 rfl (XI_fr hW gx f2978 rfl hXI))
      exact WL.loc hX (by simp) (next T H2997 ⟨⟨w3001, g0, gx, gm, go, by omega, by omega⟩, h3012, by omega, by omega⟩ (by omega) (by omega))
    · refine wl_of hX hb cL_1304 (rw_iconst (pc' := 1305) rfl ?_)
      refine wl_of hX hb cL_1305 (rw_goto (p1 := 1309) (by decide) ?_)
      have k3013 : wKI H2973 m = wKI H m := (wKI_fr hW gm f2978 rfl)
      have k3014 : H2973 x 9 = H x 9 := (f2978 x 9 _ gx rfl)
      have k3015 : H2973 m 6 = H m 6 := (f2978 m 6 _ gm rfl)
      have k3016 : H2973 x 11 = H x 11 := (f2978 x 11 _ gx rfl)
      have k3017 : H2973 m 13 = H m 13 := (f2978 m 13 _ gm rfl)
      have k3018 : H2973 x 8 = H x 8 := (f2978 x 8 _ gx rfl)
      have k3019 : H2973 m 3 = H m 3 := (f2978 m 3 _ gm rfl)
      refine wl_of hX hb cL_1309 (xc_V (pc' := 1312) (r := m) (as := [vI (H2973 0 ((i + 1).toNat)), vI 1]) (st := []) (lm_11_170) rfl rfl (Nat.le_of_ble_eq_true rfl) w2977 gm sh_42 (by decide) rfl (by decide) (s_279 w2977 gm ⟨by omega, by omega⟩ ⟨by omega, by omega⟩ (by omega)) (fun R3020 T3021 H3022 p3023 => ?_))
      obtain ⟨e3024, w3026, f3027, z3029, e3025, b3030, p3028⟩ := p3023
      subst e3024
      subst e3025
      show WL _ _ _ _ 1312 [(4, vI i), (3, .ref o), (2, .ref m), (1, .ref x), (0, .ref 0)] [vI z3029] _ H3022
      refine wl_of hX hb cL_1312 (rw_pop (pc' := 1313) rfl rfl ?_)
      refine wl_of hX hb cL_1313 (rw_goto (p1 := 1653) (by decide) ?_)
      have k3031 : H3022 x 9 = H2973 x 9 := (f3027 x 9 _ gx rfl)
      have k3032 : H3022 m 6 = H2973 m 6 := (f3027 m 6 _ gm rfl)
      have k3033 : H3022 x 11 = H2973 x 11 := (f3027 x 11 _ gx rfl)
      have k3034 : H3022 m 13 = H2973 m 13 := (f3027 m 13 _ gm rfl)
      have k3035 : H3022 x 8 = H2973 x 8 := (f3027 x 8 _ gx rfl)
      have k3036 : H3022 m 3 = H2973 m 3 := (f3027 m 3 _ gm rfl)
      have h3037 : XI T H3022 x m := (XI_fr w2977 gx f3027 rfl (XI_fr hW gx f2978 rfl hXI))
      exact WL.loc hX (by simp) (next T H3022 ⟨⟨w3026, g0, gx, gm, go, by omega, by omega⟩, h3037, by omega, by omega⟩ (by omega) (by omega))
set_option maxHeartbeats 4000000 in
theorem wl_c36 {kt : Nat → Option mc_E} {CB SB : Nat} {X : mc_S → Prop} {T : wq_T} {H : wq_H} {Len x m o : Nat} {i : Int} (hX : wlX kt CB SB X) (hb : T.2.1 ≤ CB ∧ T.2.2.1 ≤ SB) (hI : wlJ Len x m o T H) (hL : Len ≤ 3072) (hi : 0 ≤ i ∧ i + 6 ≤ Len) (hb2 : T.2.1 + 20 ≤ CB ∧ T.2.2.1 + 500 ≤ SB)  (next : ∀ T' H', wlJ Len x m o T' H' → T'.2.1 ≤ T.2.1 + 20 → T'.2.2.1 ≤ T.2.2.1 + 500 → WL kt CB SB X 1653 (wlL i x m o) [] T' H') : WL kt CB SB X 1316 (wlL i x m o) [] T H := by
  obtain ⟨⟨hW, g0, gx, gm, go, hK, hr⟩, hXI, hY1, hY2⟩ := hI
  refine wl_of hX hb cL_1316 (rw_aload_n (pc' := 1317) (v := .ref x) rfl rfl rfl ?_)
  refine wl_of hX hb cL_1317 (xc_V (pc' := 1320) (r := x) (as := []) (st := []) (lm_11_171) rfl rfl (Nat.le_of_ble_eq_true rfl) hW gx sh_1 (by decide) rfl (by decide) (s_147 hW gx) (fun R3038 T3039 H3040 p3041 => ?_))
  obtain ⟨e3042, w3044, f3045, z3046, e3043, b3047⟩ := p3041
  subst e3042
  subst e3043
  show WL _ _ _ _ 1320 [(4, vI i), (3, .ref o), (2, .ref m), (1, .ref x), (0, .ref 0)] [vI z3046] _ H3040
  refine wl_of hX hb cL_1320 (rw_pop (pc' := 1321) rfl rfl ?_)
  refine wl_of hX hb cL_1321 (rw_aload_n (pc' := 1322) (v := .ref m) rfl rfl rfl ?_)
  have k3048 : wKI H3040 m = wKI H m := (wKI_fr hW gm f3045 rfl)
  have k3049 : H3040 x 9 = H x 9 := (f3045 x 9 _ gx rfl)
  have k3050 : H3040 m 6 = H m 6 := (f3045 m 6 _ gm rfl)
  have k3051 : H3040 x 11 = H x 11 := (f3045 x 11 _ gx rfl)
  have k3052 : H3040 m 13 = H m 13 := (f3045 m 13 _ gm rfl)
  have k3053 : H3040 x 8 = H x 8 := (f3045 x 8 _ gx rfl)
  have k3054 : H3040 m 3 = H m 3 := (f3045 m 3 _ gm rfl)
  refine wl_of hX hb cL_1322 (xc_V (pc' := 1325) (r := m) (as := []) (st := []) (lm_11_174) rfl rfl (Nat.le_of_ble_eq_true rfl) w3044 gm sh_42 (by decide) rfl (by decide) (s_282 w3044 gm (by omega)) (fun R3055 T3056 H3057 p3058 => ?_))
  obtain ⟨e3059, w3061, f3062, z3064, e3060, b3065, p3063⟩ := p3058
  subst e3059
  subst e3060
  show WL _ _ _ _ 1325 [(4, vI i), (3, .ref o), (2, .ref m), (1, .ref x), (0, .ref 0)] [vI z3064] _ H3057
  refine wl_of hX hb cL_1325 (rw_pop (pc' := 1326) rfl rfl ?_)
  refine wl_of hX hb cL_1326 (rw_goto (p1 := 1653) (by decide) ?_)
  have k3066 : H3057 x 9 = H3040 x 9 := (f3062 x 9 _ gx rfl)
  have k3067 : H3057 m 6 = H3040 m 6 := (f3062 m 6 _ gm rfl)
  have k3068 : H3057 x 11 = H3040 x 11 := (f3062 x 11 _ gx rfl)
  have k3069 : H3057 m 13 = H3040 m 13 := (f3062 m 13 _ gm rfl)
  have k3070 : H3057 x 8 = H3040 x 8 := (f3062 x 8 _ gx rfl)
  have k3071 : H3057 m 3 = H3040 m 3 := (f3062 m 3 _ gm rfl)
  have h3072 : XI T H3057 x m := (XI_fr w3044 gx f3062 rfl (XI_fr hW gx f3045 rfl hXI))
  exact WL.loc hX (by simp) (next T H3057 ⟨⟨w3061, g0, gx, gm, go, by omega, by omega⟩, h3072, by omega, by omega⟩ (by omega) (by omega))
set_option maxHeartbeats 4000000 in
theorem wl_c37 {kt : Nat → Option mc_E} {CB SB : Nat} {X : mc_S → Prop} {T : wq_T} {H : wq_H} {Len x m o : Nat} {i : Int} (hX : wlX kt CB SB X) (hb : T.2.1 ≤ CB ∧ T.2.2.1 ≤ SB) (hI : wlJ Len x m o T H) (hL : Len ≤ 3072) (hi : 0 ≤ i ∧ i + 6 ≤ Len) (hb2 : T.2.1 + 20 ≤ CB ∧ T.2.2.1 + 500 ≤ SB)  (next : ∀ T' H', wlJ Len x m o T' H' → T'.2.1 ≤ T.2.1 + 20 → T'.2.2.1 ≤ T.2.2.1 + 500 → WL kt CB SB X 1653 (wlL i x m o) [] T' H') : WL kt CB SB X 1329 (wlL i x m o) [] T H := by
  obtain ⟨⟨hW, g0, gx, gm, go, hK, hr⟩, hXI, hY1, hY2⟩ := hI
  refine wl_of hX hb cL_1329 (rw_aload_n (pc' := 1330) (v := .ref x) rfl rfl rfl ?_)
  refine wl_of hX hb cL_1330 (xc_V (pc' := 1333) (r := x) (as := []) (st := []) (lm_11_175) rfl rfl (Nat.le_of_ble_eq_true rfl) hW gx sh_1 (by decide) rfl (by decide) (s_149 hW gx) (fun R3073 T3074 H3075 p3076 => ?_))
  obtain ⟨e3077, w3079, f3080, z3081, e3078, b3082⟩ := p3076
  subst e3077
  subst e3078
  show WL _ _ _ _ 1333 [(4, vI i), (3, .ref o), (2, .ref m), (1, .ref x), (0, .ref 0)] [vI z3081] _ H3075
  refine wl_of hX hb cL_1333 (rw_pop (pc' := 1334) rfl rfl ?_)
  refine wl_of hX hb cL_1334 (rw_aload_n (pc' := 1335) (v := .ref m) rfl rfl rfl ?_)
  have k3083 : wKI H3075 m = wKI H m := (wKI_fr hW gm f3080 rfl)
  have k3084 : H3075 x 9 = H x 9 := (f3080 x 9 _ gx rfl)
  have k3085 : H3075 m 6 = H m 6 := (f3080 m 6 _ gm rfl)
  have k3086 : H3075 x 11 = H x 11 := (f3080 x 11 _ gx rfl)
  have k3087 : H3075 m 13 = H m 13 := (f3080 m 13 _ gm rfl)
  have k3088 : H3075 x 8 = H x 8 := (f3080 x 8 _ gx rfl)
  have k3089 : H3075 m 3 = H m 3 := (f3080 m 3 _ gm rfl)
  refine wl_of hX hb cL_1335 (xc_V (pc' := 1338) (r := m) (as := []) (st := []) (lm_11_178) rfl rfl (Nat.le_of_ble_eq_true rfl) w3079 gm sh_42 (by decide) rfl (by decide) (s_283 w3079 gm (by omega)) (fun R3090 T3091 H3092 p3093 => ?_))
  obtain ⟨e3094, w3096, f3097, z3099, e3095, b3100, p3098⟩ := p3093
  subst e3094
  subst e3095
  show WL _ _ _ _ 1338 [(4, vI i), (3, .ref o), (2, .ref m), (1, .ref x), (0, .ref 0)] [vI z3099] _ H3092
  refine wl_of hX hb cL_1338 (rw_pop (pc' := 1339) rfl rfl ?_)
  refine wl_of hX hb cL_1339 (rw_goto (p1 := 1653) (by decide) ?_)
  have k3101 : H3092 x 9 = H3075 x 9 := (f3097 x 9 _ gx rfl)
  have k3102 : H3092 m 6 = H3075 m 6 := (f3097 m 6 _ gm rfl)
  have k3103 : H3092 x 11 = H3075 x 11 := (f3097 x 11 _ gx rfl)
  have k3104 : H3092 m 13 = H3075 m 13 := (f3097 m 13 _ gm rfl)
  have k3105 : H3092 x 8 = H3075 x 8 := (f3097 x 8 _ gx rfl)
  have k3106 : H3092 m 3 = H3075 m 3 := (f3097 m 3 _ gm rfl)
  have h3107 : XI T H3092 x m := (XI_fr w3079 gx f3097 rfl (XI_fr hW gx f3080 rfl hXI))
  exact WL.loc hX (by simp) (next T H3092 ⟨⟨w3096, g0, gx, gm, go, by omega, by omega⟩, h3107, by omega, by omega⟩ (by omega) (by omega))
set_option maxHeartbeats 4000000 in
theorem wl_c38 {kt : Nat → Option mc_E} {CB SB : Nat} {X : mc_S → Prop} {T : wq_T} {H : wq_H} {Len x m o : Nat} {i : Int} (hX : wlX kt CB SB X) (hb : T.2.1 ≤ CB ∧ T.2.2.1 ≤ SB) (hI : wlJ Len x m o T H) (hL : Len ≤ 3072) (hi : 0 ≤ i ∧ i + 6 ≤ Len) (hb2 : T.2.1 + 20 ≤ CB ∧ T.2.2.1 + 500 ≤ SB)  (next : ∀ T' H', wlJ Len x m o T' H' → T'.2.1 ≤ T.2.1 + 20 → T'.2.2.1 ≤ T.2.2.1 + 500 → WL kt CB SB X 1653 (wlL i x m o) [] T' H') : WL kt CB SB X 1342 (wlL i x m o) [] T H := by
  obtain ⟨⟨hW, g0, gx, gm, go, hK, hr⟩, hXI, hY1, hY2⟩ := hI
  refine wl_of hX hb cL_1342 (rw_aload_n (pc' := 1343) (v := .ref x) rfl rfl rfl ?_)
  refine wl_of hX hb cL_1343 (rw_aload_n (pc' := 1344) (v := .ref 0) rfl rfl rfl ?_)
  refine wl_of hX hb cL_1344 (rw_iload (pc' := 1346) (z := i) rfl rfl ?_)
  refine wl_of hX hb cL_1346 (rw_iconst (pc' := 1347) rfl ?_)
  refine wl_of hX hb cL_1347 (rw_iadd (pc' := 1348) rfl ?_)
  refine wl_of hX hb cL_1348 (xa_I (so := 0) (pc' := 1349) (a := 0) hW g0 (wsh_s _) (by omega) (wty_s _ _) (by omega) (by omega) rfl (fun b3108 b3109 => ?_))
  refine wl_of hX hb cL_1349 (xc_V (pc' := 1352) (r := x) (as := [vI (H 0 ((i + 1).toNat))]) (st := []) (lm_11_179) rfl rfl (Nat.le_of_ble_eq_true rfl) hW gx sh_1 (by decide) rfl (by decide) (s_152 hW gx ⟨by omega, by omega⟩) (fun R3110 T3111 H3112 p3113 => ?_))
  obtain ⟨e3114, w3116, f3117, z3118, e3115, b3119⟩ := p3113
  subst e3114
  subst e3115
  show WL _ _ _ _ 1352 [(4, vI i), (3, .ref o), (2, .ref m), (1, .ref x), (0, .ref 0)] [vI z3118] _ H3112
  refine wl_of hX hb cL_1352 (rw_pop (pc' := 1353) rfl rfl ?_)
  refine wl_of hX hb cL_1353 (rw_aload_n (pc' := 1354) (v := .ref m) rfl rfl rfl ?_)
  refine wl_of hX hb cL_1354 (rw_aload_n (pc' := 1355) (v := .ref 0) rfl rfl rfl ?_)
  refine wl_of hX hb cL_1355 (rw_iload (pc' := 1357) (z := i) rfl rfl ?_)
  refine wl_of hX hb cL_1357 (rw_iconst (pc' := 1358) rfl ?_)
  refine wl_of hX hb cL_1358 (rw_iadd (pc' := 1359) rfl ?_)
  have k3122 : H3112 0 ((i + 1).toNat) = H 0 ((i + 1).toNat) := (f3117 0 ((i + 1).toNat) _ g0 (wmem_s rfl))
  refine wl_of hX hb cL_1359 (xa_I (so := 0) (pc' := 1360) (a := 0) w3116 g0 (wsh_s _) (by omega) (wty_s _ _) (by omega) (by omega) rfl (fun b3120 b3121 => ?_))
  have k3123 : wKI H3112 m = wKI H m := (wKI_fr hW gm f3117 rfl)
  have k3124 : H3112 x 9 = H x 9 := (f3117 x 9 _ gx rfl)
  have k3125 : H3112 m 6 = H m 6 := (f3117 m 6 _ gm rfl)
  have k3126 : H3112 x 11 = H x 11 := (f3117 x 11 _ gx rfl)
  have k3127 : H3112 m 13 = H m 13 := (f3117 m 13 _ gm rfl)
  have k3128 : H3112 x 8 = H x 8 := (f3117 x 8 _ gx rfl)
  have k3129 : H3112 m 3 = H m 3 := (f3117 m 3 _ gm rfl)
  refine wl_of hX hb cL_1360 (xc_V (pc' := 1363) (r := m) (as := [vI (H3112 0 ((i + 1).toNat))]) (st := []) (lm_11_182) rfl rfl (Nat.le_of_ble_eq_true rfl) w3116 gm sh_42 (by decide) rfl (by decide) (s_284 w3116 gm ⟨by omega, by omega⟩ (by omega)) (fun R3130 T3131 H3132 p3133 => ?_))
  obtain ⟨e3134, w3136, f3137, z3139, e3135, b3140, p3138⟩ := p3133
  subst e3134
  subst e3135
  show WL _ _ _ _ 1363 [(4, vI i), (3, .ref o), (2, .ref m), (1, .ref x), (0, .ref 0)] [vI z3139] _ H3132
  refine wl_of hX hb cL_1363 (rw_pop (pc' := 1364) rfl rfl ?_)
  refine wl_of hX hb cL_1364 (rw_goto (p1 := 1653) (by decide) ?_)
  have k3141 : H3132 x 9 = H3112 x 9 := (f3137 x 9 _ gx rfl)
  have k3142 : H3132 m 6 = H3112 m 6 := (f3137 m 6 _ gm rfl)
  have k3143 : H3132 x 11 = H3112 x 11 := (f3137 x 11 _ gx rfl)
  have k3144 : H3132 m 13 = H3112 m 13 := (f3137 m 13 _ gm rfl)
  have k3145 : H3132 x 8 = H3112 x 8 := (f3137 x 8 _ gx rfl)
  have k3146 : H3132 m 3 = H3112 m 3 := (f3137 m 3 _ gm rfl)
  have h3147 : XI T H3132 x m := (XI_fr w3116 gx f3137 rfl (XI_fr hW gx f3117 rfl hXI))
  exact WL.loc hX (by simp) (next T H3132 ⟨⟨w3136, g0, gx, gm, go, by omega, by omega⟩, h3147, by omega, by omega⟩ (by omega) (by omega))
set_option maxHeartbeats 4000000 in
theorem wl_c39 {kt : Nat → Option mc_E} {CB SB : Nat} {X : mc_S → Prop} {T : wq_T} {H : wq_H} {Len x m o : Nat} {i : Int} (hX : wlX kt CB SB X) (hb : T.2.1 ≤ CB ∧ T.2.2.1 ≤ SB) (hI : wlJ Len x m o T H) (hL : Len ≤ 3072) (hi : 0 ≤ i ∧ i + 6 ≤ Len) (hb2 : T.2.1 + 20 ≤ CB ∧ T.2.2.1 + 500 ≤ SB)  (next : ∀ T' H', wlJ Len x m o T' H' → T'.2.1 ≤ T.2.1 + 20 → T'.2.2.1 ≤ T.2.2.1 + 500 → WL kt CB SB X 1653 (wlL i x m o) [] T' H') : WL kt CB SB X 1367 (wlL i x m o) [] T H := by
  obtain ⟨⟨hW, g0, gx, gm, go, hK, hr⟩, hXI, hY1, hY2⟩ := hI
  refine wl_of hX hb cL_1367 (rw_aload_n (pc' := 1368) (v := .ref x) rfl rfl rfl ?_)
  refine wl_of hX hb cL_1368 (rw_aload_n (pc' := 1369) (v := .ref 0) rfl rfl rfl ?_)
  refine wl_of hX hb cL_1369 (rw_iload (pc' := 1371) (z := i) rfl rfl ?_)
  refine wl_of hX hb cL_1371 (rw_iconst (pc' := 1372) rfl ?_)
  refine wl_of hX hb cL_1372 (rw_iadd (pc' := 1373) rfl ?_)
  refine wl_of hX hb cL_1373 (xa_I (so := 0) (pc' := 1374) (a := 0) hW g0 (wsh_s _) (by omega) (wty_s _ _) (by omega) (by omega) rfl (fun b3148 b3149 => ?_))
  refine wl_of hX hb cL_1374 (rw_aload_n (pc' := 1375) (v := .ref 0) rfl rfl rfl ?_)
  refine wl_of hX hb cL_1375 (rw_iload (pc' := 1377) (z := i) rfl rfl ?_)
  refine wl_of hX hb cL_1377 (rw_iconst (pc' := 1378) rfl ?_)
  refine wl_of hX hb cL_1378 (rw_iadd (pc' := 1379) rfl ?_)
  refine wl_of hX hb cL_1379 (xa_I (so := 0) (pc' := 1380) (a := 0) hW g0 (wsh_s _) (by omega) (wty_s _ _) (by omega) (by omega) rfl (fun b3150 b3151 => ?_))
  refine wl_of hX hb cL_1380 (xc_V (pc' := 1383) (r := x) (as := [vI (H 0 ((i + 1).toNat)), vI (H 0 ((i + 2).toNat))]) (st := []) (lm_11_183) rfl rfl (Nat.le_of_ble_eq_true rfl) hW gx sh_1 (by decide) rfl (by decide) (s_153 hW gx ⟨by omega, by omega⟩ ⟨by omega, by omega⟩) (fun R3152 T3153 H3154 p3155 => ?_))
  obtain ⟨e3156, w3158, f3159, z3160, e3157, b3161⟩ := p3155
  subst e3156
  subst e3157
  show WL _ _ _ _ 1383 [(4, vI i), (3, .ref o), (2, .ref m), (1, .ref x), (0, .ref 0)] [vI z3160] _ H3154
  refine wl_of hX hb cL_1383 (rw_pop (pc' := 1384) rfl rfl ?_)
  refine wl_of hX hb cL_1384 (rw_aload_n (pc' := 1385) (v := .ref m) rfl rfl rfl ?_)
  refine wl_of hX hb cL_1385 (rw_aload_n (pc' := 1386) (v := .ref 0) rfl rfl rfl ?_)
  refine wl_of hX hb cL_1386 (rw_iload (pc' := 1388) (z := i) rfl rfl ?_)
  refine wl_of hX hb cL_1388 (rw_iconst (pc' := 1389) rfl ?_)
  refine wl_of hX hb cL_1389 (rw_iadd (pc' := 1390) rfl ?_)
  have k3164 : H3154 0 ((i + 1).toNat) = H 0 ((i + 1).toNat) := (f3159 0 ((i + 1).toNat) _ g0 (wmem_s rfl))
  refine wl_of hX hb cL_1390 (xa_I (so := 0) (pc' := 1391) (a := 0) w3158 g0 (wsh_s _) (by omega) (wty_s _ _) (by omega) (by omega) rfl (fun b3162 b3163 => ?_))
  refine wl_of hX hb cL_1391 (rw_aload_n (pc' := 1392) (v := .ref 0) rfl rfl rfl ?_)
  refine wl_of hX hb cL_1392 (rw_iload (pc' := 1394) (z := i) rfl rfl ?_)
  refine wl_of hX hb cL_1394 (rw_iconst (pc' := 1395) rfl ?_)
  refine wl_of hX hb cL_1395 (rw_iadd (pc' := 1396) rfl ?_)
  have k3167 : H3154 0 ((i + 2).toNat) = H 0 ((i + 2).toNat) := (f3159 0 ((i + 2).toNat) _ g0 (wmem_s rfl))
  refine wl_of hX hb cL_1396 (xa_I (so := 0) (pc' := 1397) (a := 0) w3158 g0 (wsh_s _) (by omega) (wty_s _ _) (by omega) (by omega) rfl (fun b3165 b3166 => ?_))
  have k3168 : wKI H3154 m = wKI H m := (wKI_fr hW gm f3159 rfl)
  have k3169 : H3154 x 9 = H x 9 := (f3159 x 9 _ gx rfl)
  have k3170 : H3154 m 6 = H m 6 := (f3159 m 6 _ gm rfl)
  have k3171 : H3154 x 11 = H x 11 := (f3159 x 11 _ gx rfl)
  have k3172 : H3154 m 13 = H m 13 := (f3159 m 13 _ gm rfl)
  have k3173 : H3154 x 8 = H x 8 := (f3159 x 8 _ gx rfl)
  have k3174 : H3154 m 3 = H m 3 := (f3159 m 3 _ gm rfl)
  refine wl_of hX hb cL_1397 (xc_V (pc' := 1400) (r := m) (as := [vI (H3154 0 ((i + 1).toNat)), vI (H3154 0 ((i + 2).toNat))]) (st := []) (lm_11_186) rfl rfl (Nat.le_of_ble_eq_true rfl) w3158 gm sh_42 (by decide) rfl (by decide) (s_285 w3158 gm ⟨by omega, by omega⟩ ⟨by omega, by omega⟩ (by omega)) (fun R3175 T3176 H3177 p3178 => ?_))
  obtain ⟨e3179, w3181, f3182, z3184, e3180, b3185, p3183⟩ := p3178
  subst e3179
  subst e3180
  show WL _ _ _ _ 1400 [(4, vI i), (3, .ref o), (2, .ref m), (1, .ref x), (0, .ref 0)] [vI z3184] _ H3177
  refine wl_of hX hb cL_1400 (rw_pop (pc' := 1401) rfl rfl ?_)
  refine wl_of hX hb cL_1401 (rw_goto (p1 := 1653) (by decide) ?_)
  have k3186 : H3177 x 9 = H3154 x 9 := (f3182 x 9 _ gx rfl)
  have k3187 : H3177 m 6 = H3154 m 6 := (f3182 m 6 _ gm rfl)
  have k3188 : H3177 x 11 = H3154 x 11 := (f3182 x 11 _ gx rfl)
  have k3189 : H3177 m 13 = H3154 m 13 := (f3182 m 13 _ gm rfl)
  have k3190 : H3177 x 8 = H3154 x 8 := (f3182 x 8 _ gx rfl)
  have k3191 : H3177 m 3 = H3154 m 3 := (f3182 m 3 _ gm rfl)
  have h3192 : XI T H3177 x m := (XI_fr w3158 gx f3182 rfl (XI_fr hW gx f3159 rfl hXI))
  exact WL.loc hX (by simp) (next T H3177 ⟨⟨w3181, g0, gx, gm, go, by omega, by omega⟩, h3192, by omega, by omega⟩ (by omega) (by omega))
set_option maxHeartbeats 4000000 in
theorem wl_c40 {kt : Nat → Option mc_E} {CB SB : Nat} {X : mc_S → Prop} {T : wq_T} {H : wq_H} {Len x m o : Nat} {i : Int} (hX : wlX kt CB SB X) (hb : T.2.1 ≤ CB ∧ T.2.2.1 ≤ SB) (hI : wlJ Len x m o T H) (hL : Len ≤ 3072) (hi : 0 ≤ i ∧ i + 6 ≤ Len) (hb2 : T.2.1 + 20 ≤ CB ∧ T.2.2.1 + 500 ≤ SB)  (next : ∀ T' H', wlJ Len x m o T' H' → T'.2.1 ≤ T.2.1 + 20 → T'.2.2.1 ≤ T.2.2.1 + 500 → WL kt CB SB X 1653 (wlL i x m o) [] T' H') : WL kt CB SB X 1404 (wlL i x m o) [] T H := by
  obtain ⟨⟨hW, g0, gx, gm, go, hK, hr⟩, hXI, hY1, hY2⟩ := hI
  refine wl_of hX hb cL_1404 (rw_aload_n (pc' := 1405) (v := .ref x) rfl rfl rfl ?_)
  refine wl_of hX hb cL_1405 (rw_aload_n (pc' := 1406) (v := .ref 0) rfl rfl rfl ?_)
  refine wl_of hX hb cL_1406 (rw_iload (pc' := 1408) (z := i) rfl rfl ?_)
  refine wl_of hX hb cL_1408 (rw_iconst (pc' := 1409) rfl ?_)
  refine wl_of hX hb cL_1409 (rw_iadd (pc' := 1410) rfl ?_)
  refine wl_of hX hb cL_1410 (xa_I (so := 0) (pc' := 1411) (a := 0) hW g0 (wsh_s _) (by omega) (wty_s _ _) (by omega) (by omega) rfl (fun b3193 b3194 => ?_))
  refine wl_of hX hb cL_1411 (xc_V (pc' := 1414) (r := x) (as := [vI (H 0 ((i + 1).toNat))]) (st := []) (lm_11_187) rfl rfl (Nat.le_of_ble_eq_true rfl) hW gx sh_1 (by decide) rfl (by decide) (s_154 hW gx ⟨by omega, by omega⟩) (fun R3195 T3196 H3197 p3198 => ?_))
  obtain ⟨e3199, w3201, f3202, z3203, e3200, b3204⟩ := p3198
  subst e3199
  subst e3200
  show WL _ _ _ _ 1414 [(4, vI i), (3, .ref o), (2, .ref m), (1, .ref x), (0, .ref 0)] [vI z3203] _ H3197
  refine wl_of hX hb cL_1414 (rw_pop (pc' := 1415) rfl rfl ?_)
  refine wl_of hX hb cL_1415 (rw_aload_n (pc' := 1416) (v := .ref m) rfl rfl rfl ?_)
  refine wl_of hX hb cL_1416 (rw_aload_n (pc' := 1417) (v := .ref 0) rfl rfl rfl ?_)
  refine wl_of hX hb cL_1417 (rw_iload (pc' := 1419) (z := i) rfl rfl ?_)
  refine wl_of hX hb cL_1419 (rw_iconst (pc' := 1420) rfl ?_)
  refine wl_of hX hb cL_1420 (rw_iadd (pc' := 1421) rfl ?_)
  have k3207 : H3197 0 ((i + 1).toNat) = H 0 ((i + 1).toNat) := (f3202 0 ((i + 1).toNat) _ g0 (wmem_s rfl))
  refine wl_of hX hb cL_1421 (xa_I (so := 0) (pc' := 1422) (a := 0) w3201 g0 (wsh_s _) (by omega) (wty_s _ _) (by omega) (by omega) rfl (fun b3205 b3206 => ?_))
  have k3208 : wKI H3197 m = wKI H m := (wKI_fr hW gm f3202 rfl)
  have k3209 : H3197 x 9 = H x 9 := (f3202 x 9 _ gx rfl)
  have k3210 : H3197 m 6 = H m 6 := (f3202 m 6 _ gm rfl)
  have k3211 : H3197 x 11 = H x 11 := (f3202 x 11 _ gx rfl)
  have k3212 : H3197 m 13 = H m 13 := (f3202 m 13 _ gm rfl)
  have k3213 : H3197 x 8 = H x 8 := (f3202 x 8 _ gx rfl)
  have k3214 : H3197 m 3 = H m 3 := (f3202 m 3 _ gm rfl)
  refine wl_of hX hb cL_1422 (xc_V (pc' := 1425) (r := m) (as := [vI (H3197 0 ((i + 1).toNat))]) (st := []) (lm_11_191) rfl rfl (Nat.le_of_ble_eq_true rfl) w3201 gm sh_42 (by decide) rfl (by decide) (s_286 w3201 gm ⟨by omega, by omega⟩ (by omega)) (fun R3215 T3216 H3217 p3218 => ?_))
  obtain ⟨e3219, w3221, f3222, z3224, e3220, b3225, p3223⟩ := p3218
  subst e3219
  subst e3220
  show WL _ _ _ _ 1425 [(4, vI i), (3, .ref o), (2, .ref m), (1, .ref x), (0, .ref 0)] [vI z3224] _ H3217
  refine wl_of hX hb cL_1425 (rw_pop (pc' := 1426) rfl rfl ?_)
  refine wl_of hX hb cL_1426 (rw_goto (p1 := 1653) (by decide) ?_)
  have k3226 : H3217 x 9 = H3197 x 9 := (f3222 x 9 _ gx rfl)
  have k3227 : H3217 m 6 = H3197 m 6 := (f3222 m 6 _ gm rfl)
  have k3228 : H3217 x 11 = H3197 x 11 := (f3222 x 11 _ gx rfl)
  have k3229 : H3217 m 13 = H3197 m 13 := (f3222 m 13 _ gm rfl)
  have k3230 : H3217 x 8 = H3197 x 8 := (f3222 x 8 _ gx rfl)
  have k3231 : H3217 m 3 = H3197 m 3 := (f3222 m 3 _ gm rfl)
  have h3232 : XI T H3217 x m := (XI_fr w3201 gx f3222 rfl (XI_fr hW gx f3202 rfl hXI))
  exact WL.loc hX (by simp) (next T H3217 ⟨⟨w3221, g0, gx, gm, go, by omega, by omega⟩, h3232, by omega, by omega⟩ (by omega) (by omega))
set_option maxHeartbeats 4000000 in
theorem wl_c41 {kt : Nat → Option mc_E} {CB SB : Nat} {X : mc_S → Prop} {T : wq_T} {H : wq_H} {Len x m o : Nat} {i : Int} (hX : wlX kt CB SB X) (hb : T.2.1 ≤ CB ∧ T.2.2.1 ≤ SB) (hI : wlJ Len x m o T H) (hL : Len ≤ 3072) (hi : 0 ≤ i ∧ i + 6 ≤ Len) (hb2 : T.2.1 + 20 ≤ CB ∧ T.2.2.1 + 500 ≤ SB)  (next : ∀ T' H', wlJ Len x m o T' H' → T'.2.1 ≤ T.2.1 + 20 → T'.2.2.1 ≤ T.2.2.1 + 500 → WL kt CB SB X 1653 (wlL i x m o) [] T' H') : WL kt CB SB X 1429 (wlL i x m o) [] T H := by
  obtain ⟨⟨hW, g0, gx, gm, go, hK, hr⟩, hXI, hY1, hY2⟩ := hI
  refine wl_of hX hb cL_1429 (rw_aload_n (pc' := 1430) (v := .ref x) rfl rfl rfl ?_)
  refine wl_of hX hb cL_1430 (rw_aload_n (pc' := 1431) (v := .ref 0) rfl rfl rfl ?_)
  refine wl_of hX hb cL_1431 (rw_iload (pc' := 1433) (z := i) rfl rfl ?_)
  refine wl_of hX hb cL_1433 (rw_iconst (pc' := 1434) rfl ?_)
  refine wl_of hX hb cL_1434 (rw_iadd (pc' := 1435) rfl ?_)
  refine wl_of hX hb cL_1435 (xa_I (so := 0) (pc' := 1436) (a := 0) hW g0 (wsh_s _) (by omega) (wty_s _ _) (by omega) (by omega) rfl (fun b3233 b3234 => ?_))
  refine wl_of hX hb cL_1436 (xc_V (pc' := 1439) (r := x) (as := [vI (H 0 ((i + 1).toNat))]) (st := []) (lm_11_192) rfl rfl (Nat.le_of_ble_eq_true rfl) hW gx sh_1 (by decide) rfl (by decide) (s_155 hW gx ⟨by omega, by omega⟩) (fun R3235 T3236 H3237 p3238 => ?_))
  obtain ⟨e3239, w3241, f3242, z3243, e3240, b3244⟩ := p3238
  subst e3239
  subst e3240
  show WL _ _ _ _ 1439 [(4, vI i), (3, .ref o), (2, .ref m), (1, .ref x), (0, .ref 0)] [vI z3243] _ H3237
  refine wl_of hX hb cL_1439 (rw_pop (pc' := 1440) rfl rfl ?_)
  refine wl_of hX hb cL_1440 (rw_aload_n (pc' := 1441) (v := .ref m) rfl rfl rfl ?_)
  refine wl_of hX hb cL_1441 (rw_aload_n (pc' := 1442) (v := .ref 0) rfl rfl rfl ?_)
  refine wl_of hX hb cL_1442 (rw_iload (pc' := 1444) (z := i) rfl rfl ?_)
  refine wl_of hX hb cL_1444 (rw_iconst (pc' := 1445) rfl ?_)
  refine wl_of hX hb cL_1445 (rw_iadd (pc' := 1446) rfl ?_)
  have k3247 : H3237 0 ((i + 1).toNat) = H 0 ((i + 1).toNat) := (f3242 0 ((i + 1).toNat) _ g0 (wmem_s rfl))
  refine wl_of hX hb cL_1446 (xa_I (so := 0) (pc' := 1447) (a := 0) w3241 g0 (wsh_s _) (by omega) (wty_s _ _) (by omega) (by omega) rfl (fun b3245 b3246 => ?_))
  have k3248 : wKI H3237 m = wKI H m := (wKI_fr hW gm f3242 rfl)
  have k3249 : H3237 x 9 = H x 9 := (f3242 x 9 _ gx rfl)
  have k3250 : H3237 m 6 = H m 6 := (f3242 m 6 _ gm rfl)
  have k3251 : H3237 x 11 = H x 11 := (f3242 x 11 _ gx rfl)
  have k3252 : H3237 m 13 = H m 13 := (f3242 m 13 _ gm rfl)
  have k3253 : H3237 x 8 = H x 8 := (f3242 x 8 _ gx rfl)
  have k3254 : H3237 m 3 = H m 3 := (f3242 m 3 _ gm rfl)
  refine wl_of hX hb cL_1447 (xc_V (pc' := 1450) (r := m) (as := [vI (H3237 0 ((i + 1).toNat))]) (st := []) (lm_11_195) rfl rfl (Nat.le_of_ble_eq_true rfl) w3241 gm sh_42 (by decide) rfl (by decide) (s_287 w3241 gm ⟨by omega, by omega⟩ (by omega)) (fun R3255 T3256 H3257 p3258 => ?_))
  obtain ⟨e3259, w3261, f3262, z3264, e3260, b3265, p3263⟩ := p3258
  subst e3259
  subst e3260
  show WL _ _ _ _ 1450 [(4, vI i), (3, .ref o), (2, .ref m), (1, .ref x), (0, .ref 0)] [vI z3264] _ H3257
  refine wl_of hX hb cL_1450 (rw_pop (pc' := 1451) rfl rfl ?_)
  refine wl_of hX hb cL_1451 (rw_goto (p1 := 1653) (by decide) ?_)
  have k3266 : H3257 x 9 = H3237 x 9 := (f3262 x 9 _ gx rfl)
  have k3267 : H3257 m 6 = H3237 m 6 := (f3262 m 6 _ gm rfl)
  have k3268 : H3257 x 11 = H3237 x 11 := (f3262 x 11 _ gx rfl)
  have k3269 : H3257 m 13 = H3237 m 13 := (f3262 m 13 _ gm rfl)
  have k3270 : H3257 x 8 = H3237 x 8 := (f3262 x 8 _ gx rfl)
  have k3271 : H3257 m 3 = H3237 m 3 := (f3262 m 3 _ gm rfl)
  have h3272 : XI T H3257 x m := (XI_fr w3241 gx f3262 rfl (XI_fr hW gx f3242 rfl hXI))
  exact WL.loc hX (by simp) (next T H3257 ⟨⟨w3261, g0, gx, gm, go, by omega, by omega⟩, h3272, by omega, by omega⟩ (by omega) (by omega))
set_option maxHeartbeats 4000000 in
theorem wl_c42 {kt : Nat → Option mc_E} {CB SB : Nat} {X : mc_S → Prop} {T : wq_T} {H : wq_H} {Len x m o : Nat} {i : Int} (hX : wlX kt CB SB X) (hb : T.2.1 ≤ CB ∧ T.2.2.1 ≤ SB) (hI : wlJ Len x m o T H) (hL : Len ≤ 3072) (hi : 0 ≤ i ∧ i + 6 ≤ Len) (hb2 : T.2.1 + 20 ≤ CB ∧ T.2.2.1 + 500 ≤ SB)  (next : ∀ T' H', wlJ Len x m o T' H' → T'.2.1 ≤ T.2.1 + 20 → T'.2.2.1 ≤ T.2.2.1 + 500 → WL kt CB SB X 1653 (wlL i x m o) [] T' H') : WL kt CB SB X 1454 (wlL i x m o) [] T H := by
  obtain ⟨⟨hW, g0, gx, gm, go, hK, hr⟩, hXI, hY1, hY2⟩ := hI
  refine wl_of hX hb cL_1454 (rw_aload_n (pc' := 1455) (v := .ref x) rfl rfl rfl ?_)
  refine wl_of hX hb cL_1455 (xc_V (pc' := 1458) (r := x) (as := []) (st := []) (lm_11_196) rfl rfl (Nat.le_of_ble_eq_true rfl) hW gx sh_1 (by decide) rfl (by decide) (s_156 hW gx) (fun R3273 T3274 H3275 p3276 => ?_))
  obtain ⟨e3277, w3279, f3280, z3281, e3278, b3282⟩ := p3276
  subst e3277
  subst e3278
  show WL _ _ _ _ 1458 [(4, vI i), (3, .ref o), (2, .ref m), (1, .ref x), (0, .ref 0)] [vI z3281] _ H3275
  refine wl_of hX hb cL_1458 (rw_pop (pc' := 1459) rfl rfl ?_)
  refine wl_of hX hb cL_1459 (rw_aload_n (pc' := 1460) (v := .ref m) rfl rfl rfl ?_)
  have k3283 : wKI H3275 m = wKI H m := (wKI_fr hW gm f3280 rfl)
  have k3284 : H3275 x 9 = H x 9 := (f3280 x 9 _ gx rfl)
  have k3285 : H3275 m 6 = H m 6 := (f3280 m 6 _ gm rfl)
  have k3286 : H3275 x 11 = H x 11 := (f3280 x 11 _ gx rfl)
  have k3287 : H3275 m 13 = H m 13 := (f3280 m 13 _ gm rfl)
  have k3288 : H3275 x 8 = H x 8 := (f3280 x 8 _ gx rfl)
  have k3289 : H3275 m 3 = H m 3 := (f3280 m 3 _ gm rfl)
  refine wl_of hX hb cL_1460 (xc_V (pc' := 1463) (r := m) (as := []) (st := []) (lm_11_199) rfl rfl (Nat.le_of_ble_eq_true rfl) w3279 gm sh_42 (by decide) rfl (by decide) (s_288 w3279 gm (by omega)) (fun R3290 T3291 H3292 p3293 => ?_))
  obtain ⟨e3294, w3296, f3297, z3299, e3295, b3300, p3298⟩ := p3293
  subst e3294
  subst e3295
  show WL _ _ _ _ 1463 [(4, vI i), (3, .ref o), (2, .ref m), (1, .ref x), (0, .ref 0)] [vI z3299] _ H3292
  refine wl_of hX hb cL_1463 (rw_pop (pc' := 1464) rfl rfl ?_)
  refine wl_of hX hb cL_1464 (rw_goto (p1 := 1653) (by decide) ?_)
  have k3301 : H3292 x 9 = H3275 x 9 := (f3297 x 9 _ gx rfl)
  have k3302 : H3292 m 6 = H3275 m 6 := (f3297 m 6 _ gm rfl)
  have k3303 : H3292 x 11 = H3275 x 11 := (f3297 x 11 _ gx rfl)
  have k3304 : H3292 m 13 = H3275 m 13 := (f3297 m 13 _ gm rfl)
  have k3305 : H3292 x 8 = H3275 x 8 := (f3297 x 8 _ gx rfl)
  have k3306 : H3292 m 3 = H3275 m 3 := (f3297 m 3 _ gm rfl)
  have h3307 : XI T H3292 x m := (XI_fr w3279 gx f3297 rfl (XI_fr hW gx f3280 rfl hXI))
  exact WL.loc hX (by simp) (next T H3292 ⟨⟨w3296, g0, gx, gm, go, by omega, by omega⟩, h3307, by omega, by omega⟩ (by omega) (by omega))
set_option maxHeartbeats 4000000 in
theorem wl_c43 {kt : Nat → Option mc_E} {CB SB : Nat} {X : mc_S → Prop} {T : wq_T} {H : wq_H} {Len x m o : Nat} {i : Int} (hX : wlX kt CB SB X) (hb : T.2.1 ≤ CB ∧ T.2.2.1 ≤ SB) (hI : wlJ Len x m o T H) (hL : Len ≤ 3072) (hi : 0 ≤ i ∧ i + 6 ≤ Len) (hb2 : T.2.1 + 20 ≤ CB ∧ T.2.2.1 + 500 ≤ SB)  (next : ∀ T' H', wlJ Len x m o T' H' → T'.2.1 ≤ T.2.1 + 20 → T'.2.2.1 ≤ T.2.2.1 + 500 → WL kt CB SB X 1653 (wlL i x m o) [] T' H') : WL kt CB SB X 1467 (wlL i x m o) [] T H := by
  obtain ⟨⟨hW, g0, gx, gm, go, hK, hr⟩, hXI, hY1, hY2⟩ := hI
  refine wl_of hX hb cL_1467 (rw_aload_n (pc' := 1468) (v := .ref x) rfl rfl rfl ?_)
  refine wl_of hX hb cL_1468 (rw_aload_n (pc' := 1469) (v := .ref 0) rfl rfl rfl ?_)
  refine wl_of hX hb cL_1469 (rw_iload (pc' := 1471) (z := i) rfl rfl ?_)
  refine wl_of hX hb cL_1471 (rw_iconst (pc' := 1472) rfl ?_)
  refine wl_of hX hb cL_1472 (rw_iadd (pc' := 1473) rfl ?_)
  refine wl_of hX hb cL_1473 (xa_I (so := 0) (pc' := 1474) (a := 0) hW g0 (wsh_s _) (by omega) (wty_s _ _) (by omega) (by omega) rfl (fun b3308 b3309 => ?_))
  refine wl_of hX hb cL_1474 (rw_aload_n (pc' := 1475) (v := .ref 0) rfl rfl rfl ?_)
  refine wl_of hX hb cL_1475 (rw_iload (pc' := 1477) (z := i) rfl rfl ?_)
  refine wl_of hX hb cL_1477 (rw_iconst (pc' := 1478) rfl ?_)
  refine wl_of hX hb cL_1478 (rw_iadd (pc' := 1479) rfl ?_)
  refine wl_of hX hb cL_1479 (xa_I (so := 0) (pc' := 1480) (a := 0) hW g0 (wsh_s _) (by omega) (wty_s _ _) (by omega) (by omega) rfl (fun b3310 b3311 => ?_))
  refine wl_of hX hb cL_1480 (xc_V (pc' := 1483) (r := x) (as := [vI (H 0 ((i + 1).toNat)), vI (H 0 ((i + 2).toNat))]) (st := []) (lm_11_200) rfl rfl (Nat.le_of_ble_eq_true rfl) hW gx sh_1 (by decide) rfl (by decide) (s_157 hW gx ⟨by omega, by omega⟩ ⟨by omega, by omega⟩) (fun R3312 T3313 H3314 p3315 => ?_))
  obtain ⟨e3316, w3318, f3319, z3320, e3317, b3321⟩ := p3315
  subst e3316
  subst e3317
  show WL _ _ _ _ 1483 [(4, vI i), (3, .ref o), (2, .ref m), (1, .ref x), (0, .ref 0)] [vI z3320] _ H3314
  refine wl_of hX hb cL_1483 (rw_pop (pc' := 1484) rfl rfl ?_)
  refine wl_of hX hb cL_1484 (rw_aload_n (pc' := 1485) (v := .ref m) rfl rfl rfl ?_)
  refine wl_of hX hb cL_1485 (rw_aload_n (pc' := 1486) (v := .ref 0) rfl rfl rfl ?_)
  refine wl_of hX hb cL_1486 (rw_iload (pc' := 1488) (z := i) rfl rfl ?_)
  refine wl_of hX hb cL_1488 (rw_iconst (pc' := 1489) rfl ?_)
  refine wl_of hX hb cL_1489 (rw_iadd (pc' := 1490) rfl ?_)
  have k3324 : H3314 0 ((i + 1).toNat) = H 0 ((i + 1).toNat) := (f3319 0 ((i + 1).toNat) _ g0 (wmem_s rfl))
  refine wl_of hX hb cL_1490 (xa_I (so := 0) (pc' := 1491) (a := 0) w3318 g0 (wsh_s _) (by omega) (wty_s _ _) (by omega) (by omega) rfl (fun b3322 b3323 => ?_))
  refine wl_of hX hb cL_1491 (rw_aload_n (pc' := 1492) (v := .ref 0) rfl rfl rfl ?_)
  refine wl_of hX hb cL_1492 (rw_iload (pc' := 1494) (z := i) rfl rfl ?_)
  refine wl_of hX hb cL_1494 (rw_iconst (pc' := 1495) rfl ?_)
  refine wl_of hX hb cL_1495 (rw_iadd (pc' := 1496) rfl ?_)
  have k3327 : H3314 0 ((i + 2).toNat) = H 0 ((i + 2).toNat) := (f3319 0 ((i + 2).toNat) _ g0 (wmem_s rfl))
  refine wl_of hX hb cL_1496 (xa_I (so := 0) (pc' := 1497) (a := 0) w3318 g0 (wsh_s _) (by omega) (wty_s _ _) (by omega) (by omega) rfl (fun b3325 b3326 => ?_))
  have k3328 : wKI H3314 m = wKI H m := (wKI_fr hW gm f3319 rfl)
  have k3329 : H3314 x 9 = H x 9 := (f3319 x 9 _ gx rfl)
  have k3330 : H3314 m 6 = H m 6 := (f3319 m 6 _ gm rfl)
  have k3331 : H3314 x 11 = H x 11 := (f3319 x 11 _ gx rfl)
  have k3332 : H3314 m 13 = H m 13 := (f3319 m 13 _ gm rfl)
  have k3333 : H3314 x 8 = H x 8 := (f3319 x 8 _ gx rfl)
  have k3334 : H3314 m 3 = H m 3 := (f3319 m 3 _ gm rfl)
  refine wl_of hX hb cL_1497 (xc_V (pc' := 1500) (r := m) (as := [vI (H3314 0 ((i + 1).toNat)), vI (H3314 0 ((i + 2).toNat))]) (st := []) (lm_11_203) rfl rfl (Nat.le_of_ble_eq_true rfl) w3318 gm sh_42 (by decide) rfl (by decide) (s_289 w3318 gm ⟨by omega, by omega⟩ ⟨by omega, by omega⟩ (by omega)) (fun R3335 T3336 H3337 p3338 => ?_))
  obtain ⟨e3339, w3341, f3342, z3344, e3340, b3345, p3343⟩ := p3338
  subst e3339
  subst e3340
  show WL _ _ _ _ 1500 [(4, vI i), (3, .ref o), (2, .ref m), (1, .ref x), (0, .ref 0)] [vI z3344] _ H3337
  refine wl_of hX hb cL_1500 (rw_pop (pc' := 1501) rfl rfl ?_)
  refine wl_of hX hb cL_1501 (rw_goto (p1 := 1653) (by decide) ?_)
  have k3346 : H3337 x 9 = H3314 x 9 := (f3342 x 9 _ gx rfl)
  have k3347 : H3337 m 6 = H3314 m 6 := (f3342 m 6 _ gm rfl)
  have k3348 : H3337 x 11 = H3314 x 11 := (f3342 x 11 _ gx rfl)
  have k3349 : H3337 m 13 = H3314 m 13 := (f3342 m 13 _ gm rfl)
  have k3350 : H3337 x 8 = H3314 x 8 := (f3342 x 8 _ gx rfl)
  have k3351 : H3337 m 3 = H3314 m 3 := (f3342 m 3 _ gm rfl)
  have h3352 : XI T H3337 x m := (XI_fr w3318 gx f3342 rfl (XI_fr hW gx f3319 rfl hXI))
  exact WL.loc hX (by simp) (next T H3337 ⟨⟨w3341, g0, gx, gm, go, by omega, by omega⟩, h3352, by omega, by omega⟩ (by omega) (by omega))
set_option maxHeartbeats 4000000 in
theorem wl_c44 {kt : Nat → Option mc_E} {CB SB : Nat} {X : mc_S → Prop} {T : wq_T} {H : wq_H} {Len x m o : Nat} {i : Int} (hX : wlX kt CB SB X) (hb : T.2.1 ≤ CB ∧ T.2.2.1 ≤ SB) (hI : wlJ Len x m o T H) (hL : Len ≤ 3072) (hi : 0 ≤ i ∧ i + 6 ≤ Len) (hb2 : T.2.1 + 20 ≤ CB ∧ T.2.2.1 + 500 ≤ SB)  (next : ∀ T' H', wlJ Len x m o T' H' → T'.2.1 ≤ T.2.1 + 20 → T'.2.2.1 ≤ T.2.2.1 + 500 → WL kt CB SB X 1653 (wlL i x m o) [] T' H') : WL kt CB SB X 1504 (wlL i x m o) [] T H := by
  obtain ⟨⟨hW, g0, gx, gm, go, hK, hr⟩, hXI, hY1, hY2⟩ := hI
  refine wl_of hX hb cL_1504 (rw_aload_n (pc' := 1505) (v := .ref x) rfl rfl rfl ?_)
  refine wl_of hX hb cL_1505 (xc_V (pc' := 1508) (r := x) (as := []) (st := []) (lm_11_204) rfl rfl (Nat.le_of_ble_eq_true rfl) hW gx sh_1 (by decide) rfl (by decide) (u_158  hW gx) (fun R3353 T3354 H3355 p3356 => ?_))
  obtain ⟨e3357, w3359, f3360, z3361, e3358, b3362, p3363⟩ := p3356
  subst e3357
  subst e3358
  rcases p3363 with ⟨a3364, a3365⟩ | ⟨a3366, a3367⟩
  · show WL _ _ _ _ 1508 [(4, vI i), (3, .ref o), (2, .ref m), (1, .ref x), (0, .ref 0)] [vI z3361] _ H3355
    refine wl_of hX hb cL_1508 (rw_aload_n (pc' := 1509) (v := .ref m) rfl rfl rfl ?_)
    have k3368 : wKI H3355 m = wKI H m := (wKI_fr hW gm f3360 rfl)
    have k3369 : H3355 x 9 = H x 9 := (f3360 x 9 _ gx rfl)
    have k3370 : H3355 m 6 = H m 6 := (f3360 m 6 _ gm rfl)
    have k3371 : H3355 x 11 = H x 11 := (f3360 x 11 _ gx rfl)
    have k3372 : H3355 m 13 = H m 13 := (f3360 m 13 _ gm rfl)
    have k3373 : H3355 x 8 = H x 8 := (f3360 x 8 _ gx rfl)
    have k3374 : H3355 m 3 = H m 3 := (f3360 m 3 _ gm rfl)
    refine wl_of hX hb cL_1509 (xc_V (pc' := 1512) (r := m) (as := []) (st := [vI z3361]) (lm_11_208) rfl rfl (Nat.le_of_ble_eq_true rfl) w3359 gm sh_42 (by decide) rfl (by decide) (u_290  w3359 gm) (fun R3375 T3376 H3377 p3378 => ?_))
    obtain ⟨e3379, w3381, f3382, z3383, e3380, b3384, p3385⟩ := p3378
    subst e3379
    subst e3380
    rcases p3385 with ⟨a3386, a3387⟩ | ⟨a3388, a3389⟩
    · show WL _ _ _ _ 1512 [(4, vI i), (3, .ref o), (2, .ref m), (1, .ref x), (0, .ref 0)] [vI z3383, vI z3361] _ H3377
      refine wl_of hX hb cL_1512 (rw_icmp_eq (p1 := 1653) (p2 := 1515) (by decide) rfl ⟨by omega, by omega⟩ ⟨by omega, by omega⟩ (fun c3390 => ?_) (fun c3390 => ?_))
      · have k3391 : wKI H3377 m = wKI H3355 m := (wKI_fr w3359 gm f3382 rfl)
        have k3392 : H3377 x 9 = H3355 x 9 := (f3382 x 9 _ gx rfl)
        have k3393 : H3377 m 6 = H3355 m 6 := (f3382 m 6 _ gm rfl)
        have k3394 : H3377 x 11 = H3355 x 11 := (f3382 x 11 _ gx rfl)
        have k3395 : H3377 m 13 = H3355 m 13 := (f3382 m 13 _ gm rfl)
        have k3396 : H3377 x 8 = H3355 x 8 := (f3382 x 8 _ gx rfl)
        have k3397 : H3377 m 3 = H3355 m 3 := (f3382 m 3 _ gm rfl)
        have h3398 : XI T H3377 x m := (XI_fr w3359 gx f3382 rfl (XI_fr hW gx f3360 rfl hXI))
        exact WL.loc hX (by simp) (next T H3377 ⟨⟨w3381, g0, gx, gm, go, by omega, by omega⟩, h3398, by omega, by omega⟩ (by omega) (by omega))
      · exfalso
        omega
    · show WL _ _ _ _ 1512 [(4, vI i), (3, .ref o), (2, .ref m), (1, .ref x), (0, .ref 0)] [vI z3383, vI z3361] _ H3377
      refine wl_of hX hb cL_1512 (rw_icmp_eq (p1 := 1653) (p2 := 1515) (by decide) rfl ⟨by omega, by omega⟩ ⟨by omega, by omega⟩ (fun c3399 => ?_) (fun c3399 => ?_))
      · exfalso
        omega
      · refine wl_of hX hb cL_1515 (rw_iconst (pc' := 1516) rfl ?_)
        exfalso
        omega
  · show WL _ _ _ _ 1508 [(4, vI i), (3, .ref o), (2, .ref m), (1, .ref x), (0, .ref 0)] [vI z3361] _ H3355
    refine wl_of hX hb cL_1508 (rw_aload_n (pc' := 1509) (v := .ref m) rfl rfl rfl ?_)
    have k3400 : wKI H3355 m = wKI H m := (wKI_fr hW gm f3360 rfl)
    have k3401 : H3355 x 9 = H x 9 := (f3360 x 9 _ gx rfl)
    have k3402 : H3355 m 6 = H m 6 := (f3360 m 6 _ gm rfl)
    have k3403 : H3355 x 11 = H x 11 := (f3360 x 11 _ gx rfl)
    have k3404 : H3355 m 13 = H m 13 := (f3360 m 13 _ gm rfl)
    have k3405 : H3355 x 8 = H x 8 := (f3360 x 8 _ gx rfl)
    have k3406 : H3355 m 3 = H m 3 := (f3360 m 3 _ gm rfl)
    refine wl_of hX hb cL_1509 (xc_V (pc' := 1512) (r := m) (as := []) (st := [vI z3361]) (lm_11_208) rfl rfl (Nat.le_of_ble_eq_true rfl) w3359 gm sh_42 (by decide) rfl (by decide) (u_290  w3359 gm) (fun R3407 T3408 H3409 p3410 => ?_))
    obtain ⟨e3411, w3413, f3414, z3415, e3412, b3416, p3417⟩ := p3410
    subst e3411
    subst e3412
    rcases p3417 with ⟨a3418, a3419⟩ | ⟨a3420, a3421⟩
    · show WL _ _ _ _ 1512 [(4, vI i), (3, .ref o), (2, .ref m), (1, .ref x), (0, .ref 0)] [vI z3415, vI z3361] _ H3409
      refine wl_of hX hb cL_1512 (rw_icmp_eq (p1 := 1653) (p2 := 1515) (by decide) rfl ⟨by omega, by omega⟩ ⟨by omega, by omega⟩ (fun c3422 => ?_) (fun c3422 => ?_))
      · exfalso
        omega
      · refine wl_of hX hb cL_1515 (rw_iconst (pc' := 1516) rfl ?_)
        exfalso
        omega
    · show WL _ _ _ _ 1512 [(4, vI i), (3, .ref o), (2, .ref m), (1, .ref x), (0, .ref 0)] [vI z3415, vI z3361] _ H3409
      refine wl_of hX hb cL_1512 (rw_icmp_eq (p1 := 1653) (p2 := 1515) (by decide) rfl ⟨by omega, by omega⟩ ⟨by omega, by omega⟩ (fun c3423 => ?_) (fun c3423 => ?_))
      · have k3424 : wKI H3409 m = wKI H3355 m := (wKI_fr w3359 gm f3414 rfl)
        have k3425 : H3409 x 9 = H3355 x 9 := (f3414 x 9 _ gx rfl)
        have k3426 : H3409 m 6 = H3355 m 6 := (f3414 m 6 _ gm rfl)
        have k3427 : H3409 x 11 = H3355 x 11 := (f3414 x 11 _ gx rfl)
        have k3428 : H3409 m 13 = H3355 m 13 := (f3414 m 13 _ gm rfl)
        have k3429 : H3409 x 8 = H3355 x 8 := (f3414 x 8 _ gx rfl)
        have k3430 : H3409 m 3 = H3355 m 3 := (f3414 m 3 _ gm rfl)
        have h3431 : XI T H3409 x m := (XI_fr w3359 gx f3414 rfl (XI_fr hW gx f3360 rfl hXI))
        exact WL.loc hX (by simp) (next T H3409 ⟨⟨w3413, g0, gx, gm, go, by omega, by omega⟩, h3431, by omega, by omega⟩ (by omega) (by omega))
      · exfalso
        omega
set_option maxHeartbeats 4000000 in
theorem wl_c45 {kt : Nat → Option mc_E} {CB SB : Nat} {X : mc_S → Prop} {T : wq_T} {H : wq_H} {Len x m o : Nat} {i : Int} (hX : wlX kt CB SB X) (hb : T.2.1 ≤ CB ∧ T.2.2.1 ≤ SB) (hI : wlJ Len x m o T H) (hL : Len ≤ 3072) (hi : 0 ≤ i ∧ i + 6 ≤ Len) (hb2 : T.2.1 + 20 ≤ CB ∧ T.2.2.1 + 500 ≤ SB)  (next : ∀ T' H', wlJ Len x m o T' H' → T'.2.1 ≤ T.2.1 + 20 → T'.2.2.1 ≤ T.2.2.1 + 500 → WL kt CB SB X 1653 (wlL i x m o) [] T' H') : WL kt CB SB X 1517 (wlL i x m o) [] T H := by
  obtain ⟨⟨hW, g0, gx, gm, go, hK, hr⟩, hXI, hY1, hY2⟩ := hI
  refine wl_of hX hb cL_1517 (rw_aload_n (pc' := 1518) (v := .ref x) rfl rfl rfl ?_)
  refine wl_of hX hb cL_1518 (xc_V (pc' := 1521) (r := x) (as := []) (st := []) (lm_11_209) rfl rfl (Nat.le_of_ble_eq_true rfl) hW gx sh_1 (by decide) rfl (by decide) (s_159 hW gx) (fun R3432 T3433 H3434 p3435 => ?_))
  obtain ⟨e3436, w3438, f3439, z3440, e3437, b3441⟩ := p3435
  subst e3436
  subst e3437
  show WL _ _ _ _ 1521 [(4, vI i), (3, .ref o), (2, .ref m), (1, .ref x), (0, .ref 0)] [vL z3440] _ H3434
  refine wl_of hX hb cL_1521 (rw_pop2 (pc' := 1522) rfl rfl ?_)
  refine wl_of hX hb cL_1522 (rw_aload_n (pc' := 1523) (v := .ref m) rfl rfl rfl ?_)
  have k3442 : wKI H3434 m = wKI H m := (wKI_fr hW gm f3439 rfl)
  have k3443 : H3434 x 9 = H x 9 := (f3439 x 9 _ gx rfl)
  have k3444 : H3434 m 6 = H m 6 := (f3439 m 6 _ gm rfl)
  have k3445 : H3434 x 11 = H x 11 := (f3439 x 11 _ gx rfl)
  have k3446 : H3434 m 13 = H m 13 := (f3439 m 13 _ gm rfl)
  have k3447 : H3434 x 8 = H x 8 := (f3439 x 8 _ gx rfl)
  have k3448 : H3434 m 3 = H m 3 := (f3439 m 3 _ gm rfl)
  refine wl_of hX hb cL_1523 (xc_V (pc' := 1526) (r := m) (as := []) (st := []) (lm_11_212) rfl rfl (Nat.le_of_ble_eq_true rfl) w3438 gm sh_42 (by decide) rfl (by decide) (s_291 w3438 gm (by omega)) (fun R3449 T3450 H3451 p3452 => ?_))
  obtain ⟨e3453, w3455, f3456, z3458, e3454, b3459, p3457⟩ := p3452
  subst e3453
  subst e3454
  show WL _ _ _ _ 1526 [(4, vI i), (3, .ref o), (2, .ref m), (1, .ref x), (0, .ref 0)] [vL z3458] _ H3451
  refine wl_of hX hb cL_1526 (rw_pop2 (pc' := 1527) rfl rfl ?_)
  refine wl_of hX hb cL_1527 (rw_goto (p1 := 1653) (by decide) ?_)
  have k3460 : H3451 x 9 = H3434 x 9 := (f3456 x 9 _ gx rfl)
  have k3461 : H3451 m 6 = H3434 m 6 := (f3456 m 6 _ gm rfl)
  have k3462 : H3451 x 11 = H3434 x 11 := (f3456 x 11 _ gx rfl)
  have k3463 : H3451 m 13 = H3434 m 13 := (f3456 m 13 _ gm rfl)
  have k3464 : H3451 x 8 = H3434 x 8 := (f3456 x 8 _ gx rfl)
  have k3465 : H3451 m 3 = H3434 m 3 := (f3456 m 3 _ gm rfl)
  have h3466 : XI T H3451 x m := (XI_fr w3438 gx f3456 rfl (XI_fr hW gx f3439 rfl hXI))
  exact WL.loc hX (by simp) (next T H3451 ⟨⟨w3455, g0, gx, gm, go, by omega, by omega⟩, h3466, by omega, by omega⟩ (by omega) (by omega))
set_option maxHeartbeats 4000000 in
theorem wl_c46 {kt : Nat → Option mc_E} {CB SB : Nat} {X : mc_S → Prop} {T : wq_T} {H : wq_H} {Len x m o : Nat} {i : Int} (hX : wlX kt CB SB X) (hb : T.2.1 ≤ CB ∧ T.2.2.1 ≤ SB) (hI : wlJ Len x m o T H) (hL : Len ≤ 3072) (hi : 0 ≤ i ∧ i + 6 ≤ Len) (hb2 : T.2.1 + 20 ≤ CB ∧ T.2.2.1 + 500 ≤ SB)  (next : ∀ T' H', wlJ Len x m o T' H' → T'.2.1 ≤ T.2.1 + 20 → T'.2.2.1 ≤ T.2.2.1 + 500 → WL kt CB SB X 1653 (wlL i x m o) [] T' H') : WL kt CB SB X 1530 (wlL i x m o) [] T H := by
  obtain ⟨⟨hW, g0, gx, gm, go, hK, hr⟩, hXI, hY1, hY2⟩ := hI
  refine wl_of hX hb cL_1530 (rw_aload_n (pc' := 1531) (v := .ref x) rfl rfl rfl ?_)
  refine wl_of hX hb cL_1531 (rw_aload_n (pc' := 1532) (v := .ref 0) rfl rfl rfl ?_)
  refine wl_of hX hb cL_1532 (rw_iload (pc' := 1534) (z := i) rfl rfl ?_)
  refine wl_of hX hb cL_1534 (rw_iconst (pc' := 1535) rfl ?_)
  refine wl_of hX hb cL_1535 (rw_iadd (pc' := 1536) rfl ?_)
  refine wl_of hX hb cL_1536 (xa_I (so := 0) (pc' := 1537) (a := 0) hW g0 (wsh_s _) (by omega) (wty_s _ _) (by omega) (by omega) rfl (fun b3467 b3468 => ?_))
  refine wl_of hX hb cL_1537 (rw_i2l (pc' := 1538) rfl ⟨by omega, by omega⟩ ?_)
  refine wl_of hX hb cL_1538 (rw_bipush (pc' := 1540) (z := 32) rfl (by decide) ?_)
  refine wl_of hX hb cL_1540 (rw_lshl (pc' := 1541) rfl ?_)
  obtain ⟨v3469, e3470⟩ : ∃ x : Int, x = wl_shl (H 0 ((i + 1).toNat)) 32 := ⟨_, rfl⟩
  rw [← e3470]
  have b3471 : -9223372036854775808 ≤ v3469 ∧ v3469 ≤ 9223372036854775807 := by
    rw [e3470]
    exact wL_shl _ _
  refine wl_of hX hb cL_1541 (rw_aload_n (pc' := 1542) (v := .ref 0) rfl rfl rfl ?_)
  refine wl_of hX hb cL_1542 (rw_iload (pc' := 1544) (z := i) rfl rfl ?_)
  refine wl_of hX hb cL_1544 (rw_iconst (pc' := 1545) rfl ?_)
  refine wl_of hX hb cL_1545 (rw_iadd (pc' := 1546) rfl ?_)
  refine wl_of hX hb cL_1546 (xa_I (so := 0) (pc' := 1547) (a := 0) hW g0 (wsh_s _) (by omega) (wty_s _ _) (by omega) (by omega) rfl (fun b3472 b3473 => ?_))
  refine wl_of hX hb cL_1547 (rw_i2l (pc' := 1548) rfl ⟨by omega, by omega⟩ ?_)
  refine wl_of hX hb cL_1548 (rw_ldc2 (pc' := 1551) (z := 4294967295) rfl rfl rfl ?_)
  refine wl_of hX hb cL_1551 (rw_land (pc' := 1552) rfl ?_)
  obtain ⟨v3474, e3475⟩ : ∃ x : Int, x = wl_and (H 0 ((i + 2).toNat)) 4294967295 := ⟨_, rfl⟩
  rw [← e3475]
  have b3476 : -9223372036854775808 ≤ v3474 ∧ v3474 ≤ 9223372036854775807 := by
    rw [e3475]
    exact wL_and _ _
  refine wl_of hX hb cL_1552 (rw_lor (pc' := 1553) rfl ?_)
  obtain ⟨v3477, e3478⟩ : ∃ x : Int, x = wl_or v3469 v3474 := ⟨_, rfl⟩
  rw [← e3478]
  have b3479 : -9223372036854775808 ≤ v3477 ∧ v3477 ≤ 9223372036854775807 := by
    rw [e3478]
    exact wL_or _ _
  refine wl_of hX hb cL_1553 (xc_V (pc' := 1556) (r := x) (as := [vL v3477]) (st := []) (lm_11_215) rfl rfl (Nat.le_of_ble_eq_true rfl) hW gx sh_1 (by decide) rfl (by decide) (s_161 hW gx ⟨by omega, by omega⟩) (fun R3480 T3481 H3482 p3483 => ?_))
  obtain ⟨e3484, w3486, f3487, z3488, e3485, b3489⟩ := p3483
  subst e3484
  subst e3485
  show WL _ _ _ _ 1556 [(4, vI i), (3, .ref o), (2, .ref m), (1, .ref x), (0, .ref 0)] [vI z3488] _ H3482
  refine wl_of hX hb cL_1556 (rw_pop (pc' := 1557) rfl rfl ?_)
  refine wl_of hX hb cL_1557 (rw_aload_n (pc' := 1558) (v := .ref m) rfl rfl rfl ?_)
  refine wl_of hX hb cL_1558 (rw_aload_n (pc' := 1559) (v := .ref 0) rfl rfl rfl ?_)
  refine wl_of hX hb cL_1559 (rw_iload (pc' := 1561) (z := i) rfl rfl ?_)
  refine wl_of hX hb cL_1561 (rw_iconst (pc' := 1562) rfl ?_)
  refine wl_of hX hb cL_1562 (rw_iadd (pc' := 1563) rfl ?_)
  have k3492 : H3482 0 ((i + 1).toNat) = H 0 ((i + 1).toNat) := (f3487 0 ((i + 1).toNat) _ g0 (wmem_s rfl))
  refine wl_of hX hb cL_1563 (xa_I (so := 0) (pc' := 1564) (a := 0) w3486 g0 (wsh_s _) (by omega) (wty_s _ _) (by omega) (by omega) rfl (fun b3490 b3491 => ?_))
  refine wl_of hX hb cL_1564 (rw_i2l (pc' := 1565) rfl ⟨by omega, by omega⟩ ?_)
  refine wl_of hX hb cL_1565 (rw_bipush (pc' := 1567) (z := 32) rfl (by decide) ?_)
  refine wl_of hX hb cL_1567 (rw_lshl (pc' := 1568) rfl ?_)
  obtain ⟨v3493, e3494⟩ : ∃ x : Int, x = wl_shl (H3482 0 ((i + 1).toNat)) 32 := ⟨_, rfl⟩
  rw [← e3494]
  have b3495 : -9223372036854775808 ≤ v3493 ∧ v3493 ≤ 9223372036854775807 := by
    rw [e3494]
    exact wL_shl _ _
  refine wl_of hX hb cL_1568 (rw_aload_n (pc' := 1569) (v := .ref 0) rfl rfl rfl ?_)
  refine wl_of hX hb cL_1569 (rw_iload (pc' := 1571) (z := i) rfl rfl ?_)
  refine wl_of hX hb cL_1571 (rw_iconst (pc' := 1572) rfl ?_)
  refine wl_of hX hb cL_1572 (rw_iadd (pc' := 1573) rfl ?_)
  have k3498 : H3482 0 ((i + 2).toNat) = H 0 ((i + 2).toNat) := (f3487 0 ((i + 2).toNat) _ g0 (wmem_s rfl))
  refine wl_of hX hb cL_1573 (xa_I (so := 0) (pc' := 1574) (a := 0) w3486 g0 (wsh_s _) (by omega) (wty_s _ _) (by omega) (by omega) rfl (fun b3496 b3497 => ?_))
  refine wl_of hX hb cL_1574 (rw_i2l (pc' := 1575) rfl ⟨by omega, by omega⟩ ?_)
  refine wl_of hX hb cL_1575 (rw_ldc2 (pc' := 1578) (z := 4294967295) rfl rfl rfl ?_)
  refine wl_of hX hb cL_1578 (rw_land (pc' := 1579) rfl ?_)
  obtain ⟨v3499, e3500⟩ : ∃ x : Int, x = wl_and (H3482 0 ((i + 2).toNat)) 4294967295 := ⟨_, rfl⟩
  rw [← e3500]
  have b3501 : -9223372036854775808 ≤ v3499 ∧ v3499 ≤ 9223372036854775807 := by
    rw [e3500]
    exact wL_and _ _
  refine wl_of hX hb cL_1579 (rw_lor (pc' := 1580) rfl ?_)
  obtain ⟨v3502, e3503⟩ : ∃ x : Int, x = wl_or v3493 v3499 := ⟨_, rfl⟩
  rw [← e3503]
  have b3504 : -9223372036854775808 ≤ v3502 ∧ v3502 ≤ 9223372036854775807 := by
    rw [e3503]
    exact wL_or _ _
  have k3505 : wKI H3482 m = wKI H m := (wKI_fr hW gm f3487 rfl)
  have k3506 : H3482 x 9 = H x 9 := (f3487 x 9 _ gx rfl)
  have k3507 : H3482 m 6 = H m 6 := (f3487 m 6 _ gm rfl)
  have k3508 : H3482 x 11 = H x 11 := (f3487 x 11 _ gx rfl)
  have k3509 : H3482 m 13 = H m 13 := (f3487 m 13 _ gm rfl)
  have k3510 : H3482 x 8 = H x 8 := (f3487 x 8 _ gx rfl)
  have k3511 : H3482 m 3 = H m 3 := (f3487 m 3 _ gm rfl)
  refine wl_of hX hb cL_1580 (xc_V (pc' := 1583) (r := m) (as := [vL v3502]) (st := []) (lm_11_219) rfl rfl (Nat.le_of_ble_eq_true rfl) w3486 gm sh_42 (by decide) rfl (by decide) (s_292 w3486 gm ⟨by omega, by omega⟩ (by omega)) (fun R3512 T3513 H3514 p3515 => ?_))
  obtain ⟨e3516, w3518, f3519, z3521, e3517, b3522, p3520⟩ := p3515
  subst e3516
  subst e3517
  show WL _ _ _ _ 1583 [(4, vI i), (3, .ref o), (2, .ref m), (1, .ref x), (0, .ref 0)] [vI z3521] _ H3514
  refine wl_of hX hb cL_1583 (rw_pop (pc' := 1584) rfl rfl ?_)
  refine wl_of hX hb cL_1584 (rw_goto (p1 := 1653) (by decide) ?_)
  have k3523 : H3514 x 9 = H3482 x 9 := (f3519 x 9 _ gx rfl)
  have k3524 : H3514 m 6 = H3482 m 6 := (f3519 m 6 _ gm rfl)
  have k3525 : H3514 x 11 = H3482 x 11 := (f3519 x 11 _ gx rfl)
  have k3526 : H3514 m 13 = H3482 m 13 := (f3519 m 13 _ gm rfl)
  have k3527 : H3514 x 8 = H3482 x 8 := (f3519 x 8 _ gx rfl)
  have k3528 : H3514 m 3 = H3482 m 3 := (f3519 m 3 _ gm rfl)
  have h3529 : XI T H3514 x m := (XI_fr w3486 gx f3519 rfl (XI_fr hW gx f3487 rfl hXI))
  exact WL.loc hX (by simp) (next T H3514 ⟨⟨w3518, g0, gx, gm, go, by omega, by omega⟩, h3529, by omega, by omega⟩ (by omega) (by omega))
set_option maxHeartbeats 4000000 in
theorem wl_c47 {kt : Nat → Option mc_E} {CB SB : Nat} {X : mc_S → Prop} {T : wq_T} {H : wq_H} {Len x m o : Nat} {i : Int} (hX : wlX kt CB SB X) (hb : T.2.1 ≤ CB ∧ T.2.2.1 ≤ SB) (hI : wlJ Len x m o T H) (hL : Len ≤ 3072) (hi : 0 ≤ i ∧ i + 6 ≤ Len) (hb2 : T.2.1 + 20 ≤ CB ∧ T.2.2.1 + 500 ≤ SB) (hled : ∀ {z : Int}, wI z → T.2.1 ≤ CB ∧ T.2.2.1 ≤ SB → wlJ Len x m o T H → (∀ (z' : Int), wI z' → ∀ (T' : wq_T) (H' : wq_H), wlJ Len x m o T' H' → T'.2.1 ≤ T.2.1 + 20 → T'.2.2.1 ≤ T.2.2.1 + 500 → WL kt CB SB X 1598 (wlL i x m o) [vI z'] T' H') → WL kt CB SB X 1595 (wlL i x m o) [.ref o, vI z, .ref x] T H) (next : ∀ T' H', wlJ Len x m o T' H' → T'.2.1 ≤ T.2.1 + 20 → T'.2.2.1 ≤ T.2.2.1 + 500 → WL kt CB SB X 1653 (wlL i x m o) [] T' H') : WL kt CB SB X 1587 (wlL i x m o) [] T H := by
  obtain ⟨⟨hW, g0, gx, gm, go, hK, hr⟩, hXI, hY1, hY2⟩ := hI
  refine wl_of hX hb cL_1587 (rw_aload_n (pc' := 1588) (v := .ref x) rfl rfl rfl ?_)
  refine wl_of hX hb cL_1588 (rw_aload_n (pc' := 1589) (v := .ref 0) rfl rfl rfl ?_)
  refine wl_of hX hb cL_1589 (rw_iload (pc' := 1591) (z := i) rfl rfl ?_)
  refine wl_of hX hb cL_1591 (rw_iconst (pc' := 1592) rfl ?_)
  refine wl_of hX hb cL_1592 (rw_iadd (pc' := 1593) rfl ?_)
  refine wl_of hX hb cL_1593 (xa_I (so := 0) (pc' := 1594) (a := 0) hW g0 (wsh_s _) (by omega) (wty_s _ _) (by omega) (by omega) rfl (fun b3530 b3531 => ?_))
  refine wl_of hX hb cL_1594 (rw_aload_n (pc' := 1595) (v := .ref o) rfl rfl rfl ?_)
  refine hled ⟨by omega, by omega⟩ hb ⟨⟨hW, g0, gx, gm, go, by omega, by omega⟩, hXI, by omega, by omega⟩ (fun z9 b9 T9 H9 hI9 n9 s9 => ?_)
  obtain ⟨⟨w9, g0, gx, gm, go, hK, hr⟩, hXI, hY1, hY2⟩ := hI9
  have hb : T9.2.1 ≤ CB ∧ T9.2.2.1 ≤ SB := ⟨by omega, by omega⟩
  refine wl_of hX hb cL_1598 (rw_istore (pc' := 1600) (z := z9) (L' := [(5, vI z9), (4, vI i), (3, .ref o), (2, .ref m), (1, .ref x), (0, .ref 0)]) rfl rfl rfl ?_)
  refine wl_of hX hb cL_1600 (rw_aload_n (pc' := 1601) (v := .ref m) rfl rfl rfl ?_)
  refine wl_of hX hb cL_1601 (rw_aload_n (pc' := 1602) (v := .ref 0) rfl rfl rfl ?_)
  refine wl_of hX hb cL_1602 (rw_iload (pc' := 1604) (z := i) rfl rfl ?_)
  refine wl_of hX hb cL_1604 (rw_iconst (pc' := 1605) rfl ?_)
  refine wl_of hX hb cL_1605 (rw_iadd (pc' := 1606) rfl ?_)
  refine wl_of hX hb cL_1606 (xa_I (so := 0) (pc' := 1607) (a := 0) w9 g0 (wsh_s _) (by omega) (wty_s _ _) (by omega) (by omega) rfl (fun b3532 b3533 => ?_))
  refine wl_of hX hb cL_1607 (xc_V (pc' := 1610) (r := m) (as := [vI (H9 0 ((i + 1).toNat))]) (st := []) (lm_11_225) rfl rfl (Nat.le_of_ble_eq_true rfl) w9 gm sh_42 (by decide) rfl (by decide) (s_293 w9 gm ⟨by omega, by omega⟩ (by omega)) (fun R3534 T3535 H3536 p3537 => ?_))
  obtain ⟨e3538, w3540, f3541, z3543, e3539, b3544, p3542⟩ := p3537
  subst e3538
  subst e3539
  show WL _ _ _ _ 1610 [(5, vI z9), (4, vI i), (3, .ref o), (2, .ref m), (1, .ref x), (0, .ref 0)] [vI z3543] _ H3536
  refine wl_of hX hb cL_1610 (rw_istore (pc' := 1612) (z := z3543) (L' := [(6, vI z3543), (5, vI z9), (4, vI i), (3, .ref o), (2, .ref m), (1, .ref x), (0, .ref 0)]) rfl rfl rfl ?_)
  refine wl_of hX hb cL_1612 (rw_goto (p1 := 1653) (by decide) ?_)
  have k3545 : H3536 x 9 = H9 x 9 := (f3541 x 9 _ gx rfl)
  have k3546 : H3536 m 6 = H9 m 6 := (f3541 m 6 _ gm rfl)
  have k3547 : H3536 x 11 = H9 x 11 := (f3541 x 11 _ gx rfl)
  have k3548 : H3536 m 13 = H9 m 13 := (f3541 m 13 _ gm rfl)
  have k3549 : H3536 x 8 = H9 x 8 := (f3541 x 8 _ gx rfl)
  have k3550 : H3536 m 3 = H9 m 3 := (f3541 m 3 _ gm rfl)
  have h3551 : XI T9 H3536 x m := (XI_fr w9 gx f3541 rfl hXI)
  exact WL.loc hX (by simp) (next T9 H3536 ⟨⟨w3540, g0, gx, gm, go, by omega, by omega⟩, h3551, by omega, by omega⟩ (by omega) (by omega))
set_option maxHeartbeats 4000000 in
theorem wl_c48 {kt : Nat → Option mc_E} {CB SB : Nat} {X : mc_S → Prop} {T : wq_T} {H : wq_H} {Len x m o : Nat} {i : Int} (hX : wlX kt CB SB X) (hb : T.2.1 ≤ CB ∧ T.2.2.1 ≤ SB) (hI : wlJ Len x m o T H) (hL : Len ≤ 3072) (hi : 0 ≤ i ∧ i + 6 ≤ Len) (hb2 : T.2.1 + 20 ≤ CB ∧ T.2.2.1 + 500 ≤ SB)  (next : ∀ T' H', wlJ Len x m o T' H' → T'.2.1 ≤ T.2.1 + 20 → T'.2.2.1 ≤ T.2.2.1 + 500 → WL kt CB SB X 1653 (wlL i x m o) [] T' H') : WL kt CB SB X 1615 (wlL i x m o) [] T H := by
  obtain ⟨⟨hW, g0, gx, gm, go, hK, hr⟩, hXI, hY1, hY2⟩ := hI
  refine wl_of hX hb cL_1615 (rw_aload_n (pc' := 1616) (v := .ref x) rfl rfl rfl ?_)
  refine wl_of hX hb cL_1616 (rw_aload_n (pc' := 1617) (v := .ref 0) rfl rfl rfl ?_)
  refine wl_of hX hb cL_1617 (rw_iload (pc' := 1619) (z := i) rfl rfl ?_)
  refine wl_of hX hb cL_1619 (rw_iconst (pc' := 1620) rfl ?_)
  refine wl_of hX hb cL_1620 (rw_iadd (pc' := 1621) rfl ?_)
  refine wl_of hX hb cL_1621 (xa_I (so := 0) (pc' := 1622) (a := 0) hW g0 (wsh_s _) (by omega) (wty_s _ _) (by omega) (by omega) rfl (fun b3552 b3553 => ?_))
  refine wl_of hX hb cL_1622 (xc_V (pc' := 1625) (r := x) (as := [vI (H 0 ((i + 1).toNat))]) (st := []) (lm_11_226) rfl rfl (Nat.le_of_ble_eq_true rfl) hW gx sh_1 (by decide) rfl (by decide) (s_164 hW gx ⟨by omega, by omega⟩) (fun R3554 T3555 H3556 p3557 => ?_))
  obtain ⟨e3558, e3560, z3561, e3559, b3562⟩ := p3557
  subst e3558
  subst e3559
  subst e3560
  show WL _ _ _ _ 1625 [(4, vI i), (3, .ref o), (2, .ref m), (1, .ref x), (0, .ref 0)] [vI z3561] _ H
  refine wl_of hX hb cL_1625 (rw_pop (pc' := 1626) rfl rfl ?_)
  refine wl_of hX hb cL_1626 (rw_aload_n (pc' := 1627) (v := .ref m) rfl rfl rfl ?_)
  refine wl_of hX hb cL_1627 (rw_aload_n (pc' := 1628) (v := .ref 0) rfl rfl rfl ?_)
  refine wl_of hX hb cL_1628 (rw_iload (pc' := 1630) (z := i) rfl rfl ?_)
  refine wl_of hX hb cL_1630 (rw_iconst (pc' := 1631) rfl ?_)
  refine wl_of hX hb cL_1631 (rw_iadd (pc' := 1632) rfl ?_)
  refine wl_of hX hb cL_1632 (xa_I (so := 0) (pc' := 1633) (a := 0) hW g0 (wsh_s _) (by omega) (wty_s _ _) (by omega) (by omega) rfl (fun b3563 b3564 => ?_))
  refine wl_of hX hb cL_1633 (xc_V (pc' := 1636) (r := m) (as := [vI (H 0 ((i + 1).toNat))]) (st := []) (lm_11_229) rfl rfl (Nat.le_of_ble_eq_true rfl) hW gm sh_42 (by decide) rfl (by decide) (s_294 hW gm ⟨by omega, by omega⟩ (by omega)) (fun R3565 T3566 H3567 p3568 => ?_))
  obtain ⟨e3569, w3571, f3572, z3574, e3570, b3575, p3573⟩ := p3568
  subst e3569
  subst e3570
  show WL _ _ _ _ 1636 [(4, vI i), (3, .ref o), (2, .ref m), (1, .ref x), (0, .ref 0)] [vI z3574] _ H3567
  refine wl_of hX hb cL_1636 (rw_pop (pc' := 1637) rfl rfl ?_)
  refine wl_of hX hb cL_1637 (rw_goto (p1 := 1653) (by decide) ?_)
  have k3576 : H3567 x 9 = H x 9 := (f3572 x 9 _ gx rfl)
  have k3577 : H3567 m 6 = H m 6 := (f3572 m 6 _ gm rfl)
  have k3578 : H3567 x 11 = H x 11 := (f3572 x 11 _ gx rfl)
  have k3579 : H3567 m 13 = H m 13 := (f3572 m 13 _ gm rfl)
  have k3580 : H3567 x 8 = H x 8 := (f3572 x 8 _ gx rfl)
  have k3581 : H3567 m 3 = H m 3 := (f3572 m 3 _ gm rfl)
  have h3582 : XI T H3567 x m := (XI_fr hW gx f3572 rfl hXI)
  exact WL.loc hX (by simp) (next T H3567 ⟨⟨w3571, g0, gx, gm, go, by omega, by omega⟩, h3582, by omega, by omega⟩ (by omega) (by omega))
set_option maxHeartbeats 4000000 in
theorem wl_c49 {kt : Nat → Option mc_E} {CB SB : Nat} {X : mc_S → Prop} {T : wq_T} {H : wq_H} {Len x m o : Nat} {i : Int} (hX : wlX kt CB SB X) (hb : T.2.1 ≤ CB ∧ T.2.2.1 ≤ SB) (hI : wlJ Len x m o T H) (hL : Len ≤ 3072) (hi : 0 ≤ i ∧ i + 6 ≤ Len) (hb2 : T.2.1 + 20 ≤ CB ∧ T.2.2.1 + 500 ≤ SB)  (next : ∀ T' H', wlJ Len x m o T' H' → T'.2.1 ≤ T.2.1 + 20 → T'.2.2.1 ≤ T.2.2.1 + 500 → WL kt CB SB X 1653 (wlL i x m o) [] T' H') : WL kt CB SB X 1640 (wlL i x m o) [] T H := by
  obtain ⟨⟨hW, g0, gx, gm, go, hK, hr⟩, hXI, hY1, hY2⟩ := hI
  refine wl_of hX hb cL_1640 (rw_aload_n (pc' := 1641) (v := .ref x) rfl rfl rfl ?_)
  refine wl_of hX hb cL_1641 (xc_V (pc' := 1644) (r := x) (as := []) (st := []) (lm_11_230) rfl rfl (Nat.le_of_ble_eq_true rfl) hW gx sh_1 (by decide) rfl (by decide) (s_165 hW gx) (fun R3583 T3584 H3585 p3586 => ?_))
  obtain ⟨e3587, e3589, z3590, e3588, b3591⟩ := p3586
  subst e3587
  subst e3588
  subst e3589
  show WL _ _ _ _ 1644 [(4, vI i), (3, .ref o), (2, .ref m), (1, .ref x), (0, .ref 0)] [vI z3590] _ H
  refine wl_of hX hb cL_1644 (rw_pop (pc' := 1645) rfl rfl ?_)
  refine wl_of hX hb cL_1645 (rw_aload_n (pc' := 1646) (v := .ref m) rfl rfl rfl ?_)
  refine wl_of hX hb cL_1646 (xc_V (pc' := 1649) (r := m) (as := []) (st := []) (lm_11_233) rfl rfl (Nat.le_of_ble_eq_true rfl) hW gm sh_42 (by decide) rfl (by decide) (s_295 hW gm (by omega)) (fun R3592 T3593 H3594 p3595 => ?_))
  obtain ⟨e3596, w3598, f3599, z3601, e3597, b3602, p3600⟩ := p3595
  subst e3596
  subst e3597
  show WL _ _ _ _ 1649 [(4, vI i), (3, .ref o), (2, .ref m), (1, .ref x), (0, .ref 0)] [vI z3601] _ H3594
  refine wl_of hX hb cL_1649 (rw_pop (pc' := 1650) rfl rfl ?_)
  refine wl_of hX hb cL_1650 (rw_goto (p1 := 1653) (by decide) ?_)
  have k3603 : H3594 x 9 = H x 9 := (f3599 x 9 _ gx rfl)
  have k3604 : H3594 m 6 = H m 6 := (f3599 m 6 _ gm rfl)
  have k3605 : H3594 x 11 = H x 11 := (f3599 x 11 _ gx rfl)
  have k3606 : H3594 m 13 = H m 13 := (f3599 m 13 _ gm rfl)
  have k3607 : H3594 x 8 = H x 8 := (f3599 x 8 _ gx rfl)
  have k3608 : H3594 m 3 = H m 3 := (f3599 m 3 _ gm rfl)
  have h3609 : XI T H3594 x m := (XI_fr hW gx f3599 rfl hXI)
  exact WL.loc hX (by simp) (next T H3594 ⟨⟨w3598, g0, gx, gm, go, by omega, by omega⟩, h3609, by omega, by omega⟩ (by omega) (by omega))
set_option maxHeartbeats 4000000 in
theorem wl_head {kt : Nat → Option mc_E} {CB SB : Nat} {X : mc_S → Prop} {T : wq_T} {H : wq_H} {Len x m o : Nat} {i : Int} (hX : wlX kt CB SB X) (hb : T.2.1 ≤ CB ∧ T.2.2.1 ≤ SB) (hI : wlJ Len x m o T H) (hL : Len ≤ 3072) (hi : 0 ≤ i ∧ i ≤ Len) (cases : ∀ t, t ∈ [256, 329, 354, 367, 380, 405, 454, 503, 516, 553, 578, 603, 616, 629, 642, 655, 668, 705, 718, 755, 792, 829, 882, 919, 944, 957, 994, 1019, 1056, 1109, 1162, 1175, 1200, 1225, 1250, 1263, 1316, 1329, 1342, 1367, 1404, 1429, 1454, 1467, 1504, 1517, 1530, 1587, 1615, 1640] → i + 6 ≤ Len → WL kt CB SB X t (wlL i x m o) [] T H) (next : i + 6 ≤ Len → WL kt CB SB X 1653 (wlL i x m o) [] T H) : WL kt CB SB X 23 (wlL i x m o) [] T H := by
  obtain ⟨⟨hW, g0, gx, gm, go, hK, hr⟩, hXI, hY1, hY2⟩ := hI
  refine wl_of hX hb cL_23 (rw_iload (pc' := 25) (z := i) rfl rfl ?_)
  refine wl_of hX hb cL_25 (rw_aload_n (pc' := 26) (v := .ref 0) rfl rfl rfl ?_)
  refine wl_of hX hb cL_26 (xa_N (pc' := 27) (a := 0) (n := Len) hW g0 (wsh_s _) (by decide) rfl ?_)
  refine wl_of hX hb cL_27 (rw_bipush (pc' := 29) (z := 6) rfl (by decide) ?_)
  refine wl_of hX hb cL_29 (rw_isub (pc' := 30) rfl ?_)
  refine wl_of hX hb cL_30 (rw_icmp_gt (p1 := 1659) (p2 := 33) (by decide) rfl ⟨by omega, by omega⟩ ⟨by omega, by omega⟩ (fun c3610 => ?_) (fun c3610 => ?_))
  · refine wl_of hX hb cL_1659 (rw_iconst (pc' := 1660) rfl ?_)
    exact WL.fin hX hb
  · refine wl_of hX hb cL_33 (rw_aload_n (pc' := 34) (v := .ref 0) rfl rfl rfl ?_)
    refine wl_of hX hb cL_34 (rw_iload (pc' := 36) (z := i) rfl rfl ?_)
    refine wl_of hX hb cL_36 (xa_I (so := 0) (pc' := 37) (a := 0) hW g0 (wsh_s _) (by omega) (wty_s _ _) (by omega) (by omega) rfl (fun b3611 b3612 => ?_))
    refine wl_of hX hb cL_37 (rw_bipush (pc' := 39) (z := 63) rfl (by decide) ?_)
    refine wl_of hX hb cL_39 (rw_iand (pc' := 40) rfl ?_)
    obtain ⟨v3613, e3614⟩ : ∃ x : Int, x = wq_and (H 0 (i.toNat)) 63 := ⟨_, rfl⟩
    rw [← e3614]
    have b3615 : 0 ≤ v3613 ∧ v3613 ≤ 63 := by
      rw [e3614]
      exact wq_and_b _ (by omega) (by omega)
    have c3616 : v3613 = 0 ∨ v3613 = 1 ∨ v3613 = 2 ∨ v3613 = 3 ∨ v3613 = 4 ∨ v3613 = 5 ∨ v3613 = 6 ∨ v3613 = 7 ∨ v3613 = 8 ∨ v3613 = 9 ∨ v3613 = 10 ∨ v3613 = 11 ∨ v3613 = 12 ∨ v3613 = 13 ∨ v3613 = 14 ∨ v3613 = 15 ∨ v3613 = 16 ∨ v3613 = 17 ∨ v3613 = 18 ∨ v3613 = 19 ∨ v3613 = 20 ∨ v3613 = 21 ∨ v3613 = 22 ∨ v3613 = 23 ∨ v3613 = 24 ∨ v3613 = 25 ∨ v3613 = 26 ∨ v3613 = 27 ∨ v3613 = 28 ∨ v3613 = 29 ∨ v3613 = 30 ∨ v3613 = 31 ∨ v3613 = 32 ∨ v3613 = 33 ∨ v3613 = 34 ∨ v3613 = 35 ∨ v3613 = 36 ∨ v3613 = 37 ∨ v3613 = 38 ∨ v3613 = 39 ∨ v3613 = 40 ∨ v3613 = 41 ∨ v3613 = 42 ∨ v3613 = 43 ∨ v3613 = 44 ∨ v3613 = 45 ∨ v3613 = 46 ∨ v3613 = 47 ∨ v3613 = 48 ∨ v3613 = 49 ∨ (v3613 < 0 ∨ 49 < v3613) := by omega
    rcases c3616 with c3616 | c3616 | c3616 | c3616 | c3616 | c3616 | c3616 | c3616 | c3616 | c3616 | c3616 | c3616 | c3616 | c3616 | c3616 | c3616 | c3616 | c3616 | c3616 | c3616 | c3616 | c3616 | c3616 | c3616 | c3616 | c3616 | c3616 | c3616 | c3616 | c3616 | c3616 | c3616 | c3616 | c3616 | c3616 | c3616 | c3616 | c3616 | c3616 | c3616 | c3616 | c3616 | c3616 | c3616 | c3616 | c3616 | c3616 | c3616 | c3616 | c3616 | c3616
    · refine wl_of hX hb cL_40 (rw_tsw (p1 := 256) ⟨by omega, by omega⟩ (by rw [c3616]; decide) ?_)
      exact cases 256 (by decide) (by omega)
    · refine wl_of hX hb cL_40 (rw_tsw (p1 := 329) ⟨by omega, by omega⟩ (by rw [c3616]; decide) ?_)
      exact cases 329 (by decide) (by omega)
    · refine wl_of hX hb cL_40 (rw_tsw (p1 := 354) ⟨by omega, by omega⟩ (by rw [c3616]; decide) ?_)
      exact cases 354 (by decide) (by omega)
    · refine wl_of hX hb cL_40 (rw_tsw (p1 := 367) ⟨by omega, by omega⟩ (by rw [c3616]; decide) ?_)
      exact cases 367 (by decide) (by omega)
    · refine wl_of hX hb cL_40 (rw_tsw (p1 := 380) ⟨by omega, by omega⟩ (by rw [c3616]; decide) ?_)
      exact cases 380 (by decide) (by omega)
    · refine wl_of hX hb cL_40 (rw_tsw (p1 := 405) ⟨by omega, by omega⟩ (by rw [c3616]; decide) ?_)
      exact cases 405 (by decide) (by omega)
    · refine wl_of hX hb cL_40 (rw_tsw (p1 := 454) ⟨by omega, by omega⟩ (by rw [c3616]; decide) ?_)
      exact cases 454 (by decide) (by omega)
    · refine wl_of hX hb cL_40 (rw_tsw (p1 := 503) ⟨by omega, by omega⟩ (by rw [c3616]; decide) ?_)
      exact cases 503 (by decide) (by omega)
    · refine wl_of hX hb cL_40 (rw_tsw (p1 := 516) ⟨by omega, by omega⟩ (by rw [c3616]; decide) ?_)
      exact cases 516 (by decide) (by omega)
    · refine wl_of hX hb cL_40 (rw_tsw (p1 := 553) ⟨by omega, by omega⟩ (by rw [c3616]; decide) ?_)
      exact cases 553 (by decide) (by omega)
    · refine wl_of hX hb cL_40 (rw_tsw (p1 := 578) ⟨by omega, by omega⟩ (by rw [c3616]; decide) ?_)
      exact cases 578 (by decide) (by omega)
    · refine wl_of hX hb cL_40 (rw_tsw (p1 := 603) ⟨by omega, by omega⟩ (by rw [c3616]; decide) ?_)
      exact cases 603 (by decide) (by omega)
    · refine wl_of hX hb cL_40 (rw_tsw (p1 := 616) ⟨by omega, by omega⟩ (by rw [c3616]; decide) ?_)
      exact cases 616 (by decide) (by omega)
    · refine wl_of hX hb cL_40 (rw_tsw (p1 := 629) ⟨by omega, by omega⟩ (by rw [c3616]; decide) ?_)
      exact cases 629 (by decide) (by omega)
    · refine wl_of hX hb cL_40 (rw_tsw (p1 := 642) ⟨by omega, by omega⟩ (by rw [c3616]; decide) ?_)
      exact cases 642 (by decide) (by omega)
    · refine wl_of hX hb cL_40 (rw_tsw (p1 := 655) ⟨by omega, by omega⟩ (by rw [c3616]; decide) ?_)
      exact cases 655 (by decide) (by omega)
    · refine wl_of hX hb cL_40 (rw_tsw (p1 := 668) ⟨by omega, by omega⟩ (by rw [c3616]; decide) ?_)
      exact cases 668 (by decide) (by omega)
    · refine wl_of hX hb cL_40 (rw_tsw (p1 := 705) ⟨by omega, by omega⟩ (by rw [c3616]; decide) ?_)
      exact cases 705 (by decide) (by omega)
    · refine wl_of hX hb cL_40 (rw_tsw (p1 := 718) ⟨by omega, by omega⟩ (by rw [c3616]; decide) ?_)
      exact cases 718 (by decide) (by omega)
    · refine wl_of hX hb cL_40 (rw_tsw (p1 := 755) ⟨by omega, by omega⟩ (by rw [c3616]; decide) ?_)
      exact cases 755 (by decide) (by omega)
    · refine wl_of hX hb cL_40 (rw_tsw (p1 := 792) ⟨by omega, by omega⟩ (by rw [c3616]; decide) ?_)
      exact cases 792 (by decide) (by omega)
    · refine wl_of hX hb cL_40 (rw_tsw (p1 := 829) ⟨by omega, by omega⟩ (by rw [c3616]; decide) ?_)
      exact cases 829 (by decide) (by omega)
    · refine wl_of hX hb cL_40 (rw_tsw (p1 := 882) ⟨by omega, by omega⟩ (by rw [c3616]; decide) ?_)
      exact cases 882 (by decide) (by omega)
    · refine wl_of hX hb cL_40 (rw_tsw (p1 := 919) ⟨by omega, by omega⟩ (by rw [c3616]; decide) ?_)
      exact cases 919 (by decide) (by omega)
    · refine wl_of hX hb cL_40 (rw_tsw (p1 := 944) ⟨by omega, by omega⟩ (by rw [c3616]; decide) ?_)
      exact cases 944 (by decide) (by omega)
    · refine wl_of hX hb cL_40 (rw_tsw (p1 := 957) ⟨by omega, by omega⟩ (by rw [c3616]; decide) ?_)
      exact cases 957 (by decide) (by omega)
    · refine wl_of hX hb cL_40 (rw_tsw (p1 := 994) ⟨by omega, by omega⟩ (by rw [c3616]; decide) ?_)
      exact cases 994 (by decide) (by omega)
    · refine wl_of hX hb cL_40 (rw_tsw (p1 := 1019) ⟨by omega, by omega⟩ (by rw [c3616]; decide) ?_)
      exact cases 1019 (by decide) (by omega)
    · refine wl_of hX hb cL_40 (rw_tsw (p1 := 1056) ⟨by omega, by omega⟩ (by rw [c3616]; decide) ?_)
      exact cases 1056 (by decide) (by omega)
    · refine wl_of hX hb cL_40 (rw_tsw (p1 := 1109) ⟨by omega, by omega⟩ (by rw [c3616]; decide) ?_)
      exact cases 1109 (by decide) (by omega)
    · refine wl_of hX hb cL_40 (rw_tsw (p1 := 1162) ⟨by omega, by omega⟩ (by rw [c3616]; decide) ?_)
      exact cases 1162 (by decide) (by omega)
    · refine wl_of hX hb cL_40 (rw_tsw (p1 := 1175) ⟨by omega, by omega⟩ (by rw [c3616]; decide) ?_)
      exact cases 1175 (by decide) (by omega)
    · refine wl_of hX hb cL_40 (rw_tsw (p1 := 1200) ⟨by omega, by omega⟩ (by rw [c3616]; decide) ?_)
      exact cases 1200 (by decide) (by omega)
    · refine wl_of hX hb cL_40 (rw_tsw (p1 := 1225) ⟨by omega, by omega⟩ (by rw [c3616]; decide) ?_)
      exact cases 1225 (by decide) (by omega)
    · refine wl_of hX hb cL_40 (rw_tsw (p1 := 1250) ⟨by omega, by omega⟩ (by rw [c3616]; decide) ?_)
      exact cases 1250 (by decide) (by omega)
    · refine wl_of hX hb cL_40 (rw_tsw (p1 := 1263) ⟨by omega, by omega⟩ (by rw [c3616]; decide) ?_)
      exact cases 1263 (by decide) (by omega)
    · refine wl_of hX hb cL_40 (rw_tsw (p1 := 1316) ⟨by omega, by omega⟩ (by rw [c3616]; decide) ?_)
      exact cases 1316 (by decide) (by omega)
    · refine wl_of hX hb cL_40 (rw_tsw (p1 := 1329) ⟨by omega, by omega⟩ (by rw [c3616]; decide) ?_)
      exact cases 1329 (by decide) (by omega)
    · refine wl_of hX hb cL_40 (rw_tsw (p1 := 1342) ⟨by omega, by omega⟩ (by rw [c3616]; decide) ?_)
      exact cases 1342 (by decide) (by omega)
    · refine wl_of hX hb cL_40 (rw_tsw (p1 := 1367) ⟨by omega, by omega⟩ (by rw [c3616]; decide) ?_)
      exact cases 1367 (by decide) (by omega)
    · refine wl_of hX hb cL_40 (rw_tsw (p1 := 1404) ⟨by omega, by omega⟩ (by rw [c3616]; decide) ?_)
      exact cases 1404 (by decide) (by omega)
    · refine wl_of hX hb cL_40 (rw_tsw (p1 := 1429) ⟨by omega, by omega⟩ (by rw [c3616]; decide) ?_)
      exact cases 1429 (by decide) (by omega)
    · refine wl_of hX hb cL_40 (rw_tsw (p1 := 1454) ⟨by omega, by omega⟩ (by rw [c3616]; decide) ?_)
      exact cases 1454 (by decide) (by omega)
    · refine wl_of hX hb cL_40 (rw_tsw (p1 := 1467) ⟨by omega, by omega⟩ (by rw [c3616]; decide) ?_)
      exact cases 1467 (by decide) (by omega)
    · refine wl_of hX hb cL_40 (rw_tsw (p1 := 1504) ⟨by omega, by omega⟩ (by rw [c3616]; decide) ?_)
      exact cases 1504 (by decide) (by omega)
    · refine wl_of hX hb cL_40 (rw_tsw (p1 := 1517) ⟨by omega, by omega⟩ (by rw [c3616]; decide) ?_)
      exact cases 1517 (by decide) (by omega)
    · refine wl_of hX hb cL_40 (rw_tsw (p1 := 1530) ⟨by omega, by omega⟩ (by rw [c3616]; decide) ?_)
      exact cases 1530 (by decide) (by omega)
    · refine wl_of hX hb cL_40 (rw_tsw (p1 := 1587) ⟨by omega, by omega⟩ (by rw [c3616]; decide) ?_)
      exact cases 1587 (by decide) (by omega)
    · refine wl_of hX hb cL_40 (rw_tsw (p1 := 1615) ⟨by omega, by omega⟩ (by rw [c3616]; decide) ?_)
      exact cases 1615 (by decide) (by omega)
    · refine wl_of hX hb cL_40 (rw_tsw (p1 := 1640) ⟨by omega, by omega⟩ (by rw [c3616]; decide) ?_)
      exact cases 1640 (by decide) (by omega)
    · refine wl_of hX hb cL_40 (rw_tsw (p1 := 1653) ⟨by omega, by omega⟩ (by rw [if_pos c3616]; decide) ?_)
      exact next (by omega)
theorem wl_back {kt : Nat → Option mc_E} {CB SB : Nat} {X : mc_S → Prop} {T : wq_T} {H : wq_H} {Len x m o : Nat} {i : Int} (hX : wlX kt CB SB X) (hb : T.2.1 ≤ CB ∧ T.2.2.1 ≤ SB) (hI : wlJ Len x m o T H) (hL : Len ≤ 3072) (hi : 0 ≤ i ∧ i + 6 ≤ Len) (next : WL kt CB SB X 23 (wlL (i + 6) x m o) [] T H) : WL kt CB SB X 1653 (wlL i x m o) [] T H := by
  obtain ⟨⟨hW, g0, gx, gm, go, hK, hr⟩, hXI, hY1, hY2⟩ := hI
  refine wl_of hX hb cL_1653 (rw_iinc (pc' := 1656) (z := i) (L' := [(4, vI (i + 6)), (3, .ref o), (2, .ref m), (1, .ref x), (0, .ref 0)]) rfl rfl rfl rfl ?_)
  refine wl_of hX hb cL_1656 (rw_goto (p1 := 23) (by decide) ?_)
  exact next
/-- the call that may throw, as the loop wants it -/
def wlLed (kt : Nat → Option mc_E) (CB SB : Nat) (X : mc_S → Prop) (Len x m o : Nat) : Prop := ∀ (T : wq_T) (H : wq_H) (i z : Int), T.2.1 + 20 ≤ CB ∧ T.2.2.1 + 500 ≤ SB → wI z → wlJ Len x m o T H → (∀ (z' : Int), wI z' → ∀ (T' : wq_T) (H' : wq_H), wlJ Len x m o T' H' → T'.2.1 ≤ T.2.1 + 20 → T'.2.2.1 ≤ T.2.2.1 + 500 → WL kt CB SB X 1598 (wlL i x m o) [vI z'] T' H') → WL kt CB SB X 1595 (wlL i x m o) [.ref o, vI z, .ref x] T H
set_option maxRecDepth 40000 in
theorem wl_loopL {kt : Nat → Option mc_E} {CB SB : Nat} {X : mc_S → Prop} {Len x m o : Nat} (hX : wlX kt CB SB X) (hL : Len ≤ 3072) (hled : wlLed kt CB SB X Len x m o) : ∀ (n : Nat) (T : wq_T) (H : wq_H) (i : Int), 0 ≤ i ∧ i ≤ Len → (Len - i).toNat = n → T.2.1 + 4 * (n + 6) ≤ CB → T.2.2.1 + 100 * (n + 6) ≤ SB → wlJ Len x m o T H → WL kt CB SB X 23 (wlL i x m o) [] T H := by
  intro n
  induction n using Nat.strongRecOn with
  | _ n ih =>
    intro T H i hi hn hc hs hI
    have hb : T.2.1 ≤ CB ∧ T.2.2.1 ≤ SB := ⟨by omega, by omega⟩
    have hb2 : T.2.1 + 20 ≤ CB ∧ T.2.2.1 + 500 ≤ SB := ⟨by omega, by omega⟩
    refine wl_head hX hb hI hL hi (fun t ht h6 => ?_) (fun h6 => wl_back hX hb hI hL ⟨hi.1, h6⟩ (ih (Len - (i + 6)).toNat (by omega) T H (i + 6) ⟨by omega, by omega⟩ rfl (by omega) (by omega) hI))
    have next : ∀ T' H', wlJ Len x m o T' H' → T'.2.1 ≤ T.2.1 + 20 → T'.2.2.1 ≤ T.2.2.1 + 500 → WL kt CB SB X 1653 (wlL i x m o) [] T' H' := fun T' H' hI' h1 h2 => wl_back hX ⟨by omega, by omega⟩ hI' hL ⟨hi.1, h6⟩ (ih (Len - (i + 6)).toNat (by omega) T' H' (i + 6) ⟨by omega, by omega⟩ rfl (by omega) (by omega) hI')
    rcases List.mem_cons.mp ht with rfl | ht
    · exact wl_c0 hX hb hI hL ⟨hi.1, h6⟩ hb2 next
    rcases List.mem_cons.mp ht with rfl | ht
    · exact wl_c1 hX hb hI hL ⟨hi.1, h6⟩ hb2 next
    rcases List.mem_cons.mp ht with rfl | ht
    · exact wl_c2 hX hb hI hL ⟨hi.1, h6⟩ hb2 next
    rcases List.mem_cons.mp ht with rfl | ht
    · exact wl_c3 hX hb hI hL ⟨hi.1, h6⟩ hb2 next
    rcases List.mem_cons.mp ht with rfl | ht
    · exact wl_c4 hX hb hI hL ⟨hi.1, h6⟩ hb2 next
    rcases List.mem_cons.mp ht with rfl | ht
    · exact wl_c5 hX hb hI hL ⟨hi.1, h6⟩ hb2 next
    rcases List.mem_cons.mp ht with rfl | ht
    · exact wl_c6 hX hb hI hL ⟨hi.1, h6⟩ hb2 next
    rcases List.mem_cons.mp ht with rfl | ht
    · exact wl_c7 hX hb hI hL ⟨hi.1, h6⟩ hb2 next
    rcases List.mem_cons.mp ht with rfl | ht
    · exact wl_c8 hX hb hI hL ⟨hi.1, h6⟩ hb2 next
    rcases List.mem_cons.mp ht with rfl | ht
    · exact wl_c9 hX hb hI hL ⟨hi.1, h6⟩ hb2 next
    rcases List.mem_cons.mp ht with rfl | ht
    · exact wl_c10 hX hb hI hL ⟨hi.1, h6⟩ hb2 next
    rcases List.mem_cons.mp ht with rfl | ht
    · exact wl_c11 hX hb hI hL ⟨hi.1, h6⟩ hb2 next
    rcases List.mem_cons.mp ht with rfl | ht
    · exact wl_c12 hX hb hI hL ⟨hi.1, h6⟩ hb2 next
    rcases List.mem_cons.mp ht with rfl | ht
    · exact wl_c13 hX hb hI hL ⟨hi.1, h6⟩ hb2 next
    rcases List.mem_cons.mp ht with rfl | ht
    · exact wl_c14 hX hb hI hL ⟨hi.1, h6⟩ hb2 next
    rcases List.mem_cons.mp ht with rfl | ht
    · exact wl_c15 hX hb hI hL ⟨hi.1, h6⟩ hb2 next
    rcases List.mem_cons.mp ht with rfl | ht
    · exact wl_c16 hX hb hI hL ⟨hi.1, h6⟩ hb2 next
    rcases List.mem_cons.mp ht with rfl | ht
    · exact wl_c17 hX hb hI hL ⟨hi.1, h6⟩ hb2 next
    rcases List.mem_cons.mp ht with rfl | ht
    · exact wl_c18 hX hb hI hL ⟨hi.1, h6⟩ hb2 next
    rcases List.mem_cons.mp ht with rfl | ht
    · exact wl_c19 hX hb hI hL ⟨hi.1, h6⟩ hb2 next
    rcases List.mem_cons.mp ht with rfl | ht
    · exact wl_c20 hX hb hI hL ⟨hi.1, h6⟩ hb2 next
    rcases List.mem_cons.mp ht with rfl | ht
    · exact wl_c21 hX hb hI hL ⟨hi.1, h6⟩ hb2 next
    rcases List.mem_cons.mp ht with rfl | ht
    · exact wl_c22 hX hb hI hL ⟨hi.1, h6⟩ hb2 next
    rcases List.mem_cons.mp ht with rfl | ht
    · exact wl_c23 hX hb hI hL ⟨hi.1, h6⟩ hb2 next
    rcases List.mem_cons.mp ht with rfl | ht
    · exact wl_c24 hX hb hI hL ⟨hi.1, h6⟩ hb2 next
    rcases List.mem_cons.mp ht with rfl | ht
    · exact wl_c25 hX hb hI hL ⟨hi.1, h6⟩ hb2 next
    rcases List.mem_cons.mp ht with rfl | ht
    · exact wl_c26 hX hb hI hL ⟨hi.1, h6⟩ hb2 next
    rcases List.mem_cons.mp ht with rfl | ht
    · exact wl_c27 hX hb hI hL ⟨hi.1, h6⟩ hb2 next
    rcases List.mem_cons.mp ht with rfl | ht
    · exact wl_c28 hX hb hI hL ⟨hi.1, h6⟩ hb2 next
    rcases List.mem_cons.mp ht with rfl | ht
    · exact wl_c29 hX hb hI hL ⟨hi.1, h6⟩ hb2 next
    rcases List.mem_cons.mp ht with rfl | ht
    · exact wl_c30 hX hb hI hL ⟨hi.1, h6⟩ hb2 next
    rcases List.mem_cons.mp ht with rfl | ht
    · exact wl_c31 hX hb hI hL ⟨hi.1, h6⟩ hb2 next
    rcases List.mem_cons.mp ht with rfl | ht
    · exact wl_c32 hX hb hI hL ⟨hi.1, h6⟩ hb2 next
    rcases List.mem_cons.mp ht with rfl | ht
    · exact wl_c33 hX hb hI hL ⟨hi.1, h6⟩ hb2 next
    rcases List.mem_cons.mp ht with rfl | ht
    · exact wl_c34 hX hb hI hL ⟨hi.1, h6⟩ hb2 next
    rcases List.mem_cons.mp ht with rfl | ht
    · exact wl_c35 hX hb hI hL ⟨hi.1, h6⟩ hb2 next
    rcases List.mem_cons.mp ht with rfl | ht
    · exact wl_c36 hX hb hI hL ⟨hi.1, h6⟩ hb2 next
    rcases List.mem_cons.mp ht with rfl | ht
    · exact wl_c37 hX hb hI hL ⟨hi.1, h6⟩ hb2 next
    rcases List.mem_cons.mp ht with rfl | ht
    · exact wl_c38 hX hb hI hL ⟨hi.1, h6⟩ hb2 next
    rcases List.mem_cons.mp ht with rfl | ht
    · exact wl_c39 hX hb hI hL ⟨hi.1, h6⟩ hb2 next
    rcases List.mem_cons.mp ht with rfl | ht
    · exact wl_c40 hX hb hI hL ⟨hi.1, h6⟩ hb2 next
    rcases List.mem_cons.mp ht with rfl | ht
    · exact wl_c41 hX hb hI hL ⟨hi.1, h6⟩ hb2 next
    rcases List.mem_cons.mp ht with rfl | ht
    · exact wl_c42 hX hb hI hL ⟨hi.1, h6⟩ hb2 next
    rcases List.mem_cons.mp ht with rfl | ht
    · exact wl_c43 hX hb hI hL ⟨hi.1, h6⟩ hb2 next
    rcases List.mem_cons.mp ht with rfl | ht
    · exact wl_c44 hX hb hI hL ⟨hi.1, h6⟩ hb2 next
    rcases List.mem_cons.mp ht with rfl | ht
    · exact wl_c45 hX hb hI hL ⟨hi.1, h6⟩ hb2 next
    rcases List.mem_cons.mp ht with rfl | ht
    · exact wl_c46 hX hb hI hL ⟨hi.1, h6⟩ hb2 next
    rcases List.mem_cons.mp ht with rfl | ht
    · exact wl_c47 hX hb hI hL ⟨hi.1, h6⟩ hb2 (fun hz _ hI2 k => hled T H i _ hb2 hz hI2 k) next
    rcases List.mem_cons.mp ht with rfl | ht
    · exact wl_c48 hX hb hI hL ⟨hi.1, h6⟩ hb2 next
    rcases List.mem_cons.mp ht with rfl | ht
    · exact wl_c49 hX hb hI hL ⟨hi.1, h6⟩ hb2 next
    cases ht
