/-! THE LAW'S LOOP OVER PURE MEMORY (own work): X is any property of states that one instruction carries backwards; WL: from this place on it is good -/
def wlX (kt : Nat → Option mc_E) (CB SB : Nat) (X : mc_S → Prop) : Prop :=
  (∀ (F : Nat) (x : Instr) (n : Nat) (S0 S : mc_S), mc_lawcd S0.1 = some (x, n) → mc_step kt (mc_call kt F 11) 11 7 false (some .boolean) x n S0 = some (.inl S) → S.2.2.2.length ≤ CB ∧ mc_sz S.2.2.2 ≤ SB → X S → X S0) ∧
  (∀ (pc : Nat) (L L' : List (Nat × Value)) (st : List Value) (M : mc_M), (∀ q ∈ L, q ∈ L') → X (pc, L, st, M) → X (pc, L', st, M)) ∧
  ∀ (L : List (Nat × Value)) (M : mc_M), M.length ≤ CB → mc_sz M ≤ SB → X (1688, L, [.int 1], M)
theorem wmem_s {l : List (Nat × Nat)} {n j : Nat} (h : l.all (fun q => decide (q.1 < 1000)) = true) : wmem l (1000 + n) j = false := wmem_no (fun q hq hh => by
  have h1 := of_decide_eq_true (List.all_eq_true.mp h q hq)
  have h2 := hh.1
  omega)
def WL (kt : Nat → Option mc_E) (CB SB : Nat) (X : mc_S → Prop) (pc : Nat) (L : List (Nat × Value)) (st : List Value) (T : wq_T) (H : wq_H) : Prop := (T.2.1 ≤ CB ∧ T.2.2.1 ≤ SB) ∧ ∀ M, wq_R kt M T H → X (pc, L, st, M)
theorem wl_of {kt : Nat → Option mc_E} {CB SB : Nat} {X : mc_S → Prop} (hX : wlX kt CB SB X) {pc : Nat} {L : List (Nat × Value)} {st : List Value} {T : wq_T} {H : wq_H} (hb : T.2.1 ≤ CB ∧ T.2.2.1 ≤ SB) {x : Instr} {n : Nat} (hd : mc_lawcd pc = some (x, n)) (h : wq_s kt 11 (11, 7, false, some .boolean) x n pc L st T H (WL kt CB SB X)) : WL kt CB SB X pc L st T H := ⟨hb, fun M hM => by
  obtain ⟨F, pc', L', st', M', T', H', h1, h2, h3⟩ := h M hM
  have hl := h2.1
  have hz := h2.2.1
  have hb' := h3.1
  exact hX.1 F x n (pc, L, st, M) (pc', L', st', M') hd h1 ⟨by show M'.length ≤ CB; omega, by show mc_sz M' ≤ SB; omega⟩ (h3.2 M' h2)⟩
theorem WL.loc {kt : Nat → Option mc_E} {CB SB : Nat} {X : mc_S → Prop} (hX : wlX kt CB SB X) {pc : Nat} {L L' : List (Nat × Value)} {st : List Value} {T : wq_T} {H : wq_H} (hq : ∀ q ∈ L, q ∈ L') (h : WL kt CB SB X pc L st T H) : WL kt CB SB X pc L' st T H := ⟨h.1, fun M hM => hX.2.1 pc L L' st M hq (h.2 M hM)⟩
theorem WL.fin {kt : Nat → Option mc_E} {CB SB : Nat} {X : mc_S → Prop} (hX : wlX kt CB SB X) {L : List (Nat × Value)} {T : wq_T} {H : wq_H} (hb : T.2.1 ≤ CB ∧ T.2.2.1 ≤ SB) : WL kt CB SB X 1688 L [vI 1] T H := ⟨hb, fun M hM => hX.2.2 L M (by have := hM.1; omega) (by have := hM.2.1; omega)⟩
/-- what holds at the head of the law's loop -/
def wlI (Len x m o : Nat) (T : wq_T) (H : wq_H) : Prop := WT T H ∧ T.2.2.2 0 = some (1000 + Len) ∧ T.2.2.2 x = some 1 ∧ T.2.2.2 m = some 42 ∧ T.2.2.2 o = some 73 ∧ wKI H m = 1 ∧ H x 9 = H m 6
abbrev wlL (i : Int) (x m o : Nat) : List (Nat × Value) := [(4, vI i), (3, .ref o), (2, .ref m), (1, .ref x), (0, .ref 0)]
/-- and what the two have in common: THE TAPE; two PARISHES with six persons each; the FAULT's number; whether there is a PARISH -/
def wlJ (Len x m o : Nat) (T : wq_T) (H : wq_H) : Prop := wlI Len x m o T H ∧ XI T H x m ∧ H x 11 = H m 13 ∧ ((H x 8 = 0 ∧ H m 3 = -1) ∨ (H x 8 = 1 ∧ H m 3 ≠ -1))

theorem cL_23 : mc_lawcd 23 = some (.iload 4, 2) := by decide +kernel
theorem cL_25 : mc_lawcd 25 = some (.aload_n 0, 1) := by decide +kernel
theorem cL_26 : mc_lawcd 26 = some (.arraylength, 1) := by decide +kernel
theorem cL_27 : mc_lawcd 27 = some (.bipush 6, 2) := by decide +kernel
theorem cL_29 : mc_lawcd 29 = some (.isub, 1) := by decide +kernel
theorem cL_30 : mc_lawcd 30 = some (.if_icmp .gt 1657, 3) := by decide +kernel
theorem cL_33 : mc_lawcd 33 = some (.aload_n 0, 1) := by decide +kernel
theorem cL_34 : mc_lawcd 34 = some (.iload 4, 2) := by decide +kernel
theorem cL_36 : mc_lawcd 36 = some (.iaload, 1) := by decide +kernel
theorem cL_37 : mc_lawcd 37 = some (.bipush 63, 2) := by decide +kernel
theorem cL_39 : mc_lawcd 39 = some (.iand, 1) := by decide +kernel
theorem cL_40 : mc_lawcd 40 = some (.tableswitch 1641 0 49 #[216, 289, 314, 327, 340, 365, 414, 463, 476, 513, 538, 563, 576, 589, 602, 615, 628, 665, 678, 715, 752, 789, 842, 879, 904, 917, 954, 979, 1016, 1069, 1122, 1135, 1160, 1185, 1210, 1223, 1276, 1289, 1302, 1327, 1364, 1389, 1414, 1427, 1464, 1477, 1490, 1547, 1603, 1628], 216) := by decide +kernel
theorem cL_256 : mc_lawcd 256 = some (.aload_n 1, 1) := by decide +kernel
theorem cL_257 : mc_lawcd 257 = some (.aload_n 0, 1) := by decide +kernel
theorem cL_258 : mc_lawcd 258 = some (.iload 4, 2) := by decide +kernel
theorem cL_260 : mc_lawcd 260 = some (.iconst 1, 1) := by decide +kernel
theorem cL_261 : mc_lawcd 261 = some (.iadd, 1) := by decide +kernel
theorem cL_262 : mc_lawcd 262 = some (.iaload, 1) := by decide +kernel
theorem cL_263 : mc_lawcd 263 = some (.aload_n 0, 1) := by decide +kernel
theorem cL_264 : mc_lawcd 264 = some (.iload 4, 2) := by decide +kernel
theorem cL_266 : mc_lawcd 266 = some (.iconst 2, 1) := by decide +kernel
theorem cL_267 : mc_lawcd 267 = some (.iadd, 1) := by decide +kernel
theorem cL_268 : mc_lawcd 268 = some (.iaload, 1) := by decide +kernel
theorem cL_269 : mc_lawcd 269 = some (.aload_n 0, 1) := by decide +kernel
theorem cL_270 : mc_lawcd 270 = some (.iload 4, 2) := by decide +kernel
theorem cL_272 : mc_lawcd 272 = some (.iconst 3, 1) := by decide +kernel
theorem cL_273 : mc_lawcd 273 = some (.iadd, 1) := by decide +kernel
theorem cL_274 : mc_lawcd 274 = some (.iaload, 1) := by decide +kernel
theorem cL_275 : mc_lawcd 275 = some (.aload_n 0, 1) := by decide +kernel
theorem cL_276 : mc_lawcd 276 = some (.iload 4, 2) := by decide +kernel
theorem cL_278 : mc_lawcd 278 = some (.iconst 4, 1) := by decide +kernel
theorem cL_279 : mc_lawcd 279 = some (.iadd, 1) := by decide +kernel
theorem cL_280 : mc_lawcd 280 = some (.iaload, 1) := by decide +kernel
theorem cL_281 : mc_lawcd 281 = some (.aload_n 0, 1) := by decide +kernel
theorem cL_282 : mc_lawcd 282 = some (.iload 4, 2) := by decide +kernel
theorem cL_284 : mc_lawcd 284 = some (.iconst 5, 1) := by decide +kernel
theorem cL_285 : mc_lawcd 285 = some (.iadd, 1) := by decide +kernel
theorem cL_286 : mc_lawcd 286 = some (.iaload, 1) := by decide +kernel
theorem cL_287 : mc_lawcd 287 = some (.invokevirtual 19, 3) := by decide +kernel
theorem cL_290 : mc_lawcd 290 = some (.pop, 1) := by decide +kernel
theorem cL_291 : mc_lawcd 291 = some (.aload_n 2, 1) := by decide +kernel
theorem cL_292 : mc_lawcd 292 = some (.aload_n 0, 1) := by decide +kernel
theorem cL_293 : mc_lawcd 293 = some (.iload 4, 2) := by decide +kernel
theorem cL_295 : mc_lawcd 295 = some (.iconst 1, 1) := by decide +kernel
theorem cL_296 : mc_lawcd 296 = some (.iadd, 1) := by decide +kernel
theorem cL_297 : mc_lawcd 297 = some (.iaload, 1) := by decide +kernel
theorem cL_298 : mc_lawcd 298 = some (.aload_n 0, 1) := by decide +kernel
theorem cL_299 : mc_lawcd 299 = some (.iload 4, 2) := by decide +kernel
theorem cL_301 : mc_lawcd 301 = some (.iconst 2, 1) := by decide +kernel
theorem cL_302 : mc_lawcd 302 = some (.iadd, 1) := by decide +kernel
theorem cL_303 : mc_lawcd 303 = some (.iaload, 1) := by decide +kernel
theorem cL_304 : mc_lawcd 304 = some (.aload_n 0, 1) := by decide +kernel
theorem cL_305 : mc_lawcd 305 = some (.iload 4, 2) := by decide +kernel
theorem cL_307 : mc_lawcd 307 = some (.iconst 3, 1) := by decide +kernel
theorem cL_308 : mc_lawcd 308 = some (.iadd, 1) := by decide +kernel
theorem cL_309 : mc_lawcd 309 = some (.iaload, 1) := by decide +kernel
theorem cL_310 : mc_lawcd 310 = some (.aload_n 0, 1) := by decide +kernel
theorem cL_311 : mc_lawcd 311 = some (.iload 4, 2) := by decide +kernel
theorem cL_313 : mc_lawcd 313 = some (.iconst 4, 1) := by decide +kernel
theorem cL_314 : mc_lawcd 314 = some (.iadd, 1) := by decide +kernel
theorem cL_315 : mc_lawcd 315 = some (.iaload, 1) := by decide +kernel
theorem cL_316 : mc_lawcd 316 = some (.aload_n 0, 1) := by decide +kernel
theorem cL_317 : mc_lawcd 317 = some (.iload 4, 2) := by decide +kernel
theorem cL_319 : mc_lawcd 319 = some (.iconst 5, 1) := by decide +kernel
theorem cL_320 : mc_lawcd 320 = some (.iadd, 1) := by decide +kernel
theorem cL_321 : mc_lawcd 321 = some (.iaload, 1) := by decide +kernel
theorem cL_322 : mc_lawcd 322 = some (.invokevirtual 23, 3) := by decide +kernel
theorem cL_325 : mc_lawcd 325 = some (.pop, 1) := by decide +kernel
theorem cL_326 : mc_lawcd 326 = some (.goto 1355, 3) := by decide +kernel
theorem cL_329 : mc_lawcd 329 = some (.aload_n 1, 1) := by decide +kernel
theorem cL_330 : mc_lawcd 330 = some (.aload_n 0, 1) := by decide +kernel
theorem cL_331 : mc_lawcd 331 = some (.iload 4, 2) := by decide +kernel
theorem cL_333 : mc_lawcd 333 = some (.iconst 1, 1) := by decide +kernel
theorem cL_334 : mc_lawcd 334 = some (.iadd, 1) := by decide +kernel
theorem cL_335 : mc_lawcd 335 = some (.iaload, 1) := by decide +kernel
theorem cL_336 : mc_lawcd 336 = some (.invokevirtual 24, 3) := by decide +kernel
theorem cL_339 : mc_lawcd 339 = some (.pop, 1) := by decide +kernel
theorem cL_340 : mc_lawcd 340 = some (.aload_n 2, 1) := by decide +kernel
theorem cL_341 : mc_lawcd 341 = some (.aload_n 0, 1) := by decide +kernel
theorem cL_342 : mc_lawcd 342 = some (.iload 4, 2) := by decide +kernel
theorem cL_344 : mc_lawcd 344 = some (.iconst 1, 1) := by decide +kernel
theorem cL_345 : mc_lawcd 345 = some (.iadd, 1) := by decide +kernel
theorem cL_346 : mc_lawcd 346 = some (.iaload, 1) := by decide +kernel
theorem cL_347 : mc_lawcd 347 = some (.invokevirtual 27, 3) := by decide +kernel
theorem cL_350 : mc_lawcd 350 = some (.pop, 1) := by decide +kernel
theorem cL_351 : mc_lawcd 351 = some (.goto 1330, 3) := by decide +kernel
theorem cL_354 : mc_lawcd 354 = some (.aload_n 1, 1) := by decide +kernel
theorem cL_355 : mc_lawcd 355 = some (.invokevirtual 28, 3) := by decide +kernel
theorem cL_358 : mc_lawcd 358 = some (.pop, 1) := by decide +kernel
theorem cL_359 : mc_lawcd 359 = some (.aload_n 2, 1) := by decide +kernel
theorem cL_360 : mc_lawcd 360 = some (.invokevirtual 32, 3) := by decide +kernel
theorem cL_363 : mc_lawcd 363 = some (.pop, 1) := by decide +kernel
theorem cL_364 : mc_lawcd 364 = some (.goto 1317, 3) := by decide +kernel
theorem cL_367 : mc_lawcd 367 = some (.aload_n 1, 1) := by decide +kernel
theorem cL_368 : mc_lawcd 368 = some (.invokevirtual 33, 3) := by decide +kernel
theorem cL_371 : mc_lawcd 371 = some (.pop, 1) := by decide +kernel
theorem cL_372 : mc_lawcd 372 = some (.aload_n 2, 1) := by decide +kernel
theorem cL_373 : mc_lawcd 373 = some (.invokevirtual 36, 3) := by decide +kernel
theorem cL_376 : mc_lawcd 376 = some (.pop, 1) := by decide +kernel
theorem cL_377 : mc_lawcd 377 = some (.goto 1304, 3) := by decide +kernel
theorem cL_380 : mc_lawcd 380 = some (.aload_n 1, 1) := by decide +kernel
theorem cL_381 : mc_lawcd 381 = some (.aload_n 0, 1) := by decide +kernel
theorem cL_382 : mc_lawcd 382 = some (.iload 4, 2) := by decide +kernel
theorem cL_384 : mc_lawcd 384 = some (.iconst 1, 1) := by decide +kernel
theorem cL_385 : mc_lawcd 385 = some (.iadd, 1) := by decide +kernel
theorem cL_386 : mc_lawcd 386 = some (.iaload, 1) := by decide +kernel
theorem cL_387 : mc_lawcd 387 = some (.invokevirtual 37, 3) := by decide +kernel
theorem cL_390 : mc_lawcd 390 = some (.pop, 1) := by decide +kernel
theorem cL_391 : mc_lawcd 391 = some (.aload_n 2, 1) := by decide +kernel
theorem cL_392 : mc_lawcd 392 = some (.aload_n 0, 1) := by decide +kernel
theorem cL_393 : mc_lawcd 393 = some (.iload 4, 2) := by decide +kernel
theorem cL_395 : mc_lawcd 395 = some (.iconst 1, 1) := by decide +kernel
theorem cL_396 : mc_lawcd 396 = some (.iadd, 1) := by decide +kernel
theorem cL_397 : mc_lawcd 397 = some (.iaload, 1) := by decide +kernel
theorem cL_398 : mc_lawcd 398 = some (.invokevirtual 40, 3) := by decide +kernel
theorem cL_401 : mc_lawcd 401 = some (.pop, 1) := by decide +kernel
theorem cL_402 : mc_lawcd 402 = some (.goto 1279, 3) := by decide +kernel
theorem cL_405 : mc_lawcd 405 = some (.aload_n 1, 1) := by decide +kernel
theorem cL_406 : mc_lawcd 406 = some (.aload_n 0, 1) := by decide +kernel
theorem cL_407 : mc_lawcd 407 = some (.iload 4, 2) := by decide +kernel
theorem cL_409 : mc_lawcd 409 = some (.iconst 1, 1) := by decide +kernel
theorem cL_410 : mc_lawcd 410 = some (.iadd, 1) := by decide +kernel
theorem cL_411 : mc_lawcd 411 = some (.iaload, 1) := by decide +kernel
theorem cL_412 : mc_lawcd 412 = some (.aload_n 0, 1) := by decide +kernel
theorem cL_413 : mc_lawcd 413 = some (.iload 4, 2) := by decide +kernel
theorem cL_415 : mc_lawcd 415 = some (.iconst 2, 1) := by decide +kernel
theorem cL_416 : mc_lawcd 416 = some (.iadd, 1) := by decide +kernel
theorem cL_417 : mc_lawcd 417 = some (.iaload, 1) := by decide +kernel
theorem cL_418 : mc_lawcd 418 = some (.aload_n 0, 1) := by decide +kernel
theorem cL_419 : mc_lawcd 419 = some (.iload 4, 2) := by decide +kernel
theorem cL_421 : mc_lawcd 421 = some (.iconst 3, 1) := by decide +kernel
theorem cL_422 : mc_lawcd 422 = some (.iadd, 1) := by decide +kernel
theorem cL_423 : mc_lawcd 423 = some (.iaload, 1) := by decide +kernel
theorem cL_424 : mc_lawcd 424 = some (.invokevirtual 41, 3) := by decide +kernel
theorem cL_427 : mc_lawcd 427 = some (.pop, 1) := by decide +kernel
theorem cL_428 : mc_lawcd 428 = some (.aload_n 2, 1) := by decide +kernel
theorem cL_429 : mc_lawcd 429 = some (.aload_n 0, 1) := by decide +kernel
theorem cL_430 : mc_lawcd 430 = some (.iload 4, 2) := by decide +kernel
theorem cL_432 : mc_lawcd 432 = some (.iconst 1, 1) := by decide +kernel
theorem cL_433 : mc_lawcd 433 = some (.iadd, 1) := by decide +kernel
theorem cL_434 : mc_lawcd 434 = some (.iaload, 1) := by decide +kernel
theorem cL_435 : mc_lawcd 435 = some (.aload_n 0, 1) := by decide +kernel
theorem cL_436 : mc_lawcd 436 = some (.iload 4, 2) := by decide +kernel
theorem cL_438 : mc_lawcd 438 = some (.iconst 2, 1) := by decide +kernel
theorem cL_439 : mc_lawcd 439 = some (.iadd, 1) := by decide +kernel
theorem cL_440 : mc_lawcd 440 = some (.iaload, 1) := by decide +kernel
theorem cL_441 : mc_lawcd 441 = some (.aload_n 0, 1) := by decide +kernel
theorem cL_442 : mc_lawcd 442 = some (.iload 4, 2) := by decide +kernel
theorem cL_444 : mc_lawcd 444 = some (.iconst 3, 1) := by decide +kernel
theorem cL_445 : mc_lawcd 445 = some (.iadd, 1) := by decide +kernel
theorem cL_446 : mc_lawcd 446 = some (.iaload, 1) := by decide +kernel
theorem cL_447 : mc_lawcd 447 = some (.invokevirtual 45, 3) := by decide +kernel
theorem cL_450 : mc_lawcd 450 = some (.pop, 1) := by decide +kernel
theorem cL_451 : mc_lawcd 451 = some (.goto 1230, 3) := by decide +kernel
theorem cL_454 : mc_lawcd 454 = some (.aload_n 1, 1) := by decide +kernel
theorem cL_455 : mc_lawcd 455 = some (.aload_n 0, 1) := by decide +kernel
theorem cL_456 : mc_lawcd 456 = some (.iload 4, 2) := by decide +kernel
theorem cL_458 : mc_lawcd 458 = some (.iconst 1, 1) := by decide +kernel
theorem cL_459 : mc_lawcd 459 = some (.iadd, 1) := by decide +kernel
theorem cL_460 : mc_lawcd 460 = some (.iaload, 1) := by decide +kernel
theorem cL_461 : mc_lawcd 461 = some (.aload_n 0, 1) := by decide +kernel
theorem cL_462 : mc_lawcd 462 = some (.iload 4, 2) := by decide +kernel
theorem cL_464 : mc_lawcd 464 = some (.iconst 2, 1) := by decide +kernel
theorem cL_465 : mc_lawcd 465 = some (.iadd, 1) := by decide +kernel
theorem cL_466 : mc_lawcd 466 = some (.iaload, 1) := by decide +kernel
theorem cL_467 : mc_lawcd 467 = some (.aload_n 0, 1) := by decide +kernel
theorem cL_468 : mc_lawcd 468 = some (.iload 4, 2) := by decide +kernel
theorem cL_470 : mc_lawcd 470 = some (.iconst 3, 1) := by decide +kernel
theorem cL_471 : mc_lawcd 471 = some (.iadd, 1) := by decide +kernel
theorem cL_472 : mc_lawcd 472 = some (.iaload, 1) := by decide +kernel
theorem cL_473 : mc_lawcd 473 = some (.invokevirtual 46, 3) := by decide +kernel
theorem cL_476 : mc_lawcd 476 = some (.pop, 1) := by decide +kernel
theorem cL_477 : mc_lawcd 477 = some (.aload_n 2, 1) := by decide +kernel
theorem cL_478 : mc_lawcd 478 = some (.aload_n 0, 1) := by decide +kernel
theorem cL_479 : mc_lawcd 479 = some (.iload 4, 2) := by decide +kernel
theorem cL_481 : mc_lawcd 481 = some (.iconst 1, 1) := by decide +kernel
theorem cL_482 : mc_lawcd 482 = some (.iadd, 1) := by decide +kernel
theorem cL_483 : mc_lawcd 483 = some (.iaload, 1) := by decide +kernel
theorem cL_484 : mc_lawcd 484 = some (.aload_n 0, 1) := by decide +kernel
theorem cL_485 : mc_lawcd 485 = some (.iload 4, 2) := by decide +kernel
theorem cL_487 : mc_lawcd 487 = some (.iconst 2, 1) := by decide +kernel
theorem cL_488 : mc_lawcd 488 = some (.iadd, 1) := by decide +kernel
theorem cL_489 : mc_lawcd 489 = some (.iaload, 1) := by decide +kernel
theorem cL_490 : mc_lawcd 490 = some (.aload_n 0, 1) := by decide +kernel
theorem cL_491 : mc_lawcd 491 = some (.iload 4, 2) := by decide +kernel
theorem cL_493 : mc_lawcd 493 = some (.iconst 3, 1) := by decide +kernel
theorem cL_494 : mc_lawcd 494 = some (.iadd, 1) := by decide +kernel
theorem cL_495 : mc_lawcd 495 = some (.iaload, 1) := by decide +kernel
theorem cL_496 : mc_lawcd 496 = some (.invokevirtual 49, 3) := by decide +kernel
theorem cL_499 : mc_lawcd 499 = some (.pop, 1) := by decide +kernel
theorem cL_500 : mc_lawcd 500 = some (.goto 1181, 3) := by decide +kernel
theorem cL_503 : mc_lawcd 503 = some (.aload_n 1, 1) := by decide +kernel
theorem cL_504 : mc_lawcd 504 = some (.invokevirtual 50, 3) := by decide +kernel
theorem cL_507 : mc_lawcd 507 = some (.pop2, 1) := by decide +kernel
theorem cL_508 : mc_lawcd 508 = some (.aload_n 2, 1) := by decide +kernel
theorem cL_509 : mc_lawcd 509 = some (.invokevirtual 54, 3) := by decide +kernel
theorem cL_512 : mc_lawcd 512 = some (.pop2, 1) := by decide +kernel
theorem cL_513 : mc_lawcd 513 = some (.goto 1168, 3) := by decide +kernel
theorem cL_516 : mc_lawcd 516 = some (.aload_n 1, 1) := by decide +kernel
theorem cL_517 : mc_lawcd 517 = some (.aload_n 0, 1) := by decide +kernel
theorem cL_518 : mc_lawcd 518 = some (.iload 4, 2) := by decide +kernel
theorem cL_520 : mc_lawcd 520 = some (.iconst 1, 1) := by decide +kernel
theorem cL_521 : mc_lawcd 521 = some (.iadd, 1) := by decide +kernel
theorem cL_522 : mc_lawcd 522 = some (.iaload, 1) := by decide +kernel
theorem cL_523 : mc_lawcd 523 = some (.aload_n 0, 1) := by decide +kernel
theorem cL_524 : mc_lawcd 524 = some (.iload 4, 2) := by decide +kernel
theorem cL_526 : mc_lawcd 526 = some (.iconst 2, 1) := by decide +kernel
theorem cL_527 : mc_lawcd 527 = some (.iadd, 1) := by decide +kernel
theorem cL_528 : mc_lawcd 528 = some (.iaload, 1) := by decide +kernel
theorem cL_529 : mc_lawcd 529 = some (.invokevirtual 55, 3) := by decide +kernel
theorem cL_532 : mc_lawcd 532 = some (.pop, 1) := by decide +kernel
theorem cL_533 : mc_lawcd 533 = some (.aload_n 2, 1) := by decide +kernel
theorem cL_534 : mc_lawcd 534 = some (.aload_n 0, 1) := by decide +kernel
theorem cL_535 : mc_lawcd 535 = some (.iload 4, 2) := by decide +kernel
theorem cL_537 : mc_lawcd 537 = some (.iconst 1, 1) := by decide +kernel
theorem cL_538 : mc_lawcd 538 = some (.iadd, 1) := by decide +kernel
theorem cL_539 : mc_lawcd 539 = some (.iaload, 1) := by decide +kernel
theorem cL_540 : mc_lawcd 540 = some (.aload_n 0, 1) := by decide +kernel
theorem cL_541 : mc_lawcd 541 = some (.iload 4, 2) := by decide +kernel
theorem cL_543 : mc_lawcd 543 = some (.iconst 2, 1) := by decide +kernel
theorem cL_544 : mc_lawcd 544 = some (.iadd, 1) := by decide +kernel
theorem cL_545 : mc_lawcd 545 = some (.iaload, 1) := by decide +kernel
theorem cL_546 : mc_lawcd 546 = some (.invokevirtual 59, 3) := by decide +kernel
theorem cL_549 : mc_lawcd 549 = some (.pop, 1) := by decide +kernel
theorem cL_550 : mc_lawcd 550 = some (.goto 1131, 3) := by decide +kernel
theorem cL_553 : mc_lawcd 553 = some (.aload_n 1, 1) := by decide +kernel
theorem cL_554 : mc_lawcd 554 = some (.aload_n 0, 1) := by decide +kernel
theorem cL_555 : mc_lawcd 555 = some (.iload 4, 2) := by decide +kernel
theorem cL_557 : mc_lawcd 557 = some (.iconst 1, 1) := by decide +kernel
theorem cL_558 : mc_lawcd 558 = some (.iadd, 1) := by decide +kernel
theorem cL_559 : mc_lawcd 559 = some (.iaload, 1) := by decide +kernel
theorem cL_560 : mc_lawcd 560 = some (.invokevirtual 60, 3) := by decide +kernel
theorem cL_563 : mc_lawcd 563 = some (.pop, 1) := by decide +kernel
theorem cL_564 : mc_lawcd 564 = some (.aload_n 2, 1) := by decide +kernel
theorem cL_565 : mc_lawcd 565 = some (.aload_n 0, 1) := by decide +kernel
theorem cL_566 : mc_lawcd 566 = some (.iload 4, 2) := by decide +kernel
theorem cL_568 : mc_lawcd 568 = some (.iconst 1, 1) := by decide +kernel
theorem cL_569 : mc_lawcd 569 = some (.iadd, 1) := by decide +kernel
theorem cL_570 : mc_lawcd 570 = some (.iaload, 1) := by decide +kernel
theorem cL_571 : mc_lawcd 571 = some (.invokevirtual 63, 3) := by decide +kernel
theorem cL_574 : mc_lawcd 574 = some (.pop, 1) := by decide +kernel
theorem cL_575 : mc_lawcd 575 = some (.goto 1106, 3) := by decide +kernel
theorem cL_578 : mc_lawcd 578 = some (.aload_n 1, 1) := by decide +kernel
theorem cL_579 : mc_lawcd 579 = some (.aload_n 0, 1) := by decide +kernel
theorem cL_580 : mc_lawcd 580 = some (.iload 4, 2) := by decide +kernel
theorem cL_582 : mc_lawcd 582 = some (.iconst 1, 1) := by decide +kernel
theorem cL_583 : mc_lawcd 583 = some (.iadd, 1) := by decide +kernel
theorem cL_584 : mc_lawcd 584 = some (.iaload, 1) := by decide +kernel
theorem cL_585 : mc_lawcd 585 = some (.invokevirtual 64, 3) := by decide +kernel
theorem cL_588 : mc_lawcd 588 = some (.pop, 1) := by decide +kernel
theorem cL_589 : mc_lawcd 589 = some (.aload_n 2, 1) := by decide +kernel
theorem cL_590 : mc_lawcd 590 = some (.aload_n 0, 1) := by decide +kernel
theorem cL_591 : mc_lawcd 591 = some (.iload 4, 2) := by decide +kernel
theorem cL_593 : mc_lawcd 593 = some (.iconst 1, 1) := by decide +kernel
theorem cL_594 : mc_lawcd 594 = some (.iadd, 1) := by decide +kernel
theorem cL_595 : mc_lawcd 595 = some (.iaload, 1) := by decide +kernel
theorem cL_596 : mc_lawcd 596 = some (.invokevirtual 67, 3) := by decide +kernel
theorem cL_599 : mc_lawcd 599 = some (.pop, 1) := by decide +kernel
theorem cL_600 : mc_lawcd 600 = some (.goto 1081, 3) := by decide +kernel
theorem cL_603 : mc_lawcd 603 = some (.aload_n 1, 1) := by decide +kernel
theorem cL_604 : mc_lawcd 604 = some (.invokevirtual 68, 3) := by decide +kernel
theorem cL_607 : mc_lawcd 607 = some (.pop, 1) := by decide +kernel
theorem cL_608 : mc_lawcd 608 = some (.aload_n 2, 1) := by decide +kernel
theorem cL_609 : mc_lawcd 609 = some (.invokevirtual 71, 3) := by decide +kernel
theorem cL_612 : mc_lawcd 612 = some (.pop, 1) := by decide +kernel
theorem cL_613 : mc_lawcd 613 = some (.goto 1068, 3) := by decide +kernel
theorem cL_616 : mc_lawcd 616 = some (.aload_n 1, 1) := by decide +kernel
theorem cL_617 : mc_lawcd 617 = some (.invokevirtual 72, 3) := by decide +kernel
theorem cL_620 : mc_lawcd 620 = some (.pop, 1) := by decide +kernel
theorem cL_621 : mc_lawcd 621 = some (.aload_n 2, 1) := by decide +kernel
theorem cL_622 : mc_lawcd 622 = some (.invokevirtual 75, 3) := by decide +kernel
theorem cL_625 : mc_lawcd 625 = some (.pop, 1) := by decide +kernel
theorem cL_626 : mc_lawcd 626 = some (.goto 1055, 3) := by decide +kernel
theorem cL_629 : mc_lawcd 629 = some (.aload_n 1, 1) := by decide +kernel
theorem cL_630 : mc_lawcd 630 = some (.invokevirtual 76, 3) := by decide +kernel
theorem cL_633 : mc_lawcd 633 = some (.pop, 1) := by decide +kernel
theorem cL_634 : mc_lawcd 634 = some (.aload_n 2, 1) := by decide +kernel
theorem cL_635 : mc_lawcd 635 = some (.invokevirtual 79, 3) := by decide +kernel
theorem cL_638 : mc_lawcd 638 = some (.pop, 1) := by decide +kernel
theorem cL_639 : mc_lawcd 639 = some (.goto 1042, 3) := by decide +kernel
theorem cL_642 : mc_lawcd 642 = some (.aload_n 1, 1) := by decide +kernel
theorem cL_643 : mc_lawcd 643 = some (.invokevirtual 80, 3) := by decide +kernel
theorem cL_646 : mc_lawcd 646 = some (.pop, 1) := by decide +kernel
theorem cL_647 : mc_lawcd 647 = some (.aload_n 2, 1) := by decide +kernel
theorem cL_648 : mc_lawcd 648 = some (.invokevirtual 83, 3) := by decide +kernel
theorem cL_651 : mc_lawcd 651 = some (.pop, 1) := by decide +kernel
theorem cL_652 : mc_lawcd 652 = some (.goto 1029, 3) := by decide +kernel
theorem cL_655 : mc_lawcd 655 = some (.aload_n 1, 1) := by decide +kernel
theorem cL_656 : mc_lawcd 656 = some (.invokevirtual 84, 3) := by decide +kernel
theorem cL_659 : mc_lawcd 659 = some (.pop, 1) := by decide +kernel
theorem cL_660 : mc_lawcd 660 = some (.aload_n 2, 1) := by decide +kernel
theorem cL_661 : mc_lawcd 661 = some (.invokevirtual 87, 3) := by decide +kernel
theorem cL_664 : mc_lawcd 664 = some (.pop, 1) := by decide +kernel
theorem cL_665 : mc_lawcd 665 = some (.goto 1016, 3) := by decide +kernel
theorem cL_668 : mc_lawcd 668 = some (.aload_n 1, 1) := by decide +kernel
theorem cL_669 : mc_lawcd 669 = some (.aload_n 0, 1) := by decide +kernel
theorem cL_670 : mc_lawcd 670 = some (.iload 4, 2) := by decide +kernel
theorem cL_672 : mc_lawcd 672 = some (.iconst 1, 1) := by decide +kernel
theorem cL_673 : mc_lawcd 673 = some (.iadd, 1) := by decide +kernel
theorem cL_674 : mc_lawcd 674 = some (.iaload, 1) := by decide +kernel
theorem cL_675 : mc_lawcd 675 = some (.aload_n 0, 1) := by decide +kernel
theorem cL_676 : mc_lawcd 676 = some (.iload 4, 2) := by decide +kernel
theorem cL_678 : mc_lawcd 678 = some (.iconst 2, 1) := by decide +kernel
theorem cL_679 : mc_lawcd 679 = some (.iadd, 1) := by decide +kernel
theorem cL_680 : mc_lawcd 680 = some (.iaload, 1) := by decide +kernel
theorem cL_681 : mc_lawcd 681 = some (.invokevirtual 88, 3) := by decide +kernel
theorem cL_684 : mc_lawcd 684 = some (.pop, 1) := by decide +kernel
theorem cL_685 : mc_lawcd 685 = some (.aload_n 2, 1) := by decide +kernel
theorem cL_686 : mc_lawcd 686 = some (.aload_n 0, 1) := by decide +kernel
theorem cL_687 : mc_lawcd 687 = some (.iload 4, 2) := by decide +kernel
theorem cL_689 : mc_lawcd 689 = some (.iconst 1, 1) := by decide +kernel
theorem cL_690 : mc_lawcd 690 = some (.iadd, 1) := by decide +kernel
theorem cL_691 : mc_lawcd 691 = some (.iaload, 1) := by decide +kernel
theorem cL_692 : mc_lawcd 692 = some (.aload_n 0, 1) := by decide +kernel
theorem cL_693 : mc_lawcd 693 = some (.iload 4, 2) := by decide +kernel
theorem cL_695 : mc_lawcd 695 = some (.iconst 2, 1) := by decide +kernel
theorem cL_696 : mc_lawcd 696 = some (.iadd, 1) := by decide +kernel
theorem cL_697 : mc_lawcd 697 = some (.iaload, 1) := by decide +kernel
theorem cL_698 : mc_lawcd 698 = some (.invokevirtual 92, 3) := by decide +kernel
theorem cL_701 : mc_lawcd 701 = some (.pop, 1) := by decide +kernel
theorem cL_702 : mc_lawcd 702 = some (.goto 979, 3) := by decide +kernel
theorem cL_705 : mc_lawcd 705 = some (.aload_n 1, 1) := by decide +kernel
theorem cL_706 : mc_lawcd 706 = some (.invokevirtual 93, 3) := by decide +kernel
theorem cL_709 : mc_lawcd 709 = some (.pop2, 1) := by decide +kernel
theorem cL_710 : mc_lawcd 710 = some (.aload_n 2, 1) := by decide +kernel
theorem cL_711 : mc_lawcd 711 = some (.invokevirtual 96, 3) := by decide +kernel
theorem cL_714 : mc_lawcd 714 = some (.pop2, 1) := by decide +kernel
theorem cL_715 : mc_lawcd 715 = some (.goto 966, 3) := by decide +kernel
theorem cL_718 : mc_lawcd 718 = some (.aload_n 1, 1) := by decide +kernel
theorem cL_719 : mc_lawcd 719 = some (.aload_n 0, 1) := by decide +kernel
theorem cL_720 : mc_lawcd 720 = some (.iload 4, 2) := by decide +kernel
theorem cL_722 : mc_lawcd 722 = some (.iconst 1, 1) := by decide +kernel
theorem cL_723 : mc_lawcd 723 = some (.iadd, 1) := by decide +kernel
theorem cL_724 : mc_lawcd 724 = some (.iaload, 1) := by decide +kernel
theorem cL_725 : mc_lawcd 725 = some (.aload_n 0, 1) := by decide +kernel
theorem cL_726 : mc_lawcd 726 = some (.iload 4, 2) := by decide +kernel
theorem cL_728 : mc_lawcd 728 = some (.iconst 2, 1) := by decide +kernel
theorem cL_729 : mc_lawcd 729 = some (.iadd, 1) := by decide +kernel
theorem cL_730 : mc_lawcd 730 = some (.iaload, 1) := by decide +kernel
theorem cL_731 : mc_lawcd 731 = some (.invokevirtual 97, 3) := by decide +kernel
theorem cL_734 : mc_lawcd 734 = some (.pop, 1) := by decide +kernel
theorem cL_735 : mc_lawcd 735 = some (.aload_n 2, 1) := by decide +kernel
theorem cL_736 : mc_lawcd 736 = some (.aload_n 0, 1) := by decide +kernel
theorem cL_737 : mc_lawcd 737 = some (.iload 4, 2) := by decide +kernel
theorem cL_739 : mc_lawcd 739 = some (.iconst 1, 1) := by decide +kernel
theorem cL_740 : mc_lawcd 740 = some (.iadd, 1) := by decide +kernel
theorem cL_741 : mc_lawcd 741 = some (.iaload, 1) := by decide +kernel
theorem cL_742 : mc_lawcd 742 = some (.aload_n 0, 1) := by decide +kernel
theorem cL_743 : mc_lawcd 743 = some (.iload 4, 2) := by decide +kernel
theorem cL_745 : mc_lawcd 745 = some (.iconst 2, 1) := by decide +kernel
theorem cL_746 : mc_lawcd 746 = some (.iadd, 1) := by decide +kernel
theorem cL_747 : mc_lawcd 747 = some (.iaload, 1) := by decide +kernel
theorem cL_748 : mc_lawcd 748 = some (.invokevirtual 100, 3) := by decide +kernel
theorem cL_751 : mc_lawcd 751 = some (.pop, 1) := by decide +kernel
theorem cL_752 : mc_lawcd 752 = some (.goto 929, 3) := by decide +kernel
theorem cL_755 : mc_lawcd 755 = some (.aload_n 1, 1) := by decide +kernel
theorem cL_756 : mc_lawcd 756 = some (.aload_n 0, 1) := by decide +kernel
theorem cL_757 : mc_lawcd 757 = some (.iload 4, 2) := by decide +kernel
theorem cL_759 : mc_lawcd 759 = some (.iconst 1, 1) := by decide +kernel
theorem cL_760 : mc_lawcd 760 = some (.iadd, 1) := by decide +kernel
theorem cL_761 : mc_lawcd 761 = some (.iaload, 1) := by decide +kernel
theorem cL_762 : mc_lawcd 762 = some (.aload_n 0, 1) := by decide +kernel
theorem cL_763 : mc_lawcd 763 = some (.iload 4, 2) := by decide +kernel
theorem cL_765 : mc_lawcd 765 = some (.iconst 2, 1) := by decide +kernel
theorem cL_766 : mc_lawcd 766 = some (.iadd, 1) := by decide +kernel
theorem cL_767 : mc_lawcd 767 = some (.iaload, 1) := by decide +kernel
theorem cL_768 : mc_lawcd 768 = some (.invokevirtual 101, 3) := by decide +kernel
theorem cL_771 : mc_lawcd 771 = some (.pop, 1) := by decide +kernel
theorem cL_772 : mc_lawcd 772 = some (.aload_n 2, 1) := by decide +kernel
theorem cL_773 : mc_lawcd 773 = some (.aload_n 0, 1) := by decide +kernel
theorem cL_774 : mc_lawcd 774 = some (.iload 4, 2) := by decide +kernel
theorem cL_776 : mc_lawcd 776 = some (.iconst 1, 1) := by decide +kernel
theorem cL_777 : mc_lawcd 777 = some (.iadd, 1) := by decide +kernel
theorem cL_778 : mc_lawcd 778 = some (.iaload, 1) := by decide +kernel
theorem cL_779 : mc_lawcd 779 = some (.aload_n 0, 1) := by decide +kernel
theorem cL_780 : mc_lawcd 780 = some (.iload 4, 2) := by decide +kernel
theorem cL_782 : mc_lawcd 782 = some (.iconst 2, 1) := by decide +kernel
theorem cL_783 : mc_lawcd 783 = some (.iadd, 1) := by decide +kernel
theorem cL_784 : mc_lawcd 784 = some (.iaload, 1) := by decide +kernel
theorem cL_785 : mc_lawcd 785 = some (.invokevirtual 104, 3) := by decide +kernel
theorem cL_788 : mc_lawcd 788 = some (.pop, 1) := by decide +kernel
theorem cL_789 : mc_lawcd 789 = some (.goto 892, 3) := by decide +kernel
theorem cL_792 : mc_lawcd 792 = some (.aload_n 1, 1) := by decide +kernel
theorem cL_793 : mc_lawcd 793 = some (.aload_n 0, 1) := by decide +kernel
theorem cL_794 : mc_lawcd 794 = some (.iload 4, 2) := by decide +kernel
theorem cL_796 : mc_lawcd 796 = some (.iconst 1, 1) := by decide +kernel
theorem cL_797 : mc_lawcd 797 = some (.iadd, 1) := by decide +kernel
theorem cL_798 : mc_lawcd 798 = some (.iaload, 1) := by decide +kernel
theorem cL_799 : mc_lawcd 799 = some (.aload_n 0, 1) := by decide +kernel
theorem cL_800 : mc_lawcd 800 = some (.iload 4, 2) := by decide +kernel
theorem cL_802 : mc_lawcd 802 = some (.iconst 2, 1) := by decide +kernel
theorem cL_803 : mc_lawcd 803 = some (.iadd, 1) := by decide +kernel
theorem cL_804 : mc_lawcd 804 = some (.iaload, 1) := by decide +kernel
theorem cL_805 : mc_lawcd 805 = some (.invokevirtual 105, 3) := by decide +kernel
theorem cL_808 : mc_lawcd 808 = some (.pop, 1) := by decide +kernel
theorem cL_809 : mc_lawcd 809 = some (.aload_n 2, 1) := by decide +kernel
theorem cL_810 : mc_lawcd 810 = some (.aload_n 0, 1) := by decide +kernel
theorem cL_811 : mc_lawcd 811 = some (.iload 4, 2) := by decide +kernel
theorem cL_813 : mc_lawcd 813 = some (.iconst 1, 1) := by decide +kernel
theorem cL_814 : mc_lawcd 814 = some (.iadd, 1) := by decide +kernel
theorem cL_815 : mc_lawcd 815 = some (.iaload, 1) := by decide +kernel
theorem cL_816 : mc_lawcd 816 = some (.aload_n 0, 1) := by decide +kernel
theorem cL_817 : mc_lawcd 817 = some (.iload 4, 2) := by decide +kernel
theorem cL_819 : mc_lawcd 819 = some (.iconst 2, 1) := by decide +kernel
theorem cL_820 : mc_lawcd 820 = some (.iadd, 1) := by decide +kernel
theorem cL_821 : mc_lawcd 821 = some (.iaload, 1) := by decide +kernel
theorem cL_822 : mc_lawcd 822 = some (.invokevirtual 108, 3) := by decide +kernel
theorem cL_825 : mc_lawcd 825 = some (.pop, 1) := by decide +kernel
theorem cL_826 : mc_lawcd 826 = some (.goto 855, 3) := by decide +kernel
theorem cL_829 : mc_lawcd 829 = some (.aload_n 1, 1) := by decide +kernel
theorem cL_830 : mc_lawcd 830 = some (.aload_n 0, 1) := by decide +kernel
theorem cL_831 : mc_lawcd 831 = some (.iload 4, 2) := by decide +kernel
theorem cL_833 : mc_lawcd 833 = some (.iconst 1, 1) := by decide +kernel
theorem cL_834 : mc_lawcd 834 = some (.iadd, 1) := by decide +kernel
theorem cL_835 : mc_lawcd 835 = some (.iaload, 1) := by decide +kernel
theorem cL_836 : mc_lawcd 836 = some (.aload_n 0, 1) := by decide +kernel
theorem cL_837 : mc_lawcd 837 = some (.iload 4, 2) := by decide +kernel
theorem cL_839 : mc_lawcd 839 = some (.iconst 2, 1) := by decide +kernel
theorem cL_840 : mc_lawcd 840 = some (.iadd, 1) := by decide +kernel
theorem cL_841 : mc_lawcd 841 = some (.iaload, 1) := by decide +kernel
theorem cL_842 : mc_lawcd 842 = some (.ifCond .eq 7, 3) := by decide +kernel
theorem cL_845 : mc_lawcd 845 = some (.iconst 1, 1) := by decide +kernel
theorem cL_846 : mc_lawcd 846 = some (.goto 4, 3) := by decide +kernel
theorem cL_849 : mc_lawcd 849 = some (.iconst 0, 1) := by decide +kernel
theorem cL_850 : mc_lawcd 850 = some (.invokevirtual 109, 3) := by decide +kernel
theorem cL_853 : mc_lawcd 853 = some (.pop, 1) := by decide +kernel
theorem cL_854 : mc_lawcd 854 = some (.aload_n 2, 1) := by decide +kernel
theorem cL_855 : mc_lawcd 855 = some (.aload_n 0, 1) := by decide +kernel
theorem cL_856 : mc_lawcd 856 = some (.iload 4, 2) := by decide +kernel
theorem cL_858 : mc_lawcd 858 = some (.iconst 1, 1) := by decide +kernel
theorem cL_859 : mc_lawcd 859 = some (.iadd, 1) := by decide +kernel
theorem cL_860 : mc_lawcd 860 = some (.iaload, 1) := by decide +kernel
theorem cL_861 : mc_lawcd 861 = some (.aload_n 0, 1) := by decide +kernel
theorem cL_862 : mc_lawcd 862 = some (.iload 4, 2) := by decide +kernel
theorem cL_864 : mc_lawcd 864 = some (.iconst 2, 1) := by decide +kernel
theorem cL_865 : mc_lawcd 865 = some (.iadd, 1) := by decide +kernel
theorem cL_866 : mc_lawcd 866 = some (.iaload, 1) := by decide +kernel
theorem cL_867 : mc_lawcd 867 = some (.ifCond .eq 7, 3) := by decide +kernel
theorem cL_870 : mc_lawcd 870 = some (.iconst 1, 1) := by decide +kernel
theorem cL_871 : mc_lawcd 871 = some (.goto 4, 3) := by decide +kernel
theorem cL_874 : mc_lawcd 874 = some (.iconst 0, 1) := by decide +kernel
theorem cL_875 : mc_lawcd 875 = some (.invokevirtual 113, 3) := by decide +kernel
theorem cL_878 : mc_lawcd 878 = some (.pop, 1) := by decide +kernel
theorem cL_879 : mc_lawcd 879 = some (.goto 802, 3) := by decide +kernel
theorem cL_882 : mc_lawcd 882 = some (.aload_n 1, 1) := by decide +kernel
theorem cL_883 : mc_lawcd 883 = some (.aload_n 0, 1) := by decide +kernel
theorem cL_884 : mc_lawcd 884 = some (.iload 4, 2) := by decide +kernel
theorem cL_886 : mc_lawcd 886 = some (.iconst 1, 1) := by decide +kernel
theorem cL_887 : mc_lawcd 887 = some (.iadd, 1) := by decide +kernel
theorem cL_888 : mc_lawcd 888 = some (.iaload, 1) := by decide +kernel
theorem cL_889 : mc_lawcd 889 = some (.aload_n 0, 1) := by decide +kernel
theorem cL_890 : mc_lawcd 890 = some (.iload 4, 2) := by decide +kernel
theorem cL_892 : mc_lawcd 892 = some (.iconst 2, 1) := by decide +kernel
theorem cL_893 : mc_lawcd 893 = some (.iadd, 1) := by decide +kernel
theorem cL_894 : mc_lawcd 894 = some (.iaload, 1) := by decide +kernel
theorem cL_895 : mc_lawcd 895 = some (.invokevirtual 114, 3) := by decide +kernel
theorem cL_898 : mc_lawcd 898 = some (.pop, 1) := by decide +kernel
theorem cL_899 : mc_lawcd 899 = some (.aload_n 2, 1) := by decide +kernel
theorem cL_900 : mc_lawcd 900 = some (.aload_n 0, 1) := by decide +kernel
theorem cL_901 : mc_lawcd 901 = some (.iload 4, 2) := by decide +kernel
theorem cL_903 : mc_lawcd 903 = some (.iconst 1, 1) := by decide +kernel
theorem cL_904 : mc_lawcd 904 = some (.iadd, 1) := by decide +kernel
theorem cL_905 : mc_lawcd 905 = some (.iaload, 1) := by decide +kernel
theorem cL_906 : mc_lawcd 906 = some (.aload_n 0, 1) := by decide +kernel
theorem cL_907 : mc_lawcd 907 = some (.iload 4, 2) := by decide +kernel
theorem cL_909 : mc_lawcd 909 = some (.iconst 2, 1) := by decide +kernel
theorem cL_910 : mc_lawcd 910 = some (.iadd, 1) := by decide +kernel
theorem cL_911 : mc_lawcd 911 = some (.iaload, 1) := by decide +kernel
theorem cL_912 : mc_lawcd 912 = some (.invokevirtual 117, 3) := by decide +kernel
theorem cL_915 : mc_lawcd 915 = some (.pop, 1) := by decide +kernel
theorem cL_916 : mc_lawcd 916 = some (.goto 765, 3) := by decide +kernel
theorem cL_919 : mc_lawcd 919 = some (.aload_n 1, 1) := by decide +kernel
theorem cL_920 : mc_lawcd 920 = some (.aload_n 0, 1) := by decide +kernel
theorem cL_921 : mc_lawcd 921 = some (.iload 4, 2) := by decide +kernel
theorem cL_923 : mc_lawcd 923 = some (.iconst 1, 1) := by decide +kernel
theorem cL_924 : mc_lawcd 924 = some (.iadd, 1) := by decide +kernel
theorem cL_925 : mc_lawcd 925 = some (.iaload, 1) := by decide +kernel
theorem cL_926 : mc_lawcd 926 = some (.invokevirtual 118, 3) := by decide +kernel
theorem cL_929 : mc_lawcd 929 = some (.pop, 1) := by decide +kernel
theorem cL_930 : mc_lawcd 930 = some (.aload_n 2, 1) := by decide +kernel
theorem cL_931 : mc_lawcd 931 = some (.aload_n 0, 1) := by decide +kernel
theorem cL_932 : mc_lawcd 932 = some (.iload 4, 2) := by decide +kernel
theorem cL_934 : mc_lawcd 934 = some (.iconst 1, 1) := by decide +kernel
theorem cL_935 : mc_lawcd 935 = some (.iadd, 1) := by decide +kernel
theorem cL_936 : mc_lawcd 936 = some (.iaload, 1) := by decide +kernel
theorem cL_937 : mc_lawcd 937 = some (.invokevirtual 121, 3) := by decide +kernel
theorem cL_940 : mc_lawcd 940 = some (.pop, 1) := by decide +kernel
theorem cL_941 : mc_lawcd 941 = some (.goto 740, 3) := by decide +kernel
theorem cL_944 : mc_lawcd 944 = some (.aload_n 1, 1) := by decide +kernel
theorem cL_945 : mc_lawcd 945 = some (.invokevirtual 122, 3) := by decide +kernel
theorem cL_948 : mc_lawcd 948 = some (.pop2, 1) := by decide +kernel
theorem cL_949 : mc_lawcd 949 = some (.aload_n 2, 1) := by decide +kernel
theorem cL_950 : mc_lawcd 950 = some (.invokevirtual 125, 3) := by decide +kernel
theorem cL_953 : mc_lawcd 953 = some (.pop2, 1) := by decide +kernel
theorem cL_954 : mc_lawcd 954 = some (.goto 727, 3) := by decide +kernel
theorem cL_957 : mc_lawcd 957 = some (.aload_n 1, 1) := by decide +kernel
theorem cL_958 : mc_lawcd 958 = some (.aload_n 0, 1) := by decide +kernel
theorem cL_959 : mc_lawcd 959 = some (.iload 4, 2) := by decide +kernel
theorem cL_961 : mc_lawcd 961 = some (.iconst 1, 1) := by decide +kernel
theorem cL_962 : mc_lawcd 962 = some (.iadd, 1) := by decide +kernel
theorem cL_963 : mc_lawcd 963 = some (.iaload, 1) := by decide +kernel
theorem cL_964 : mc_lawcd 964 = some (.aload_n 0, 1) := by decide +kernel
theorem cL_965 : mc_lawcd 965 = some (.iload 4, 2) := by decide +kernel
theorem cL_967 : mc_lawcd 967 = some (.iconst 2, 1) := by decide +kernel
theorem cL_968 : mc_lawcd 968 = some (.iadd, 1) := by decide +kernel
theorem cL_969 : mc_lawcd 969 = some (.iaload, 1) := by decide +kernel
theorem cL_970 : mc_lawcd 970 = some (.invokevirtual 126, 3) := by decide +kernel
theorem cL_973 : mc_lawcd 973 = some (.pop, 1) := by decide +kernel
theorem cL_974 : mc_lawcd 974 = some (.aload_n 2, 1) := by decide +kernel
theorem cL_975 : mc_lawcd 975 = some (.aload_n 0, 1) := by decide +kernel
theorem cL_976 : mc_lawcd 976 = some (.iload 4, 2) := by decide +kernel
theorem cL_978 : mc_lawcd 978 = some (.iconst 1, 1) := by decide +kernel
theorem cL_979 : mc_lawcd 979 = some (.iadd, 1) := by decide +kernel
theorem cL_980 : mc_lawcd 980 = some (.iaload, 1) := by decide +kernel
theorem cL_981 : mc_lawcd 981 = some (.aload_n 0, 1) := by decide +kernel
theorem cL_982 : mc_lawcd 982 = some (.iload 4, 2) := by decide +kernel
theorem cL_984 : mc_lawcd 984 = some (.iconst 2, 1) := by decide +kernel
theorem cL_985 : mc_lawcd 985 = some (.iadd, 1) := by decide +kernel
theorem cL_986 : mc_lawcd 986 = some (.iaload, 1) := by decide +kernel
theorem cL_987 : mc_lawcd 987 = some (.invokevirtual 129, 3) := by decide +kernel
theorem cL_990 : mc_lawcd 990 = some (.pop, 1) := by decide +kernel
theorem cL_991 : mc_lawcd 991 = some (.goto 690, 3) := by decide +kernel
theorem cL_994 : mc_lawcd 994 = some (.aload_n 1, 1) := by decide +kernel
theorem cL_995 : mc_lawcd 995 = some (.aload_n 0, 1) := by decide +kernel
theorem cL_996 : mc_lawcd 996 = some (.iload 4, 2) := by decide +kernel
theorem cL_998 : mc_lawcd 998 = some (.iconst 1, 1) := by decide +kernel
theorem cL_999 : mc_lawcd 999 = some (.iadd, 1) := by decide +kernel
theorem cL_1000 : mc_lawcd 1000 = some (.iaload, 1) := by decide +kernel
theorem cL_1001 : mc_lawcd 1001 = some (.invokevirtual 130, 3) := by decide +kernel
theorem cL_1004 : mc_lawcd 1004 = some (.pop2, 1) := by decide +kernel
theorem cL_1005 : mc_lawcd 1005 = some (.aload_n 2, 1) := by decide +kernel
theorem cL_1006 : mc_lawcd 1006 = some (.aload_n 0, 1) := by decide +kernel
theorem cL_1007 : mc_lawcd 1007 = some (.iload 4, 2) := by decide +kernel
theorem cL_1009 : mc_lawcd 1009 = some (.iconst 1, 1) := by decide +kernel
theorem cL_1010 : mc_lawcd 1010 = some (.iadd, 1) := by decide +kernel
theorem cL_1011 : mc_lawcd 1011 = some (.iaload, 1) := by decide +kernel
theorem cL_1012 : mc_lawcd 1012 = some (.invokevirtual 134, 3) := by decide +kernel
theorem cL_1015 : mc_lawcd 1015 = some (.pop2, 1) := by decide +kernel
theorem cL_1016 : mc_lawcd 1016 = some (.goto 665, 3) := by decide +kernel
theorem cL_1019 : mc_lawcd 1019 = some (.aload_n 1, 1) := by decide +kernel
theorem cL_1020 : mc_lawcd 1020 = some (.aload_n 0, 1) := by decide +kernel
theorem cL_1021 : mc_lawcd 1021 = some (.iload 4, 2) := by decide +kernel
theorem cL_1023 : mc_lawcd 1023 = some (.iconst 1, 1) := by decide +kernel
theorem cL_1024 : mc_lawcd 1024 = some (.iadd, 1) := by decide +kernel
theorem cL_1025 : mc_lawcd 1025 = some (.iaload, 1) := by decide +kernel
theorem cL_1026 : mc_lawcd 1026 = some (.aload_n 0, 1) := by decide +kernel
theorem cL_1027 : mc_lawcd 1027 = some (.iload 4, 2) := by decide +kernel
theorem cL_1029 : mc_lawcd 1029 = some (.iconst 2, 1) := by decide +kernel
theorem cL_1030 : mc_lawcd 1030 = some (.iadd, 1) := by decide +kernel
theorem cL_1031 : mc_lawcd 1031 = some (.iaload, 1) := by decide +kernel
theorem cL_1032 : mc_lawcd 1032 = some (.invokevirtual 135, 3) := by decide +kernel
theorem cL_1035 : mc_lawcd 1035 = some (.pop, 1) := by decide +kernel
theorem cL_1036 : mc_lawcd 1036 = some (.aload_n 2, 1) := by decide +kernel
theorem cL_1037 : mc_lawcd 1037 = some (.aload_n 0, 1) := by decide +kernel
theorem cL_1038 : mc_lawcd 1038 = some (.iload 4, 2) := by decide +kernel
theorem cL_1040 : mc_lawcd 1040 = some (.iconst 1, 1) := by decide +kernel
theorem cL_1041 : mc_lawcd 1041 = some (.iadd, 1) := by decide +kernel
theorem cL_1042 : mc_lawcd 1042 = some (.iaload, 1) := by decide +kernel
theorem cL_1043 : mc_lawcd 1043 = some (.aload_n 0, 1) := by decide +kernel
theorem cL_1044 : mc_lawcd 1044 = some (.iload 4, 2) := by decide +kernel
theorem cL_1046 : mc_lawcd 1046 = some (.iconst 2, 1) := by decide +kernel
theorem cL_1047 : mc_lawcd 1047 = some (.iadd, 1) := by decide +kernel
theorem cL_1048 : mc_lawcd 1048 = some (.iaload, 1) := by decide +kernel
theorem cL_1049 : mc_lawcd 1049 = some (.invokevirtual 138, 3) := by decide +kernel
theorem cL_1052 : mc_lawcd 1052 = some (.pop, 1) := by decide +kernel
theorem cL_1053 : mc_lawcd 1053 = some (.goto 628, 3) := by decide +kernel
theorem cL_1056 : mc_lawcd 1056 = some (.aload_n 1, 1) := by decide +kernel
theorem cL_1057 : mc_lawcd 1057 = some (.aload_n 0, 1) := by decide +kernel
theorem cL_1058 : mc_lawcd 1058 = some (.iload 4, 2) := by decide +kernel
theorem cL_1060 : mc_lawcd 1060 = some (.iconst 1, 1) := by decide +kernel
theorem cL_1061 : mc_lawcd 1061 = some (.iadd, 1) := by decide +kernel
theorem cL_1062 : mc_lawcd 1062 = some (.iaload, 1) := by decide +kernel
theorem cL_1063 : mc_lawcd 1063 = some (.aload_n 0, 1) := by decide +kernel
theorem cL_1064 : mc_lawcd 1064 = some (.iload 4, 2) := by decide +kernel
theorem cL_1066 : mc_lawcd 1066 = some (.iconst 2, 1) := by decide +kernel
theorem cL_1067 : mc_lawcd 1067 = some (.iadd, 1) := by decide +kernel
theorem cL_1068 : mc_lawcd 1068 = some (.iaload, 1) := by decide +kernel
theorem cL_1069 : mc_lawcd 1069 = some (.ifCond .eq 7, 3) := by decide +kernel
theorem cL_1072 : mc_lawcd 1072 = some (.iconst 1, 1) := by decide +kernel
theorem cL_1073 : mc_lawcd 1073 = some (.goto 4, 3) := by decide +kernel
theorem cL_1076 : mc_lawcd 1076 = some (.iconst 0, 1) := by decide +kernel
theorem cL_1077 : mc_lawcd 1077 = some (.invokevirtual 139, 3) := by decide +kernel
theorem cL_1080 : mc_lawcd 1080 = some (.pop, 1) := by decide +kernel
theorem cL_1081 : mc_lawcd 1081 = some (.aload_n 2, 1) := by decide +kernel
theorem cL_1082 : mc_lawcd 1082 = some (.aload_n 0, 1) := by decide +kernel
theorem cL_1083 : mc_lawcd 1083 = some (.iload 4, 2) := by decide +kernel
theorem cL_1085 : mc_lawcd 1085 = some (.iconst 1, 1) := by decide +kernel
theorem cL_1086 : mc_lawcd 1086 = some (.iadd, 1) := by decide +kernel
theorem cL_1087 : mc_lawcd 1087 = some (.iaload, 1) := by decide +kernel
theorem cL_1088 : mc_lawcd 1088 = some (.aload_n 0, 1) := by decide +kernel
theorem cL_1089 : mc_lawcd 1089 = some (.iload 4, 2) := by decide +kernel
theorem cL_1091 : mc_lawcd 1091 = some (.iconst 2, 1) := by decide +kernel
theorem cL_1092 : mc_lawcd 1092 = some (.iadd, 1) := by decide +kernel
theorem cL_1093 : mc_lawcd 1093 = some (.iaload, 1) := by decide +kernel
theorem cL_1094 : mc_lawcd 1094 = some (.ifCond .eq 7, 3) := by decide +kernel
theorem cL_1097 : mc_lawcd 1097 = some (.iconst 1, 1) := by decide +kernel
theorem cL_1098 : mc_lawcd 1098 = some (.goto 4, 3) := by decide +kernel
theorem cL_1101 : mc_lawcd 1101 = some (.iconst 0, 1) := by decide +kernel
theorem cL_1102 : mc_lawcd 1102 = some (.invokevirtual 142, 3) := by decide +kernel
theorem cL_1105 : mc_lawcd 1105 = some (.pop, 1) := by decide +kernel
theorem cL_1106 : mc_lawcd 1106 = some (.goto 575, 3) := by decide +kernel
theorem cL_1109 : mc_lawcd 1109 = some (.aload_n 1, 1) := by decide +kernel
theorem cL_1110 : mc_lawcd 1110 = some (.aload_n 0, 1) := by decide +kernel
theorem cL_1111 : mc_lawcd 1111 = some (.iload 4, 2) := by decide +kernel
theorem cL_1113 : mc_lawcd 1113 = some (.iconst 1, 1) := by decide +kernel
theorem cL_1114 : mc_lawcd 1114 = some (.iadd, 1) := by decide +kernel
theorem cL_1115 : mc_lawcd 1115 = some (.iaload, 1) := by decide +kernel
theorem cL_1116 : mc_lawcd 1116 = some (.aload_n 0, 1) := by decide +kernel
theorem cL_1117 : mc_lawcd 1117 = some (.iload 4, 2) := by decide +kernel
theorem cL_1119 : mc_lawcd 1119 = some (.iconst 2, 1) := by decide +kernel
theorem cL_1120 : mc_lawcd 1120 = some (.iadd, 1) := by decide +kernel
theorem cL_1121 : mc_lawcd 1121 = some (.iaload, 1) := by decide +kernel
theorem cL_1122 : mc_lawcd 1122 = some (.ifCond .eq 7, 3) := by decide +kernel
theorem cL_1125 : mc_lawcd 1125 = some (.iconst 1, 1) := by decide +kernel
theorem cL_1126 : mc_lawcd 1126 = some (.goto 4, 3) := by decide +kernel
theorem cL_1129 : mc_lawcd 1129 = some (.iconst 0, 1) := by decide +kernel
theorem cL_1130 : mc_lawcd 1130 = some (.invokevirtual 143, 3) := by decide +kernel
theorem cL_1133 : mc_lawcd 1133 = some (.pop, 1) := by decide +kernel
theorem cL_1134 : mc_lawcd 1134 = some (.aload_n 2, 1) := by decide +kernel
theorem cL_1135 : mc_lawcd 1135 = some (.aload_n 0, 1) := by decide +kernel
theorem cL_1136 : mc_lawcd 1136 = some (.iload 4, 2) := by decide +kernel
theorem cL_1138 : mc_lawcd 1138 = some (.iconst 1, 1) := by decide +kernel
theorem cL_1139 : mc_lawcd 1139 = some (.iadd, 1) := by decide +kernel
theorem cL_1140 : mc_lawcd 1140 = some (.iaload, 1) := by decide +kernel
theorem cL_1141 : mc_lawcd 1141 = some (.aload_n 0, 1) := by decide +kernel
theorem cL_1142 : mc_lawcd 1142 = some (.iload 4, 2) := by decide +kernel
theorem cL_1144 : mc_lawcd 1144 = some (.iconst 2, 1) := by decide +kernel
theorem cL_1145 : mc_lawcd 1145 = some (.iadd, 1) := by decide +kernel
theorem cL_1146 : mc_lawcd 1146 = some (.iaload, 1) := by decide +kernel
theorem cL_1147 : mc_lawcd 1147 = some (.ifCond .eq 7, 3) := by decide +kernel
theorem cL_1150 : mc_lawcd 1150 = some (.iconst 1, 1) := by decide +kernel
theorem cL_1151 : mc_lawcd 1151 = some (.goto 4, 3) := by decide +kernel
theorem cL_1154 : mc_lawcd 1154 = some (.iconst 0, 1) := by decide +kernel
theorem cL_1155 : mc_lawcd 1155 = some (.invokevirtual 146, 3) := by decide +kernel
theorem cL_1158 : mc_lawcd 1158 = some (.pop, 1) := by decide +kernel
theorem cL_1159 : mc_lawcd 1159 = some (.goto 522, 3) := by decide +kernel
theorem cL_1162 : mc_lawcd 1162 = some (.aload_n 1, 1) := by decide +kernel
theorem cL_1163 : mc_lawcd 1163 = some (.invokevirtual 147, 3) := by decide +kernel
theorem cL_1166 : mc_lawcd 1166 = some (.pop, 1) := by decide +kernel
theorem cL_1167 : mc_lawcd 1167 = some (.aload_n 2, 1) := by decide +kernel
theorem cL_1168 : mc_lawcd 1168 = some (.invokevirtual 150, 3) := by decide +kernel
theorem cL_1171 : mc_lawcd 1171 = some (.pop, 1) := by decide +kernel
theorem cL_1172 : mc_lawcd 1172 = some (.goto 509, 3) := by decide +kernel
theorem cL_1175 : mc_lawcd 1175 = some (.aload_n 1, 1) := by decide +kernel
theorem cL_1176 : mc_lawcd 1176 = some (.aload_n 0, 1) := by decide +kernel
theorem cL_1177 : mc_lawcd 1177 = some (.iload 4, 2) := by decide +kernel
theorem cL_1179 : mc_lawcd 1179 = some (.iconst 1, 1) := by decide +kernel
theorem cL_1180 : mc_lawcd 1180 = some (.iadd, 1) := by decide +kernel
theorem cL_1181 : mc_lawcd 1181 = some (.iaload, 1) := by decide +kernel
theorem cL_1182 : mc_lawcd 1182 = some (.invokevirtual 151, 3) := by decide +kernel
theorem cL_1185 : mc_lawcd 1185 = some (.pop, 1) := by decide +kernel
theorem cL_1186 : mc_lawcd 1186 = some (.aload_n 2, 1) := by decide +kernel
theorem cL_1187 : mc_lawcd 1187 = some (.aload_n 0, 1) := by decide +kernel
theorem cL_1188 : mc_lawcd 1188 = some (.iload 4, 2) := by decide +kernel
theorem cL_1190 : mc_lawcd 1190 = some (.iconst 1, 1) := by decide +kernel
theorem cL_1191 : mc_lawcd 1191 = some (.iadd, 1) := by decide +kernel
theorem cL_1192 : mc_lawcd 1192 = some (.iaload, 1) := by decide +kernel
theorem cL_1193 : mc_lawcd 1193 = some (.invokevirtual 154, 3) := by decide +kernel
theorem cL_1196 : mc_lawcd 1196 = some (.pop, 1) := by decide +kernel
theorem cL_1197 : mc_lawcd 1197 = some (.goto 484, 3) := by decide +kernel
theorem cL_1200 : mc_lawcd 1200 = some (.aload_n 1, 1) := by decide +kernel
theorem cL_1201 : mc_lawcd 1201 = some (.aload_n 0, 1) := by decide +kernel
theorem cL_1202 : mc_lawcd 1202 = some (.iload 4, 2) := by decide +kernel
theorem cL_1204 : mc_lawcd 1204 = some (.iconst 1, 1) := by decide +kernel
theorem cL_1205 : mc_lawcd 1205 = some (.iadd, 1) := by decide +kernel
theorem cL_1206 : mc_lawcd 1206 = some (.iaload, 1) := by decide +kernel
theorem cL_1207 : mc_lawcd 1207 = some (.invokevirtual 155, 3) := by decide +kernel
theorem cL_1210 : mc_lawcd 1210 = some (.pop, 1) := by decide +kernel
theorem cL_1211 : mc_lawcd 1211 = some (.aload_n 2, 1) := by decide +kernel
theorem cL_1212 : mc_lawcd 1212 = some (.aload_n 0, 1) := by decide +kernel
theorem cL_1213 : mc_lawcd 1213 = some (.iload 4, 2) := by decide +kernel
theorem cL_1215 : mc_lawcd 1215 = some (.iconst 1, 1) := by decide +kernel
theorem cL_1216 : mc_lawcd 1216 = some (.iadd, 1) := by decide +kernel
theorem cL_1217 : mc_lawcd 1217 = some (.iaload, 1) := by decide +kernel
theorem cL_1218 : mc_lawcd 1218 = some (.invokevirtual 158, 3) := by decide +kernel
theorem cL_1221 : mc_lawcd 1221 = some (.pop, 1) := by decide +kernel
theorem cL_1222 : mc_lawcd 1222 = some (.goto 459, 3) := by decide +kernel
theorem cL_1225 : mc_lawcd 1225 = some (.aload_n 1, 1) := by decide +kernel
theorem cL_1226 : mc_lawcd 1226 = some (.aload_n 0, 1) := by decide +kernel
theorem cL_1227 : mc_lawcd 1227 = some (.iload 4, 2) := by decide +kernel
theorem cL_1229 : mc_lawcd 1229 = some (.iconst 1, 1) := by decide +kernel
theorem cL_1230 : mc_lawcd 1230 = some (.iadd, 1) := by decide +kernel
theorem cL_1231 : mc_lawcd 1231 = some (.iaload, 1) := by decide +kernel
theorem cL_1232 : mc_lawcd 1232 = some (.invokevirtual 159, 3) := by decide +kernel
theorem cL_1235 : mc_lawcd 1235 = some (.pop, 1) := by decide +kernel
theorem cL_1236 : mc_lawcd 1236 = some (.aload_n 2, 1) := by decide +kernel
theorem cL_1237 : mc_lawcd 1237 = some (.aload_n 0, 1) := by decide +kernel
theorem cL_1238 : mc_lawcd 1238 = some (.iload 4, 2) := by decide +kernel
theorem cL_1240 : mc_lawcd 1240 = some (.iconst 1, 1) := by decide +kernel
theorem cL_1241 : mc_lawcd 1241 = some (.iadd, 1) := by decide +kernel
theorem cL_1242 : mc_lawcd 1242 = some (.iaload, 1) := by decide +kernel
theorem cL_1243 : mc_lawcd 1243 = some (.invokevirtual 162, 3) := by decide +kernel
theorem cL_1246 : mc_lawcd 1246 = some (.pop, 1) := by decide +kernel
theorem cL_1247 : mc_lawcd 1247 = some (.goto 434, 3) := by decide +kernel
theorem cL_1250 : mc_lawcd 1250 = some (.aload_n 1, 1) := by decide +kernel
theorem cL_1251 : mc_lawcd 1251 = some (.invokevirtual 163, 3) := by decide +kernel
theorem cL_1254 : mc_lawcd 1254 = some (.pop, 1) := by decide +kernel
theorem cL_1255 : mc_lawcd 1255 = some (.aload_n 2, 1) := by decide +kernel
theorem cL_1256 : mc_lawcd 1256 = some (.invokevirtual 166, 3) := by decide +kernel
theorem cL_1259 : mc_lawcd 1259 = some (.pop, 1) := by decide +kernel
theorem cL_1260 : mc_lawcd 1260 = some (.goto 421, 3) := by decide +kernel
theorem cL_1263 : mc_lawcd 1263 = some (.aload_n 1, 1) := by decide +kernel
theorem cL_1264 : mc_lawcd 1264 = some (.aload_n 0, 1) := by decide +kernel
theorem cL_1265 : mc_lawcd 1265 = some (.iload 4, 2) := by decide +kernel
theorem cL_1267 : mc_lawcd 1267 = some (.iconst 1, 1) := by decide +kernel
theorem cL_1268 : mc_lawcd 1268 = some (.iadd, 1) := by decide +kernel
theorem cL_1269 : mc_lawcd 1269 = some (.iaload, 1) := by decide +kernel
theorem cL_1270 : mc_lawcd 1270 = some (.aload_n 0, 1) := by decide +kernel
theorem cL_1271 : mc_lawcd 1271 = some (.iload 4, 2) := by decide +kernel
theorem cL_1273 : mc_lawcd 1273 = some (.iconst 2, 1) := by decide +kernel
theorem cL_1274 : mc_lawcd 1274 = some (.iadd, 1) := by decide +kernel
theorem cL_1275 : mc_lawcd 1275 = some (.iaload, 1) := by decide +kernel
theorem cL_1276 : mc_lawcd 1276 = some (.ifCond .eq 7, 3) := by decide +kernel
theorem cL_1279 : mc_lawcd 1279 = some (.iconst 1, 1) := by decide +kernel
theorem cL_1280 : mc_lawcd 1280 = some (.goto 4, 3) := by decide +kernel
theorem cL_1283 : mc_lawcd 1283 = some (.iconst 0, 1) := by decide +kernel
theorem cL_1284 : mc_lawcd 1284 = some (.invokevirtual 167, 3) := by decide +kernel
theorem cL_1287 : mc_lawcd 1287 = some (.pop, 1) := by decide +kernel
theorem cL_1288 : mc_lawcd 1288 = some (.aload_n 2, 1) := by decide +kernel
theorem cL_1289 : mc_lawcd 1289 = some (.aload_n 0, 1) := by decide +kernel
theorem cL_1290 : mc_lawcd 1290 = some (.iload 4, 2) := by decide +kernel
theorem cL_1292 : mc_lawcd 1292 = some (.iconst 1, 1) := by decide +kernel
theorem cL_1293 : mc_lawcd 1293 = some (.iadd, 1) := by decide +kernel
theorem cL_1294 : mc_lawcd 1294 = some (.iaload, 1) := by decide +kernel
theorem cL_1295 : mc_lawcd 1295 = some (.aload_n 0, 1) := by decide +kernel
theorem cL_1296 : mc_lawcd 1296 = some (.iload 4, 2) := by decide +kernel
theorem cL_1298 : mc_lawcd 1298 = some (.iconst 2, 1) := by decide +kernel
theorem cL_1299 : mc_lawcd 1299 = some (.iadd, 1) := by decide +kernel
theorem cL_1300 : mc_lawcd 1300 = some (.iaload, 1) := by decide +kernel
theorem cL_1301 : mc_lawcd 1301 = some (.ifCond .eq 7, 3) := by decide +kernel
theorem cL_1304 : mc_lawcd 1304 = some (.iconst 1, 1) := by decide +kernel
theorem cL_1305 : mc_lawcd 1305 = some (.goto 4, 3) := by decide +kernel
theorem cL_1308 : mc_lawcd 1308 = some (.iconst 0, 1) := by decide +kernel
theorem cL_1309 : mc_lawcd 1309 = some (.invokevirtual 170, 3) := by decide +kernel
theorem cL_1312 : mc_lawcd 1312 = some (.pop, 1) := by decide +kernel
theorem cL_1313 : mc_lawcd 1313 = some (.goto 368, 3) := by decide +kernel
theorem cL_1316 : mc_lawcd 1316 = some (.aload_n 1, 1) := by decide +kernel
theorem cL_1317 : mc_lawcd 1317 = some (.invokevirtual 171, 3) := by decide +kernel
theorem cL_1320 : mc_lawcd 1320 = some (.pop, 1) := by decide +kernel
theorem cL_1321 : mc_lawcd 1321 = some (.aload_n 2, 1) := by decide +kernel
theorem cL_1322 : mc_lawcd 1322 = some (.invokevirtual 174, 3) := by decide +kernel
theorem cL_1325 : mc_lawcd 1325 = some (.pop, 1) := by decide +kernel
theorem cL_1326 : mc_lawcd 1326 = some (.goto 355, 3) := by decide +kernel
theorem cL_1329 : mc_lawcd 1329 = some (.aload_n 1, 1) := by decide +kernel
theorem cL_1330 : mc_lawcd 1330 = some (.invokevirtual 175, 3) := by decide +kernel
theorem cL_1333 : mc_lawcd 1333 = some (.pop, 1) := by decide +kernel
theorem cL_1334 : mc_lawcd 1334 = some (.aload_n 2, 1) := by decide +kernel
theorem cL_1335 : mc_lawcd 1335 = some (.invokevirtual 178, 3) := by decide +kernel
theorem cL_1338 : mc_lawcd 1338 = some (.pop, 1) := by decide +kernel
theorem cL_1339 : mc_lawcd 1339 = some (.goto 342, 3) := by decide +kernel
theorem cL_1342 : mc_lawcd 1342 = some (.aload_n 1, 1) := by decide +kernel
theorem cL_1343 : mc_lawcd 1343 = some (.aload_n 0, 1) := by decide +kernel
theorem cL_1344 : mc_lawcd 1344 = some (.iload 4, 2) := by decide +kernel
theorem cL_1346 : mc_lawcd 1346 = some (.iconst 1, 1) := by decide +kernel
theorem cL_1347 : mc_lawcd 1347 = some (.iadd, 1) := by decide +kernel
theorem cL_1348 : mc_lawcd 1348 = some (.iaload, 1) := by decide +kernel
theorem cL_1349 : mc_lawcd 1349 = some (.invokevirtual 179, 3) := by decide +kernel
theorem cL_1352 : mc_lawcd 1352 = some (.pop, 1) := by decide +kernel
theorem cL_1353 : mc_lawcd 1353 = some (.aload_n 2, 1) := by decide +kernel
theorem cL_1354 : mc_lawcd 1354 = some (.aload_n 0, 1) := by decide +kernel
theorem cL_1355 : mc_lawcd 1355 = some (.iload 4, 2) := by decide +kernel
theorem cL_1357 : mc_lawcd 1357 = some (.iconst 1, 1) := by decide +kernel
theorem cL_1358 : mc_lawcd 1358 = some (.iadd, 1) := by decide +kernel
theorem cL_1359 : mc_lawcd 1359 = some (.iaload, 1) := by decide +kernel
theorem cL_1360 : mc_lawcd 1360 = some (.invokevirtual 182, 3) := by decide +kernel
theorem cL_1363 : mc_lawcd 1363 = some (.pop, 1) := by decide +kernel
theorem cL_1364 : mc_lawcd 1364 = some (.goto 317, 3) := by decide +kernel
theorem cL_1367 : mc_lawcd 1367 = some (.aload_n 1, 1) := by decide +kernel
theorem cL_1368 : mc_lawcd 1368 = some (.aload_n 0, 1) := by decide +kernel
theorem cL_1369 : mc_lawcd 1369 = some (.iload 4, 2) := by decide +kernel
theorem cL_1371 : mc_lawcd 1371 = some (.iconst 1, 1) := by decide +kernel
theorem cL_1372 : mc_lawcd 1372 = some (.iadd, 1) := by decide +kernel
theorem cL_1373 : mc_lawcd 1373 = some (.iaload, 1) := by decide +kernel
theorem cL_1374 : mc_lawcd 1374 = some (.aload_n 0, 1) := by decide +kernel
theorem cL_1375 : mc_lawcd 1375 = some (.iload 4, 2) := by decide +kernel
theorem cL_1377 : mc_lawcd 1377 = some (.iconst 2, 1) := by decide +kernel
theorem cL_1378 : mc_lawcd 1378 = some (.iadd, 1) := by decide +kernel
theorem cL_1379 : mc_lawcd 1379 = some (.iaload, 1) := by decide +kernel
theorem cL_1380 : mc_lawcd 1380 = some (.invokevirtual 183, 3) := by decide +kernel
theorem cL_1383 : mc_lawcd 1383 = some (.pop, 1) := by decide +kernel
theorem cL_1384 : mc_lawcd 1384 = some (.aload_n 2, 1) := by decide +kernel
theorem cL_1385 : mc_lawcd 1385 = some (.aload_n 0, 1) := by decide +kernel
theorem cL_1386 : mc_lawcd 1386 = some (.iload 4, 2) := by decide +kernel
theorem cL_1388 : mc_lawcd 1388 = some (.iconst 1, 1) := by decide +kernel
theorem cL_1389 : mc_lawcd 1389 = some (.iadd, 1) := by decide +kernel
theorem cL_1390 : mc_lawcd 1390 = some (.iaload, 1) := by decide +kernel
theorem cL_1391 : mc_lawcd 1391 = some (.aload_n 0, 1) := by decide +kernel
theorem cL_1392 : mc_lawcd 1392 = some (.iload 4, 2) := by decide +kernel
theorem cL_1394 : mc_lawcd 1394 = some (.iconst 2, 1) := by decide +kernel
theorem cL_1395 : mc_lawcd 1395 = some (.iadd, 1) := by decide +kernel
theorem cL_1396 : mc_lawcd 1396 = some (.iaload, 1) := by decide +kernel
theorem cL_1397 : mc_lawcd 1397 = some (.invokevirtual 186, 3) := by decide +kernel
theorem cL_1400 : mc_lawcd 1400 = some (.pop, 1) := by decide +kernel
theorem cL_1401 : mc_lawcd 1401 = some (.goto 280, 3) := by decide +kernel
theorem cL_1404 : mc_lawcd 1404 = some (.aload_n 1, 1) := by decide +kernel
theorem cL_1405 : mc_lawcd 1405 = some (.aload_n 0, 1) := by decide +kernel
theorem cL_1406 : mc_lawcd 1406 = some (.iload 4, 2) := by decide +kernel
theorem cL_1408 : mc_lawcd 1408 = some (.iconst 1, 1) := by decide +kernel
theorem cL_1409 : mc_lawcd 1409 = some (.iadd, 1) := by decide +kernel
theorem cL_1410 : mc_lawcd 1410 = some (.iaload, 1) := by decide +kernel
theorem cL_1411 : mc_lawcd 1411 = some (.invokevirtual 187, 3) := by decide +kernel
theorem cL_1414 : mc_lawcd 1414 = some (.pop, 1) := by decide +kernel
theorem cL_1415 : mc_lawcd 1415 = some (.aload_n 2, 1) := by decide +kernel
theorem cL_1416 : mc_lawcd 1416 = some (.aload_n 0, 1) := by decide +kernel
theorem cL_1417 : mc_lawcd 1417 = some (.iload 4, 2) := by decide +kernel
theorem cL_1419 : mc_lawcd 1419 = some (.iconst 1, 1) := by decide +kernel
theorem cL_1420 : mc_lawcd 1420 = some (.iadd, 1) := by decide +kernel
theorem cL_1421 : mc_lawcd 1421 = some (.iaload, 1) := by decide +kernel
theorem cL_1422 : mc_lawcd 1422 = some (.invokevirtual 191, 3) := by decide +kernel
theorem cL_1425 : mc_lawcd 1425 = some (.pop, 1) := by decide +kernel
theorem cL_1426 : mc_lawcd 1426 = some (.goto 255, 3) := by decide +kernel
theorem cL_1429 : mc_lawcd 1429 = some (.aload_n 1, 1) := by decide +kernel
theorem cL_1430 : mc_lawcd 1430 = some (.aload_n 0, 1) := by decide +kernel
theorem cL_1431 : mc_lawcd 1431 = some (.iload 4, 2) := by decide +kernel
theorem cL_1433 : mc_lawcd 1433 = some (.iconst 1, 1) := by decide +kernel
theorem cL_1434 : mc_lawcd 1434 = some (.iadd, 1) := by decide +kernel
theorem cL_1435 : mc_lawcd 1435 = some (.iaload, 1) := by decide +kernel
theorem cL_1436 : mc_lawcd 1436 = some (.invokevirtual 192, 3) := by decide +kernel
theorem cL_1439 : mc_lawcd 1439 = some (.pop, 1) := by decide +kernel
theorem cL_1440 : mc_lawcd 1440 = some (.aload_n 2, 1) := by decide +kernel
theorem cL_1441 : mc_lawcd 1441 = some (.aload_n 0, 1) := by decide +kernel
theorem cL_1442 : mc_lawcd 1442 = some (.iload 4, 2) := by decide +kernel
theorem cL_1444 : mc_lawcd 1444 = some (.iconst 1, 1) := by decide +kernel
theorem cL_1445 : mc_lawcd 1445 = some (.iadd, 1) := by decide +kernel
theorem cL_1446 : mc_lawcd 1446 = some (.iaload, 1) := by decide +kernel
theorem cL_1447 : mc_lawcd 1447 = some (.invokevirtual 195, 3) := by decide +kernel
theorem cL_1450 : mc_lawcd 1450 = some (.pop, 1) := by decide +kernel
theorem cL_1451 : mc_lawcd 1451 = some (.goto 230, 3) := by decide +kernel
theorem cL_1454 : mc_lawcd 1454 = some (.aload_n 1, 1) := by decide +kernel
theorem cL_1455 : mc_lawcd 1455 = some (.invokevirtual 196, 3) := by decide +kernel
theorem cL_1458 : mc_lawcd 1458 = some (.pop, 1) := by decide +kernel
theorem cL_1459 : mc_lawcd 1459 = some (.aload_n 2, 1) := by decide +kernel
theorem cL_1460 : mc_lawcd 1460 = some (.invokevirtual 199, 3) := by decide +kernel
theorem cL_1463 : mc_lawcd 1463 = some (.pop, 1) := by decide +kernel
theorem cL_1464 : mc_lawcd 1464 = some (.goto 217, 3) := by decide +kernel
theorem cL_1467 : mc_lawcd 1467 = some (.aload_n 1, 1) := by decide +kernel
theorem cL_1468 : mc_lawcd 1468 = some (.aload_n 0, 1) := by decide +kernel
theorem cL_1469 : mc_lawcd 1469 = some (.iload 4, 2) := by decide +kernel
theorem cL_1471 : mc_lawcd 1471 = some (.iconst 1, 1) := by decide +kernel
theorem cL_1472 : mc_lawcd 1472 = some (.iadd, 1) := by decide +kernel
theorem cL_1473 : mc_lawcd 1473 = some (.iaload, 1) := by decide +kernel
theorem cL_1474 : mc_lawcd 1474 = some (.aload_n 0, 1) := by decide +kernel
theorem cL_1475 : mc_lawcd 1475 = some (.iload 4, 2) := by decide +kernel
theorem cL_1477 : mc_lawcd 1477 = some (.iconst 2, 1) := by decide +kernel
theorem cL_1478 : mc_lawcd 1478 = some (.iadd, 1) := by decide +kernel
theorem cL_1479 : mc_lawcd 1479 = some (.iaload, 1) := by decide +kernel
theorem cL_1480 : mc_lawcd 1480 = some (.invokevirtual 200, 3) := by decide +kernel
theorem cL_1483 : mc_lawcd 1483 = some (.pop, 1) := by decide +kernel
theorem cL_1484 : mc_lawcd 1484 = some (.aload_n 2, 1) := by decide +kernel
theorem cL_1485 : mc_lawcd 1485 = some (.aload_n 0, 1) := by decide +kernel
theorem cL_1486 : mc_lawcd 1486 = some (.iload 4, 2) := by decide +kernel
theorem cL_1488 : mc_lawcd 1488 = some (.iconst 1, 1) := by decide +kernel
theorem cL_1489 : mc_lawcd 1489 = some (.iadd, 1) := by decide +kernel
theorem cL_1490 : mc_lawcd 1490 = some (.iaload, 1) := by decide +kernel
theorem cL_1491 : mc_lawcd 1491 = some (.aload_n 0, 1) := by decide +kernel
theorem cL_1492 : mc_lawcd 1492 = some (.iload 4, 2) := by decide +kernel
theorem cL_1494 : mc_lawcd 1494 = some (.iconst 2, 1) := by decide +kernel
theorem cL_1495 : mc_lawcd 1495 = some (.iadd, 1) := by decide +kernel
theorem cL_1496 : mc_lawcd 1496 = some (.iaload, 1) := by decide +kernel
theorem cL_1497 : mc_lawcd 1497 = some (.invokevirtual 203, 3) := by decide +kernel
theorem cL_1500 : mc_lawcd 1500 = some (.pop, 1) := by decide +kernel
theorem cL_1501 : mc_lawcd 1501 = some (.goto 180, 3) := by decide +kernel
theorem cL_1504 : mc_lawcd 1504 = some (.aload_n 1, 1) := by decide +kernel
theorem cL_1505 : mc_lawcd 1505 = some (.invokevirtual 204, 3) := by decide +kernel
theorem cL_1508 : mc_lawcd 1508 = some (.pop, 1) := by decide +kernel
theorem cL_1509 : mc_lawcd 1509 = some (.aload_n 2, 1) := by decide +kernel
theorem cL_1510 : mc_lawcd 1510 = some (.invokevirtual 208, 3) := by decide +kernel
theorem cL_1513 : mc_lawcd 1513 = some (.pop, 1) := by decide +kernel
theorem cL_1514 : mc_lawcd 1514 = some (.goto 167, 3) := by decide +kernel
theorem cL_1517 : mc_lawcd 1517 = some (.aload_n 1, 1) := by decide +kernel
theorem cL_1518 : mc_lawcd 1518 = some (.invokevirtual 209, 3) := by decide +kernel
theorem cL_1521 : mc_lawcd 1521 = some (.pop2, 1) := by decide +kernel
theorem cL_1522 : mc_lawcd 1522 = some (.aload_n 2, 1) := by decide +kernel
theorem cL_1523 : mc_lawcd 1523 = some (.invokevirtual 212, 3) := by decide +kernel
theorem cL_1526 : mc_lawcd 1526 = some (.pop2, 1) := by decide +kernel
theorem cL_1527 : mc_lawcd 1527 = some (.goto 154, 3) := by decide +kernel
theorem cL_1530 : mc_lawcd 1530 = some (.aload_n 1, 1) := by decide +kernel
theorem cL_1531 : mc_lawcd 1531 = some (.aload_n 0, 1) := by decide +kernel
theorem cL_1532 : mc_lawcd 1532 = some (.iload 4, 2) := by decide +kernel
theorem cL_1534 : mc_lawcd 1534 = some (.iconst 1, 1) := by decide +kernel
theorem cL_1535 : mc_lawcd 1535 = some (.iadd, 1) := by decide +kernel
theorem cL_1536 : mc_lawcd 1536 = some (.iaload, 1) := by decide +kernel
theorem cL_1537 : mc_lawcd 1537 = some (.i2l, 1) := by decide +kernel
theorem cL_1538 : mc_lawcd 1538 = some (.bipush 32, 2) := by decide +kernel
theorem cL_1540 : mc_lawcd 1540 = some (.lshl, 1) := by decide +kernel
theorem cL_1541 : mc_lawcd 1541 = some (.aload_n 0, 1) := by decide +kernel
theorem cL_1542 : mc_lawcd 1542 = some (.iload 4, 2) := by decide +kernel
theorem cL_1544 : mc_lawcd 1544 = some (.iconst 2, 1) := by decide +kernel
theorem cL_1545 : mc_lawcd 1545 = some (.iadd, 1) := by decide +kernel
theorem cL_1546 : mc_lawcd 1546 = some (.iaload, 1) := by decide +kernel
theorem cL_1547 : mc_lawcd 1547 = some (.i2l, 1) := by decide +kernel
theorem cL_1548 : mc_lawcd 1548 = some (.ldc2_w 213, 3) := by decide +kernel
theorem cL_1551 : mc_lawcd 1551 = some (.land, 1) := by decide +kernel
theorem cL_1552 : mc_lawcd 1552 = some (.lor, 1) := by decide +kernel
theorem cL_1553 : mc_lawcd 1553 = some (.invokevirtual 215, 3) := by decide +kernel
theorem cL_1556 : mc_lawcd 1556 = some (.pop, 1) := by decide +kernel
theorem cL_1557 : mc_lawcd 1557 = some (.aload_n 2, 1) := by decide +kernel
theorem cL_1558 : mc_lawcd 1558 = some (.aload_n 0, 1) := by decide +kernel
theorem cL_1559 : mc_lawcd 1559 = some (.iload 4, 2) := by decide +kernel
theorem cL_1561 : mc_lawcd 1561 = some (.iconst 1, 1) := by decide +kernel
theorem cL_1562 : mc_lawcd 1562 = some (.iadd, 1) := by decide +kernel
theorem cL_1563 : mc_lawcd 1563 = some (.iaload, 1) := by decide +kernel
theorem cL_1564 : mc_lawcd 1564 = some (.i2l, 1) := by decide +kernel
theorem cL_1565 : mc_lawcd 1565 = some (.bipush 32, 2) := by decide +kernel
theorem cL_1567 : mc_lawcd 1567 = some (.lshl, 1) := by decide +kernel
theorem cL_1568 : mc_lawcd 1568 = some (.aload_n 0, 1) := by decide +kernel
theorem cL_1569 : mc_lawcd 1569 = some (.iload 4, 2) := by decide +kernel
theorem cL_1571 : mc_lawcd 1571 = some (.iconst 2, 1) := by decide +kernel
theorem cL_1572 : mc_lawcd 1572 = some (.iadd, 1) := by decide +kernel
theorem cL_1573 : mc_lawcd 1573 = some (.iaload, 1) := by decide +kernel
theorem cL_1574 : mc_lawcd 1574 = some (.i2l, 1) := by decide +kernel
theorem cL_1575 : mc_lawcd 1575 = some (.ldc2_w 213, 3) := by decide +kernel
theorem cL_1578 : mc_lawcd 1578 = some (.land, 1) := by decide +kernel
theorem cL_1579 : mc_lawcd 1579 = some (.lor, 1) := by decide +kernel
theorem cL_1580 : mc_lawcd 1580 = some (.invokevirtual 219, 3) := by decide +kernel
theorem cL_1583 : mc_lawcd 1583 = some (.pop, 1) := by decide +kernel
theorem cL_1584 : mc_lawcd 1584 = some (.goto 97, 3) := by decide +kernel
theorem cL_1587 : mc_lawcd 1587 = some (.aload_n 1, 1) := by decide +kernel
theorem cL_1588 : mc_lawcd 1588 = some (.aload_n 0, 1) := by decide +kernel
theorem cL_1589 : mc_lawcd 1589 = some (.iload 4, 2) := by decide +kernel
theorem cL_1591 : mc_lawcd 1591 = some (.iconst 1, 1) := by decide +kernel
theorem cL_1592 : mc_lawcd 1592 = some (.iadd, 1) := by decide +kernel
theorem cL_1593 : mc_lawcd 1593 = some (.iaload, 1) := by decide +kernel
theorem cL_1594 : mc_lawcd 1594 = some (.aload_n 3, 1) := by decide +kernel
theorem cL_1598 : mc_lawcd 1598 = some (.istore 5, 2) := by decide +kernel
theorem cL_1600 : mc_lawcd 1600 = some (.aload_n 2, 1) := by decide +kernel
theorem cL_1601 : mc_lawcd 1601 = some (.aload_n 0, 1) := by decide +kernel
theorem cL_1602 : mc_lawcd 1602 = some (.iload 4, 2) := by decide +kernel
theorem cL_1604 : mc_lawcd 1604 = some (.iconst 1, 1) := by decide +kernel
theorem cL_1605 : mc_lawcd 1605 = some (.iadd, 1) := by decide +kernel
theorem cL_1606 : mc_lawcd 1606 = some (.iaload, 1) := by decide +kernel
theorem cL_1607 : mc_lawcd 1607 = some (.invokevirtual 225, 3) := by decide +kernel
theorem cL_1610 : mc_lawcd 1610 = some (.istore 6, 2) := by decide +kernel
theorem cL_1612 : mc_lawcd 1612 = some (.aload_n 2, 1) := by decide +kernel
theorem cL_1613 : mc_lawcd 1613 = some (.invokevirtual 226, 3) := by decide +kernel
theorem cL_1616 : mc_lawcd 1616 = some (.iload 5, 2) := by decide +kernel
theorem cL_1618 : mc_lawcd 1618 = some (.if_icmp .eq 5, 3) := by decide +kernel
theorem cL_1621 : mc_lawcd 1621 = some (.iconst 0, 1) := by decide +kernel
theorem cL_1623 : mc_lawcd 1623 = some (.iload 5, 2) := by decide +kernel
theorem cL_1625 : mc_lawcd 1625 = some (.ifCond .ne 15, 3) := by decide +kernel
theorem cL_1628 : mc_lawcd 1628 = some (.aload_n 3, 1) := by decide +kernel
theorem cL_1629 : mc_lawcd 1629 = some (.iconst 0, 1) := by decide +kernel
theorem cL_1630 : mc_lawcd 1630 = some (.laload, 1) := by decide +kernel
theorem cL_1631 : mc_lawcd 1631 = some (.iload 6, 2) := by decide +kernel
theorem cL_1633 : mc_lawcd 1633 = some (.i2l, 1) := by decide +kernel
theorem cL_1634 : mc_lawcd 1634 = some (.lcmp, 1) := by decide +kernel
theorem cL_1635 : mc_lawcd 1635 = some (.ifCond .eq 5, 3) := by decide +kernel
theorem cL_1638 : mc_lawcd 1638 = some (.iconst 0, 1) := by decide +kernel
theorem cL_1640 : mc_lawcd 1640 = some (.goto 41, 3) := by decide +kernel
theorem cL_1643 : mc_lawcd 1643 = some (.aload_n 1, 1) := by decide +kernel
theorem cL_1644 : mc_lawcd 1644 = some (.aload_n 0, 1) := by decide +kernel
theorem cL_1645 : mc_lawcd 1645 = some (.iload 4, 2) := by decide +kernel
theorem cL_1647 : mc_lawcd 1647 = some (.iconst 1, 1) := by decide +kernel
theorem cL_1648 : mc_lawcd 1648 = some (.iadd, 1) := by decide +kernel
theorem cL_1649 : mc_lawcd 1649 = some (.iaload, 1) := by decide +kernel
theorem cL_1650 : mc_lawcd 1650 = some (.invokevirtual 229, 3) := by decide +kernel
theorem cL_1653 : mc_lawcd 1653 = some (.pop, 1) := by decide +kernel
theorem cL_1654 : mc_lawcd 1654 = some (.aload_n 2, 1) := by decide +kernel
theorem cL_1655 : mc_lawcd 1655 = some (.aload_n 0, 1) := by decide +kernel
theorem cL_1656 : mc_lawcd 1656 = some (.iload 4, 2) := by decide +kernel
theorem cL_1658 : mc_lawcd 1658 = some (.iconst 1, 1) := by decide +kernel
theorem cL_1659 : mc_lawcd 1659 = some (.iadd, 1) := by decide +kernel
theorem cL_1660 : mc_lawcd 1660 = some (.iaload, 1) := by decide +kernel
theorem cL_1661 : mc_lawcd 1661 = some (.invokevirtual 232, 3) := by decide +kernel
theorem cL_1664 : mc_lawcd 1664 = some (.pop, 1) := by decide +kernel
theorem cL_1665 : mc_lawcd 1665 = some (.goto 16, 3) := by decide +kernel
theorem cL_1668 : mc_lawcd 1668 = some (.aload_n 1, 1) := by decide +kernel
theorem cL_1669 : mc_lawcd 1669 = some (.invokevirtual 233, 3) := by decide +kernel
theorem cL_1672 : mc_lawcd 1672 = some (.pop, 1) := by decide +kernel
theorem cL_1673 : mc_lawcd 1673 = some (.aload_n 2, 1) := by decide +kernel
theorem cL_1674 : mc_lawcd 1674 = some (.invokevirtual 236, 3) := by decide +kernel
theorem cL_1677 : mc_lawcd 1677 = some (.pop, 1) := by decide +kernel
theorem cL_1678 : mc_lawcd 1678 = some (.goto 3, 3) := by decide +kernel
theorem cL_1681 : mc_lawcd 1681 = some (.iinc 4 6, 3) := by decide +kernel
theorem cL_1684 : mc_lawcd 1684 = some (.goto (-1661), 3) := by decide +kernel
theorem cL_1687 : mc_lawcd 1687 = some (.iconst 1, 1) := by decide +kernel
theorem cL_1688 : mc_lawcd 1688 = some (.ireturn, 1) := by decide +kernel
set_option maxHeartbeats 4000000 in
theorem wl_c0 {kt : Nat → Option mc_E} {CB SB : Nat} {X : mc_S → Prop} {T : wq_T} {H : wq_H} {Len x m o : Nat} {i : Int} (hX : wlX kt CB SB X) (hb : T.2.1 ≤ CB ∧ T.2.2.1 ≤ SB) (hI : wlJ Len x m o T H) (hL : Len ≤ 3072) (hi : 0 ≤ i ∧ i + 6 ≤ Len) (hb2 : T.2.1 + 20 ≤ CB ∧ T.2.2.1 + 500 ≤ SB)  (next : ∀ T' H', wlJ Len x m o T' H' → T'.2.1 ≤ T.2.1 + 20 → T'.2.2.1 ≤ T.2.2.1 + 500 → WL kt CB SB X 1681 (wlL i x m o) [] T' H') : WL kt CB SB X 256 (wlL i x m o) [] T H := by
  obtain ⟨⟨hW, g0, gx, gm, go, hK, hr⟩, hXI, hY1, hY2⟩ := hI
  refine wl_of hX hb cL_256 (rw_aload_n (pc' := 257) (v := .ref x) rfl rfl rfl ?_)
  refine wl_of hX hb cL_257 (rw_aload_n (pc' := 258) (v := .ref 0) rfl rfl rfl ?_)
  refine wl_of hX hb cL_258 (rw_iload (pc' := 260) (z := i) rfl rfl ?_)
  refine wl_of hX hb cL_260 (rw_iconst (pc' := 261) rfl ?_)
  refine wl_of hX hb cL_261 (rw_iadd (pc' := 262) rfl ?_)
  refine wl_of hX hb cL_262 (xa_I (so := 0) (pc' := 263) (a := 0) hW g0 (wsh_s _) (by omega) (wty_s _ _) (by omega) (by omega) rfl (fun b1005 b1006 => ?_))
  refine wl_of hX hb cL_263 (rw_aload_n (pc' := 264) (v := .ref 0) rfl rfl rfl ?_)
  refine wl_of hX hb cL_264 (rw_iload (pc' := 266) (z := i) rfl rfl ?_)
  refine wl_of hX hb cL_266 (rw_iconst (pc' := 267) rfl ?_)
  refine wl_of hX hb cL_267 (rw_iadd (pc' := 268) rfl ?_)
  refine wl_of hX hb cL_268 (xa_I (so := 0) (pc' := 269) (a := 0) hW g0 (wsh_s _) (by omega) (wty_s _ _) (by omega) (by omega) rfl (fun b1007 b1008 => ?_))
  refine wl_of hX hb cL_269 (rw_aload_n (pc' := 270) (v := .ref 0) rfl rfl rfl ?_)
  refine wl_of hX hb cL_270 (rw_iload (pc' := 272) (z := i) rfl rfl ?_)
  refine wl_of hX hb cL_272 (rw_iconst (pc' := 273) rfl ?_)
  refine wl_of hX hb cL_273 (rw_iadd (pc' := 274) rfl ?_)
  refine wl_of hX hb cL_274 (xa_I (so := 0) (pc' := 275) (a := 0) hW g0 (wsh_s _) (by omega) (wty_s _ _) (by omega) (by omega) rfl (fun b1009 b1010 => ?_))
  refine wl_of hX hb cL_275 (rw_aload_n (pc' := 276) (v := .ref 0) rfl rfl rfl ?_)
  refine wl_of hX hb cL_276 (rw_iload (pc' := 278) (z := i) rfl rfl ?_)
  refine wl_of hX hb cL_278 (rw_iconst (pc' := 279) rfl ?_)
  refine wl_of hX hb cL_279 (rw_iadd (pc' := 280) rfl ?_)
  refine wl_of hX hb cL_280 (xa_I (so := 0) (pc' := 281) (a := 0) hW g0 (wsh_s _) (by omega) (wty_s _ _) (by omega) (by omega) rfl (fun b1011 b1012 => ?_))
  refine wl_of hX hb cL_281 (rw_aload_n (pc' := 282) (v := .ref 0) rfl rfl rfl ?_)
  refine wl_of hX hb cL_282 (rw_iload (pc' := 284) (z := i) rfl rfl ?_)
  refine wl_of hX hb cL_284 (rw_iconst (pc' := 285) rfl ?_)
  refine wl_of hX hb cL_285 (rw_iadd (pc' := 286) rfl ?_)
  refine wl_of hX hb cL_286 (xa_I (so := 0) (pc' := 287) (a := 0) hW g0 (wsh_s _) (by omega) (wty_s _ _) (by omega) (by omega) rfl (fun b1013 b1014 => ?_))
  obtain ⟨B, tc, tm, cu, dr, C8, e8, d8, n8, e0, gtc, htc, em, gtm, htm, ecu, gcu, edr, gdr, hcu, hdr, hdec, hded, hsp, hC1, hC2, hcu8, hrb8, hE, hZ, hn8, -⟩ := hXI
  have hN3 := RB_n3 hrb8
  have hE13 : ∀ h : Nat, h < 24 → 0 ≤ e8 13 h ∧ e8 13 h ≤ 100 := fun k hk => by
    obtain ⟨s, h1, h2, h3⟩ := hcu8.1.2.2.1
    exact ⟨(h3 k hk).1, (h3 k hk).2.1⟩
  have hE0 : e8 0 3 = d8 0 3 ∧ e8 0 0 = d8 0 0 := by
    have h := hE 0 (by decide)
    exact ⟨congrFun h 3, congrFun h 0⟩
  have u1015 := CU_k hcu8
  obtain ⟨t9, ht9⟩ : ∃ t : Int, t = H x 9 := ⟨_, rfl⟩
  obtain ⟨y9, hy9⟩ : ∃ y : Int, y = H 0 ((i + 5).toNat) := ⟨_, rfl⟩
  obtain ⟨d1, hd1⟩ : ∃ y : Int, y = H 0 ((i + 1).toNat) := ⟨_, rfl⟩
  obtain ⟨d2, hd2⟩ : ∃ y : Int, y = H 0 ((i + 2).toNat) := ⟨_, rfl⟩
  obtain ⟨d3, hd3⟩ : ∃ y : Int, y = H 0 ((i + 3).toNat) := ⟨_, rfl⟩
  obtain ⟨d4, hd4⟩ : ∃ y : Int, y = H 0 ((i + 4).toNat) := ⟨_, rfl⟩
  obtain ⟨d5, hd5⟩ : ∃ y : Int, y = H 0 ((i + 5).toNat) := ⟨_, rfl⟩
  refine wl_of hX hb cL_287 (xc_V (pc' := 290) (r := x) (as := [vI (H 0 ((i + 1).toNat)), vI (H 0 ((i + 2).toNat)), vI (H 0 ((i + 3).toNat)), vI (H 0 ((i + 4).toNat)), vI (H 0 ((i + 5).toNat))]) (st := []) (lm_11_19) rfl rfl (Nat.le_of_ble_eq_true rfl) hW gx sh_1 (by decide) rfl (by decide) (u_9 (B := B) (t := t9) (b1 := d1) (b2 := d2) (b3 := d3) (b4 := d4) (b5 := d5) hW gx ⟨by omega, by omega⟩ ⟨by omega, by omega⟩ ⟨by omega, by omega⟩ ⟨by omega, by omega⟩ ⟨by omega, by omega⟩ e0 gtc (by omega) (by omega) (by omega) (by omega) (by omega) (by omega) htc) (fun R1016 T1017 H1018 p1019 => ?_))
  obtain ⟨e1020, w1022, f1023, z1024, e1021, b1025, p1026⟩ := p1019
  subst e1020
  subst e1021
  rcases p1026 with ⟨a1027, a1028, a1029, a1030⟩ | ⟨a1031, a1032, a1033, a1034, a1035⟩
  · show WL _ _ _ _ 290 [(4, vI i), (3, .ref o), (2, .ref m), (1, .ref x), (0, .ref 0)] [vI z1024] _ H1018
    refine wl_of hX hb cL_290 (rw_pop (pc' := 291) rfl rfl ?_)
    refine wl_of hX hb cL_291 (rw_aload_n (pc' := 292) (v := .ref m) rfl rfl rfl ?_)
    refine wl_of hX hb cL_292 (rw_aload_n (pc' := 293) (v := .ref 0) rfl rfl rfl ?_)
    refine wl_of hX hb cL_293 (rw_iload (pc' := 295) (z := i) rfl rfl ?_)
    refine wl_of hX hb cL_295 (rw_iconst (pc' := 296) rfl ?_)
    refine wl_of hX hb cL_296 (rw_iadd (pc' := 297) rfl ?_)
    have k1038 : H1018 0 ((i + 1).toNat) = H 0 ((i + 1).toNat) := (f1023 0 ((i + 1).toNat) _ g0 (wmem_s rfl))
    refine wl_of hX hb cL_297 (xa_I (so := 0) (pc' := 298) (a := 0) w1022 g0 (wsh_s _) (by omega) (wty_s _ _) (by omega) (by omega) rfl (fun b1036 b1037 => ?_))
    refine wl_of hX hb cL_298 (rw_aload_n (pc' := 299) (v := .ref 0) rfl rfl rfl ?_)
    refine wl_of hX hb cL_299 (rw_iload (pc' := 301) (z := i) rfl rfl ?_)
    refine wl_of hX hb cL_301 (rw_iconst (pc' := 302) rfl ?_)
    refine wl_of hX hb cL_302 (rw_iadd (pc' := 303) rfl ?_)
    have k1041 : H1018 0 ((i + 2).toNat) = H 0 ((i + 2).toNat) := (f1023 0 ((i + 2).toNat) _ g0 (wmem_s rfl))
    refine wl_of hX hb cL_303 (xa_I (so := 0) (pc' := 304) (a := 0) w1022 g0 (wsh_s _) (by omega) (wty_s _ _) (by omega) (by omega) rfl (fun b1039 b1040 => ?_))
    refine wl_of hX hb cL_304 (rw_aload_n (pc' := 305) (v := .ref 0) rfl rfl rfl ?_)
    refine wl_of hX hb cL_305 (rw_iload (pc' := 307) (z := i) rfl rfl ?_)
    refine wl_of hX hb cL_307 (rw_iconst (pc' := 308) rfl ?_)
    refine wl_of hX hb cL_308 (rw_iadd (pc' := 309) rfl ?_)
    have k1044 : H1018 0 ((i + 3).toNat) = H 0 ((i + 3).toNat) := (f1023 0 ((i + 3).toNat) _ g0 (wmem_s rfl))
    refine wl_of hX hb cL_309 (xa_I (so := 0) (pc' := 310) (a := 0) w1022 g0 (wsh_s _) (by omega) (wty_s _ _) (by omega) (by omega) rfl (fun b1042 b1043 => ?_))
    refine wl_of hX hb cL_310 (rw_aload_n (pc' := 311) (v := .ref 0) rfl rfl rfl ?_)
    refine wl_of hX hb cL_311 (rw_iload (pc' := 313) (z := i) rfl rfl ?_)
    refine wl_of hX hb cL_313 (rw_iconst (pc' := 314) rfl ?_)
    refine wl_of hX hb cL_314 (rw_iadd (pc' := 315) rfl ?_)
    have k1047 : H1018 0 ((i + 4).toNat) = H 0 ((i + 4).toNat) := (f1023 0 ((i + 4).toNat) _ g0 (wmem_s rfl))
    refine wl_of hX hb cL_315 (xa_I (so := 0) (pc' := 316) (a := 0) w1022 g0 (wsh_s _) (by omega) (wty_s _ _) (by omega) (by omega) rfl (fun b1045 b1046 => ?_))
    refine wl_of hX hb cL_316 (rw_aload_n (pc' := 317) (v := .ref 0) rfl rfl rfl ?_)
    refine wl_of hX hb cL_317 (rw_iload (pc' := 319) (z := i) rfl rfl ?_)
    refine wl_of hX hb cL_319 (rw_iconst (pc' := 320) rfl ?_)
    refine wl_of hX hb cL_320 (rw_iadd (pc' := 321) rfl ?_)
    have k1050 : H1018 0 ((i + 5).toNat) = H 0 ((i + 5).toNat) := (f1023 0 ((i + 5).toNat) _ g0 (wmem_s rfl))
    refine wl_of hX hb cL_321 (xa_I (so := 0) (pc' := 322) (a := 0) w1022 g0 (wsh_s _) (by omega) (wty_s _ _) (by omega) (by omega) rfl (fun b1048 b1049 => ?_))
    have k1051 : wKI H1018 m = wKI H m := (wKI_fr hW gm f1023 rfl)
    have k1052 : H1018 m 6 = H m 6 := (f1023 m 6 _ gm rfl)
    have k1053 : H1018 x 11 = H x 11 := (f1023 x 11 _ gx rfl)
    have k1054 : H1018 m 13 = H m 13 := (f1023 m 13 _ gm rfl)
    have k1055 : H1018 x 8 = H x 8 := (f1023 x 8 _ gx rfl)
    have k1056 : H1018 m 3 = H m 3 := (f1023 m 3 _ gm rfl)
    have k1057 : H1018 m 5 = H m 5 := (f1023 m 5 _ gm rfl)
    have q1058 : H1018 m 5 = (tm : Int) := k1057.trans em
    have h1059 : TM T H1018 tm B := (TM_fr hW gtm f1023 rfl htm)
    refine wl_of hX hb cL_322 (xc_V (pc' := 325) (r := m) (as := [vI (H1018 0 ((i + 1).toNat)), vI (H1018 0 ((i + 2).toNat)), vI (H1018 0 ((i + 3).toNat)), vI (H1018 0 ((i + 4).toNat)), vI (H1018 0 ((i + 5).toNat))]) (st := []) (lm_11_23) rfl rfl (Nat.le_of_ble_eq_true rfl) w1022 gm sh_42 (by decide) rfl (by decide) (u_168 (B := B) (t := t9) (b1 := d1) (b2 := d2) (b3 := d3) (b4 := d4) (b5 := d5) w1022 gm ⟨by omega, by omega⟩ ⟨by omega, by omega⟩ ⟨by omega, by omega⟩ ⟨by omega, by omega⟩ ⟨by omega, by omega⟩ q1058 gtm (by omega) (by omega) (by omega) (by omega) (by omega) (by omega) h1059) (fun R1060 T1061 H1062 p1063 => ?_))
    obtain ⟨e1064, w1066, f1067, z1068, e1065, b1069, p1070⟩ := p1063
    subst e1064
    subst e1065
    rcases p1070 with ⟨a1071, a1072, a1073, a1074⟩ | ⟨a1075, a1076, a1077, a1078, a1079⟩
    · show WL _ _ _ _ 325 [(4, vI i), (3, .ref o), (2, .ref m), (1, .ref x), (0, .ref 0)] [vI z1068] _ H1062
      refine wl_of hX hb cL_325 (rw_pop (pc' := 326) rfl rfl ?_)
      refine wl_of hX hb cL_326 (rw_goto (p1 := 1681) (by decide) ?_)
      have k1080 : wKI H1062 m = wKI H1018 m := (wKI_fr w1022 gm f1067 rfl)
      have k1081 : H1062 x 9 = H1018 x 9 := (f1067 x 9 _ gx rfl)
      have k1082 : H1062 x 11 = H1018 x 11 := (f1067 x 11 _ gx rfl)
      have k1083 : H1062 m 13 = H1018 m 13 := (f1067 m 13 _ gm rfl)
      have k1084 : H1062 x 8 = H1018 x 8 := (f1067 x 8 _ gx rfl)
      have k1085 : H1062 m 3 = H1018 m 3 := (f1067 m 3 _ gm rfl)
      have k1086 : H1062 x 0 = H x 0 := ((f1067 x 0 _ gx rfl).trans (f1023 x 0 _ gx rfl))
      have q1087 : H1062 x 0 = (tc : Int) := k1086.trans e0
      have k1088 : H1062 m 5 = H1018 m 5 := (f1067 m 5 _ gm rfl)
      have q1089 : H1062 m 5 = (tm : Int) := k1088.trans q1058
      have k1090 : H1062 x 6 = H x 6 := ((f1067 x 6 _ gx rfl).trans (f1023 x 6 _ gx rfl))
      have q1091 : H1062 x 6 = (cu : Int) := k1090.trans ecu
      have k1092 : H1062 x 7 = H x 7 := ((f1067 x 7 _ gx rfl).trans (f1023 x 7 _ gx rfl))
      have q1093 : H1062 x 7 = (dr : Int) := k1092.trans edr
      have h1094 : TP T H1062 tc B := (TP_fr w1022 gtc f1067 rfl a1030)
      have h1095 : DD T H1062 cu  := (DD_fr w1022 gcu f1067 rfl (DD_fr hW gcu f1023 rfl hcu))
      have h1096 : DD T H1062 dr  := (DD_fr w1022 gdr f1067 rfl (DD_fr hW gdr f1023 rfl hdr))
      have h1097 : DE T H1062 cu  := (DE_fr w1022 gcu f1067 rfl (DE_fr hW gcu f1023 rfl hdec))
      have h1098 : DE T H1062 dr  := (DE_fr w1022 gdr f1067 rfl (DE_fr hW gdr f1023 rfl hded))
      have h1099 : SP T H1062 x C8 := (SP_fr w1022 gx f1067 rfl (SP_fr hW gx f1023 rfl hsp))
      have h1100 : CU T H1062 cu e8 d8 n8 := (CU_fr w1022 gcu f1067 rfl (CU_fr hW gcu f1023 rfl hcu8))
      have h1101 : RB T H1062 m e8 d8 := (RB_fr w1022 gm f1067 rfl (RB_fr hW gm f1023 rfl hrb8))
      exact WL.loc hX (by simp) (next T H1062 ⟨⟨w1066, g0, gx, gm, go, by omega, by omega⟩, ⟨_, tc, tm, cu, dr, _, _, _, _, q1087, gtc, h1094, q1089, gtm, a1074, q1091, gcu, q1093, gdr, h1095, h1096, h1097, h1098, h1099, hC1, hC2, h1100, h1101, hE, hZ, (by omega), gm⟩, by omega, by omega⟩ (by omega) (by omega))
    · exfalso
      omega
  · show WL _ _ _ _ 290 [(4, vI i), (3, .ref o), (2, .ref m), (1, .ref x), (0, .ref 0)] [vI z1024] _ H1018
    refine wl_of hX hb cL_290 (rw_pop (pc' := 291) rfl rfl ?_)
    refine wl_of hX hb cL_291 (rw_aload_n (pc' := 292) (v := .ref m) rfl rfl rfl ?_)
    refine wl_of hX hb cL_292 (rw_aload_n (pc' := 293) (v := .ref 0) rfl rfl rfl ?_)
    refine wl_of hX hb cL_293 (rw_iload (pc' := 295) (z := i) rfl rfl ?_)
    refine wl_of hX hb cL_295 (rw_iconst (pc' := 296) rfl ?_)
    refine wl_of hX hb cL_296 (rw_iadd (pc' := 297) rfl ?_)
    have k1104 : H1018 0 ((i + 1).toNat) = H 0 ((i + 1).toNat) := (f1023 0 ((i + 1).toNat) _ g0 (wmem_s rfl))
    refine wl_of hX hb cL_297 (xa_I (so := 0) (pc' := 298) (a := 0) w1022 g0 (wsh_s _) (by omega) (wty_s _ _) (by omega) (by omega) rfl (fun b1102 b1103 => ?_))
    refine wl_of hX hb cL_298 (rw_aload_n (pc' := 299) (v := .ref 0) rfl rfl rfl ?_)
    refine wl_of hX hb cL_299 (rw_iload (pc' := 301) (z := i) rfl rfl ?_)
    refine wl_of hX hb cL_301 (rw_iconst (pc' := 302) rfl ?_)
    refine wl_of hX hb cL_302 (rw_iadd (pc' := 303) rfl ?_)
    have k1107 : H1018 0 ((i + 2).toNat) = H 0 ((i + 2).toNat) := (f1023 0 ((i + 2).toNat) _ g0 (wmem_s rfl))
    refine wl_of hX hb cL_303 (xa_I (so := 0) (pc' := 304) (a := 0) w1022 g0 (wsh_s _) (by omega) (wty_s _ _) (by omega) (by omega) rfl (fun b1105 b1106 => ?_))
    refine wl_of hX hb cL_304 (rw_aload_n (pc' := 305) (v := .ref 0) rfl rfl rfl ?_)
    refine wl_of hX hb cL_305 (rw_iload (pc' := 307) (z := i) rfl rfl ?_)
    refine wl_of hX hb cL_307 (rw_iconst (pc' := 308) rfl ?_)
    refine wl_of hX hb cL_308 (rw_iadd (pc' := 309) rfl ?_)
    have k1110 : H1018 0 ((i + 3).toNat) = H 0 ((i + 3).toNat) := (f1023 0 ((i + 3).toNat) _ g0 (wmem_s rfl))
    refine wl_of hX hb cL_309 (xa_I (so := 0) (pc' := 310) (a := 0) w1022 g0 (wsh_s _) (by omega) (wty_s _ _) (by omega) (by omega) rfl (fun b1108 b1109 => ?_))
    refine wl_of hX hb cL_310 (rw_aload_n (pc' := 311) (v := .ref 0) rfl rfl rfl ?_)
    refine wl_of hX hb cL_311 (rw_iload (pc' := 313) (z := i) rfl rfl ?_)
    refine wl_of hX hb cL_313 (rw_iconst (pc' := 314) rfl ?_)
    refine wl_of hX hb cL_314 (rw_iadd (pc' := 315) rfl ?_)
    have k1113 : H1018 0 ((i + 4).toNat) = H 0 ((i + 4).toNat) := (f1023 0 ((i + 4).toNat) _ g0 (wmem_s rfl))
    refine wl_of hX hb cL_315 (xa_I (so := 0) (pc' := 316) (a := 0) w1022 g0 (wsh_s _) (by omega) (wty_s _ _) (by omega) (by omega) rfl (fun b1111 b1112 => ?_))
    refine wl_of hX hb cL_316 (rw_aload_n (pc' := 317) (v := .ref 0) rfl rfl rfl ?_)
    refine wl_of hX hb cL_317 (rw_iload (pc' := 319) (z := i) rfl rfl ?_)
    refine wl_of hX hb cL_319 (rw_iconst (pc' := 320) rfl ?_)
    refine wl_of hX hb cL_320 (rw_iadd (pc' := 321) rfl ?_)
    have k1116 : H1018 0 ((i + 5).toNat) = H 0 ((i + 5).toNat) := (f1023 0 ((i + 5).toNat) _ g0 (wmem_s rfl))
    refine wl_of hX hb cL_321 (xa_I (so := 0) (pc' := 322) (a := 0) w1022 g0 (wsh_s _) (by omega) (wty_s _ _) (by omega) (by omega) rfl (fun b1114 b1115 => ?_))
    have k1117 : wKI H1018 m = wKI H m := (wKI_fr hW gm f1023 rfl)
    have k1118 : H1018 m 6 = H m 6 := (f1023 m 6 _ gm rfl)
    have k1119 : H1018 x 11 = H x 11 := (f1023 x 11 _ gx rfl)
    have k1120 : H1018 m 13 = H m 13 := (f1023 m 13 _ gm rfl)
    have k1121 : H1018 x 8 = H x 8 := (f1023 x 8 _ gx rfl)
    have k1122 : H1018 m 3 = H m 3 := (f1023 m 3 _ gm rfl)
    have k1123 : H1018 m 5 = H m 5 := (f1023 m 5 _ gm rfl)
    have q1124 : H1018 m 5 = (tm : Int) := k1123.trans em
    have h1125 : TM T H1018 tm B := (TM_fr hW gtm f1023 rfl htm)
    refine wl_of hX hb cL_322 (xc_V (pc' := 325) (r := m) (as := [vI (H1018 0 ((i + 1).toNat)), vI (H1018 0 ((i + 2).toNat)), vI (H1018 0 ((i + 3).toNat)), vI (H1018 0 ((i + 4).toNat)), vI (H1018 0 ((i + 5).toNat))]) (st := []) (lm_11_23) rfl rfl (Nat.le_of_ble_eq_true rfl) w1022 gm sh_42 (by decide) rfl (by decide) (u_168 (B := B) (t := t9) (b1 := d1) (b2 := d2) (b3 := d3) (b4 := d4) (b5 := d5) w1022 gm ⟨by omega, by omega⟩ ⟨by omega, by omega⟩ ⟨by omega, by omega⟩ ⟨by omega, by omega⟩ ⟨by omega, by omega⟩ q1124 gtm (by omega) (by omega) (by omega) (by omega) (by omega) (by omega) h1125) (fun R1126 T1127 H1128 p1129 => ?_))
    obtain ⟨e1130, w1132, f1133, z1134, e1131, b1135, p1136⟩ := p1129
    subst e1130
    subst e1131
    rcases p1136 with ⟨a1137, a1138, a1139, a1140⟩ | ⟨a1141, a1142, a1143, a1144, a1145⟩
    · exfalso
      omega
    · show WL _ _ _ _ 325 [(4, vI i), (3, .ref o), (2, .ref m), (1, .ref x), (0, .ref 0)] [vI z1134] _ H1128
      refine wl_of hX hb cL_325 (rw_pop (pc' := 326) rfl rfl ?_)
      refine wl_of hX hb cL_326 (rw_goto (p1 := 1681) (by decide) ?_)
      have k1146 : wKI H1128 m = wKI H1018 m := (wKI_fr w1022 gm f1133 rfl)
      have k1147 : H1128 x 9 = H1018 x 9 := (f1133 x 9 _ gx rfl)
      have k1148 : H1128 x 11 = H1018 x 11 := (f1133 x 11 _ gx rfl)
      have k1149 : H1128 m 13 = H1018 m 13 := (f1133 m 13 _ gm rfl)
      have k1150 : H1128 x 8 = H1018 x 8 := (f1133 x 8 _ gx rfl)
      have k1151 : H1128 m 3 = H1018 m 3 := (f1133 m 3 _ gm rfl)
      have k1152 : H1128 x 0 = H x 0 := ((f1133 x 0 _ gx rfl).trans (f1023 x 0 _ gx rfl))
      have q1153 : H1128 x 0 = (tc : Int) := k1152.trans e0
      have k1154 : H1128 m 5 = H1018 m 5 := (f1133 m 5 _ gm rfl)
      have q1155 : H1128 m 5 = (tm : Int) := k1154.trans q1124
      have k1156 : H1128 x 6 = H x 6 := ((f1133 x 6 _ gx rfl).trans (f1023 x 6 _ gx rfl))
      have q1157 : H1128 x 6 = (cu : Int) := k1156.trans ecu
      have k1158 : H1128 x 7 = H x 7 := ((f1133 x 7 _ gx rfl).trans (f1023 x 7 _ gx rfl))
      have q1159 : H1128 x 7 = (dr : Int) := k1158.trans edr
      have h1160 : TP T H1128 tc (xfk B t9 d1 d2 d3 d4 d5 20) := (TP_fr w1022 gtc f1133 rfl a1035)
      have h1161 : DD T H1128 cu  := (DD_fr w1022 gcu f1133 rfl (DD_fr hW gcu f1023 rfl hcu))
      have h1162 : DD T H1128 dr  := (DD_fr w1022 gdr f1133 rfl (DD_fr hW gdr f1023 rfl hdr))
      have h1163 : DE T H1128 cu  := (DE_fr w1022 gcu f1133 rfl (DE_fr hW gcu f1023 rfl hdec))
      have h1164 : DE T H1128 dr  := (DE_fr w1022 gdr f1133 rfl (DE_fr hW gdr f1023 rfl hded))
      have h1165 : SP T H1128 x C8 := (SP_fr w1022 gx f1133 rfl (SP_fr hW gx f1023 rfl hsp))
      have h1166 : CU T H1128 cu e8 d8 n8 := (CU_fr w1022 gcu f1133 rfl (CU_fr hW gcu f1023 rfl hcu8))
      have h1167 : RB T H1128 m e8 d8 := (RB_fr w1022 gm f1133 rfl (RB_fr hW gm f1023 rfl hrb8))
      exact WL.loc hX (by simp) (next T H1128 ⟨⟨w1132, g0, gx, gm, go, by omega, by omega⟩, ⟨_, tc, tm, cu, dr, _, _, _, _, q1153, gtc, h1160, q1155, gtm, a1145, q1157, gcu, q1159, gdr, h1161, h1162, h1163, h1164, h1165, hC1, hC2, h1166, h1167, hE, hZ, (by omega), gm⟩, by omega, by omega⟩ (by omega) (by omega))
set_option maxHeartbeats 4000000 in
theorem wl_c1 {kt : Nat → Option mc_E} {CB SB : Nat} {X : mc_S → Prop} {T : wq_T} {H : wq_H} {Len x m o : Nat} {i : Int} (hX : wlX kt CB SB X) (hb : T.2.1 ≤ CB ∧ T.2.2.1 ≤ SB) (hI : wlJ Len x m o T H) (hL : Len ≤ 3072) (hi : 0 ≤ i ∧ i + 6 ≤ Len) (hb2 : T.2.1 + 20 ≤ CB ∧ T.2.2.1 + 500 ≤ SB)  (next : ∀ T' H', wlJ Len x m o T' H' → T'.2.1 ≤ T.2.1 + 20 → T'.2.2.1 ≤ T.2.2.1 + 500 → WL kt CB SB X 1681 (wlL i x m o) [] T' H') : WL kt CB SB X 329 (wlL i x m o) [] T H := by
  obtain ⟨⟨hW, g0, gx, gm, go, hK, hr⟩, hXI, hY1, hY2⟩ := hI
  refine wl_of hX hb cL_329 (rw_aload_n (pc' := 330) (v := .ref x) rfl rfl rfl ?_)
  refine wl_of hX hb cL_330 (rw_aload_n (pc' := 331) (v := .ref 0) rfl rfl rfl ?_)
  refine wl_of hX hb cL_331 (rw_iload (pc' := 333) (z := i) rfl rfl ?_)
  refine wl_of hX hb cL_333 (rw_iconst (pc' := 334) rfl ?_)
  refine wl_of hX hb cL_334 (rw_iadd (pc' := 335) rfl ?_)
  refine wl_of hX hb cL_335 (xa_I (so := 0) (pc' := 336) (a := 0) hW g0 (wsh_s _) (by omega) (wty_s _ _) (by omega) (by omega) rfl (fun b1168 b1169 => ?_))
  obtain ⟨B, tc, tm, cu, dr, C8, e8, d8, n8, e0, gtc, htc, em, gtm, htm, ecu, gcu, edr, gdr, hcu, hdr, hdec, hded, hsp, hC1, hC2, hcu8, hrb8, hE, hZ, hn8, -⟩ := hXI
  have hN3 := RB_n3 hrb8
  have hE13 : ∀ h : Nat, h < 24 → 0 ≤ e8 13 h ∧ e8 13 h ≤ 100 := fun k hk => by
    obtain ⟨s, h1, h2, h3⟩ := hcu8.1.2.2.1
    exact ⟨(h3 k hk).1, (h3 k hk).2.1⟩
  have hE0 : e8 0 3 = d8 0 3 ∧ e8 0 0 = d8 0 0 := by
    have h := hE 0 (by decide)
    exact ⟨congrFun h 3, congrFun h 0⟩
  have u1170 := CU_k hcu8
  obtain ⟨t9, ht9⟩ : ∃ t : Int, t = H x 9 := ⟨_, rfl⟩
  obtain ⟨y9, hy9⟩ : ∃ y : Int, y = H 0 ((i + 1).toNat) := ⟨_, rfl⟩
  have h1171 : CY T H cu 0 (fun _ => 0) (H cu 17) := CY_0
  obtain ⟨r1172, q1173, g1174⟩ := hW.ref gx (t' := 3) (n := 13) (j := 1) (p := 0) (q := 0) rfl (by decide) rfl
  refine wl_of hX hb cL_336 (xc_V (pc' := 339) (r := x) (as := [vI (H 0 ((i + 1).toNat))]) (st := []) (lm_11_24) rfl rfl (Nat.le_of_ble_eq_true rfl) hW gx sh_1 (by decide) rfl (by decide) (u_11 (B := B) (y := y9) (eU := e8) (dU := d8) (nU := n8) (nY := 0) (gY := ((fun _ => 0))) (cY := ((H cu 17))) (C := C8) hW gx ⟨by omega, by omega⟩ e0 gtc q1173 g1174 ecu gcu edr gdr (by omega) (by assumption) (by assumption) (by omega) (by omega) htc hdr hded hcu8 h1171 hsp) (fun R1175 T1176 H1177 p1178 => ?_))
  obtain ⟨e1179, w1181, f1182, z1183, e1180, b1184, p1185⟩ := p1178
  subst e1179
  subst e1180
  rcases p1185 with ⟨a1186, a1187, a1188, a1189, a1190, a1191, a1192, a1193, a1194, a1195, a1196⟩ | ⟨a1197, a1198, a1199, a1200, a1201, a1202, a1203, a1204, a1205, a1206, a1207, a1208, a1209⟩ | ⟨a1210, a1211, a1212, a1213, a1214, a1215, a1216, a1217, a1218, a1219, a1220, a1221, a1222⟩
  · show WL _ _ _ _ 339 [(4, vI i), (3, .ref o), (2, .ref m), (1, .ref x), (0, .ref 0)] [vI z1183] _ H1177
    have u1223 := CU_k a1194
    refine wl_of hX hb cL_339 (rw_pop (pc' := 340) rfl rfl ?_)
    refine wl_of hX hb cL_340 (rw_aload_n (pc' := 341) (v := .ref m) rfl rfl rfl ?_)
    refine wl_of hX hb cL_341 (rw_aload_n (pc' := 342) (v := .ref 0) rfl rfl rfl ?_)
    refine wl_of hX hb cL_342 (rw_iload (pc' := 344) (z := i) rfl rfl ?_)
    refine wl_of hX hb cL_344 (rw_iconst (pc' := 345) rfl ?_)
    refine wl_of hX hb cL_345 (rw_iadd (pc' := 346) rfl ?_)
    have k1226 : H1177 0 ((i + 1).toNat) = H 0 ((i + 1).toNat) := (f1182 0 ((i + 1).toNat) _ g0 (wmem_s rfl))
    refine wl_of hX hb cL_346 (xa_I (so := 0) (pc' := 347) (a := 0) w1181 g0 (wsh_s _) (by omega) (wty_s _ _) (by omega) (by omega) rfl (fun b1224 b1225 => ?_))
    have k1227 : wKI H1177 m = wKI H m := (wKI_fr hW gm f1182 rfl)
    have k1228 : H1177 m 6 = H m 6 := (f1182 m 6 _ gm rfl)
    have k1229 : H1177 m 13 = H m 13 := (f1182 m 13 _ gm rfl)
    have k1230 : H1177 m 3 = H m 3 := (f1182 m 3 _ gm rfl)
    have k1231 : H1177 m 5 = H m 5 := (f1182 m 5 _ gm rfl)
    have q1232 : H1177 m 5 = (tm : Int) := k1231.trans em
    have h1233 : TM T H1177 tm B := (TM_fr hW gtm f1182 rfl htm)
    have h1234 : RB T H1177 m e8 d8 := (RB_fr hW gm f1182 rfl hrb8)
    refine wl_of hX hb cL_347 (xc_V (pc' := 350) (r := m) (as := [vI (H1177 0 ((i + 1).toNat))]) (st := []) lm_11_27 rfl rfl (Nat.le_of_ble_eq_true rfl) w1181 gm sh_42 (by decide) rfl (by decide) (u_169 (B := B) (y := y9) w1181 gm ⟨by omega, by omega⟩ q1232 gtm (by omega) (by omega) h1233) (fun R9 T9 H9 p9 => ?_))
    obtain ⟨mT, nT, zT, w9, f9, z9, e9, b9, pa⟩ := p9
    subst e9
    have k1235 : H9 x 9 = H1177 x 9 := (f9 x 9 _ gx rfl)
    have k1236 : H9 x 11 = H1177 x 11 := (f9 x 11 _ gx rfl)
    have k1237 : H9 x 8 = H1177 x 8 := (f9 x 8 _ gx rfl)
    have k1238 : H9 x 0 = H x 0 := ((f9 x 0 _ gx rfl).trans (f1182 x 0 _ gx rfl))
    have q1239 : H9 x 0 = (tc : Int) := k1238.trans e0
    have k1240 : H9 m 5 = H1177 m 5 := (f9 m 5 _ gm rfl)
    have q1241 : H9 m 5 = (tm : Int) := k1240.trans q1232
    have k1242 : H9 x 6 = H1177 x 6 := (f9 x 6 _ gx rfl)
    have q1243 : H9 x 6 = (cu : Int) := k1242.trans a1190
    have k1244 : H9 x 7 = H1177 x 7 := (f9 x 7 _ gx rfl)
    have q1245 : H9 x 7 = (dr : Int) := k1244.trans a1191
    have h1246 : TP T H9 tc B := (TP_fr w1181 gtc f9 rfl (TP_fr hW gtc f1182 rfl htc))
    have h1247 : TM T H9 tm B := (TM_fr w1181 gtm f9 rfl h1233)
    have h1248 : DD T H9 cu  := (DD_fr w1181 gcu f9 rfl (DD_fr hW gcu f1182 rfl hcu))
    have h1249 : DD T H9 dr  := (DD_fr w1181 gdr f9 rfl (DD_fr hW gdr f1182 rfl hdr))
    have h1250 : DE T H9 cu  := (DE_fr w1181 gcu f9 rfl (DE_fr hW gcu f1182 rfl hdec))
    have h1251 : DE T H9 dr  := (DE_fr w1181 gdr f9 rfl (DE_fr hW gdr f1182 rfl hded))
    have h1252 : SP T H9 x C8 := (SP_fr w1181 gx f9 rfl a1196)
    have h1253 : CU T H9 cu e8 d8 n8 := (CU_fr w1181 gcu f9 rfl a1194)
    have hb : T9.2.1 ≤ CB ∧ T9.2.2.1 ≤ SB := ⟨by omega, by omega⟩
    rcases pa with ⟨y0, y1, y2, y3, y4, y5, y6, y7, rv9, yM⟩ | ⟨y0, y1, y2, y3, y4, y5, y6, y7, y8, rv9, yM⟩ | ⟨y0, y1, y2, y3, y4, y5, y6, y7, y8, y9b, yR, yY, rv9⟩
    · show WL _ _ _ _ 350 [(4, vI i), (3, .ref o), (2, .ref m), (1, .ref x), (0, .ref 0)] [vI z9] _ H9
      have hXI9 : XI T9 H9 x m := ⟨_, tc, tm, cu, dr, _, _, _, _, q1239, mT _ _ gtc, h1246, q1241, mT _ _ gtm, h1247, q1243, mT _ _ gcu, q1245, mT _ _ gdr, DD_mono mT h1248, DD_mono mT h1249, h1250, h1251, SP_mono rv9 h1252, hC1, hC2, CU_mono mT h1253, (RB_keep mT yM h1234), hE, hZ, (by omega), mT _ _ gm⟩
      have g0 := mT _ _ g0
      have gx := mT _ _ gx
      have gm := mT _ _ gm
      have go := mT _ _ go
      refine wl_of hX hb cL_350 (rw_pop (pc' := 351) rfl rfl ?_)
      refine wl_of hX hb cL_351 (rw_goto (p1 := 1681) (by decide) ?_)
      exact WL.loc hX (by simp) (next T9 H9 ⟨⟨w9, g0, gx, gm, go, by omega, by omega⟩, hXI9, by omega, by omega⟩ (by omega) (by omega))
    · show WL _ _ _ _ 350 [(4, vI i), (3, .ref o), (2, .ref m), (1, .ref x), (0, .ref 0)] [vI z9] _ H9
      have hXI9 : XI T9 H9 x m := ⟨_, tc, tm, cu, dr, _, _, _, _, q1239, mT _ _ gtc, h1246, q1241, mT _ _ gtm, h1247, q1243, mT _ _ gcu, q1245, mT _ _ gdr, DD_mono mT h1248, DD_mono mT h1249, h1250, h1251, SP_mono rv9 h1252, hC1, hC2, CU_mono mT h1253, (RB_keep mT yM h1234), hE, hZ, (by omega), mT _ _ gm⟩
      have g0 := mT _ _ g0
      have gx := mT _ _ gx
      have gm := mT _ _ gm
      have go := mT _ _ go
      refine wl_of hX hb cL_350 (rw_pop (pc' := 351) rfl rfl ?_)
      refine wl_of hX hb cL_351 (rw_goto (p1 := 1681) (by decide) ?_)
      exact WL.loc hX (by simp) (next T9 H9 ⟨⟨w9, g0, gx, gm, go, by omega, by omega⟩, hXI9, by omega, by omega⟩ (by omega) (by omega))
    · show WL _ _ _ _ 350 [(4, vI i), (3, .ref o), (2, .ref m), (1, .ref x), (0, .ref 0)] [vI z9] _ H9
      exfalso
      omega
  · show WL _ _ _ _ 339 [(4, vI i), (3, .ref o), (2, .ref m), (1, .ref x), (0, .ref 0)] [vI z1183] _ H1177
    have u1254 := CU_k a1207
    refine wl_of hX hb cL_339 (rw_pop (pc' := 340) rfl rfl ?_)
    refine wl_of hX hb cL_340 (rw_aload_n (pc' := 341) (v := .ref m) rfl rfl rfl ?_)
    refine wl_of hX hb cL_341 (rw_aload_n (pc' := 342) (v := .ref 0) rfl rfl rfl ?_)
    refine wl_of hX hb cL_342 (rw_iload (pc' := 344) (z := i) rfl rfl ?_)
    refine wl_of hX hb cL_344 (rw_iconst (pc' := 345) rfl ?_)
    refine wl_of hX hb cL_345 (rw_iadd (pc' := 346) rfl ?_)
    have k1257 : H1177 0 ((i + 1).toNat) = H 0 ((i + 1).toNat) := (f1182 0 ((i + 1).toNat) _ g0 (wmem_s rfl))
    refine wl_of hX hb cL_346 (xa_I (so := 0) (pc' := 347) (a := 0) w1181 g0 (wsh_s _) (by omega) (wty_s _ _) (by omega) (by omega) rfl (fun b1255 b1256 => ?_))
    have k1258 : wKI H1177 m = wKI H m := (wKI_fr hW gm f1182 rfl)
    have k1259 : H1177 m 6 = H m 6 := (f1182 m 6 _ gm rfl)
    have k1260 : H1177 m 13 = H m 13 := (f1182 m 13 _ gm rfl)
    have k1261 : H1177 m 3 = H m 3 := (f1182 m 3 _ gm rfl)
    have k1262 : H1177 m 5 = H m 5 := (f1182 m 5 _ gm rfl)
    have q1263 : H1177 m 5 = (tm : Int) := k1262.trans em
    have h1264 : TM T H1177 tm B := (TM_fr hW gtm f1182 rfl htm)
    have h1265 : RB T H1177 m e8 d8 := (RB_fr hW gm f1182 rfl hrb8)
    refine wl_of hX hb cL_347 (xc_V (pc' := 350) (r := m) (as := [vI (H1177 0 ((i + 1).toNat))]) (st := []) lm_11_27 rfl rfl (Nat.le_of_ble_eq_true rfl) w1181 gm sh_42 (by decide) rfl (by decide) (u_169 (B := B) (y := y9) w1181 gm ⟨by omega, by omega⟩ q1263 gtm (by omega) (by omega) h1264) (fun R9 T9 H9 p9 => ?_))
    obtain ⟨mT, nT, zT, w9, f9, z9, e9, b9, pa⟩ := p9
    subst e9
    have k1266 : H9 x 9 = H1177 x 9 := (f9 x 9 _ gx rfl)
    have k1267 : H9 x 11 = H1177 x 11 := (f9 x 11 _ gx rfl)
    have k1268 : H9 x 8 = H1177 x 8 := (f9 x 8 _ gx rfl)
    have k1269 : H9 x 0 = H x 0 := ((f9 x 0 _ gx rfl).trans (f1182 x 0 _ gx rfl))
    have q1270 : H9 x 0 = (tc : Int) := k1269.trans e0
    have k1271 : H9 m 5 = H1177 m 5 := (f9 m 5 _ gm rfl)
    have q1272 : H9 m 5 = (tm : Int) := k1271.trans q1263
    have k1273 : H9 x 6 = H1177 x 6 := (f9 x 6 _ gx rfl)
    have q1274 : H9 x 6 = (cu : Int) := k1273.trans a1204
    have k1275 : H9 x 7 = H1177 x 7 := (f9 x 7 _ gx rfl)
    have q1276 : H9 x 7 = (dr : Int) := k1275.trans a1205
    have h1277 : TP T H9 tc B := (TP_fr w1181 gtc f9 rfl (TP_fr hW gtc f1182 rfl htc))
    have h1278 : TM T H9 tm B := (TM_fr w1181 gtm f9 rfl h1264)
    have h1279 : DD T H9 cu  := (DD_fr w1181 gcu f9 rfl (DD_fr hW gcu f1182 rfl hcu))
    have h1280 : DD T H9 dr  := (DD_fr w1181 gdr f9 rfl (DD_fr hW gdr f1182 rfl hdr))
    have h1281 : DE T H9 cu  := (DE_fr w1181 gcu f9 rfl (DE_fr hW gcu f1182 rfl hdec))
    have h1282 : DE T H9 dr  := (DE_fr w1181 gdr f9 rfl (DE_fr hW gdr f1182 rfl hded))
    have h1283 : SP T H9 x C8 := (SP_fr w1181 gx f9 rfl a1209)
    have h1284 : CU T H9 cu e8 d8 n8 := (CU_fr w1181 gcu f9 rfl a1207)
    have hb : T9.2.1 ≤ CB ∧ T9.2.2.1 ≤ SB := ⟨by omega, by omega⟩
    rcases pa with ⟨y0, y1, y2, y3, y4, y5, y6, y7, rv9, yM⟩ | ⟨y0, y1, y2, y3, y4, y5, y6, y7, y8, rv9, yM⟩ | ⟨y0, y1, y2, y3, y4, y5, y6, y7, y8, y9b, yR, yY, rv9⟩
    · show WL _ _ _ _ 350 [(4, vI i), (3, .ref o), (2, .ref m), (1, .ref x), (0, .ref 0)] [vI z9] _ H9
      have hXI9 : XI T9 H9 x m := ⟨_, tc, tm, cu, dr, _, _, _, _, q1270, mT _ _ gtc, h1277, q1272, mT _ _ gtm, h1278, q1274, mT _ _ gcu, q1276, mT _ _ gdr, DD_mono mT h1279, DD_mono mT h1280, h1281, h1282, SP_mono rv9 h1283, hC1, hC2, CU_mono mT h1284, (RB_keep mT yM h1265), hE, hZ, (by omega), mT _ _ gm⟩
      have g0 := mT _ _ g0
      have gx := mT _ _ gx
      have gm := mT _ _ gm
      have go := mT _ _ go
      refine wl_of hX hb cL_350 (rw_pop (pc' := 351) rfl rfl ?_)
      refine wl_of hX hb cL_351 (rw_goto (p1 := 1681) (by decide) ?_)
      exact WL.loc hX (by simp) (next T9 H9 ⟨⟨w9, g0, gx, gm, go, by omega, by omega⟩, hXI9, by omega, by omega⟩ (by omega) (by omega))
    · show WL _ _ _ _ 350 [(4, vI i), (3, .ref o), (2, .ref m), (1, .ref x), (0, .ref 0)] [vI z9] _ H9
      have hXI9 : XI T9 H9 x m := ⟨_, tc, tm, cu, dr, _, _, _, _, q1270, mT _ _ gtc, h1277, q1272, mT _ _ gtm, h1278, q1274, mT _ _ gcu, q1276, mT _ _ gdr, DD_mono mT h1279, DD_mono mT h1280, h1281, h1282, SP_mono rv9 h1283, hC1, hC2, CU_mono mT h1284, (RB_keep mT yM h1265), hE, hZ, (by omega), mT _ _ gm⟩
      have g0 := mT _ _ g0
      have gx := mT _ _ gx
      have gm := mT _ _ gm
      have go := mT _ _ go
      refine wl_of hX hb cL_350 (rw_pop (pc' := 351) rfl rfl ?_)
      refine wl_of hX hb cL_351 (rw_goto (p1 := 1681) (by decide) ?_)
      exact WL.loc hX (by simp) (next T9 H9 ⟨⟨w9, g0, gx, gm, go, by omega, by omega⟩, hXI9, by omega, by omega⟩ (by omega) (by omega))
    · show WL _ _ _ _ 350 [(4, vI i), (3, .ref o), (2, .ref m), (1, .ref x), (0, .ref 0)] [vI z9] _ H9
      exfalso
      omega
  · show WL _ _ _ _ 339 [(4, vI i), (3, .ref o), (2, .ref m), (1, .ref x), (0, .ref 0)] [vI z1183] _ H1177
    have u1285 := CU_k a1220
    refine wl_of hX hb cL_339 (rw_pop (pc' := 340) rfl rfl ?_)
    refine wl_of hX hb cL_340 (rw_aload_n (pc' := 341) (v := .ref m) rfl rfl rfl ?_)
    refine wl_of hX hb cL_341 (rw_aload_n (pc' := 342) (v := .ref 0) rfl rfl rfl ?_)
    refine wl_of hX hb cL_342 (rw_iload (pc' := 344) (z := i) rfl rfl ?_)
    refine wl_of hX hb cL_344 (rw_iconst (pc' := 345) rfl ?_)
    refine wl_of hX hb cL_345 (rw_iadd (pc' := 346) rfl ?_)
    have k1288 : H1177 0 ((i + 1).toNat) = H 0 ((i + 1).toNat) := (f1182 0 ((i + 1).toNat) _ g0 (wmem_s rfl))
    refine wl_of hX hb cL_346 (xa_I (so := 0) (pc' := 347) (a := 0) w1181 g0 (wsh_s _) (by omega) (wty_s _ _) (by omega) (by omega) rfl (fun b1286 b1287 => ?_))
    have k1289 : wKI H1177 m = wKI H m := (wKI_fr hW gm f1182 rfl)
    have k1290 : H1177 m 6 = H m 6 := (f1182 m 6 _ gm rfl)
    have k1291 : H1177 m 13 = H m 13 := (f1182 m 13 _ gm rfl)
    have k1292 : H1177 m 3 = H m 3 := (f1182 m 3 _ gm rfl)
    have k1293 : H1177 m 5 = H m 5 := (f1182 m 5 _ gm rfl)
    have q1294 : H1177 m 5 = (tm : Int) := k1293.trans em
    have h1295 : TM T H1177 tm B := (TM_fr hW gtm f1182 rfl htm)
    have h1296 : RB T H1177 m e8 d8 := (RB_fr hW gm f1182 rfl hrb8)
    refine wl_of hX hb cL_347 (xc_V (pc' := 350) (r := m) (as := [vI (H1177 0 ((i + 1).toNat))]) (st := []) lm_11_27 rfl rfl (Nat.le_of_ble_eq_true rfl) w1181 gm sh_42 (by decide) rfl (by decide) (u_169 (B := B) (y := y9) w1181 gm ⟨by omega, by omega⟩ q1294 gtm (by omega) (by omega) h1295) (fun R9 T9 H9 p9 => ?_))
    obtain ⟨mT, nT, zT, w9, f9, z9, e9, b9, pa⟩ := p9
    subst e9
    have k1297 : H9 x 9 = H1177 x 9 := (f9 x 9 _ gx rfl)
    have k1298 : H9 x 11 = H1177 x 11 := (f9 x 11 _ gx rfl)
    have k1299 : H9 x 8 = H1177 x 8 := (f9 x 8 _ gx rfl)
    have k1300 : H9 x 0 = H x 0 := ((f9 x 0 _ gx rfl).trans (f1182 x 0 _ gx rfl))
    have q1301 : H9 x 0 = (tc : Int) := k1300.trans e0
    have k1302 : H9 m 5 = H1177 m 5 := (f9 m 5 _ gm rfl)
    have q1303 : H9 m 5 = (tm : Int) := k1302.trans q1294
    have k1304 : H9 x 6 = H1177 x 6 := (f9 x 6 _ gx rfl)
    have q1305 : H9 x 6 = (dr : Int) := k1304.trans a1216
    have k1306 : H9 x 7 = H1177 x 7 := (f9 x 7 _ gx rfl)
    have q1307 : H9 x 7 = (cu : Int) := k1306.trans a1217
    have h1308 : TP T H9 tc B := (TP_fr w1181 gtc f9 rfl (TP_fr hW gtc f1182 rfl htc))
    have h1309 : TM T H9 tm B := (TM_fr w1181 gtm f9 rfl h1295)
    have h1310 : DD T H9 dr  := (DD_fr w1181 gdr f9 rfl (DD_fr hW gdr f1182 rfl hdr))
    have h1311 : DD T H9 cu  := (DD_fr w1181 gcu f9 rfl (DD_fr hW gcu f1182 rfl hcu))
    have h1312 : DE T H9 dr  := (DE_fr w1181 gdr f9 rfl (DE_fr hW gdr f1182 rfl hded))
    have h1313 : DE T H9 cu  := (DE_fr w1181 gcu f9 rfl (DE_fr hW gcu f1182 rfl hdec))
    have h1314 : SP T H9 x (fun a => !(C8 a)) := (SP_fr w1181 gx f9 rfl a1222)
    have h1315 : CU T H9 dr (xset (xparse B y9).2) (xset (xparse B y9).2) (xlots (xset (xparse B y9).2)) := (CU_fr w1181 gdr f9 rfl a1220)
    have hb : T9.2.1 ≤ CB ∧ T9.2.2.1 ≤ SB := ⟨by omega, by omega⟩
    rcases pa with ⟨y0, y1, y2, y3, y4, y5, y6, y7, rv9, yM⟩ | ⟨y0, y1, y2, y3, y4, y5, y6, y7, y8, rv9, yM⟩ | ⟨y0, y1, y2, y3, y4, y5, y6, y7, y8, y9b, yR, yY, rv9⟩
    · show WL _ _ _ _ 350 [(4, vI i), (3, .ref o), (2, .ref m), (1, .ref x), (0, .ref 0)] [vI z9] _ H9
      exfalso
      omega
    · show WL _ _ _ _ 350 [(4, vI i), (3, .ref o), (2, .ref m), (1, .ref x), (0, .ref 0)] [vI z9] _ H9
      exfalso
      omega
    · show WL _ _ _ _ 350 [(4, vI i), (3, .ref o), (2, .ref m), (1, .ref x), (0, .ref 0)] [vI z9] _ H9
      have hXI9 : XI T9 H9 x m := ⟨_, tc, tm, dr, cu, _, _, _, _, q1301, mT _ _ gtc, h1308, q1303, mT _ _ gtm, h1309, q1305, mT _ _ gdr, q1307, mT _ _ gcu, DD_mono mT h1310, DD_mono mT h1311, h1312, h1313, SP_mono rv9 h1314, (by show (!(C8 dr)) = true; rw [hC2]; rfl), (by show (!(C8 cu)) = false; rw [hC1]; rfl), CU_mono mT h1315, yR, (fun _ _ => rfl), (fun h h1 h2 => xset_z h1 h2), (Or.inr rfl), mT _ _ gm⟩
      have g0 := mT _ _ g0
      have gx := mT _ _ gx
      have gm := mT _ _ gm
      have go := mT _ _ go
      refine wl_of hX hb cL_350 (rw_pop (pc' := 351) rfl rfl ?_)
      refine wl_of hX hb cL_351 (rw_goto (p1 := 1681) (by decide) ?_)
      exact WL.loc hX (by simp) (next T9 H9 ⟨⟨w9, g0, gx, gm, go, by omega, by omega⟩, hXI9, by omega, by omega⟩ (by omega) (by omega))
set_option maxHeartbeats 4000000 in
theorem wl_c2 {kt : Nat → Option mc_E} {CB SB : Nat} {X : mc_S → Prop} {T : wq_T} {H : wq_H} {Len x m o : Nat} {i : Int} (hX : wlX kt CB SB X) (hb : T.2.1 ≤ CB ∧ T.2.2.1 ≤ SB) (hI : wlJ Len x m o T H) (hL : Len ≤ 3072) (hi : 0 ≤ i ∧ i + 6 ≤ Len) (hb2 : T.2.1 + 20 ≤ CB ∧ T.2.2.1 + 500 ≤ SB)  (next : ∀ T' H', wlJ Len x m o T' H' → T'.2.1 ≤ T.2.1 + 20 → T'.2.2.1 ≤ T.2.2.1 + 500 → WL kt CB SB X 1681 (wlL i x m o) [] T' H') : WL kt CB SB X 354 (wlL i x m o) [] T H := by
  obtain ⟨⟨hW, g0, gx, gm, go, hK, hr⟩, hXI, hY1, hY2⟩ := hI
  refine wl_of hX hb cL_354 (rw_aload_n (pc' := 355) (v := .ref x) rfl rfl rfl ?_)
  refine wl_of hX hb cL_355 (xc_V (pc' := 358) (r := x) (as := []) (st := []) (lm_11_28) rfl rfl (Nat.le_of_ble_eq_true rfl) hW gx sh_1 (by decide) rfl (by decide) (s_52 hW gx) (fun R1316 T1317 H1318 p1319 => ?_))
  obtain ⟨e1320, e1322, z1323, e1321, b1324⟩ := p1319
  subst e1320
  subst e1321
  subst e1322
  show WL _ _ _ _ 358 [(4, vI i), (3, .ref o), (2, .ref m), (1, .ref x), (0, .ref 0)] [vI z1323] _ H
  refine wl_of hX hb cL_358 (rw_pop (pc' := 359) rfl rfl ?_)
  refine wl_of hX hb cL_359 (rw_aload_n (pc' := 360) (v := .ref m) rfl rfl rfl ?_)
  refine wl_of hX hb cL_360 (xc_V (pc' := 363) (r := m) (as := []) (st := []) (lm_11_32) rfl rfl (Nat.le_of_ble_eq_true rfl) hW gm sh_42 (by decide) rfl (by decide) (s_210 hW gm (by omega)) (fun R1325 T1326 H1327 p1328 => ?_))
  obtain ⟨e1329, w1331, f1332, z1334, e1330, b1335, p1333⟩ := p1328
  subst e1329
  subst e1330
  show WL _ _ _ _ 363 [(4, vI i), (3, .ref o), (2, .ref m), (1, .ref x), (0, .ref 0)] [vI z1334] _ H1327
  refine wl_of hX hb cL_363 (rw_pop (pc' := 364) rfl rfl ?_)
  refine wl_of hX hb cL_364 (rw_goto (p1 := 1681) (by decide) ?_)
  have k1336 : H1327 x 9 = H x 9 := (f1332 x 9 _ gx rfl)
  have k1337 : H1327 m 6 = H m 6 := (f1332 m 6 _ gm rfl)
  have k1338 : H1327 x 11 = H x 11 := (f1332 x 11 _ gx rfl)
  have k1339 : H1327 m 13 = H m 13 := (f1332 m 13 _ gm rfl)
  have k1340 : H1327 x 8 = H x 8 := (f1332 x 8 _ gx rfl)
  have k1341 : H1327 m 3 = H m 3 := (f1332 m 3 _ gm rfl)
  have h1342 : XI T H1327 x m := (XI_fr hW gx f1332 rfl hXI)
  exact WL.loc hX (by simp) (next T H1327 ⟨⟨w1331, g0, gx, gm, go, by omega, by omega⟩, h1342, by omega, by omega⟩ (by omega) (by omega))
set_option maxHeartbeats 4000000 in
theorem wl_c3 {kt : Nat → Option mc_E} {CB SB : Nat} {X : mc_S → Prop} {T : wq_T} {H : wq_H} {Len x m o : Nat} {i : Int} (hX : wlX kt CB SB X) (hb : T.2.1 ≤ CB ∧ T.2.2.1 ≤ SB) (hI : wlJ Len x m o T H) (hL : Len ≤ 3072) (hi : 0 ≤ i ∧ i + 6 ≤ Len) (hb2 : T.2.1 + 20 ≤ CB ∧ T.2.2.1 + 500 ≤ SB)  (next : ∀ T' H', wlJ Len x m o T' H' → T'.2.1 ≤ T.2.1 + 20 → T'.2.2.1 ≤ T.2.2.1 + 500 → WL kt CB SB X 1681 (wlL i x m o) [] T' H') : WL kt CB SB X 367 (wlL i x m o) [] T H := by
  obtain ⟨⟨hW, g0, gx, gm, go, hK, hr⟩, hXI, hY1, hY2⟩ := hI
  refine wl_of hX hb cL_367 (rw_aload_n (pc' := 368) (v := .ref x) rfl rfl rfl ?_)
  refine wl_of hX hb cL_368 (xc_V (pc' := 371) (r := x) (as := []) (st := []) (lm_11_33) rfl rfl (Nat.le_of_ble_eq_true rfl) hW gx sh_1 (by decide) rfl (by decide) (s_53 hW gx) (fun R1343 T1344 H1345 p1346 => ?_))
  obtain ⟨e1347, e1349, z1350, e1348, b1351⟩ := p1346
  subst e1347
  subst e1348
  subst e1349
  show WL _ _ _ _ 371 [(4, vI i), (3, .ref o), (2, .ref m), (1, .ref x), (0, .ref 0)] [vI z1350] _ H
  refine wl_of hX hb cL_371 (rw_pop (pc' := 372) rfl rfl ?_)
  refine wl_of hX hb cL_372 (rw_aload_n (pc' := 373) (v := .ref m) rfl rfl rfl ?_)
  refine wl_of hX hb cL_373 (xc_V (pc' := 376) (r := m) (as := []) (st := []) (lm_11_36) rfl rfl (Nat.le_of_ble_eq_true rfl) hW gm sh_42 (by decide) rfl (by decide) (s_211 hW gm (by omega)) (fun R1352 T1353 H1354 p1355 => ?_))
  obtain ⟨e1356, w1358, f1359, z1361, e1357, b1362, p1360⟩ := p1355
  subst e1356
  subst e1357
  show WL _ _ _ _ 376 [(4, vI i), (3, .ref o), (2, .ref m), (1, .ref x), (0, .ref 0)] [vI z1361] _ H1354
  refine wl_of hX hb cL_376 (rw_pop (pc' := 377) rfl rfl ?_)
  refine wl_of hX hb cL_377 (rw_goto (p1 := 1681) (by decide) ?_)
  have k1363 : H1354 x 9 = H x 9 := (f1359 x 9 _ gx rfl)
  have k1364 : H1354 m 6 = H m 6 := (f1359 m 6 _ gm rfl)
  have k1365 : H1354 x 11 = H x 11 := (f1359 x 11 _ gx rfl)
  have k1366 : H1354 m 13 = H m 13 := (f1359 m 13 _ gm rfl)
  have k1367 : H1354 x 8 = H x 8 := (f1359 x 8 _ gx rfl)
  have k1368 : H1354 m 3 = H m 3 := (f1359 m 3 _ gm rfl)
  have h1369 : XI T H1354 x m := (XI_fr hW gx f1359 rfl hXI)
  exact WL.loc hX (by simp) (next T H1354 ⟨⟨w1358, g0, gx, gm, go, by omega, by omega⟩, h1369, by omega, by omega⟩ (by omega) (by omega))
set_option maxHeartbeats 4000000 in
theorem wl_c4 {kt : Nat → Option mc_E} {CB SB : Nat} {X : mc_S → Prop} {T : wq_T} {H : wq_H} {Len x m o : Nat} {i : Int} (hX : wlX kt CB SB X) (hb : T.2.1 ≤ CB ∧ T.2.2.1 ≤ SB) (hI : wlJ Len x m o T H) (hL : Len ≤ 3072) (hi : 0 ≤ i ∧ i + 6 ≤ Len) (hb2 : T.2.1 + 20 ≤ CB ∧ T.2.2.1 + 500 ≤ SB)  (next : ∀ T' H', wlJ Len x m o T' H' → T'.2.1 ≤ T.2.1 + 20 → T'.2.2.1 ≤ T.2.2.1 + 500 → WL kt CB SB X 1681 (wlL i x m o) [] T' H') : WL kt CB SB X 380 (wlL i x m o) [] T H := by
  obtain ⟨⟨hW, g0, gx, gm, go, hK, hr⟩, hXI, hY1, hY2⟩ := hI
  refine wl_of hX hb cL_380 (rw_aload_n (pc' := 381) (v := .ref x) rfl rfl rfl ?_)
  refine wl_of hX hb cL_381 (rw_aload_n (pc' := 382) (v := .ref 0) rfl rfl rfl ?_)
  refine wl_of hX hb cL_382 (rw_iload (pc' := 384) (z := i) rfl rfl ?_)
  refine wl_of hX hb cL_384 (rw_iconst (pc' := 385) rfl ?_)
  refine wl_of hX hb cL_385 (rw_iadd (pc' := 386) rfl ?_)
  refine wl_of hX hb cL_386 (xa_I (so := 0) (pc' := 387) (a := 0) hW g0 (wsh_s _) (by omega) (wty_s _ _) (by omega) (by omega) rfl (fun b1370 b1371 => ?_))
  refine wl_of hX hb cL_387 (xc_V (pc' := 390) (r := x) (as := [vI (H 0 ((i + 1).toNat))]) (st := []) (lm_11_37) rfl rfl (Nat.le_of_ble_eq_true rfl) hW gx sh_1 (by decide) rfl (by decide) (s_54 hW gx ⟨by omega, by omega⟩) (fun R1372 T1373 H1374 p1375 => ?_))
  obtain ⟨e1376, w1378, f1379, z1380, e1377, b1381⟩ := p1375
  subst e1376
  subst e1377
  show WL _ _ _ _ 390 [(4, vI i), (3, .ref o), (2, .ref m), (1, .ref x), (0, .ref 0)] [vI z1380] _ H1374
  refine wl_of hX hb cL_390 (rw_pop (pc' := 391) rfl rfl ?_)
  refine wl_of hX hb cL_391 (rw_aload_n (pc' := 392) (v := .ref m) rfl rfl rfl ?_)
  refine wl_of hX hb cL_392 (rw_aload_n (pc' := 393) (v := .ref 0) rfl rfl rfl ?_)
  refine wl_of hX hb cL_393 (rw_iload (pc' := 395) (z := i) rfl rfl ?_)
  refine wl_of hX hb cL_395 (rw_iconst (pc' := 396) rfl ?_)
  refine wl_of hX hb cL_396 (rw_iadd (pc' := 397) rfl ?_)
  have k1384 : H1374 0 ((i + 1).toNat) = H 0 ((i + 1).toNat) := (f1379 0 ((i + 1).toNat) _ g0 (wmem_s rfl))
  refine wl_of hX hb cL_397 (xa_I (so := 0) (pc' := 398) (a := 0) w1378 g0 (wsh_s _) (by omega) (wty_s _ _) (by omega) (by omega) rfl (fun b1382 b1383 => ?_))
  have k1385 : wKI H1374 m = wKI H m := (wKI_fr hW gm f1379 rfl)
  have k1386 : H1374 x 9 = H x 9 := (f1379 x 9 _ gx rfl)
  have k1387 : H1374 m 6 = H m 6 := (f1379 m 6 _ gm rfl)
  have k1388 : H1374 x 11 = H x 11 := (f1379 x 11 _ gx rfl)
  have k1389 : H1374 m 13 = H m 13 := (f1379 m 13 _ gm rfl)
  have k1390 : H1374 x 8 = H x 8 := (f1379 x 8 _ gx rfl)
  have k1391 : H1374 m 3 = H m 3 := (f1379 m 3 _ gm rfl)
  refine wl_of hX hb cL_398 (xc_V (pc' := 401) (r := m) (as := [vI (H1374 0 ((i + 1).toNat))]) (st := []) (lm_11_40) rfl rfl (Nat.le_of_ble_eq_true rfl) w1378 gm sh_42 (by decide) rfl (by decide) (s_212 w1378 gm ⟨by omega, by omega⟩ (by omega)) (fun R1392 T1393 H1394 p1395 => ?_))
  obtain ⟨e1396, w1398, f1399, z1401, e1397, b1402, p1400⟩ := p1395
  subst e1396
  subst e1397
  show WL _ _ _ _ 401 [(4, vI i), (3, .ref o), (2, .ref m), (1, .ref x), (0, .ref 0)] [vI z1401] _ H1394
  refine wl_of hX hb cL_401 (rw_pop (pc' := 402) rfl rfl ?_)
  refine wl_of hX hb cL_402 (rw_goto (p1 := 1681) (by decide) ?_)
  have k1403 : H1394 x 9 = H1374 x 9 := (f1399 x 9 _ gx rfl)
  have k1404 : H1394 m 6 = H1374 m 6 := (f1399 m 6 _ gm rfl)
  have k1405 : H1394 x 11 = H1374 x 11 := (f1399 x 11 _ gx rfl)
  have k1406 : H1394 m 13 = H1374 m 13 := (f1399 m 13 _ gm rfl)
  have k1407 : H1394 x 8 = H1374 x 8 := (f1399 x 8 _ gx rfl)
  have k1408 : H1394 m 3 = H1374 m 3 := (f1399 m 3 _ gm rfl)
  have h1409 : XI T H1394 x m := (XI_fr w1378 gx f1399 rfl (XI_fr hW gx f1379 rfl hXI))
  exact WL.loc hX (by simp) (next T H1394 ⟨⟨w1398, g0, gx, gm, go, by omega, by omega⟩, h1409, by omega, by omega⟩ (by omega) (by omega))
set_option maxHeartbeats 4000000 in
theorem wl_c5 {kt : Nat → Option mc_E} {CB SB : Nat} {X : mc_S → Prop} {T : wq_T} {H : wq_H} {Len x m o : Nat} {i : Int} (hX : wlX kt CB SB X) (hb : T.2.1 ≤ CB ∧ T.2.2.1 ≤ SB) (hI : wlJ Len x m o T H) (hL : Len ≤ 3072) (hi : 0 ≤ i ∧ i + 6 ≤ Len) (hb2 : T.2.1 + 20 ≤ CB ∧ T.2.2.1 + 500 ≤ SB)  (next : ∀ T' H', wlJ Len x m o T' H' → T'.2.1 ≤ T.2.1 + 20 → T'.2.2.1 ≤ T.2.2.1 + 500 → WL kt CB SB X 1681 (wlL i x m o) [] T' H') : WL kt CB SB X 405 (wlL i x m o) [] T H := by
  obtain ⟨⟨hW, g0, gx, gm, go, hK, hr⟩, hXI, hY1, hY2⟩ := hI
  refine wl_of hX hb cL_405 (rw_aload_n (pc' := 406) (v := .ref x) rfl rfl rfl ?_)
  refine wl_of hX hb cL_406 (rw_aload_n (pc' := 407) (v := .ref 0) rfl rfl rfl ?_)
  refine wl_of hX hb cL_407 (rw_iload (pc' := 409) (z := i) rfl rfl ?_)
  refine wl_of hX hb cL_409 (rw_iconst (pc' := 410) rfl ?_)
  refine wl_of hX hb cL_410 (rw_iadd (pc' := 411) rfl ?_)
  refine wl_of hX hb cL_411 (xa_I (so := 0) (pc' := 412) (a := 0) hW g0 (wsh_s _) (by omega) (wty_s _ _) (by omega) (by omega) rfl (fun b1410 b1411 => ?_))
  refine wl_of hX hb cL_412 (rw_aload_n (pc' := 413) (v := .ref 0) rfl rfl rfl ?_)
  refine wl_of hX hb cL_413 (rw_iload (pc' := 415) (z := i) rfl rfl ?_)
  refine wl_of hX hb cL_415 (rw_iconst (pc' := 416) rfl ?_)
  refine wl_of hX hb cL_416 (rw_iadd (pc' := 417) rfl ?_)
  refine wl_of hX hb cL_417 (xa_I (so := 0) (pc' := 418) (a := 0) hW g0 (wsh_s _) (by omega) (wty_s _ _) (by omega) (by omega) rfl (fun b1412 b1413 => ?_))
  refine wl_of hX hb cL_418 (rw_aload_n (pc' := 419) (v := .ref 0) rfl rfl rfl ?_)
  refine wl_of hX hb cL_419 (rw_iload (pc' := 421) (z := i) rfl rfl ?_)
  refine wl_of hX hb cL_421 (rw_iconst (pc' := 422) rfl ?_)
  refine wl_of hX hb cL_422 (rw_iadd (pc' := 423) rfl ?_)
  refine wl_of hX hb cL_423 (xa_I (so := 0) (pc' := 424) (a := 0) hW g0 (wsh_s _) (by omega) (wty_s _ _) (by omega) (by omega) rfl (fun b1414 b1415 => ?_))
  refine wl_of hX hb cL_424 (xc_V (pc' := 427) (r := x) (as := [vI (H 0 ((i + 1).toNat)), vI (H 0 ((i + 2).toNat)), vI (H 0 ((i + 3).toNat))]) (st := []) (lm_11_41) rfl rfl (Nat.le_of_ble_eq_true rfl) hW gx sh_1 (by decide) rfl (by decide) (s_56 hW gx ⟨by omega, by omega⟩ ⟨by omega, by omega⟩ ⟨by omega, by omega⟩) (fun R1416 T1417 H1418 p1419 => ?_))
  obtain ⟨e1420, w1422, f1423, z1424, e1421, b1425⟩ := p1419
  subst e1420
  subst e1421
  show WL _ _ _ _ 427 [(4, vI i), (3, .ref o), (2, .ref m), (1, .ref x), (0, .ref 0)] [vI z1424] _ H1418
  refine wl_of hX hb cL_427 (rw_pop (pc' := 428) rfl rfl ?_)
  refine wl_of hX hb cL_428 (rw_aload_n (pc' := 429) (v := .ref m) rfl rfl rfl ?_)
  refine wl_of hX hb cL_429 (rw_aload_n (pc' := 430) (v := .ref 0) rfl rfl rfl ?_)
  refine wl_of hX hb cL_430 (rw_iload (pc' := 432) (z := i) rfl rfl ?_)
  refine wl_of hX hb cL_432 (rw_iconst (pc' := 433) rfl ?_)
  refine wl_of hX hb cL_433 (rw_iadd (pc' := 434) rfl ?_)
  have k1428 : H1418 0 ((i + 1).toNat) = H 0 ((i + 1).toNat) := (f1423 0 ((i + 1).toNat) _ g0 (wmem_s rfl))
  refine wl_of hX hb cL_434 (xa_I (so := 0) (pc' := 435) (a := 0) w1422 g0 (wsh_s _) (by omega) (wty_s _ _) (by omega) (by omega) rfl (fun b1426 b1427 => ?_))
  refine wl_of hX hb cL_435 (rw_aload_n (pc' := 436) (v := .ref 0) rfl rfl rfl ?_)
  refine wl_of hX hb cL_436 (rw_iload (pc' := 438) (z := i) rfl rfl ?_)
  refine wl_of hX hb cL_438 (rw_iconst (pc' := 439) rfl ?_)
  refine wl_of hX hb cL_439 (rw_iadd (pc' := 440) rfl ?_)
  have k1431 : H1418 0 ((i + 2).toNat) = H 0 ((i + 2).toNat) := (f1423 0 ((i + 2).toNat) _ g0 (wmem_s rfl))
  refine wl_of hX hb cL_440 (xa_I (so := 0) (pc' := 441) (a := 0) w1422 g0 (wsh_s _) (by omega) (wty_s _ _) (by omega) (by omega) rfl (fun b1429 b1430 => ?_))
  refine wl_of hX hb cL_441 (rw_aload_n (pc' := 442) (v := .ref 0) rfl rfl rfl ?_)
  refine wl_of hX hb cL_442 (rw_iload (pc' := 444) (z := i) rfl rfl ?_)
  refine wl_of hX hb cL_444 (rw_iconst (pc' := 445) rfl ?_)
  refine wl_of hX hb cL_445 (rw_iadd (pc' := 446) rfl ?_)
  have k1434 : H1418 0 ((i + 3).toNat) = H 0 ((i + 3).toNat) := (f1423 0 ((i + 3).toNat) _ g0 (wmem_s rfl))
  refine wl_of hX hb cL_446 (xa_I (so := 0) (pc' := 447) (a := 0) w1422 g0 (wsh_s _) (by omega) (wty_s _ _) (by omega) (by omega) rfl (fun b1432 b1433 => ?_))
  have k1435 : wKI H1418 m = wKI H m := (wKI_fr hW gm f1423 rfl)
  have k1436 : H1418 x 9 = H x 9 := (f1423 x 9 _ gx rfl)
  have k1437 : H1418 m 6 = H m 6 := (f1423 m 6 _ gm rfl)
  have k1438 : H1418 x 11 = H x 11 := (f1423 x 11 _ gx rfl)
  have k1439 : H1418 m 13 = H m 13 := (f1423 m 13 _ gm rfl)
  have k1440 : H1418 x 8 = H x 8 := (f1423 x 8 _ gx rfl)
  have k1441 : H1418 m 3 = H m 3 := (f1423 m 3 _ gm rfl)
  refine wl_of hX hb cL_447 (xc_V (pc' := 450) (r := m) (as := [vI (H1418 0 ((i + 1).toNat)), vI (H1418 0 ((i + 2).toNat)), vI (H1418 0 ((i + 3).toNat))]) (st := []) (lm_11_45) rfl rfl (Nat.le_of_ble_eq_true rfl) w1422 gm sh_42 (by decide) rfl (by decide) (s_214 w1422 gm ⟨by omega, by omega⟩ ⟨by omega, by omega⟩ ⟨by omega, by omega⟩ (by omega)) (fun R1442 T1443 H1444 p1445 => ?_))
  obtain ⟨e1446, w1448, f1449, z1451, e1447, b1452, p1450⟩ := p1445
  subst e1446
  subst e1447
  show WL _ _ _ _ 450 [(4, vI i), (3, .ref o), (2, .ref m), (1, .ref x), (0, .ref 0)] [vI z1451] _ H1444
  refine wl_of hX hb cL_450 (rw_pop (pc' := 451) rfl rfl ?_)
  refine wl_of hX hb cL_451 (rw_goto (p1 := 1681) (by decide) ?_)
  have k1453 : H1444 x 9 = H1418 x 9 := (f1449 x 9 _ gx rfl)
  have k1454 : H1444 m 6 = H1418 m 6 := (f1449 m 6 _ gm rfl)
  have k1455 : H1444 x 11 = H1418 x 11 := (f1449 x 11 _ gx rfl)
  have k1456 : H1444 m 13 = H1418 m 13 := (f1449 m 13 _ gm rfl)
  have k1457 : H1444 x 8 = H1418 x 8 := (f1449 x 8 _ gx rfl)
  have k1458 : H1444 m 3 = H1418 m 3 := (f1449 m 3 _ gm rfl)
  have h1459 : XI T H1444 x m := (XI_fr w1422 gx f1449 rfl (XI_fr hW gx f1423 rfl hXI))
  exact WL.loc hX (by simp) (next T H1444 ⟨⟨w1448, g0, gx, gm, go, by omega, by omega⟩, h1459, by omega, by omega⟩ (by omega) (by omega))
set_option maxHeartbeats 4000000 in
theorem wl_c6 {kt : Nat → Option mc_E} {CB SB : Nat} {X : mc_S → Prop} {T : wq_T} {H : wq_H} {Len x m o : Nat} {i : Int} (hX : wlX kt CB SB X) (hb : T.2.1 ≤ CB ∧ T.2.2.1 ≤ SB) (hI : wlJ Len x m o T H) (hL : Len ≤ 3072) (hi : 0 ≤ i ∧ i + 6 ≤ Len) (hb2 : T.2.1 + 20 ≤ CB ∧ T.2.2.1 + 500 ≤ SB)  (next : ∀ T' H', wlJ Len x m o T' H' → T'.2.1 ≤ T.2.1 + 20 → T'.2.2.1 ≤ T.2.2.1 + 500 → WL kt CB SB X 1681 (wlL i x m o) [] T' H') : WL kt CB SB X 454 (wlL i x m o) [] T H := by
  obtain ⟨⟨hW, g0, gx, gm, go, hK, hr⟩, hXI, hY1, hY2⟩ := hI
  refine wl_of hX hb cL_454 (rw_aload_n (pc' := 455) (v := .ref x) rfl rfl rfl ?_)
  refine wl_of hX hb cL_455 (rw_aload_n (pc' := 456) (v := .ref 0) rfl rfl rfl ?_)
  refine wl_of hX hb cL_456 (rw_iload (pc' := 458) (z := i) rfl rfl ?_)
  refine wl_of hX hb cL_458 (rw_iconst (pc' := 459) rfl ?_)
  refine wl_of hX hb cL_459 (rw_iadd (pc' := 460) rfl ?_)
  refine wl_of hX hb cL_460 (xa_I (so := 0) (pc' := 461) (a := 0) hW g0 (wsh_s _) (by omega) (wty_s _ _) (by omega) (by omega) rfl (fun b1460 b1461 => ?_))
  refine wl_of hX hb cL_461 (rw_aload_n (pc' := 462) (v := .ref 0) rfl rfl rfl ?_)
  refine wl_of hX hb cL_462 (rw_iload (pc' := 464) (z := i) rfl rfl ?_)
  refine wl_of hX hb cL_464 (rw_iconst (pc' := 465) rfl ?_)
  refine wl_of hX hb cL_465 (rw_iadd (pc' := 466) rfl ?_)
  refine wl_of hX hb cL_466 (xa_I (so := 0) (pc' := 467) (a := 0) hW g0 (wsh_s _) (by omega) (wty_s _ _) (by omega) (by omega) rfl (fun b1462 b1463 => ?_))
  refine wl_of hX hb cL_467 (rw_aload_n (pc' := 468) (v := .ref 0) rfl rfl rfl ?_)
  refine wl_of hX hb cL_468 (rw_iload (pc' := 470) (z := i) rfl rfl ?_)
  refine wl_of hX hb cL_470 (rw_iconst (pc' := 471) rfl ?_)
  refine wl_of hX hb cL_471 (rw_iadd (pc' := 472) rfl ?_)
  refine wl_of hX hb cL_472 (xa_I (so := 0) (pc' := 473) (a := 0) hW g0 (wsh_s _) (by omega) (wty_s _ _) (by omega) (by omega) rfl (fun b1464 b1465 => ?_))
  refine wl_of hX hb cL_473 (xc_V (pc' := 476) (r := x) (as := [vI (H 0 ((i + 1).toNat)), vI (H 0 ((i + 2).toNat)), vI (H 0 ((i + 3).toNat))]) (st := []) (lm_11_46) rfl rfl (Nat.le_of_ble_eq_true rfl) hW gx sh_1 (by decide) rfl (by decide) (s_59 hW gx ⟨by omega, by omega⟩ ⟨by omega, by omega⟩ ⟨by omega, by omega⟩) (fun R1466 T1467 H1468 p1469 => ?_))
  obtain ⟨e1470, w1472, f1473, z1474, e1471, b1475⟩ := p1469
  subst e1470
  subst e1471
  show WL _ _ _ _ 476 [(4, vI i), (3, .ref o), (2, .ref m), (1, .ref x), (0, .ref 0)] [vI z1474] _ H1468
  refine wl_of hX hb cL_476 (rw_pop (pc' := 477) rfl rfl ?_)
  refine wl_of hX hb cL_477 (rw_aload_n (pc' := 478) (v := .ref m) rfl rfl rfl ?_)
  refine wl_of hX hb cL_478 (rw_aload_n (pc' := 479) (v := .ref 0) rfl rfl rfl ?_)
  refine wl_of hX hb cL_479 (rw_iload (pc' := 481) (z := i) rfl rfl ?_)
  refine wl_of hX hb cL_481 (rw_iconst (pc' := 482) rfl ?_)
  refine wl_of hX hb cL_482 (rw_iadd (pc' := 483) rfl ?_)
  have k1478 : H1468 0 ((i + 1).toNat) = H 0 ((i + 1).toNat) := (f1473 0 ((i + 1).toNat) _ g0 (wmem_s rfl))
  refine wl_of hX hb cL_483 (xa_I (so := 0) (pc' := 484) (a := 0) w1472 g0 (wsh_s _) (by omega) (wty_s _ _) (by omega) (by omega) rfl (fun b1476 b1477 => ?_))
  refine wl_of hX hb cL_484 (rw_aload_n (pc' := 485) (v := .ref 0) rfl rfl rfl ?_)
  refine wl_of hX hb cL_485 (rw_iload (pc' := 487) (z := i) rfl rfl ?_)
  refine wl_of hX hb cL_487 (rw_iconst (pc' := 488) rfl ?_)
  refine wl_of hX hb cL_488 (rw_iadd (pc' := 489) rfl ?_)
  have k1481 : H1468 0 ((i + 2).toNat) = H 0 ((i + 2).toNat) := (f1473 0 ((i + 2).toNat) _ g0 (wmem_s rfl))
  refine wl_of hX hb cL_489 (xa_I (so := 0) (pc' := 490) (a := 0) w1472 g0 (wsh_s _) (by omega) (wty_s _ _) (by omega) (by omega) rfl (fun b1479 b1480 => ?_))
  refine wl_of hX hb cL_490 (rw_aload_n (pc' := 491) (v := .ref 0) rfl rfl rfl ?_)
  refine wl_of hX hb cL_491 (rw_iload (pc' := 493) (z := i) rfl rfl ?_)
  refine wl_of hX hb cL_493 (rw_iconst (pc' := 494) rfl ?_)
  refine wl_of hX hb cL_494 (rw_iadd (pc' := 495) rfl ?_)
  have k1484 : H1468 0 ((i + 3).toNat) = H 0 ((i + 3).toNat) := (f1473 0 ((i + 3).toNat) _ g0 (wmem_s rfl))
  refine wl_of hX hb cL_495 (xa_I (so := 0) (pc' := 496) (a := 0) w1472 g0 (wsh_s _) (by omega) (wty_s _ _) (by omega) (by omega) rfl (fun b1482 b1483 => ?_))
  have k1485 : wKI H1468 m = wKI H m := (wKI_fr hW gm f1473 rfl)
  have k1486 : H1468 x 9 = H x 9 := (f1473 x 9 _ gx rfl)
  have k1487 : H1468 m 6 = H m 6 := (f1473 m 6 _ gm rfl)
  have k1488 : H1468 x 11 = H x 11 := (f1473 x 11 _ gx rfl)
  have k1489 : H1468 m 13 = H m 13 := (f1473 m 13 _ gm rfl)
  have k1490 : H1468 x 8 = H x 8 := (f1473 x 8 _ gx rfl)
  have k1491 : H1468 m 3 = H m 3 := (f1473 m 3 _ gm rfl)
  refine wl_of hX hb cL_496 (xc_V (pc' := 499) (r := m) (as := [vI (H1468 0 ((i + 1).toNat)), vI (H1468 0 ((i + 2).toNat)), vI (H1468 0 ((i + 3).toNat))]) (st := []) (lm_11_49) rfl rfl (Nat.le_of_ble_eq_true rfl) w1472 gm sh_42 (by decide) rfl (by decide) (s_217 w1472 gm ⟨by omega, by omega⟩ ⟨by omega, by omega⟩ ⟨by omega, by omega⟩ (by omega)) (fun R1492 T1493 H1494 p1495 => ?_))
  obtain ⟨e1496, w1498, f1499, z1501, e1497, b1502, p1500⟩ := p1495
  subst e1496
  subst e1497
  show WL _ _ _ _ 499 [(4, vI i), (3, .ref o), (2, .ref m), (1, .ref x), (0, .ref 0)] [vI z1501] _ H1494
  refine wl_of hX hb cL_499 (rw_pop (pc' := 500) rfl rfl ?_)
  refine wl_of hX hb cL_500 (rw_goto (p1 := 1681) (by decide) ?_)
  have k1503 : H1494 x 9 = H1468 x 9 := (f1499 x 9 _ gx rfl)
  have k1504 : H1494 m 6 = H1468 m 6 := (f1499 m 6 _ gm rfl)
  have k1505 : H1494 x 11 = H1468 x 11 := (f1499 x 11 _ gx rfl)
  have k1506 : H1494 m 13 = H1468 m 13 := (f1499 m 13 _ gm rfl)
  have k1507 : H1494 x 8 = H1468 x 8 := (f1499 x 8 _ gx rfl)
  have k1508 : H1494 m 3 = H1468 m 3 := (f1499 m 3 _ gm rfl)
  have h1509 : XI T H1494 x m := (XI_fr w1472 gx f1499 rfl (XI_fr hW gx f1473 rfl hXI))
  exact WL.loc hX (by simp) (next T H1494 ⟨⟨w1498, g0, gx, gm, go, by omega, by omega⟩, h1509, by omega, by omega⟩ (by omega) (by omega))
set_option maxHeartbeats 4000000 in
theorem wl_c7 {kt : Nat → Option mc_E} {CB SB : Nat} {X : mc_S → Prop} {T : wq_T} {H : wq_H} {Len x m o : Nat} {i : Int} (hX : wlX kt CB SB X) (hb : T.2.1 ≤ CB ∧ T.2.2.1 ≤ SB) (hI : wlJ Len x m o T H) (hL : Len ≤ 3072) (hi : 0 ≤ i ∧ i + 6 ≤ Len) (hb2 : T.2.1 + 20 ≤ CB ∧ T.2.2.1 + 500 ≤ SB)  (next : ∀ T' H', wlJ Len x m o T' H' → T'.2.1 ≤ T.2.1 + 20 → T'.2.2.1 ≤ T.2.2.1 + 500 → WL kt CB SB X 1681 (wlL i x m o) [] T' H') : WL kt CB SB X 503 (wlL i x m o) [] T H := by
  obtain ⟨⟨hW, g0, gx, gm, go, hK, hr⟩, hXI, hY1, hY2⟩ := hI
  refine wl_of hX hb cL_503 (rw_aload_n (pc' := 504) (v := .ref x) rfl rfl rfl ?_)
  refine wl_of hX hb cL_504 (xc_V (pc' := 507) (r := x) (as := []) (st := []) (lm_11_50) rfl rfl (Nat.le_of_ble_eq_true rfl) hW gx sh_1 (by decide) rfl (by decide) (s_61 hW gx) (fun R1510 T1511 H1512 p1513 => ?_))
  obtain ⟨e1514, w1516, f1517, z1518, e1515, b1519⟩ := p1513
  subst e1514
  subst e1515
  show WL _ _ _ _ 507 [(4, vI i), (3, .ref o), (2, .ref m), (1, .ref x), (0, .ref 0)] [vL z1518] _ H1512
  refine wl_of hX hb cL_507 (rw_pop2 (pc' := 508) rfl rfl ?_)
  refine wl_of hX hb cL_508 (rw_aload_n (pc' := 509) (v := .ref m) rfl rfl rfl ?_)
  have k1520 : wKI H1512 m = wKI H m := (wKI_fr hW gm f1517 rfl)
  have k1521 : H1512 x 9 = H x 9 := (f1517 x 9 _ gx rfl)
  have k1522 : H1512 m 6 = H m 6 := (f1517 m 6 _ gm rfl)
  have k1523 : H1512 x 11 = H x 11 := (f1517 x 11 _ gx rfl)
  have k1524 : H1512 m 13 = H m 13 := (f1517 m 13 _ gm rfl)
  have k1525 : H1512 x 8 = H x 8 := (f1517 x 8 _ gx rfl)
  have k1526 : H1512 m 3 = H m 3 := (f1517 m 3 _ gm rfl)
  refine wl_of hX hb cL_509 (xc_V (pc' := 512) (r := m) (as := []) (st := []) (lm_11_54) rfl rfl (Nat.le_of_ble_eq_true rfl) w1516 gm sh_42 (by decide) rfl (by decide) (s_219 w1516 gm (by omega)) (fun R1527 T1528 H1529 p1530 => ?_))
  obtain ⟨e1531, w1533, f1534, z1536, e1532, b1537, p1535⟩ := p1530
  subst e1531
  subst e1532
  show WL _ _ _ _ 512 [(4, vI i), (3, .ref o), (2, .ref m), (1, .ref x), (0, .ref 0)] [vL z1536] _ H1529
  refine wl_of hX hb cL_512 (rw_pop2 (pc' := 513) rfl rfl ?_)
  refine wl_of hX hb cL_513 (rw_goto (p1 := 1681) (by decide) ?_)
  have k1538 : H1529 x 9 = H1512 x 9 := (f1534 x 9 _ gx rfl)
  have k1539 : H1529 m 6 = H1512 m 6 := (f1534 m 6 _ gm rfl)
  have k1540 : H1529 x 11 = H1512 x 11 := (f1534 x 11 _ gx rfl)
  have k1541 : H1529 m 13 = H1512 m 13 := (f1534 m 13 _ gm rfl)
  have k1542 : H1529 x 8 = H1512 x 8 := (f1534 x 8 _ gx rfl)
  have k1543 : H1529 m 3 = H1512 m 3 := (f1534 m 3 _ gm rfl)
  have h1544 : XI T H1529 x m := (XI_fr w1516 gx f1534 rfl (XI_fr hW gx f1517 rfl hXI))
  exact WL.loc hX (by simp) (next T H1529 ⟨⟨w1533, g0, gx, gm, go, by omega, by omega⟩, h1544, by omega, by omega⟩ (by omega) (by omega))
set_option maxHeartbeats 4000000 in
theorem wl_c8 {kt : Nat → Option mc_E} {CB SB : Nat} {X : mc_S → Prop} {T : wq_T} {H : wq_H} {Len x m o : Nat} {i : Int} (hX : wlX kt CB SB X) (hb : T.2.1 ≤ CB ∧ T.2.2.1 ≤ SB) (hI : wlJ Len x m o T H) (hL : Len ≤ 3072) (hi : 0 ≤ i ∧ i + 6 ≤ Len) (hb2 : T.2.1 + 20 ≤ CB ∧ T.2.2.1 + 500 ≤ SB)  (next : ∀ T' H', wlJ Len x m o T' H' → T'.2.1 ≤ T.2.1 + 20 → T'.2.2.1 ≤ T.2.2.1 + 500 → WL kt CB SB X 1681 (wlL i x m o) [] T' H') : WL kt CB SB X 516 (wlL i x m o) [] T H := by
  obtain ⟨⟨hW, g0, gx, gm, go, hK, hr⟩, hXI, hY1, hY2⟩ := hI
  refine wl_of hX hb cL_516 (rw_aload_n (pc' := 517) (v := .ref x) rfl rfl rfl ?_)
  refine wl_of hX hb cL_517 (rw_aload_n (pc' := 518) (v := .ref 0) rfl rfl rfl ?_)
  refine wl_of hX hb cL_518 (rw_iload (pc' := 520) (z := i) rfl rfl ?_)
  refine wl_of hX hb cL_520 (rw_iconst (pc' := 521) rfl ?_)
  refine wl_of hX hb cL_521 (rw_iadd (pc' := 522) rfl ?_)
  refine wl_of hX hb cL_522 (xa_I (so := 0) (pc' := 523) (a := 0) hW g0 (wsh_s _) (by omega) (wty_s _ _) (by omega) (by omega) rfl (fun b1545 b1546 => ?_))
  refine wl_of hX hb cL_523 (rw_aload_n (pc' := 524) (v := .ref 0) rfl rfl rfl ?_)
  refine wl_of hX hb cL_524 (rw_iload (pc' := 526) (z := i) rfl rfl ?_)
  refine wl_of hX hb cL_526 (rw_iconst (pc' := 527) rfl ?_)
  refine wl_of hX hb cL_527 (rw_iadd (pc' := 528) rfl ?_)
  refine wl_of hX hb cL_528 (xa_I (so := 0) (pc' := 529) (a := 0) hW g0 (wsh_s _) (by omega) (wty_s _ _) (by omega) (by omega) rfl (fun b1547 b1548 => ?_))
  refine wl_of hX hb cL_529 (xc_V (pc' := 532) (r := x) (as := [vI (H 0 ((i + 1).toNat)), vI (H 0 ((i + 2).toNat))]) (st := []) (lm_11_55) rfl rfl (Nat.le_of_ble_eq_true rfl) hW gx sh_1 (by decide) rfl (by decide) (s_62 hW gx ⟨by omega, by omega⟩ ⟨by omega, by omega⟩) (fun R1549 T1550 H1551 p1552 => ?_))
  obtain ⟨e1553, w1555, f1556, z1557, e1554, b1558⟩ := p1552
  subst e1553
  subst e1554
  show WL _ _ _ _ 532 [(4, vI i), (3, .ref o), (2, .ref m), (1, .ref x), (0, .ref 0)] [vI z1557] _ H1551
  refine wl_of hX hb cL_532 (rw_pop (pc' := 533) rfl rfl ?_)
  refine wl_of hX hb cL_533 (rw_aload_n (pc' := 534) (v := .ref m) rfl rfl rfl ?_)
  refine wl_of hX hb cL_534 (rw_aload_n (pc' := 535) (v := .ref 0) rfl rfl rfl ?_)
  refine wl_of hX hb cL_535 (rw_iload (pc' := 537) (z := i) rfl rfl ?_)
  refine wl_of hX hb cL_537 (rw_iconst (pc' := 538) rfl ?_)
  refine wl_of hX hb cL_538 (rw_iadd (pc' := 539) rfl ?_)
  have k1561 : H1551 0 ((i + 1).toNat) = H 0 ((i + 1).toNat) := (f1556 0 ((i + 1).toNat) _ g0 (wmem_s rfl))
  refine wl_of hX hb cL_539 (xa_I (so := 0) (pc' := 540) (a := 0) w1555 g0 (wsh_s _) (by omega) (wty_s _ _) (by omega) (by omega) rfl (fun b1559 b1560 => ?_))
  refine wl_of hX hb cL_540 (rw_aload_n (pc' := 541) (v := .ref 0) rfl rfl rfl ?_)
  refine wl_of hX hb cL_541 (rw_iload (pc' := 543) (z := i) rfl rfl ?_)
  refine wl_of hX hb cL_543 (rw_iconst (pc' := 544) rfl ?_)
  refine wl_of hX hb cL_544 (rw_iadd (pc' := 545) rfl ?_)
  have k1564 : H1551 0 ((i + 2).toNat) = H 0 ((i + 2).toNat) := (f1556 0 ((i + 2).toNat) _ g0 (wmem_s rfl))
  refine wl_of hX hb cL_545 (xa_I (so := 0) (pc' := 546) (a := 0) w1555 g0 (wsh_s _) (by omega) (wty_s _ _) (by omega) (by omega) rfl (fun b1562 b1563 => ?_))
  have k1565 : wKI H1551 m = wKI H m := (wKI_fr hW gm f1556 rfl)
  have k1566 : H1551 x 9 = H x 9 := (f1556 x 9 _ gx rfl)
  have k1567 : H1551 m 6 = H m 6 := (f1556 m 6 _ gm rfl)
  have k1568 : H1551 x 11 = H x 11 := (f1556 x 11 _ gx rfl)
  have k1569 : H1551 m 13 = H m 13 := (f1556 m 13 _ gm rfl)
  have k1570 : H1551 x 8 = H x 8 := (f1556 x 8 _ gx rfl)
  have k1571 : H1551 m 3 = H m 3 := (f1556 m 3 _ gm rfl)
  refine wl_of hX hb cL_546 (xc_V (pc' := 549) (r := m) (as := [vI (H1551 0 ((i + 1).toNat)), vI (H1551 0 ((i + 2).toNat))]) (st := []) (lm_11_59) rfl rfl (Nat.le_of_ble_eq_true rfl) w1555 gm sh_42 (by decide) rfl (by decide) (s_222 w1555 gm ⟨by omega, by omega⟩ ⟨by omega, by omega⟩ (by omega)) (fun R1572 T1573 H1574 p1575 => ?_))
  obtain ⟨e1576, w1578, f1579, z1581, e1577, b1582, p1580⟩ := p1575
  subst e1576
  subst e1577
  show WL _ _ _ _ 549 [(4, vI i), (3, .ref o), (2, .ref m), (1, .ref x), (0, .ref 0)] [vI z1581] _ H1574
  refine wl_of hX hb cL_549 (rw_pop (pc' := 550) rfl rfl ?_)
  refine wl_of hX hb cL_550 (rw_goto (p1 := 1681) (by decide) ?_)
  have k1583 : H1574 x 9 = H1551 x 9 := (f1579 x 9 _ gx rfl)
  have k1584 : H1574 m 6 = H1551 m 6 := (f1579 m 6 _ gm rfl)
  have k1585 : H1574 x 11 = H1551 x 11 := (f1579 x 11 _ gx rfl)
  have k1586 : H1574 m 13 = H1551 m 13 := (f1579 m 13 _ gm rfl)
  have k1587 : H1574 x 8 = H1551 x 8 := (f1579 x 8 _ gx rfl)
  have k1588 : H1574 m 3 = H1551 m 3 := (f1579 m 3 _ gm rfl)
  have h1589 : XI T H1574 x m := (XI_fr w1555 gx f1579 rfl (XI_fr hW gx f1556 rfl hXI))
  exact WL.loc hX (by simp) (next T H1574 ⟨⟨w1578, g0, gx, gm, go, by omega, by omega⟩, h1589, by omega, by omega⟩ (by omega) (by omega))
set_option maxHeartbeats 4000000 in
theorem wl_c9 {kt : Nat → Option mc_E} {CB SB : Nat} {X : mc_S → Prop} {T : wq_T} {H : wq_H} {Len x m o : Nat} {i : Int} (hX : wlX kt CB SB X) (hb : T.2.1 ≤ CB ∧ T.2.2.1 ≤ SB) (hI : wlJ Len x m o T H) (hL : Len ≤ 3072) (hi : 0 ≤ i ∧ i + 6 ≤ Len) (hb2 : T.2.1 + 20 ≤ CB ∧ T.2.2.1 + 500 ≤ SB)  (next : ∀ T' H', wlJ Len x m o T' H' → T'.2.1 ≤ T.2.1 + 20 → T'.2.2.1 ≤ T.2.2.1 + 500 → WL kt CB SB X 1681 (wlL i x m o) [] T' H') : WL kt CB SB X 553 (wlL i x m o) [] T H := by
  obtain ⟨⟨hW, g0, gx, gm, go, hK, hr⟩, hXI, hY1, hY2⟩ := hI
  refine wl_of hX hb cL_553 (rw_aload_n (pc' := 554) (v := .ref x) rfl rfl rfl ?_)
  refine wl_of hX hb cL_554 (rw_aload_n (pc' := 555) (v := .ref 0) rfl rfl rfl ?_)
  refine wl_of hX hb cL_555 (rw_iload (pc' := 557) (z := i) rfl rfl ?_)
  refine wl_of hX hb cL_557 (rw_iconst (pc' := 558) rfl ?_)
  refine wl_of hX hb cL_558 (rw_iadd (pc' := 559) rfl ?_)
  refine wl_of hX hb cL_559 (xa_I (so := 0) (pc' := 560) (a := 0) hW g0 (wsh_s _) (by omega) (wty_s _ _) (by omega) (by omega) rfl (fun b1590 b1591 => ?_))
  refine wl_of hX hb cL_560 (xc_V (pc' := 563) (r := x) (as := [vI (H 0 ((i + 1).toNat))]) (st := []) (lm_11_60) rfl rfl (Nat.le_of_ble_eq_true rfl) hW gx sh_1 (by decide) rfl (by decide) (s_65 hW gx ⟨by omega, by omega⟩) (fun R1592 T1593 H1594 p1595 => ?_))
  obtain ⟨e1596, w1598, f1599, z1600, e1597, b1601⟩ := p1595
  subst e1596
  subst e1597
  show WL _ _ _ _ 563 [(4, vI i), (3, .ref o), (2, .ref m), (1, .ref x), (0, .ref 0)] [vI z1600] _ H1594
  refine wl_of hX hb cL_563 (rw_pop (pc' := 564) rfl rfl ?_)
  refine wl_of hX hb cL_564 (rw_aload_n (pc' := 565) (v := .ref m) rfl rfl rfl ?_)
  refine wl_of hX hb cL_565 (rw_aload_n (pc' := 566) (v := .ref 0) rfl rfl rfl ?_)
  refine wl_of hX hb cL_566 (rw_iload (pc' := 568) (z := i) rfl rfl ?_)
  refine wl_of hX hb cL_568 (rw_iconst (pc' := 569) rfl ?_)
  refine wl_of hX hb cL_569 (rw_iadd (pc' := 570) rfl ?_)
  have k1604 : H1594 0 ((i + 1).toNat) = H 0 ((i + 1).toNat) := (f1599 0 ((i + 1).toNat) _ g0 (wmem_s rfl))
  refine wl_of hX hb cL_570 (xa_I (so := 0) (pc' := 571) (a := 0) w1598 g0 (wsh_s _) (by omega) (wty_s _ _) (by omega) (by omega) rfl (fun b1602 b1603 => ?_))
  have k1605 : wKI H1594 m = wKI H m := (wKI_fr hW gm f1599 rfl)
  have k1606 : H1594 x 9 = H x 9 := (f1599 x 9 _ gx rfl)
  have k1607 : H1594 m 6 = H m 6 := (f1599 m 6 _ gm rfl)
  have k1608 : H1594 x 11 = H x 11 := (f1599 x 11 _ gx rfl)
  have k1609 : H1594 m 13 = H m 13 := (f1599 m 13 _ gm rfl)
  have k1610 : H1594 x 8 = H x 8 := (f1599 x 8 _ gx rfl)
  have k1611 : H1594 m 3 = H m 3 := (f1599 m 3 _ gm rfl)
  refine wl_of hX hb cL_571 (xc_V (pc' := 574) (r := m) (as := [vI (H1594 0 ((i + 1).toNat))]) (st := []) (lm_11_63) rfl rfl (Nat.le_of_ble_eq_true rfl) w1598 gm sh_42 (by decide) rfl (by decide) (s_225 w1598 gm ⟨by omega, by omega⟩ (by omega)) (fun R1612 T1613 H1614 p1615 => ?_))
  obtain ⟨e1616, w1618, f1619, z1621, e1617, b1622, p1620⟩ := p1615
  subst e1616
  subst e1617
  show WL _ _ _ _ 574 [(4, vI i), (3, .ref o), (2, .ref m), (1, .ref x), (0, .ref 0)] [vI z1621] _ H1614
  refine wl_of hX hb cL_574 (rw_pop (pc' := 575) rfl rfl ?_)
  refine wl_of hX hb cL_575 (rw_goto (p1 := 1681) (by decide) ?_)
  have k1623 : H1614 x 9 = H1594 x 9 := (f1619 x 9 _ gx rfl)
  have k1624 : H1614 m 6 = H1594 m 6 := (f1619 m 6 _ gm rfl)
  have k1625 : H1614 x 11 = H1594 x 11 := (f1619 x 11 _ gx rfl)
  have k1626 : H1614 m 13 = H1594 m 13 := (f1619 m 13 _ gm rfl)
  have k1627 : H1614 x 8 = H1594 x 8 := (f1619 x 8 _ gx rfl)
  have k1628 : H1614 m 3 = H1594 m 3 := (f1619 m 3 _ gm rfl)
  have h1629 : XI T H1614 x m := (XI_fr w1598 gx f1619 rfl (XI_fr hW gx f1599 rfl hXI))
  exact WL.loc hX (by simp) (next T H1614 ⟨⟨w1618, g0, gx, gm, go, by omega, by omega⟩, h1629, by omega, by omega⟩ (by omega) (by omega))
set_option maxHeartbeats 4000000 in
theorem wl_c10 {kt : Nat → Option mc_E} {CB SB : Nat} {X : mc_S → Prop} {T : wq_T} {H : wq_H} {Len x m o : Nat} {i : Int} (hX : wlX kt CB SB X) (hb : T.2.1 ≤ CB ∧ T.2.2.1 ≤ SB) (hI : wlJ Len x m o T H) (hL : Len ≤ 3072) (hi : 0 ≤ i ∧ i + 6 ≤ Len) (hb2 : T.2.1 + 20 ≤ CB ∧ T.2.2.1 + 500 ≤ SB)  (next : ∀ T' H', wlJ Len x m o T' H' → T'.2.1 ≤ T.2.1 + 20 → T'.2.2.1 ≤ T.2.2.1 + 500 → WL kt CB SB X 1681 (wlL i x m o) [] T' H') : WL kt CB SB X 578 (wlL i x m o) [] T H := by
  obtain ⟨⟨hW, g0, gx, gm, go, hK, hr⟩, hXI, hY1, hY2⟩ := hI
  refine wl_of hX hb cL_578 (rw_aload_n (pc' := 579) (v := .ref x) rfl rfl rfl ?_)
  refine wl_of hX hb cL_579 (rw_aload_n (pc' := 580) (v := .ref 0) rfl rfl rfl ?_)
  refine wl_of hX hb cL_580 (rw_iload (pc' := 582) (z := i) rfl rfl ?_)
  refine wl_of hX hb cL_582 (rw_iconst (pc' := 583) rfl ?_)
  refine wl_of hX hb cL_583 (rw_iadd (pc' := 584) rfl ?_)
  refine wl_of hX hb cL_584 (xa_I (so := 0) (pc' := 585) (a := 0) hW g0 (wsh_s _) (by omega) (wty_s _ _) (by omega) (by omega) rfl (fun b1630 b1631 => ?_))
  refine wl_of hX hb cL_585 (xc_V (pc' := 588) (r := x) (as := [vI (H 0 ((i + 1).toNat))]) (st := []) (lm_11_64) rfl rfl (Nat.le_of_ble_eq_true rfl) hW gx sh_1 (by decide) rfl (by decide) (s_66 hW gx ⟨by omega, by omega⟩) (fun R1632 T1633 H1634 p1635 => ?_))
  obtain ⟨e1636, w1638, f1639, z1640, e1637, b1641⟩ := p1635
  subst e1636
  subst e1637
  show WL _ _ _ _ 588 [(4, vI i), (3, .ref o), (2, .ref m), (1, .ref x), (0, .ref 0)] [vI z1640] _ H1634
  refine wl_of hX hb cL_588 (rw_pop (pc' := 589) rfl rfl ?_)
  refine wl_of hX hb cL_589 (rw_aload_n (pc' := 590) (v := .ref m) rfl rfl rfl ?_)
  refine wl_of hX hb cL_590 (rw_aload_n (pc' := 591) (v := .ref 0) rfl rfl rfl ?_)
  refine wl_of hX hb cL_591 (rw_iload (pc' := 593) (z := i) rfl rfl ?_)
  refine wl_of hX hb cL_593 (rw_iconst (pc' := 594) rfl ?_)
  refine wl_of hX hb cL_594 (rw_iadd (pc' := 595) rfl ?_)
  have k1644 : H1634 0 ((i + 1).toNat) = H 0 ((i + 1).toNat) := (f1639 0 ((i + 1).toNat) _ g0 (wmem_s rfl))
  refine wl_of hX hb cL_595 (xa_I (so := 0) (pc' := 596) (a := 0) w1638 g0 (wsh_s _) (by omega) (wty_s _ _) (by omega) (by omega) rfl (fun b1642 b1643 => ?_))
  have k1645 : wKI H1634 m = wKI H m := (wKI_fr hW gm f1639 rfl)
  have k1646 : H1634 x 9 = H x 9 := (f1639 x 9 _ gx rfl)
  have k1647 : H1634 m 6 = H m 6 := (f1639 m 6 _ gm rfl)
  have k1648 : H1634 x 11 = H x 11 := (f1639 x 11 _ gx rfl)
  have k1649 : H1634 m 13 = H m 13 := (f1639 m 13 _ gm rfl)
  have k1650 : H1634 x 8 = H x 8 := (f1639 x 8 _ gx rfl)
  have k1651 : H1634 m 3 = H m 3 := (f1639 m 3 _ gm rfl)
  refine wl_of hX hb cL_596 (xc_V (pc' := 599) (r := m) (as := [vI (H1634 0 ((i + 1).toNat))]) (st := []) (lm_11_67) rfl rfl (Nat.le_of_ble_eq_true rfl) w1638 gm sh_42 (by decide) rfl (by decide) (s_226 w1638 gm ⟨by omega, by omega⟩ (by omega)) (fun R1652 T1653 H1654 p1655 => ?_))
  obtain ⟨e1656, w1658, f1659, z1661, e1657, b1662, p1660⟩ := p1655
  subst e1656
  subst e1657
  show WL _ _ _ _ 599 [(4, vI i), (3, .ref o), (2, .ref m), (1, .ref x), (0, .ref 0)] [vI z1661] _ H1654
  refine wl_of hX hb cL_599 (rw_pop (pc' := 600) rfl rfl ?_)
  refine wl_of hX hb cL_600 (rw_goto (p1 := 1681) (by decide) ?_)
  have k1663 : H1654 x 9 = H1634 x 9 := (f1659 x 9 _ gx rfl)
  have k1664 : H1654 m 6 = H1634 m 6 := (f1659 m 6 _ gm rfl)
  have k1665 : H1654 x 11 = H1634 x 11 := (f1659 x 11 _ gx rfl)
  have k1666 : H1654 m 13 = H1634 m 13 := (f1659 m 13 _ gm rfl)
  have k1667 : H1654 x 8 = H1634 x 8 := (f1659 x 8 _ gx rfl)
  have k1668 : H1654 m 3 = H1634 m 3 := (f1659 m 3 _ gm rfl)
  have h1669 : XI T H1654 x m := (XI_fr w1638 gx f1659 rfl (XI_fr hW gx f1639 rfl hXI))
  exact WL.loc hX (by simp) (next T H1654 ⟨⟨w1658, g0, gx, gm, go, by omega, by omega⟩, h1669, by omega, by omega⟩ (by omega) (by omega))
set_option maxHeartbeats 4000000 in
theorem wl_c11 {kt : Nat → Option mc_E} {CB SB : Nat} {X : mc_S → Prop} {T : wq_T} {H : wq_H} {Len x m o : Nat} {i : Int} (hX : wlX kt CB SB X) (hb : T.2.1 ≤ CB ∧ T.2.2.1 ≤ SB) (hI : wlJ Len x m o T H) (hL : Len ≤ 3072) (hi : 0 ≤ i ∧ i + 6 ≤ Len) (hb2 : T.2.1 + 20 ≤ CB ∧ T.2.2.1 + 500 ≤ SB)  (next : ∀ T' H', wlJ Len x m o T' H' → T'.2.1 ≤ T.2.1 + 20 → T'.2.2.1 ≤ T.2.2.1 + 500 → WL kt CB SB X 1681 (wlL i x m o) [] T' H') : WL kt CB SB X 603 (wlL i x m o) [] T H := by
  obtain ⟨⟨hW, g0, gx, gm, go, hK, hr⟩, hXI, hY1, hY2⟩ := hI
  refine wl_of hX hb cL_603 (rw_aload_n (pc' := 604) (v := .ref x) rfl rfl rfl ?_)
  refine wl_of hX hb cL_604 (xc_V (pc' := 607) (r := x) (as := []) (st := []) (lm_11_68) rfl rfl (Nat.le_of_ble_eq_true rfl) hW gx sh_1 (by decide) rfl (by decide) (s_73 hW gx) (fun R1670 T1671 H1672 p1673 => ?_))
  obtain ⟨e1674, w1676, f1677, z1678, e1675, b1679⟩ := p1673
  subst e1674
  subst e1675
  show WL _ _ _ _ 607 [(4, vI i), (3, .ref o), (2, .ref m), (1, .ref x), (0, .ref 0)] [vI z1678] _ H1672
  refine wl_of hX hb cL_607 (rw_pop (pc' := 608) rfl rfl ?_)
  refine wl_of hX hb cL_608 (rw_aload_n (pc' := 609) (v := .ref m) rfl rfl rfl ?_)
  have k1680 : wKI H1672 m = wKI H m := (wKI_fr hW gm f1677 rfl)
  have k1681 : H1672 x 9 = H x 9 := (f1677 x 9 _ gx rfl)
  have k1682 : H1672 m 6 = H m 6 := (f1677 m 6 _ gm rfl)
  have k1683 : H1672 x 11 = H x 11 := (f1677 x 11 _ gx rfl)
  have k1684 : H1672 m 13 = H m 13 := (f1677 m 13 _ gm rfl)
  have k1685 : H1672 x 8 = H x 8 := (f1677 x 8 _ gx rfl)
  have k1686 : H1672 m 3 = H m 3 := (f1677 m 3 _ gm rfl)
  refine wl_of hX hb cL_609 (xc_V (pc' := 612) (r := m) (as := []) (st := []) (lm_11_71) rfl rfl (Nat.le_of_ble_eq_true rfl) w1676 gm sh_42 (by decide) rfl (by decide) (s_230 w1676 gm (by omega)) (fun R1687 T1688 H1689 p1690 => ?_))
  obtain ⟨e1691, w1693, f1694, z1696, e1692, b1697, p1695⟩ := p1690
  subst e1691
  subst e1692
  show WL _ _ _ _ 612 [(4, vI i), (3, .ref o), (2, .ref m), (1, .ref x), (0, .ref 0)] [vI z1696] _ H1689
  refine wl_of hX hb cL_612 (rw_pop (pc' := 613) rfl rfl ?_)
  refine wl_of hX hb cL_613 (rw_goto (p1 := 1681) (by decide) ?_)
  have k1698 : H1689 x 9 = H1672 x 9 := (f1694 x 9 _ gx rfl)
  have k1699 : H1689 m 6 = H1672 m 6 := (f1694 m 6 _ gm rfl)
  have k1700 : H1689 x 11 = H1672 x 11 := (f1694 x 11 _ gx rfl)
  have k1701 : H1689 m 13 = H1672 m 13 := (f1694 m 13 _ gm rfl)
  have k1702 : H1689 x 8 = H1672 x 8 := (f1694 x 8 _ gx rfl)
  have k1703 : H1689 m 3 = H1672 m 3 := (f1694 m 3 _ gm rfl)
  have h1704 : XI T H1689 x m := (XI_fr w1676 gx f1694 rfl (XI_fr hW gx f1677 rfl hXI))
  exact WL.loc hX (by simp) (next T H1689 ⟨⟨w1693, g0, gx, gm, go, by omega, by omega⟩, h1704, by omega, by omega⟩ (by omega) (by omega))
set_option maxHeartbeats 4000000 in
theorem wl_c12 {kt : Nat → Option mc_E} {CB SB : Nat} {X : mc_S → Prop} {T : wq_T} {H : wq_H} {Len x m o : Nat} {i : Int} (hX : wlX kt CB SB X) (hb : T.2.1 ≤ CB ∧ T.2.2.1 ≤ SB) (hI : wlJ Len x m o T H) (hL : Len ≤ 3072) (hi : 0 ≤ i ∧ i + 6 ≤ Len) (hb2 : T.2.1 + 20 ≤ CB ∧ T.2.2.1 + 500 ≤ SB)  (next : ∀ T' H', wlJ Len x m o T' H' → T'.2.1 ≤ T.2.1 + 20 → T'.2.2.1 ≤ T.2.2.1 + 500 → WL kt CB SB X 1681 (wlL i x m o) [] T' H') : WL kt CB SB X 616 (wlL i x m o) [] T H := by
  obtain ⟨⟨hW, g0, gx, gm, go, hK, hr⟩, hXI, hY1, hY2⟩ := hI
  refine wl_of hX hb cL_616 (rw_aload_n (pc' := 617) (v := .ref x) rfl rfl rfl ?_)
  refine wl_of hX hb cL_617 (xc_V (pc' := 620) (r := x) (as := []) (st := []) (lm_11_72) rfl rfl (Nat.le_of_ble_eq_true rfl) hW gx sh_1 (by decide) rfl (by decide) (s_77 hW gx) (fun R1705 T1706 H1707 p1708 => ?_))
  obtain ⟨e1709, w1711, f1712, z1713, e1710, b1714⟩ := p1708
  subst e1709
  subst e1710
  show WL _ _ _ _ 620 [(4, vI i), (3, .ref o), (2, .ref m), (1, .ref x), (0, .ref 0)] [vI z1713] _ H1707
  refine wl_of hX hb cL_620 (rw_pop (pc' := 621) rfl rfl ?_)
  refine wl_of hX hb cL_621 (rw_aload_n (pc' := 622) (v := .ref m) rfl rfl rfl ?_)
  have k1715 : wKI H1707 m = wKI H m := (wKI_fr hW gm f1712 rfl)
  have k1716 : H1707 x 9 = H x 9 := (f1712 x 9 _ gx rfl)
  have k1717 : H1707 m 6 = H m 6 := (f1712 m 6 _ gm rfl)
  have k1718 : H1707 x 11 = H x 11 := (f1712 x 11 _ gx rfl)
  have k1719 : H1707 m 13 = H m 13 := (f1712 m 13 _ gm rfl)
  have k1720 : H1707 x 8 = H x 8 := (f1712 x 8 _ gx rfl)
  have k1721 : H1707 m 3 = H m 3 := (f1712 m 3 _ gm rfl)
  refine wl_of hX hb cL_622 (xc_V (pc' := 625) (r := m) (as := []) (st := []) (lm_11_75) rfl rfl (Nat.le_of_ble_eq_true rfl) w1711 gm sh_42 (by decide) rfl (by decide) (s_236 w1711 gm (by omega)) (fun R1722 T1723 H1724 p1725 => ?_))
  obtain ⟨e1726, w1728, f1729, z1731, e1727, b1732, p1730⟩ := p1725
  subst e1726
  subst e1727
  show WL _ _ _ _ 625 [(4, vI i), (3, .ref o), (2, .ref m), (1, .ref x), (0, .ref 0)] [vI z1731] _ H1724
  refine wl_of hX hb cL_625 (rw_pop (pc' := 626) rfl rfl ?_)
  refine wl_of hX hb cL_626 (rw_goto (p1 := 1681) (by decide) ?_)
  have k1733 : H1724 x 9 = H1707 x 9 := (f1729 x 9 _ gx rfl)
  have k1734 : H1724 m 6 = H1707 m 6 := (f1729 m 6 _ gm rfl)
  have k1735 : H1724 x 11 = H1707 x 11 := (f1729 x 11 _ gx rfl)
  have k1736 : H1724 m 13 = H1707 m 13 := (f1729 m 13 _ gm rfl)
  have k1737 : H1724 x 8 = H1707 x 8 := (f1729 x 8 _ gx rfl)
  have k1738 : H1724 m 3 = H1707 m 3 := (f1729 m 3 _ gm rfl)
  have h1739 : XI T H1724 x m := (XI_fr w1711 gx f1729 rfl (XI_fr hW gx f1712 rfl hXI))
  exact WL.loc hX (by simp) (next T H1724 ⟨⟨w1728, g0, gx, gm, go, by omega, by omega⟩, h1739, by omega, by omega⟩ (by omega) (by omega))
set_option maxHeartbeats 4000000 in
theorem wl_c13 {kt : Nat → Option mc_E} {CB SB : Nat} {X : mc_S → Prop} {T : wq_T} {H : wq_H} {Len x m o : Nat} {i : Int} (hX : wlX kt CB SB X) (hb : T.2.1 ≤ CB ∧ T.2.2.1 ≤ SB) (hI : wlJ Len x m o T H) (hL : Len ≤ 3072) (hi : 0 ≤ i ∧ i + 6 ≤ Len) (hb2 : T.2.1 + 20 ≤ CB ∧ T.2.2.1 + 500 ≤ SB)  (next : ∀ T' H', wlJ Len x m o T' H' → T'.2.1 ≤ T.2.1 + 20 → T'.2.2.1 ≤ T.2.2.1 + 500 → WL kt CB SB X 1681 (wlL i x m o) [] T' H') : WL kt CB SB X 629 (wlL i x m o) [] T H := by
  obtain ⟨⟨hW, g0, gx, gm, go, hK, hr⟩, hXI, hY1, hY2⟩ := hI
  refine wl_of hX hb cL_629 (rw_aload_n (pc' := 630) (v := .ref x) rfl rfl rfl ?_)
  refine wl_of hX hb cL_630 (xc_V (pc' := 633) (r := x) (as := []) (st := []) (lm_11_76) rfl rfl (Nat.le_of_ble_eq_true rfl) hW gx sh_1 (by decide) rfl (by decide) (s_78 hW gx) (fun R1740 T1741 H1742 p1743 => ?_))
  obtain ⟨e1744, w1746, f1747, z1748, e1745, b1749⟩ := p1743
  subst e1744
  subst e1745
  show WL _ _ _ _ 633 [(4, vI i), (3, .ref o), (2, .ref m), (1, .ref x), (0, .ref 0)] [vI z1748] _ H1742
  refine wl_of hX hb cL_633 (rw_pop (pc' := 634) rfl rfl ?_)
  refine wl_of hX hb cL_634 (rw_aload_n (pc' := 635) (v := .ref m) rfl rfl rfl ?_)
  have k1750 : wKI H1742 m = wKI H m := (wKI_fr hW gm f1747 rfl)
  have k1751 : H1742 x 9 = H x 9 := (f1747 x 9 _ gx rfl)
  have k1752 : H1742 m 6 = H m 6 := (f1747 m 6 _ gm rfl)
  have k1753 : H1742 x 11 = H x 11 := (f1747 x 11 _ gx rfl)
  have k1754 : H1742 m 13 = H m 13 := (f1747 m 13 _ gm rfl)
  have k1755 : H1742 x 8 = H x 8 := (f1747 x 8 _ gx rfl)
  have k1756 : H1742 m 3 = H m 3 := (f1747 m 3 _ gm rfl)
  refine wl_of hX hb cL_635 (xc_V (pc' := 638) (r := m) (as := []) (st := []) (lm_11_79) rfl rfl (Nat.le_of_ble_eq_true rfl) w1746 gm sh_42 (by decide) rfl (by decide) (s_237 w1746 gm (by omega)) (fun R1757 T1758 H1759 p1760 => ?_))
  obtain ⟨e1761, w1763, f1764, z1766, e1762, b1767, p1765⟩ := p1760
  subst e1761
  subst e1762
  show WL _ _ _ _ 638 [(4, vI i), (3, .ref o), (2, .ref m), (1, .ref x), (0, .ref 0)] [vI z1766] _ H1759
  refine wl_of hX hb cL_638 (rw_pop (pc' := 639) rfl rfl ?_)
  refine wl_of hX hb cL_639 (rw_goto (p1 := 1681) (by decide) ?_)
  have k1768 : H1759 x 9 = H1742 x 9 := (f1764 x 9 _ gx rfl)
  have k1769 : H1759 m 6 = H1742 m 6 := (f1764 m 6 _ gm rfl)
  have k1770 : H1759 x 11 = H1742 x 11 := (f1764 x 11 _ gx rfl)
  have k1771 : H1759 m 13 = H1742 m 13 := (f1764 m 13 _ gm rfl)
  have k1772 : H1759 x 8 = H1742 x 8 := (f1764 x 8 _ gx rfl)
  have k1773 : H1759 m 3 = H1742 m 3 := (f1764 m 3 _ gm rfl)
  have h1774 : XI T H1759 x m := (XI_fr w1746 gx f1764 rfl (XI_fr hW gx f1747 rfl hXI))
  exact WL.loc hX (by simp) (next T H1759 ⟨⟨w1763, g0, gx, gm, go, by omega, by omega⟩, h1774, by omega, by omega⟩ (by omega) (by omega))
set_option maxHeartbeats 4000000 in
theorem wl_c14 {kt : Nat → Option mc_E} {CB SB : Nat} {X : mc_S → Prop} {T : wq_T} {H : wq_H} {Len x m o : Nat} {i : Int} (hX : wlX kt CB SB X) (hb : T.2.1 ≤ CB ∧ T.2.2.1 ≤ SB) (hI : wlJ Len x m o T H) (hL : Len ≤ 3072) (hi : 0 ≤ i ∧ i + 6 ≤ Len) (hb2 : T.2.1 + 20 ≤ CB ∧ T.2.2.1 + 500 ≤ SB)  (next : ∀ T' H', wlJ Len x m o T' H' → T'.2.1 ≤ T.2.1 + 20 → T'.2.2.1 ≤ T.2.2.1 + 500 → WL kt CB SB X 1681 (wlL i x m o) [] T' H') : WL kt CB SB X 642 (wlL i x m o) [] T H := by
  obtain ⟨⟨hW, g0, gx, gm, go, hK, hr⟩, hXI, hY1, hY2⟩ := hI
  refine wl_of hX hb cL_642 (rw_aload_n (pc' := 643) (v := .ref x) rfl rfl rfl ?_)
  refine wl_of hX hb cL_643 (xc_V (pc' := 646) (r := x) (as := []) (st := []) (lm_11_80) rfl rfl (Nat.le_of_ble_eq_true rfl) hW gx sh_1 (by decide) rfl (by decide) (s_82 hW gx) (fun R1775 T1776 H1777 p1778 => ?_))
  obtain ⟨e1779, w1781, f1782, z1783, e1780, b1784⟩ := p1778
  subst e1779
  subst e1780
  show WL _ _ _ _ 646 [(4, vI i), (3, .ref o), (2, .ref m), (1, .ref x), (0, .ref 0)] [vI z1783] _ H1777
  refine wl_of hX hb cL_646 (rw_pop (pc' := 647) rfl rfl ?_)
  refine wl_of hX hb cL_647 (rw_aload_n (pc' := 648) (v := .ref m) rfl rfl rfl ?_)
  have k1785 : wKI H1777 m = wKI H m := (wKI_fr hW gm f1782 rfl)
  have k1786 : H1777 x 9 = H x 9 := (f1782 x 9 _ gx rfl)
  have k1787 : H1777 m 6 = H m 6 := (f1782 m 6 _ gm rfl)
  have k1788 : H1777 x 11 = H x 11 := (f1782 x 11 _ gx rfl)
  have k1789 : H1777 m 13 = H m 13 := (f1782 m 13 _ gm rfl)
  have k1790 : H1777 x 8 = H x 8 := (f1782 x 8 _ gx rfl)
  have k1791 : H1777 m 3 = H m 3 := (f1782 m 3 _ gm rfl)
  refine wl_of hX hb cL_648 (xc_V (pc' := 651) (r := m) (as := []) (st := []) (lm_11_83) rfl rfl (Nat.le_of_ble_eq_true rfl) w1781 gm sh_42 (by decide) rfl (by decide) (s_240 w1781 gm (by omega)) (fun R1792 T1793 H1794 p1795 => ?_))
  obtain ⟨e1796, w1798, f1799, z1801, e1797, b1802, p1800⟩ := p1795
  subst e1796
  subst e1797
  show WL _ _ _ _ 651 [(4, vI i), (3, .ref o), (2, .ref m), (1, .ref x), (0, .ref 0)] [vI z1801] _ H1794
  refine wl_of hX hb cL_651 (rw_pop (pc' := 652) rfl rfl ?_)
  refine wl_of hX hb cL_652 (rw_goto (p1 := 1681) (by decide) ?_)
  have k1803 : H1794 x 9 = H1777 x 9 := (f1799 x 9 _ gx rfl)
  have k1804 : H1794 m 6 = H1777 m 6 := (f1799 m 6 _ gm rfl)
  have k1805 : H1794 x 11 = H1777 x 11 := (f1799 x 11 _ gx rfl)
  have k1806 : H1794 m 13 = H1777 m 13 := (f1799 m 13 _ gm rfl)
  have k1807 : H1794 x 8 = H1777 x 8 := (f1799 x 8 _ gx rfl)
  have k1808 : H1794 m 3 = H1777 m 3 := (f1799 m 3 _ gm rfl)
  have h1809 : XI T H1794 x m := (XI_fr w1781 gx f1799 rfl (XI_fr hW gx f1782 rfl hXI))
  exact WL.loc hX (by simp) (next T H1794 ⟨⟨w1798, g0, gx, gm, go, by omega, by omega⟩, h1809, by omega, by omega⟩ (by omega) (by omega))
set_option maxHeartbeats 4000000 in
theorem wl_c15 {kt : Nat → Option mc_E} {CB SB : Nat} {X : mc_S → Prop} {T : wq_T} {H : wq_H} {Len x m o : Nat} {i : Int} (hX : wlX kt CB SB X) (hb : T.2.1 ≤ CB ∧ T.2.2.1 ≤ SB) (hI : wlJ Len x m o T H) (hL : Len ≤ 3072) (hi : 0 ≤ i ∧ i + 6 ≤ Len) (hb2 : T.2.1 + 20 ≤ CB ∧ T.2.2.1 + 500 ≤ SB)  (next : ∀ T' H', wlJ Len x m o T' H' → T'.2.1 ≤ T.2.1 + 20 → T'.2.2.1 ≤ T.2.2.1 + 500 → WL kt CB SB X 1681 (wlL i x m o) [] T' H') : WL kt CB SB X 655 (wlL i x m o) [] T H := by
  obtain ⟨⟨hW, g0, gx, gm, go, hK, hr⟩, hXI, hY1, hY2⟩ := hI
  refine wl_of hX hb cL_655 (rw_aload_n (pc' := 656) (v := .ref x) rfl rfl rfl ?_)
  refine wl_of hX hb cL_656 (xc_V (pc' := 659) (r := x) (as := []) (st := []) (lm_11_84) rfl rfl (Nat.le_of_ble_eq_true rfl) hW gx sh_1 (by decide) rfl (by decide) (s_92 hW gx) (fun R1810 T1811 H1812 p1813 => ?_))
  obtain ⟨e1814, w1816, f1817, z1818, e1815, b1819⟩ := p1813
  subst e1814
  subst e1815
  show WL _ _ _ _ 659 [(4, vI i), (3, .ref o), (2, .ref m), (1, .ref x), (0, .ref 0)] [vI z1818] _ H1812
  refine wl_of hX hb cL_659 (rw_pop (pc' := 660) rfl rfl ?_)
  refine wl_of hX hb cL_660 (rw_aload_n (pc' := 661) (v := .ref m) rfl rfl rfl ?_)
  have k1820 : wKI H1812 m = wKI H m := (wKI_fr hW gm f1817 rfl)
  have k1821 : H1812 x 9 = H x 9 := (f1817 x 9 _ gx rfl)
  have k1822 : H1812 m 6 = H m 6 := (f1817 m 6 _ gm rfl)
  have k1823 : H1812 x 11 = H x 11 := (f1817 x 11 _ gx rfl)
  have k1824 : H1812 m 13 = H m 13 := (f1817 m 13 _ gm rfl)
  have k1825 : H1812 x 8 = H x 8 := (f1817 x 8 _ gx rfl)
  have k1826 : H1812 m 3 = H m 3 := (f1817 m 3 _ gm rfl)
  refine wl_of hX hb cL_661 (xc_V (pc' := 664) (r := m) (as := []) (st := []) (lm_11_87) rfl rfl (Nat.le_of_ble_eq_true rfl) w1816 gm sh_42 (by decide) rfl (by decide) (s_244 w1816 gm (by omega)) (fun R1827 T1828 H1829 p1830 => ?_))
  obtain ⟨e1831, w1833, f1834, z1836, e1832, b1837, p1835⟩ := p1830
  subst e1831
  subst e1832
  show WL _ _ _ _ 664 [(4, vI i), (3, .ref o), (2, .ref m), (1, .ref x), (0, .ref 0)] [vI z1836] _ H1829
  refine wl_of hX hb cL_664 (rw_pop (pc' := 665) rfl rfl ?_)
  refine wl_of hX hb cL_665 (rw_goto (p1 := 1681) (by decide) ?_)
  have k1838 : H1829 x 9 = H1812 x 9 := (f1834 x 9 _ gx rfl)
  have k1839 : H1829 m 6 = H1812 m 6 := (f1834 m 6 _ gm rfl)
  have k1840 : H1829 x 11 = H1812 x 11 := (f1834 x 11 _ gx rfl)
  have k1841 : H1829 m 13 = H1812 m 13 := (f1834 m 13 _ gm rfl)
  have k1842 : H1829 x 8 = H1812 x 8 := (f1834 x 8 _ gx rfl)
  have k1843 : H1829 m 3 = H1812 m 3 := (f1834 m 3 _ gm rfl)
  have h1844 : XI T H1829 x m := (XI_fr w1816 gx f1834 rfl (XI_fr hW gx f1817 rfl hXI))
  exact WL.loc hX (by simp) (next T H1829 ⟨⟨w1833, g0, gx, gm, go, by omega, by omega⟩, h1844, by omega, by omega⟩ (by omega) (by omega))
set_option maxHeartbeats 4000000 in
theorem wl_c16 {kt : Nat → Option mc_E} {CB SB : Nat} {X : mc_S → Prop} {T : wq_T} {H : wq_H} {Len x m o : Nat} {i : Int} (hX : wlX kt CB SB X) (hb : T.2.1 ≤ CB ∧ T.2.2.1 ≤ SB) (hI : wlJ Len x m o T H) (hL : Len ≤ 3072) (hi : 0 ≤ i ∧ i + 6 ≤ Len) (hb2 : T.2.1 + 20 ≤ CB ∧ T.2.2.1 + 500 ≤ SB)  (next : ∀ T' H', wlJ Len x m o T' H' → T'.2.1 ≤ T.2.1 + 20 → T'.2.2.1 ≤ T.2.2.1 + 500 → WL kt CB SB X 1681 (wlL i x m o) [] T' H') : WL kt CB SB X 668 (wlL i x m o) [] T H := by
  obtain ⟨⟨hW, g0, gx, gm, go, hK, hr⟩, hXI, hY1, hY2⟩ := hI
  refine wl_of hX hb cL_668 (rw_aload_n (pc' := 669) (v := .ref x) rfl rfl rfl ?_)
  refine wl_of hX hb cL_669 (rw_aload_n (pc' := 670) (v := .ref 0) rfl rfl rfl ?_)
  refine wl_of hX hb cL_670 (rw_iload (pc' := 672) (z := i) rfl rfl ?_)
  refine wl_of hX hb cL_672 (rw_iconst (pc' := 673) rfl ?_)
  refine wl_of hX hb cL_673 (rw_iadd (pc' := 674) rfl ?_)
  refine wl_of hX hb cL_674 (xa_I (so := 0) (pc' := 675) (a := 0) hW g0 (wsh_s _) (by omega) (wty_s _ _) (by omega) (by omega) rfl (fun b1845 b1846 => ?_))
  refine wl_of hX hb cL_675 (rw_aload_n (pc' := 676) (v := .ref 0) rfl rfl rfl ?_)
  refine wl_of hX hb cL_676 (rw_iload (pc' := 678) (z := i) rfl rfl ?_)
  refine wl_of hX hb cL_678 (rw_iconst (pc' := 679) rfl ?_)
  refine wl_of hX hb cL_679 (rw_iadd (pc' := 680) rfl ?_)
  refine wl_of hX hb cL_680 (xa_I (so := 0) (pc' := 681) (a := 0) hW g0 (wsh_s _) (by omega) (wty_s _ _) (by omega) (by omega) rfl (fun b1847 b1848 => ?_))
  refine wl_of hX hb cL_681 (xc_V (pc' := 684) (r := x) (as := [vI (H 0 ((i + 1).toNat)), vI (H 0 ((i + 2).toNat))]) (st := []) (lm_11_88) rfl rfl (Nat.le_of_ble_eq_true rfl) hW gx sh_1 (by decide) rfl (by decide) (s_93 hW gx ⟨by omega, by omega⟩ ⟨by omega, by omega⟩) (fun R1849 T1850 H1851 p1852 => ?_))
  obtain ⟨e1853, w1855, f1856, z1857, e1854, b1858⟩ := p1852
  subst e1853
  subst e1854
  show WL _ _ _ _ 684 [(4, vI i), (3, .ref o), (2, .ref m), (1, .ref x), (0, .ref 0)] [vI z1857] _ H1851
  refine wl_of hX hb cL_684 (rw_pop (pc' := 685) rfl rfl ?_)
  refine wl_of hX hb cL_685 (rw_aload_n (pc' := 686) (v := .ref m) rfl rfl rfl ?_)
  refine wl_of hX hb cL_686 (rw_aload_n (pc' := 687) (v := .ref 0) rfl rfl rfl ?_)
  refine wl_of hX hb cL_687 (rw_iload (pc' := 689) (z := i) rfl rfl ?_)
  refine wl_of hX hb cL_689 (rw_iconst (pc' := 690) rfl ?_)
  refine wl_of hX hb cL_690 (rw_iadd (pc' := 691) rfl ?_)
  have k1861 : H1851 0 ((i + 1).toNat) = H 0 ((i + 1).toNat) := (f1856 0 ((i + 1).toNat) _ g0 (wmem_s rfl))
  refine wl_of hX hb cL_691 (xa_I (so := 0) (pc' := 692) (a := 0) w1855 g0 (wsh_s _) (by omega) (wty_s _ _) (by omega) (by omega) rfl (fun b1859 b1860 => ?_))
  refine wl_of hX hb cL_692 (rw_aload_n (pc' := 693) (v := .ref 0) rfl rfl rfl ?_)
  refine wl_of hX hb cL_693 (rw_iload (pc' := 695) (z := i) rfl rfl ?_)
  refine wl_of hX hb cL_695 (rw_iconst (pc' := 696) rfl ?_)
  refine wl_of hX hb cL_696 (rw_iadd (pc' := 697) rfl ?_)
  have k1864 : H1851 0 ((i + 2).toNat) = H 0 ((i + 2).toNat) := (f1856 0 ((i + 2).toNat) _ g0 (wmem_s rfl))
  refine wl_of hX hb cL_697 (xa_I (so := 0) (pc' := 698) (a := 0) w1855 g0 (wsh_s _) (by omega) (wty_s _ _) (by omega) (by omega) rfl (fun b1862 b1863 => ?_))
  have k1865 : wKI H1851 m = wKI H m := (wKI_fr hW gm f1856 rfl)
  have k1866 : H1851 x 9 = H x 9 := (f1856 x 9 _ gx rfl)
  have k1867 : H1851 m 6 = H m 6 := (f1856 m 6 _ gm rfl)
  have k1868 : H1851 x 11 = H x 11 := (f1856 x 11 _ gx rfl)
  have k1869 : H1851 m 13 = H m 13 := (f1856 m 13 _ gm rfl)
  have k1870 : H1851 x 8 = H x 8 := (f1856 x 8 _ gx rfl)
  have k1871 : H1851 m 3 = H m 3 := (f1856 m 3 _ gm rfl)
  refine wl_of hX hb cL_698 (xc_V (pc' := 701) (r := m) (as := [vI (H1851 0 ((i + 1).toNat)), vI (H1851 0 ((i + 2).toNat))]) (st := []) (lm_11_92) rfl rfl (Nat.le_of_ble_eq_true rfl) w1855 gm sh_42 (by decide) rfl (by decide) (s_245 w1855 gm ⟨by omega, by omega⟩ ⟨by omega, by omega⟩ (by omega)) (fun R1872 T1873 H1874 p1875 => ?_))
  obtain ⟨e1876, w1878, f1879, z1881, e1877, b1882, p1880⟩ := p1875
  subst e1876
  subst e1877
  show WL _ _ _ _ 701 [(4, vI i), (3, .ref o), (2, .ref m), (1, .ref x), (0, .ref 0)] [vI z1881] _ H1874
  refine wl_of hX hb cL_701 (rw_pop (pc' := 702) rfl rfl ?_)
  refine wl_of hX hb cL_702 (rw_goto (p1 := 1681) (by decide) ?_)
  have k1883 : H1874 x 9 = H1851 x 9 := (f1879 x 9 _ gx rfl)
  have k1884 : H1874 m 6 = H1851 m 6 := (f1879 m 6 _ gm rfl)
  have k1885 : H1874 x 11 = H1851 x 11 := (f1879 x 11 _ gx rfl)
  have k1886 : H1874 m 13 = H1851 m 13 := (f1879 m 13 _ gm rfl)
  have k1887 : H1874 x 8 = H1851 x 8 := (f1879 x 8 _ gx rfl)
  have k1888 : H1874 m 3 = H1851 m 3 := (f1879 m 3 _ gm rfl)
  have h1889 : XI T H1874 x m := (XI_fr w1855 gx f1879 rfl (XI_fr hW gx f1856 rfl hXI))
  exact WL.loc hX (by simp) (next T H1874 ⟨⟨w1878, g0, gx, gm, go, by omega, by omega⟩, h1889, by omega, by omega⟩ (by omega) (by omega))
set_option maxHeartbeats 4000000 in
theorem wl_c17 {kt : Nat → Option mc_E} {CB SB : Nat} {X : mc_S → Prop} {T : wq_T} {H : wq_H} {Len x m o : Nat} {i : Int} (hX : wlX kt CB SB X) (hb : T.2.1 ≤ CB ∧ T.2.2.1 ≤ SB) (hI : wlJ Len x m o T H) (hL : Len ≤ 3072) (hi : 0 ≤ i ∧ i + 6 ≤ Len) (hb2 : T.2.1 + 20 ≤ CB ∧ T.2.2.1 + 500 ≤ SB)  (next : ∀ T' H', wlJ Len x m o T' H' → T'.2.1 ≤ T.2.1 + 20 → T'.2.2.1 ≤ T.2.2.1 + 500 → WL kt CB SB X 1681 (wlL i x m o) [] T' H') : WL kt CB SB X 705 (wlL i x m o) [] T H := by
  obtain ⟨⟨hW, g0, gx, gm, go, hK, hr⟩, hXI, hY1, hY2⟩ := hI
  refine wl_of hX hb cL_705 (rw_aload_n (pc' := 706) (v := .ref x) rfl rfl rfl ?_)
  refine wl_of hX hb cL_706 (xc_V (pc' := 709) (r := x) (as := []) (st := []) (lm_11_93) rfl rfl (Nat.le_of_ble_eq_true rfl) hW gx sh_1 (by decide) rfl (by decide) (s_97 hW gx) (fun R1890 T1891 H1892 p1893 => ?_))
  obtain ⟨e1894, w1896, f1897, z1898, e1895, b1899⟩ := p1893
  subst e1894
  subst e1895
  show WL _ _ _ _ 709 [(4, vI i), (3, .ref o), (2, .ref m), (1, .ref x), (0, .ref 0)] [vL z1898] _ H1892
  refine wl_of hX hb cL_709 (rw_pop2 (pc' := 710) rfl rfl ?_)
  refine wl_of hX hb cL_710 (rw_aload_n (pc' := 711) (v := .ref m) rfl rfl rfl ?_)
  have k1900 : wKI H1892 m = wKI H m := (wKI_fr hW gm f1897 rfl)
  have k1901 : H1892 x 9 = H x 9 := (f1897 x 9 _ gx rfl)
  have k1902 : H1892 m 6 = H m 6 := (f1897 m 6 _ gm rfl)
  have k1903 : H1892 x 11 = H x 11 := (f1897 x 11 _ gx rfl)
  have k1904 : H1892 m 13 = H m 13 := (f1897 m 13 _ gm rfl)
  have k1905 : H1892 x 8 = H x 8 := (f1897 x 8 _ gx rfl)
  have k1906 : H1892 m 3 = H m 3 := (f1897 m 3 _ gm rfl)
  refine wl_of hX hb cL_711 (xc_V (pc' := 714) (r := m) (as := []) (st := []) (lm_11_96) rfl rfl (Nat.le_of_ble_eq_true rfl) w1896 gm sh_42 (by decide) rfl (by decide) (s_246 w1896 gm (by omega)) (fun R1907 T1908 H1909 p1910 => ?_))
  obtain ⟨e1911, w1913, f1914, z1916, e1912, b1917, p1915⟩ := p1910
  subst e1911
  subst e1912
  show WL _ _ _ _ 714 [(4, vI i), (3, .ref o), (2, .ref m), (1, .ref x), (0, .ref 0)] [vL z1916] _ H1909
  refine wl_of hX hb cL_714 (rw_pop2 (pc' := 715) rfl rfl ?_)
  refine wl_of hX hb cL_715 (rw_goto (p1 := 1681) (by decide) ?_)
  have k1918 : H1909 x 9 = H1892 x 9 := (f1914 x 9 _ gx rfl)
  have k1919 : H1909 m 6 = H1892 m 6 := (f1914 m 6 _ gm rfl)
  have k1920 : H1909 x 11 = H1892 x 11 := (f1914 x 11 _ gx rfl)
  have k1921 : H1909 m 13 = H1892 m 13 := (f1914 m 13 _ gm rfl)
  have k1922 : H1909 x 8 = H1892 x 8 := (f1914 x 8 _ gx rfl)
  have k1923 : H1909 m 3 = H1892 m 3 := (f1914 m 3 _ gm rfl)
  have h1924 : XI T H1909 x m := (XI_fr w1896 gx f1914 rfl (XI_fr hW gx f1897 rfl hXI))
  exact WL.loc hX (by simp) (next T H1909 ⟨⟨w1913, g0, gx, gm, go, by omega, by omega⟩, h1924, by omega, by omega⟩ (by omega) (by omega))
set_option maxHeartbeats 4000000 in
theorem wl_c18 {kt : Nat → Option mc_E} {CB SB : Nat} {X : mc_S → Prop} {T : wq_T} {H : wq_H} {Len x m o : Nat} {i : Int} (hX : wlX kt CB SB X) (hb : T.2.1 ≤ CB ∧ T.2.2.1 ≤ SB) (hI : wlJ Len x m o T H) (hL : Len ≤ 3072) (hi : 0 ≤ i ∧ i + 6 ≤ Len) (hb2 : T.2.1 + 20 ≤ CB ∧ T.2.2.1 + 500 ≤ SB)  (next : ∀ T' H', wlJ Len x m o T' H' → T'.2.1 ≤ T.2.1 + 20 → T'.2.2.1 ≤ T.2.2.1 + 500 → WL kt CB SB X 1681 (wlL i x m o) [] T' H') : WL kt CB SB X 718 (wlL i x m o) [] T H := by
  obtain ⟨⟨hW, g0, gx, gm, go, hK, hr⟩, hXI, hY1, hY2⟩ := hI
  refine wl_of hX hb cL_718 (rw_aload_n (pc' := 719) (v := .ref x) rfl rfl rfl ?_)
  refine wl_of hX hb cL_719 (rw_aload_n (pc' := 720) (v := .ref 0) rfl rfl rfl ?_)
  refine wl_of hX hb cL_720 (rw_iload (pc' := 722) (z := i) rfl rfl ?_)
  refine wl_of hX hb cL_722 (rw_iconst (pc' := 723) rfl ?_)
  refine wl_of hX hb cL_723 (rw_iadd (pc' := 724) rfl ?_)
  refine wl_of hX hb cL_724 (xa_I (so := 0) (pc' := 725) (a := 0) hW g0 (wsh_s _) (by omega) (wty_s _ _) (by omega) (by omega) rfl (fun b1925 b1926 => ?_))
  refine wl_of hX hb cL_725 (rw_aload_n (pc' := 726) (v := .ref 0) rfl rfl rfl ?_)
  refine wl_of hX hb cL_726 (rw_iload (pc' := 728) (z := i) rfl rfl ?_)
  refine wl_of hX hb cL_728 (rw_iconst (pc' := 729) rfl ?_)
  refine wl_of hX hb cL_729 (rw_iadd (pc' := 730) rfl ?_)
  refine wl_of hX hb cL_730 (xa_I (so := 0) (pc' := 731) (a := 0) hW g0 (wsh_s _) (by omega) (wty_s _ _) (by omega) (by omega) rfl (fun b1927 b1928 => ?_))
  refine wl_of hX hb cL_731 (xc_V (pc' := 734) (r := x) (as := [vI (H 0 ((i + 1).toNat)), vI (H 0 ((i + 2).toNat))]) (st := []) (lm_11_97) rfl rfl (Nat.le_of_ble_eq_true rfl) hW gx sh_1 (by decide) rfl (by decide) (s_98 hW gx ⟨by omega, by omega⟩ ⟨by omega, by omega⟩) (fun R1929 T1930 H1931 p1932 => ?_))
  obtain ⟨e1933, w1935, f1936, z1937, e1934, b1938⟩ := p1932
  subst e1933
  subst e1934
  show WL _ _ _ _ 734 [(4, vI i), (3, .ref o), (2, .ref m), (1, .ref x), (0, .ref 0)] [vI z1937] _ H1931
  refine wl_of hX hb cL_734 (rw_pop (pc' := 735) rfl rfl ?_)
  refine wl_of hX hb cL_735 (rw_aload_n (pc' := 736) (v := .ref m) rfl rfl rfl ?_)
  refine wl_of hX hb cL_736 (rw_aload_n (pc' := 737) (v := .ref 0) rfl rfl rfl ?_)
  refine wl_of hX hb cL_737 (rw_iload (pc' := 739) (z := i) rfl rfl ?_)
  refine wl_of hX hb cL_739 (rw_iconst (pc' := 740) rfl ?_)
  refine wl_of hX hb cL_740 (rw_iadd (pc' := 741) rfl ?_)
  have k1941 : H1931 0 ((i + 1).toNat) = H 0 ((i + 1).toNat) := (f1936 0 ((i + 1).toNat) _ g0 (wmem_s rfl))
  refine wl_of hX hb cL_741 (xa_I (so := 0) (pc' := 742) (a := 0) w1935 g0 (wsh_s _) (by omega) (wty_s _ _) (by omega) (by omega) rfl (fun b1939 b1940 => ?_))
  refine wl_of hX hb cL_742 (rw_aload_n (pc' := 743) (v := .ref 0) rfl rfl rfl ?_)
  refine wl_of hX hb cL_743 (rw_iload (pc' := 745) (z := i) rfl rfl ?_)
  refine wl_of hX hb cL_745 (rw_iconst (pc' := 746) rfl ?_)
  refine wl_of hX hb cL_746 (rw_iadd (pc' := 747) rfl ?_)
  have k1944 : H1931 0 ((i + 2).toNat) = H 0 ((i + 2).toNat) := (f1936 0 ((i + 2).toNat) _ g0 (wmem_s rfl))
  refine wl_of hX hb cL_747 (xa_I (so := 0) (pc' := 748) (a := 0) w1935 g0 (wsh_s _) (by omega) (wty_s _ _) (by omega) (by omega) rfl (fun b1942 b1943 => ?_))
  have k1945 : wKI H1931 m = wKI H m := (wKI_fr hW gm f1936 rfl)
  have k1946 : H1931 x 9 = H x 9 := (f1936 x 9 _ gx rfl)
  have k1947 : H1931 m 6 = H m 6 := (f1936 m 6 _ gm rfl)
  have k1948 : H1931 x 11 = H x 11 := (f1936 x 11 _ gx rfl)
  have k1949 : H1931 m 13 = H m 13 := (f1936 m 13 _ gm rfl)
  have k1950 : H1931 x 8 = H x 8 := (f1936 x 8 _ gx rfl)
  have k1951 : H1931 m 3 = H m 3 := (f1936 m 3 _ gm rfl)
  refine wl_of hX hb cL_748 (xc_V (pc' := 751) (r := m) (as := [vI (H1931 0 ((i + 1).toNat)), vI (H1931 0 ((i + 2).toNat))]) (st := []) (lm_11_100) rfl rfl (Nat.le_of_ble_eq_true rfl) w1935 gm sh_42 (by decide) rfl (by decide) (s_249 w1935 gm ⟨by omega, by omega⟩ ⟨by omega, by omega⟩ (by omega)) (fun R1952 T1953 H1954 p1955 => ?_))
  obtain ⟨e1956, w1958, f1959, z1961, e1957, b1962, p1960⟩ := p1955
  subst e1956
  subst e1957
  show WL _ _ _ _ 751 [(4, vI i), (3, .ref o), (2, .ref m), (1, .ref x), (0, .ref 0)] [vI z1961] _ H1954
  refine wl_of hX hb cL_751 (rw_pop (pc' := 752) rfl rfl ?_)
  refine wl_of hX hb cL_752 (rw_goto (p1 := 1681) (by decide) ?_)
  have k1963 : H1954 x 9 = H1931 x 9 := (f1959 x 9 _ gx rfl)
  have k1964 : H1954 m 6 = H1931 m 6 := (f1959 m 6 _ gm rfl)
  have k1965 : H1954 x 11 = H1931 x 11 := (f1959 x 11 _ gx rfl)
  have k1966 : H1954 m 13 = H1931 m 13 := (f1959 m 13 _ gm rfl)
  have k1967 : H1954 x 8 = H1931 x 8 := (f1959 x 8 _ gx rfl)
  have k1968 : H1954 m 3 = H1931 m 3 := (f1959 m 3 _ gm rfl)
  have h1969 : XI T H1954 x m := (XI_fr w1935 gx f1959 rfl (XI_fr hW gx f1936 rfl hXI))
  exact WL.loc hX (by simp) (next T H1954 ⟨⟨w1958, g0, gx, gm, go, by omega, by omega⟩, h1969, by omega, by omega⟩ (by omega) (by omega))
set_option maxHeartbeats 4000000 in
theorem wl_c19 {kt : Nat → Option mc_E} {CB SB : Nat} {X : mc_S → Prop} {T : wq_T} {H : wq_H} {Len x m o : Nat} {i : Int} (hX : wlX kt CB SB X) (hb : T.2.1 ≤ CB ∧ T.2.2.1 ≤ SB) (hI : wlJ Len x m o T H) (hL : Len ≤ 3072) (hi : 0 ≤ i ∧ i + 6 ≤ Len) (hb2 : T.2.1 + 20 ≤ CB ∧ T.2.2.1 + 500 ≤ SB)  (next : ∀ T' H', wlJ Len x m o T' H' → T'.2.1 ≤ T.2.1 + 20 → T'.2.2.1 ≤ T.2.2.1 + 500 → WL kt CB SB X 1681 (wlL i x m o) [] T' H') : WL kt CB SB X 755 (wlL i x m o) [] T H := by
  obtain ⟨⟨hW, g0, gx, gm, go, hK, hr⟩, hXI, hY1, hY2⟩ := hI
  refine wl_of hX hb cL_755 (rw_aload_n (pc' := 756) (v := .ref x) rfl rfl rfl ?_)
  refine wl_of hX hb cL_756 (rw_aload_n (pc' := 757) (v := .ref 0) rfl rfl rfl ?_)
  refine wl_of hX hb cL_757 (rw_iload (pc' := 759) (z := i) rfl rfl ?_)
  refine wl_of hX hb cL_759 (rw_iconst (pc' := 760) rfl ?_)
  refine wl_of hX hb cL_760 (rw_iadd (pc' := 761) rfl ?_)
  refine wl_of hX hb cL_761 (xa_I (so := 0) (pc' := 762) (a := 0) hW g0 (wsh_s _) (by omega) (wty_s _ _) (by omega) (by omega) rfl (fun b1970 b1971 => ?_))
  refine wl_of hX hb cL_762 (rw_aload_n (pc' := 763) (v := .ref 0) rfl rfl rfl ?_)
  refine wl_of hX hb cL_763 (rw_iload (pc' := 765) (z := i) rfl rfl ?_)
  refine wl_of hX hb cL_765 (rw_iconst (pc' := 766) rfl ?_)
  refine wl_of hX hb cL_766 (rw_iadd (pc' := 767) rfl ?_)
  refine wl_of hX hb cL_767 (xa_I (so := 0) (pc' := 768) (a := 0) hW g0 (wsh_s _) (by omega) (wty_s _ _) (by omega) (by omega) rfl (fun b1972 b1973 => ?_))
  refine wl_of hX hb cL_768 (xc_V (pc' := 771) (r := x) (as := [vI (H 0 ((i + 1).toNat)), vI (H 0 ((i + 2).toNat))]) (st := []) (lm_11_101) rfl rfl (Nat.le_of_ble_eq_true rfl) hW gx sh_1 (by decide) rfl (by decide) (s_99 hW gx ⟨by omega, by omega⟩ ⟨by omega, by omega⟩) (fun R1974 T1975 H1976 p1977 => ?_))
  obtain ⟨e1978, w1980, f1981, z1982, e1979, b1983⟩ := p1977
  subst e1978
  subst e1979
  show WL _ _ _ _ 771 [(4, vI i), (3, .ref o), (2, .ref m), (1, .ref x), (0, .ref 0)] [vI z1982] _ H1976
  refine wl_of hX hb cL_771 (rw_pop (pc' := 772) rfl rfl ?_)
  refine wl_of hX hb cL_772 (rw_aload_n (pc' := 773) (v := .ref m) rfl rfl rfl ?_)
  refine wl_of hX hb cL_773 (rw_aload_n (pc' := 774) (v := .ref 0) rfl rfl rfl ?_)
  refine wl_of hX hb cL_774 (rw_iload (pc' := 776) (z := i) rfl rfl ?_)
  refine wl_of hX hb cL_776 (rw_iconst (pc' := 777) rfl ?_)
  refine wl_of hX hb cL_777 (rw_iadd (pc' := 778) rfl ?_)
  have k1986 : H1976 0 ((i + 1).toNat) = H 0 ((i + 1).toNat) := (f1981 0 ((i + 1).toNat) _ g0 (wmem_s rfl))
  refine wl_of hX hb cL_778 (xa_I (so := 0) (pc' := 779) (a := 0) w1980 g0 (wsh_s _) (by omega) (wty_s _ _) (by omega) (by omega) rfl (fun b1984 b1985 => ?_))
  refine wl_of hX hb cL_779 (rw_aload_n (pc' := 780) (v := .ref 0) rfl rfl rfl ?_)
  refine wl_of hX hb cL_780 (rw_iload (pc' := 782) (z := i) rfl rfl ?_)
  refine wl_of hX hb cL_782 (rw_iconst (pc' := 783) rfl ?_)
  refine wl_of hX hb cL_783 (rw_iadd (pc' := 784) rfl ?_)
  have k1989 : H1976 0 ((i + 2).toNat) = H 0 ((i + 2).toNat) := (f1981 0 ((i + 2).toNat) _ g0 (wmem_s rfl))
  refine wl_of hX hb cL_784 (xa_I (so := 0) (pc' := 785) (a := 0) w1980 g0 (wsh_s _) (by omega) (wty_s _ _) (by omega) (by omega) rfl (fun b1987 b1988 => ?_))
  have k1990 : wKI H1976 m = wKI H m := (wKI_fr hW gm f1981 rfl)
  have k1991 : H1976 x 9 = H x 9 := (f1981 x 9 _ gx rfl)
  have k1992 : H1976 m 6 = H m 6 := (f1981 m 6 _ gm rfl)
  have k1993 : H1976 x 11 = H x 11 := (f1981 x 11 _ gx rfl)
  have k1994 : H1976 m 13 = H m 13 := (f1981 m 13 _ gm rfl)
  have k1995 : H1976 x 8 = H x 8 := (f1981 x 8 _ gx rfl)
  have k1996 : H1976 m 3 = H m 3 := (f1981 m 3 _ gm rfl)
  refine wl_of hX hb cL_785 (xc_V (pc' := 788) (r := m) (as := [vI (H1976 0 ((i + 1).toNat)), vI (H1976 0 ((i + 2).toNat))]) (st := []) (lm_11_104) rfl rfl (Nat.le_of_ble_eq_true rfl) w1980 gm sh_42 (by decide) rfl (by decide) (s_250 w1980 gm ⟨by omega, by omega⟩ ⟨by omega, by omega⟩ (by omega)) (fun R1997 T1998 H1999 p2000 => ?_))
  obtain ⟨e2001, w2003, f2004, z2006, e2002, b2007, p2005⟩ := p2000
  subst e2001
  subst e2002
  show WL _ _ _ _ 788 [(4, vI i), (3, .ref o), (2, .ref m), (1, .ref x), (0, .ref 0)] [vI z2006] _ H1999
  refine wl_of hX hb cL_788 (rw_pop (pc' := 789) rfl rfl ?_)
  refine wl_of hX hb cL_789 (rw_goto (p1 := 1681) (by decide) ?_)
  have k2008 : H1999 x 9 = H1976 x 9 := (f2004 x 9 _ gx rfl)
  have k2009 : H1999 m 6 = H1976 m 6 := (f2004 m 6 _ gm rfl)
  have k2010 : H1999 x 11 = H1976 x 11 := (f2004 x 11 _ gx rfl)
  have k2011 : H1999 m 13 = H1976 m 13 := (f2004 m 13 _ gm rfl)
  have k2012 : H1999 x 8 = H1976 x 8 := (f2004 x 8 _ gx rfl)
  have k2013 : H1999 m 3 = H1976 m 3 := (f2004 m 3 _ gm rfl)
  have h2014 : XI T H1999 x m := (XI_fr w1980 gx f2004 rfl (XI_fr hW gx f1981 rfl hXI))
  exact WL.loc hX (by simp) (next T H1999 ⟨⟨w2003, g0, gx, gm, go, by omega, by omega⟩, h2014, by omega, by omega⟩ (by omega) (by omega))
set_option maxHeartbeats 4000000 in
theorem wl_c20 {kt : Nat → Option mc_E} {CB SB : Nat} {X : mc_S → Prop} {T : wq_T} {H : wq_H} {Len x m o : Nat} {i : Int} (hX : wlX kt CB SB X) (hb : T.2.1 ≤ CB ∧ T.2.2.1 ≤ SB) (hI : wlJ Len x m o T H) (hL : Len ≤ 3072) (hi : 0 ≤ i ∧ i + 6 ≤ Len) (hb2 : T.2.1 + 20 ≤ CB ∧ T.2.2.1 + 500 ≤ SB)  (next : ∀ T' H', wlJ Len x m o T' H' → T'.2.1 ≤ T.2.1 + 20 → T'.2.2.1 ≤ T.2.2.1 + 500 → WL kt CB SB X 1681 (wlL i x m o) [] T' H') : WL kt CB SB X 792 (wlL i x m o) [] T H := by
  obtain ⟨⟨hW, g0, gx, gm, go, hK, hr⟩, hXI, hY1, hY2⟩ := hI
  refine wl_of hX hb cL_792 (rw_aload_n (pc' := 793) (v := .ref x) rfl rfl rfl ?_)
  refine wl_of hX hb cL_793 (rw_aload_n (pc' := 794) (v := .ref 0) rfl rfl rfl ?_)
  refine wl_of hX hb cL_794 (rw_iload (pc' := 796) (z := i) rfl rfl ?_)
  refine wl_of hX hb cL_796 (rw_iconst (pc' := 797) rfl ?_)
  refine wl_of hX hb cL_797 (rw_iadd (pc' := 798) rfl ?_)
  refine wl_of hX hb cL_798 (xa_I (so := 0) (pc' := 799) (a := 0) hW g0 (wsh_s _) (by omega) (wty_s _ _) (by omega) (by omega) rfl (fun b2015 b2016 => ?_))
  refine wl_of hX hb cL_799 (rw_aload_n (pc' := 800) (v := .ref 0) rfl rfl rfl ?_)
  refine wl_of hX hb cL_800 (rw_iload (pc' := 802) (z := i) rfl rfl ?_)
  refine wl_of hX hb cL_802 (rw_iconst (pc' := 803) rfl ?_)
  refine wl_of hX hb cL_803 (rw_iadd (pc' := 804) rfl ?_)
  refine wl_of hX hb cL_804 (xa_I (so := 0) (pc' := 805) (a := 0) hW g0 (wsh_s _) (by omega) (wty_s _ _) (by omega) (by omega) rfl (fun b2017 b2018 => ?_))
  refine wl_of hX hb cL_805 (xc_V (pc' := 808) (r := x) (as := [vI (H 0 ((i + 1).toNat)), vI (H 0 ((i + 2).toNat))]) (st := []) (lm_11_105) rfl rfl (Nat.le_of_ble_eq_true rfl) hW gx sh_1 (by decide) rfl (by decide) (s_101 hW gx ⟨by omega, by omega⟩ ⟨by omega, by omega⟩) (fun R2019 T2020 H2021 p2022 => ?_))
  obtain ⟨e2023, w2025, f2026, z2027, e2024, b2028⟩ := p2022
  subst e2023
  subst e2024
  show WL _ _ _ _ 808 [(4, vI i), (3, .ref o), (2, .ref m), (1, .ref x), (0, .ref 0)] [vI z2027] _ H2021
  refine wl_of hX hb cL_808 (rw_pop (pc' := 809) rfl rfl ?_)
  refine wl_of hX hb cL_809 (rw_aload_n (pc' := 810) (v := .ref m) rfl rfl rfl ?_)
  refine wl_of hX hb cL_810 (rw_aload_n (pc' := 811) (v := .ref 0) rfl rfl rfl ?_)
  refine wl_of hX hb cL_811 (rw_iload (pc' := 813) (z := i) rfl rfl ?_)
  refine wl_of hX hb cL_813 (rw_iconst (pc' := 814) rfl ?_)
  refine wl_of hX hb cL_814 (rw_iadd (pc' := 815) rfl ?_)
  have k2031 : H2021 0 ((i + 1).toNat) = H 0 ((i + 1).toNat) := (f2026 0 ((i + 1).toNat) _ g0 (wmem_s rfl))
  refine wl_of hX hb cL_815 (xa_I (so := 0) (pc' := 816) (a := 0) w2025 g0 (wsh_s _) (by omega) (wty_s _ _) (by omega) (by omega) rfl (fun b2029 b2030 => ?_))
  refine wl_of hX hb cL_816 (rw_aload_n (pc' := 817) (v := .ref 0) rfl rfl rfl ?_)
  refine wl_of hX hb cL_817 (rw_iload (pc' := 819) (z := i) rfl rfl ?_)
  refine wl_of hX hb cL_819 (rw_iconst (pc' := 820) rfl ?_)
  refine wl_of hX hb cL_820 (rw_iadd (pc' := 821) rfl ?_)
  have k2034 : H2021 0 ((i + 2).toNat) = H 0 ((i + 2).toNat) := (f2026 0 ((i + 2).toNat) _ g0 (wmem_s rfl))
  refine wl_of hX hb cL_821 (xa_I (so := 0) (pc' := 822) (a := 0) w2025 g0 (wsh_s _) (by omega) (wty_s _ _) (by omega) (by omega) rfl (fun b2032 b2033 => ?_))
  have k2035 : wKI H2021 m = wKI H m := (wKI_fr hW gm f2026 rfl)
  have k2036 : H2021 x 9 = H x 9 := (f2026 x 9 _ gx rfl)
  have k2037 : H2021 m 6 = H m 6 := (f2026 m 6 _ gm rfl)
  have k2038 : H2021 x 11 = H x 11 := (f2026 x 11 _ gx rfl)
  have k2039 : H2021 m 13 = H m 13 := (f2026 m 13 _ gm rfl)
  have k2040 : H2021 x 8 = H x 8 := (f2026 x 8 _ gx rfl)
  have k2041 : H2021 m 3 = H m 3 := (f2026 m 3 _ gm rfl)
  refine wl_of hX hb cL_822 (xc_V (pc' := 825) (r := m) (as := [vI (H2021 0 ((i + 1).toNat)), vI (H2021 0 ((i + 2).toNat))]) (st := []) (lm_11_108) rfl rfl (Nat.le_of_ble_eq_true rfl) w2025 gm sh_42 (by decide) rfl (by decide) (s_252 w2025 gm ⟨by omega, by omega⟩ ⟨by omega, by omega⟩ (by omega)) (fun R2042 T2043 H2044 p2045 => ?_))
  obtain ⟨e2046, w2048, f2049, z2051, e2047, b2052, p2050⟩ := p2045
  subst e2046
  subst e2047
  show WL _ _ _ _ 825 [(4, vI i), (3, .ref o), (2, .ref m), (1, .ref x), (0, .ref 0)] [vI z2051] _ H2044
  refine wl_of hX hb cL_825 (rw_pop (pc' := 826) rfl rfl ?_)
  refine wl_of hX hb cL_826 (rw_goto (p1 := 1681) (by decide) ?_)
  have k2053 : H2044 x 9 = H2021 x 9 := (f2049 x 9 _ gx rfl)
  have k2054 : H2044 m 6 = H2021 m 6 := (f2049 m 6 _ gm rfl)
  have k2055 : H2044 x 11 = H2021 x 11 := (f2049 x 11 _ gx rfl)
  have k2056 : H2044 m 13 = H2021 m 13 := (f2049 m 13 _ gm rfl)
  have k2057 : H2044 x 8 = H2021 x 8 := (f2049 x 8 _ gx rfl)
  have k2058 : H2044 m 3 = H2021 m 3 := (f2049 m 3 _ gm rfl)
  have h2059 : XI T H2044 x m := (XI_fr w2025 gx f2049 rfl (XI_fr hW gx f2026 rfl hXI))
  exact WL.loc hX (by simp) (next T H2044 ⟨⟨w2048, g0, gx, gm, go, by omega, by omega⟩, h2059, by omega, by omega⟩ (by omega) (by omega))
set_option maxHeartbeats 4000000 in
theorem wl_c21 {kt : Nat → Option mc_E} {CB SB : Nat} {X : mc_S → Prop} {T : wq_T} {H : wq_H} {Len x m o : Nat} {i : Int} (hX : wlX kt CB SB X) (hb : T.2.1 ≤ CB ∧ T.2.2.1 ≤ SB) (hI : wlJ Len x m o T H) (hL : Len ≤ 3072) (hi : 0 ≤ i ∧ i + 6 ≤ Len) (hb2 : T.2.1 + 20 ≤ CB ∧ T.2.2.1 + 500 ≤ SB)  (next : ∀ T' H', wlJ Len x m o T' H' → T'.2.1 ≤ T.2.1 + 20 → T'.2.2.1 ≤ T.2.2.1 + 500 → WL kt CB SB X 1681 (wlL i x m o) [] T' H') : WL kt CB SB X 829 (wlL i x m o) [] T H := by
  obtain ⟨⟨hW, g0, gx, gm, go, hK, hr⟩, hXI, hY1, hY2⟩ := hI
  refine wl_of hX hb cL_829 (rw_aload_n (pc' := 830) (v := .ref x) rfl rfl rfl ?_)
  refine wl_of hX hb cL_830 (rw_aload_n (pc' := 831) (v := .ref 0) rfl rfl rfl ?_)
  refine wl_of hX hb cL_831 (rw_iload (pc' := 833) (z := i) rfl rfl ?_)
  refine wl_of hX hb cL_833 (rw_iconst (pc' := 834) rfl ?_)
  refine wl_of hX hb cL_834 (rw_iadd (pc' := 835) rfl ?_)
  refine wl_of hX hb cL_835 (xa_I (so := 0) (pc' := 836) (a := 0) hW g0 (wsh_s _) (by omega) (wty_s _ _) (by omega) (by omega) rfl (fun b2060 b2061 => ?_))
  refine wl_of hX hb cL_836 (rw_aload_n (pc' := 837) (v := .ref 0) rfl rfl rfl ?_)
  refine wl_of hX hb cL_837 (rw_iload (pc' := 839) (z := i) rfl rfl ?_)
  refine wl_of hX hb cL_839 (rw_iconst (pc' := 840) rfl ?_)
  refine wl_of hX hb cL_840 (rw_iadd (pc' := 841) rfl ?_)
  refine wl_of hX hb cL_841 (xa_I (so := 0) (pc' := 842) (a := 0) hW g0 (wsh_s _) (by omega) (wty_s _ _) (by omega) (by omega) rfl (fun b2062 b2063 => ?_))
  refine wl_of hX hb cL_842 (rw_if_eq (p1 := 849) (p2 := 845) (by decide) rfl ⟨by omega, by omega⟩ (fun c2064 => ?_) (fun c2064 => ?_))
  · refine wl_of hX hb cL_849 (rw_iconst (pc' := 850) rfl ?_)
    refine wl_of hX hb cL_850 (xc_V (pc' := 853) (r := x) (as := [vI (H 0 ((i + 1).toNat)), vI 0]) (st := []) (lm_11_109) rfl rfl (Nat.le_of_ble_eq_true rfl) hW gx sh_1 (by decide) rfl (by decide) (s_104 hW gx ⟨by omega, by omega⟩ ⟨by decide, by decide⟩) (fun R2065 T2066 H2067 p2068 => ?_))
    obtain ⟨e2069, w2071, f2072, z2073, e2070, b2074⟩ := p2068
    subst e2069
    subst e2070
    show WL _ _ _ _ 853 [(4, vI i), (3, .ref o), (2, .ref m), (1, .ref x), (0, .ref 0)] [vI z2073] _ H2067
    refine wl_of hX hb cL_853 (rw_pop (pc' := 854) rfl rfl ?_)
    refine wl_of hX hb cL_854 (rw_aload_n (pc' := 855) (v := .ref m) rfl rfl rfl ?_)
    refine wl_of hX hb cL_855 (rw_aload_n (pc' := 856) (v := .ref 0) rfl rfl rfl ?_)
    refine wl_of hX hb cL_856 (rw_iload (pc' := 858) (z := i) rfl rfl ?_)
    refine wl_of hX hb cL_858 (rw_iconst (pc' := 859) rfl ?_)
    refine wl_of hX hb cL_859 (rw_iadd (pc' := 860) rfl ?_)
    have k2077 : H2067 0 ((i + 1).toNat) = H 0 ((i + 1).toNat) := (f2072 0 ((i + 1).toNat) _ g0 (wmem_s rfl))
    refine wl_of hX hb cL_860 (xa_I (so := 0) (pc' := 861) (a := 0) w2071 g0 (wsh_s _) (by omega) (wty_s _ _) (by omega) (by omega) rfl (fun b2075 b2076 => ?_))
    refine wl_of hX hb cL_861 (rw_aload_n (pc' := 862) (v := .ref 0) rfl rfl rfl ?_)
    refine wl_of hX hb cL_862 (rw_iload (pc' := 864) (z := i) rfl rfl ?_)
    refine wl_of hX hb cL_864 (rw_iconst (pc' := 865) rfl ?_)
    refine wl_of hX hb cL_865 (rw_iadd (pc' := 866) rfl ?_)
    have k2080 : H2067 0 ((i + 2).toNat) = H 0 ((i + 2).toNat) := (f2072 0 ((i + 2).toNat) _ g0 (wmem_s rfl))
    refine wl_of hX hb cL_866 (xa_I (so := 0) (pc' := 867) (a := 0) w2071 g0 (wsh_s _) (by omega) (wty_s _ _) (by omega) (by omega) rfl (fun b2078 b2079 => ?_))
    refine wl_of hX hb cL_867 (rw_if_eq (p1 := 874) (p2 := 870) (by decide) rfl ⟨by omega, by omega⟩ (fun c2081 => ?_) (fun c2081 => ?_))
    · refine wl_of hX hb cL_874 (rw_iconst (pc' := 875) rfl ?_)
      have k2082 : wKI H2067 m = wKI H m := (wKI_fr hW gm f2072 rfl)
      have k2083 : H2067 x 9 = H x 9 := (f2072 x 9 _ gx rfl)
      have k2084 : H2067 m 6 = H m 6 := (f2072 m 6 _ gm rfl)
      have k2085 : H2067 x 11 = H x 11 := (f2072 x 11 _ gx rfl)
      have k2086 : H2067 m 13 = H m 13 := (f2072 m 13 _ gm rfl)
      have k2087 : H2067 x 8 = H x 8 := (f2072 x 8 _ gx rfl)
      have k2088 : H2067 m 3 = H m 3 := (f2072 m 3 _ gm rfl)
      refine wl_of hX hb cL_875 (xc_V (pc' := 878) (r := m) (as := [vI (H2067 0 ((i + 1).toNat)), vI 0]) (st := []) (lm_11_113) rfl rfl (Nat.le_of_ble_eq_true rfl) w2071 gm sh_42 (by decide) rfl (by decide) (s_254 w2071 gm ⟨by omega, by omega⟩ ⟨by decide, by decide⟩ (by omega)) (fun R2089 T2090 H2091 p2092 => ?_))
      obtain ⟨e2093, w2095, f2096, z2098, e2094, b2099, p2097⟩ := p2092
      subst e2093
      subst e2094
      show WL _ _ _ _ 878 [(4, vI i), (3, .ref o), (2, .ref m), (1, .ref x), (0, .ref 0)] [vI z2098] _ H2091
      refine wl_of hX hb cL_878 (rw_pop (pc' := 879) rfl rfl ?_)
      refine wl_of hX hb cL_879 (rw_goto (p1 := 1681) (by decide) ?_)
      have k2100 : H2091 x 9 = H2067 x 9 := (f2096 x 9 _ gx rfl)
      have k2101 : H2091 m 6 = H2067 m 6 := (f2096 m 6 _ gm rfl)
      have k2102 : H2091 x 11 = H2067 x 11 := (f2096 x 11 _ gx rfl)
      have k2103 : H2091 m 13 = H2067 m 13 := (f2096 m 13 _ gm rfl)
      have k2104 : H2091 x 8 = H2067 x 8 := (f2096 x 8 _ gx rfl)
      have k2105 : H2091 m 3 = H2067 m 3 := (f2096 m 3 _ gm rfl)
      have h2106 : XI T H2091 x m := (XI_fr w2071 gx f2096 rfl (XI_fr hW gx f2072 rfl hXI))
      exact WL.loc hX (by simp) (next T H2091 ⟨⟨w2095, g0, gx, gm, go, by omega, by omega⟩, h2106, by omega, by omega⟩ (by omega) (by omega))
    · exfalso
      omega
  · refine wl_of hX hb cL_845 (rw_iconst (pc' := 846) rfl ?_)
    refine wl_of hX hb cL_846 (rw_goto (p1 := 850) (by decide) ?_)
    refine wl_of hX hb cL_850 (xc_V (pc' := 853) (r := x) (as := [vI (H 0 ((i + 1).toNat)), vI 1]) (st := []) (lm_11_109) rfl rfl (Nat.le_of_ble_eq_true rfl) hW gx sh_1 (by decide) rfl (by decide) (s_104 hW gx ⟨by omega, by omega⟩ ⟨by decide, by decide⟩) (fun R2107 T2108 H2109 p2110 => ?_))
    obtain ⟨e2111, w2113, f2114, z2115, e2112, b2116⟩ := p2110
    subst e2111
    subst e2112
    show WL _ _ _ _ 853 [(4, vI i), (3, .ref o), (2, .ref m), (1, .ref x), (0, .ref 0)] [vI z2115] _ H2109
    refine wl_of hX hb cL_853 (rw_pop (pc' := 854) rfl rfl ?_)
    refine wl_of hX hb cL_854 (rw_aload_n (pc' := 855) (v := .ref m) rfl rfl rfl ?_)
    refine wl_of hX hb cL_855 (rw_aload_n (pc' := 856) (v := .ref 0) rfl rfl rfl ?_)
    refine wl_of hX hb cL_856 (rw_iload (pc' := 858) (z := i) rfl rfl ?_)
    refine wl_of hX hb cL_858 (rw_iconst (pc' := 859) rfl ?_)
    refine wl_of hX hb cL_859 (rw_iadd (pc' := 860) rfl ?_)
    have k2119 : H2109 0 ((i + 1).toNat) = H 0 ((i + 1).toNat) := (f2114 0 ((i + 1).toNat) _ g0 (wmem_s rfl))
    refine wl_of hX hb cL_860 (xa_I (so := 0) (pc' := 861) (a := 0) w2113 g0 (wsh_s _) (by omega) (wty_s _ _) (by omega) (by omega) rfl (fun b2117 b2118 => ?_))
    refine wl_of hX hb cL_861 (rw_aload_n (pc' := 862) (v := .ref 0) rfl rfl rfl ?_)
    refine wl_of hX hb cL_862 (rw_iload (pc' := 864) (z := i) rfl rfl ?_)
    refine wl_of hX hb cL_864 (rw_iconst (pc' := 865) rfl ?_)
    refine wl_of hX hb cL_865 (rw_iadd (pc' := 866) rfl ?_)
    have k2122 : H2109 0 ((i + 2).toNat) = H 0 ((i + 2).toNat) := (f2114 0 ((i + 2).toNat) _ g0 (wmem_s rfl))
    refine wl_of hX hb cL_866 (xa_I (so := 0) (pc' := 867) (a := 0) w2113 g0 (wsh_s _) (by omega) (wty_s _ _) (by omega) (by omega) rfl (fun b2120 b2121 => ?_))
    refine wl_of hX hb cL_867 (rw_if_eq (p1 := 874) (p2 := 870) (by decide) rfl ⟨by omega, by omega⟩ (fun c2123 => ?_) (fun c2123 => ?_))
    · refine wl_of hX hb cL_874 (rw_iconst (pc' := 875) rfl ?_)
      have k2124 : wKI H2109 m = wKI H m := (wKI_fr hW gm f2114 rfl)
      have k2125 : H2109 x 9 = H x 9 := (f2114 x 9 _ gx rfl)
      have k2126 : H2109 m 6 = H m 6 := (f2114 m 6 _ gm rfl)
      have k2127 : H2109 x 11 = H x 11 := (f2114 x 11 _ gx rfl)
      have k2128 : H2109 m 13 = H m 13 := (f2114 m 13 _ gm rfl)
      have k2129 : H2109 x 8 = H x 8 := (f2114 x 8 _ gx rfl)
      have k2130 : H2109 m 3 = H m 3 := (f2114 m 3 _ gm rfl)
      refine wl_of hX hb cL_875 (xc_V (pc' := 878) (r := m) (as := [vI (H2109 0 ((i + 1).toNat)), vI 0]) (st := []) (lm_11_113) rfl rfl (Nat.le_of_ble_eq_true rfl) w2113 gm sh_42 (by decide) rfl (by decide) (s_254 w2113 gm ⟨by omega, by omega⟩ ⟨by decide, by decide⟩ (by omega)) (fun R2131 T2132 H2133 p2134 => ?_))
      obtain ⟨e2135, w2137, f2138, z2140, e2136, b2141, p2139⟩ := p2134
      subst e2135
      subst e2136
      show WL _ _ _ _ 878 [(4, vI i), (3, .ref o), (2, .ref m), (1, .ref x), (0, .ref 0)] [vI z2140] _ H2133
      refine wl_of hX hb cL_878 (rw_pop (pc' := 879) rfl rfl ?_)
      refine wl_of hX hb cL_879 (rw_goto (p1 := 1681) (by decide) ?_)
      have k2142 : H2133 x 9 = H2109 x 9 := (f2138 x 9 _ gx rfl)
      have k2143 : H2133 m 6 = H2109 m 6 := (f2138 m 6 _ gm rfl)
      have k2144 : H2133 x 11 = H2109 x 11 := (f2138 x 11 _ gx rfl)
      have k2145 : H2133 m 13 = H2109 m 13 := (f2138 m 13 _ gm rfl)
      have k2146 : H2133 x 8 = H2109 x 8 := (f2138 x 8 _ gx rfl)
      have k2147 : H2133 m 3 = H2109 m 3 := (f2138 m 3 _ gm rfl)
      have h2148 : XI T H2133 x m := (XI_fr w2113 gx f2138 rfl (XI_fr hW gx f2114 rfl hXI))
      exact WL.loc hX (by simp) (next T H2133 ⟨⟨w2137, g0, gx, gm, go, by omega, by omega⟩, h2148, by omega, by omega⟩ (by omega) (by omega))
    · refine wl_of hX hb cL_870 (rw_iconst (pc' := 871) rfl ?_)
      refine wl_of hX hb cL_871 (rw_goto (p1 := 875) (by decide) ?_)
      have k2149 : wKI H2109 m = wKI H m := (wKI_fr hW gm f2114 rfl)
      have k2150 : H2109 x 9 = H x 9 := (f2114 x 9 _ gx rfl)
      have k2151 : H2109 m 6 = H m 6 := (f2114 m 6 _ gm rfl)
      have k2152 : H2109 x 11 = H x 11 := (f2114 x 11 _ gx rfl)
      have k2153 : H2109 m 13 = H m 13 := (f2114 m 13 _ gm rfl)
      have k2154 : H2109 x 8 = H x 8 := (f2114 x 8 _ gx rfl)
      have k2155 : H2109 m 3 = H m 3 := (f2114 m 3 _ gm rfl)
      refine wl_of hX hb cL_875 (xc_V (pc' := 878) (r := m) (as := [vI (H2109 0 ((i + 1).toNat)), vI 1]) (st := []) (lm_11_113) rfl rfl (Nat.le_of_ble_eq_true rfl) w2113 gm sh_42 (by decide) rfl (by decide) (s_254 w2113 gm ⟨by omega, by omega⟩ ⟨by decide, by decide⟩ (by omega)) (fun R2156 T2157 H2158 p2159 => ?_))
      obtain ⟨e2160, w2162, f2163, z2165, e2161, b2166, p2164⟩ := p2159
      subst e2160
      subst e2161
      show WL _ _ _ _ 878 [(4, vI i), (3, .ref o), (2, .ref m), (1, .ref x), (0, .ref 0)] [vI z2165] _ H2158
      refine wl_of hX hb cL_878 (rw_pop (pc' := 879) rfl rfl ?_)
      refine wl_of hX hb cL_879 (rw_goto (p1 := 1681) (by decide) ?_)
      have k2167 : H2158 x 9 = H2109 x 9 := (f2163 x 9 _ gx rfl)
      have k2168 : H2158 m 6 = H2109 m 6 := (f2163 m 6 _ gm rfl)
      have k2169 : H2158 x 11 = H2109 x 11 := (f2163 x 11 _ gx rfl)
      have k2170 : H2158 m 13 = H2109 m 13 := (f2163 m 13 _ gm rfl)
      have k2171 : H2158 x 8 = H2109 x 8 := (f2163 x 8 _ gx rfl)
      have k2172 : H2158 m 3 = H2109 m 3 := (f2163 m 3 _ gm rfl)
      have h2173 : XI T H2158 x m := (XI_fr w2113 gx f2163 rfl (XI_fr hW gx f2114 rfl hXI))
      exact WL.loc hX (by simp) (next T H2158 ⟨⟨w2162, g0, gx, gm, go, by omega, by omega⟩, h2173, by omega, by omega⟩ (by omega) (by omega))
set_option maxHeartbeats 4000000 in
theorem wl_c22 {kt : Nat → Option mc_E} {CB SB : Nat} {X : mc_S → Prop} {T : wq_T} {H : wq_H} {Len x m o : Nat} {i : Int} (hX : wlX kt CB SB X) (hb : T.2.1 ≤ CB ∧ T.2.2.1 ≤ SB) (hI : wlJ Len x m o T H) (hL : Len ≤ 3072) (hi : 0 ≤ i ∧ i + 6 ≤ Len) (hb2 : T.2.1 + 20 ≤ CB ∧ T.2.2.1 + 500 ≤ SB)  (next : ∀ T' H', wlJ Len x m o T' H' → T'.2.1 ≤ T.2.1 + 20 → T'.2.2.1 ≤ T.2.2.1 + 500 → WL kt CB SB X 1681 (wlL i x m o) [] T' H') : WL kt CB SB X 882 (wlL i x m o) [] T H := by
  obtain ⟨⟨hW, g0, gx, gm, go, hK, hr⟩, hXI, hY1, hY2⟩ := hI
  refine wl_of hX hb cL_882 (rw_aload_n (pc' := 883) (v := .ref x) rfl rfl rfl ?_)
  refine wl_of hX hb cL_883 (rw_aload_n (pc' := 884) (v := .ref 0) rfl rfl rfl ?_)
  refine wl_of hX hb cL_884 (rw_iload (pc' := 886) (z := i) rfl rfl ?_)
  refine wl_of hX hb cL_886 (rw_iconst (pc' := 887) rfl ?_)
  refine wl_of hX hb cL_887 (rw_iadd (pc' := 888) rfl ?_)
  refine wl_of hX hb cL_888 (xa_I (so := 0) (pc' := 889) (a := 0) hW g0 (wsh_s _) (by omega) (wty_s _ _) (by omega) (by omega) rfl (fun b2174 b2175 => ?_))
  refine wl_of hX hb cL_889 (rw_aload_n (pc' := 890) (v := .ref 0) rfl rfl rfl ?_)
  refine wl_of hX hb cL_890 (rw_iload (pc' := 892) (z := i) rfl rfl ?_)
  refine wl_of hX hb cL_892 (rw_iconst (pc' := 893) rfl ?_)
  refine wl_of hX hb cL_893 (rw_iadd (pc' := 894) rfl ?_)
  refine wl_of hX hb cL_894 (xa_I (so := 0) (pc' := 895) (a := 0) hW g0 (wsh_s _) (by omega) (wty_s _ _) (by omega) (by omega) rfl (fun b2176 b2177 => ?_))
  refine wl_of hX hb cL_895 (xc_V (pc' := 898) (r := x) (as := [vI (H 0 ((i + 1).toNat)), vI (H 0 ((i + 2).toNat))]) (st := []) (lm_11_114) rfl rfl (Nat.le_of_ble_eq_true rfl) hW gx sh_1 (by decide) rfl (by decide) (s_105 hW gx ⟨by omega, by omega⟩ ⟨by omega, by omega⟩) (fun R2178 T2179 H2180 p2181 => ?_))
  obtain ⟨e2182, w2184, f2185, z2186, e2183, b2187⟩ := p2181
  subst e2182
  subst e2183
  show WL _ _ _ _ 898 [(4, vI i), (3, .ref o), (2, .ref m), (1, .ref x), (0, .ref 0)] [vI z2186] _ H2180
  refine wl_of hX hb cL_898 (rw_pop (pc' := 899) rfl rfl ?_)
  refine wl_of hX hb cL_899 (rw_aload_n (pc' := 900) (v := .ref m) rfl rfl rfl ?_)
  refine wl_of hX hb cL_900 (rw_aload_n (pc' := 901) (v := .ref 0) rfl rfl rfl ?_)
  refine wl_of hX hb cL_901 (rw_iload (pc' := 903) (z := i) rfl rfl ?_)
  refine wl_of hX hb cL_903 (rw_iconst (pc' := 904) rfl ?_)
  refine wl_of hX hb cL_904 (rw_iadd (pc' := 905) rfl ?_)
  have k2190 : H2180 0 ((i + 1).toNat) = H 0 ((i + 1).toNat) := (f2185 0 ((i + 1).toNat) _ g0 (wmem_s rfl))
  refine wl_of hX hb cL_905 (xa_I (so := 0) (pc' := 906) (a := 0) w2184 g0 (wsh_s _) (by omega) (wty_s _ _) (by omega) (by omega) rfl (fun b2188 b2189 => ?_))
  refine wl_of hX hb cL_906 (rw_aload_n (pc' := 907) (v := .ref 0) rfl rfl rfl ?_)
  refine wl_of hX hb cL_907 (rw_iload (pc' := 909) (z := i) rfl rfl ?_)
  refine wl_of hX hb cL_909 (rw_iconst (pc' := 910) rfl ?_)
  refine wl_of hX hb cL_910 (rw_iadd (pc' := 911) rfl ?_)
  have k2193 : H2180 0 ((i + 2).toNat) = H 0 ((i + 2).toNat) := (f2185 0 ((i + 2).toNat) _ g0 (wmem_s rfl))
  refine wl_of hX hb cL_911 (xa_I (so := 0) (pc' := 912) (a := 0) w2184 g0 (wsh_s _) (by omega) (wty_s _ _) (by omega) (by omega) rfl (fun b2191 b2192 => ?_))
  have k2194 : wKI H2180 m = wKI H m := (wKI_fr hW gm f2185 rfl)
  have k2195 : H2180 x 9 = H x 9 := (f2185 x 9 _ gx rfl)
  have k2196 : H2180 m 6 = H m 6 := (f2185 m 6 _ gm rfl)
  have k2197 : H2180 x 11 = H x 11 := (f2185 x 11 _ gx rfl)
  have k2198 : H2180 m 13 = H m 13 := (f2185 m 13 _ gm rfl)
  have k2199 : H2180 x 8 = H x 8 := (f2185 x 8 _ gx rfl)
  have k2200 : H2180 m 3 = H m 3 := (f2185 m 3 _ gm rfl)
  refine wl_of hX hb cL_912 (xc_V (pc' := 915) (r := m) (as := [vI (H2180 0 ((i + 1).toNat)), vI (H2180 0 ((i + 2).toNat))]) (st := []) (lm_11_117) rfl rfl (Nat.le_of_ble_eq_true rfl) w2184 gm sh_42 (by decide) rfl (by decide) (s_255 w2184 gm ⟨by omega, by omega⟩ ⟨by omega, by omega⟩ (by omega)) (fun R2201 T2202 H2203 p2204 => ?_))
  obtain ⟨e2205, w2207, f2208, z2210, e2206, b2211, p2209⟩ := p2204
  subst e2205
  subst e2206
  show WL _ _ _ _ 915 [(4, vI i), (3, .ref o), (2, .ref m), (1, .ref x), (0, .ref 0)] [vI z2210] _ H2203
  refine wl_of hX hb cL_915 (rw_pop (pc' := 916) rfl rfl ?_)
  refine wl_of hX hb cL_916 (rw_goto (p1 := 1681) (by decide) ?_)
  have k2212 : H2203 x 9 = H2180 x 9 := (f2208 x 9 _ gx rfl)
  have k2213 : H2203 m 6 = H2180 m 6 := (f2208 m 6 _ gm rfl)
  have k2214 : H2203 x 11 = H2180 x 11 := (f2208 x 11 _ gx rfl)
  have k2215 : H2203 m 13 = H2180 m 13 := (f2208 m 13 _ gm rfl)
  have k2216 : H2203 x 8 = H2180 x 8 := (f2208 x 8 _ gx rfl)
  have k2217 : H2203 m 3 = H2180 m 3 := (f2208 m 3 _ gm rfl)
  have h2218 : XI T H2203 x m := (XI_fr w2184 gx f2208 rfl (XI_fr hW gx f2185 rfl hXI))
  exact WL.loc hX (by simp) (next T H2203 ⟨⟨w2207, g0, gx, gm, go, by omega, by omega⟩, h2218, by omega, by omega⟩ (by omega) (by omega))
set_option maxHeartbeats 4000000 in
theorem wl_c23 {kt : Nat → Option mc_E} {CB SB : Nat} {X : mc_S → Prop} {T : wq_T} {H : wq_H} {Len x m o : Nat} {i : Int} (hX : wlX kt CB SB X) (hb : T.2.1 ≤ CB ∧ T.2.2.1 ≤ SB) (hI : wlJ Len x m o T H) (hL : Len ≤ 3072) (hi : 0 ≤ i ∧ i + 6 ≤ Len) (hb2 : T.2.1 + 20 ≤ CB ∧ T.2.2.1 + 500 ≤ SB)  (next : ∀ T' H', wlJ Len x m o T' H' → T'.2.1 ≤ T.2.1 + 20 → T'.2.2.1 ≤ T.2.2.1 + 500 → WL kt CB SB X 1681 (wlL i x m o) [] T' H') : WL kt CB SB X 919 (wlL i x m o) [] T H := by
  obtain ⟨⟨hW, g0, gx, gm, go, hK, hr⟩, hXI, hY1, hY2⟩ := hI
  refine wl_of hX hb cL_919 (rw_aload_n (pc' := 920) (v := .ref x) rfl rfl rfl ?_)
  refine wl_of hX hb cL_920 (rw_aload_n (pc' := 921) (v := .ref 0) rfl rfl rfl ?_)
  refine wl_of hX hb cL_921 (rw_iload (pc' := 923) (z := i) rfl rfl ?_)
  refine wl_of hX hb cL_923 (rw_iconst (pc' := 924) rfl ?_)
  refine wl_of hX hb cL_924 (rw_iadd (pc' := 925) rfl ?_)
  refine wl_of hX hb cL_925 (xa_I (so := 0) (pc' := 926) (a := 0) hW g0 (wsh_s _) (by omega) (wty_s _ _) (by omega) (by omega) rfl (fun b2219 b2220 => ?_))
  refine wl_of hX hb cL_926 (xc_V (pc' := 929) (r := x) (as := [vI (H 0 ((i + 1).toNat))]) (st := []) (lm_11_118) rfl rfl (Nat.le_of_ble_eq_true rfl) hW gx sh_1 (by decide) rfl (by decide) (s_107 hW gx ⟨by omega, by omega⟩) (fun R2221 T2222 H2223 p2224 => ?_))
  obtain ⟨e2225, w2227, f2228, z2229, e2226, b2230⟩ := p2224
  subst e2225
  subst e2226
  show WL _ _ _ _ 929 [(4, vI i), (3, .ref o), (2, .ref m), (1, .ref x), (0, .ref 0)] [vI z2229] _ H2223
  refine wl_of hX hb cL_929 (rw_pop (pc' := 930) rfl rfl ?_)
  refine wl_of hX hb cL_930 (rw_aload_n (pc' := 931) (v := .ref m) rfl rfl rfl ?_)
  refine wl_of hX hb cL_931 (rw_aload_n (pc' := 932) (v := .ref 0) rfl rfl rfl ?_)
  refine wl_of hX hb cL_932 (rw_iload (pc' := 934) (z := i) rfl rfl ?_)
  refine wl_of hX hb cL_934 (rw_iconst (pc' := 935) rfl ?_)
  refine wl_of hX hb cL_935 (rw_iadd (pc' := 936) rfl ?_)
  have k2233 : H2223 0 ((i + 1).toNat) = H 0 ((i + 1).toNat) := (f2228 0 ((i + 1).toNat) _ g0 (wmem_s rfl))
  refine wl_of hX hb cL_936 (xa_I (so := 0) (pc' := 937) (a := 0) w2227 g0 (wsh_s _) (by omega) (wty_s _ _) (by omega) (by omega) rfl (fun b2231 b2232 => ?_))
  have k2234 : wKI H2223 m = wKI H m := (wKI_fr hW gm f2228 rfl)
  have k2235 : H2223 x 9 = H x 9 := (f2228 x 9 _ gx rfl)
  have k2236 : H2223 m 6 = H m 6 := (f2228 m 6 _ gm rfl)
  have k2237 : H2223 x 11 = H x 11 := (f2228 x 11 _ gx rfl)
  have k2238 : H2223 m 13 = H m 13 := (f2228 m 13 _ gm rfl)
  have k2239 : H2223 x 8 = H x 8 := (f2228 x 8 _ gx rfl)
  have k2240 : H2223 m 3 = H m 3 := (f2228 m 3 _ gm rfl)
  refine wl_of hX hb cL_937 (xc_V (pc' := 940) (r := m) (as := [vI (H2223 0 ((i + 1).toNat))]) (st := []) (lm_11_121) rfl rfl (Nat.le_of_ble_eq_true rfl) w2227 gm sh_42 (by decide) rfl (by decide) (s_256 w2227 gm ⟨by omega, by omega⟩ (by omega)) (fun R2241 T2242 H2243 p2244 => ?_))
  obtain ⟨e2245, w2247, f2248, z2250, e2246, b2251, p2249⟩ := p2244
  subst e2245
  subst e2246
  show WL _ _ _ _ 940 [(4, vI i), (3, .ref o), (2, .ref m), (1, .ref x), (0, .ref 0)] [vI z2250] _ H2243
  refine wl_of hX hb cL_940 (rw_pop (pc' := 941) rfl rfl ?_)
  refine wl_of hX hb cL_941 (rw_goto (p1 := 1681) (by decide) ?_)
  have k2252 : H2243 x 9 = H2223 x 9 := (f2248 x 9 _ gx rfl)
  have k2253 : H2243 m 6 = H2223 m 6 := (f2248 m 6 _ gm rfl)
  have k2254 : H2243 x 11 = H2223 x 11 := (f2248 x 11 _ gx rfl)
  have k2255 : H2243 m 13 = H2223 m 13 := (f2248 m 13 _ gm rfl)
  have k2256 : H2243 x 8 = H2223 x 8 := (f2248 x 8 _ gx rfl)
  have k2257 : H2243 m 3 = H2223 m 3 := (f2248 m 3 _ gm rfl)
  have h2258 : XI T H2243 x m := (XI_fr w2227 gx f2248 rfl (XI_fr hW gx f2228 rfl hXI))
  exact WL.loc hX (by simp) (next T H2243 ⟨⟨w2247, g0, gx, gm, go, by omega, by omega⟩, h2258, by omega, by omega⟩ (by omega) (by omega))
set_option maxHeartbeats 4000000 in
theorem wl_c24 {kt : Nat → Option mc_E} {CB SB : Nat} {X : mc_S → Prop} {T : wq_T} {H : wq_H} {Len x m o : Nat} {i : Int} (hX : wlX kt CB SB X) (hb : T.2.1 ≤ CB ∧ T.2.2.1 ≤ SB) (hI : wlJ Len x m o T H) (hL : Len ≤ 3072) (hi : 0 ≤ i ∧ i + 6 ≤ Len) (hb2 : T.2.1 + 20 ≤ CB ∧ T.2.2.1 + 500 ≤ SB)  (next : ∀ T' H', wlJ Len x m o T' H' → T'.2.1 ≤ T.2.1 + 20 → T'.2.2.1 ≤ T.2.2.1 + 500 → WL kt CB SB X 1681 (wlL i x m o) [] T' H') : WL kt CB SB X 944 (wlL i x m o) [] T H := by
  obtain ⟨⟨hW, g0, gx, gm, go, hK, hr⟩, hXI, hY1, hY2⟩ := hI
  refine wl_of hX hb cL_944 (rw_aload_n (pc' := 945) (v := .ref x) rfl rfl rfl ?_)
  refine wl_of hX hb cL_945 (xc_V (pc' := 948) (r := x) (as := []) (st := []) (lm_11_122) rfl rfl (Nat.le_of_ble_eq_true rfl) hW gx sh_1 (by decide) rfl (by decide) (s_108 hW gx) (fun R2259 T2260 H2261 p2262 => ?_))
  obtain ⟨e2263, w2265, f2266, z2267, e2264, b2268⟩ := p2262
  subst e2263
  subst e2264
  show WL _ _ _ _ 948 [(4, vI i), (3, .ref o), (2, .ref m), (1, .ref x), (0, .ref 0)] [vL z2267] _ H2261
  refine wl_of hX hb cL_948 (rw_pop2 (pc' := 949) rfl rfl ?_)
  refine wl_of hX hb cL_949 (rw_aload_n (pc' := 950) (v := .ref m) rfl rfl rfl ?_)
  have k2269 : wKI H2261 m = wKI H m := (wKI_fr hW gm f2266 rfl)
  have k2270 : H2261 x 9 = H x 9 := (f2266 x 9 _ gx rfl)
  have k2271 : H2261 m 6 = H m 6 := (f2266 m 6 _ gm rfl)
  have k2272 : H2261 x 11 = H x 11 := (f2266 x 11 _ gx rfl)
  have k2273 : H2261 m 13 = H m 13 := (f2266 m 13 _ gm rfl)
  have k2274 : H2261 x 8 = H x 8 := (f2266 x 8 _ gx rfl)
  have k2275 : H2261 m 3 = H m 3 := (f2266 m 3 _ gm rfl)
  refine wl_of hX hb cL_950 (xc_V (pc' := 953) (r := m) (as := []) (st := []) (lm_11_125) rfl rfl (Nat.le_of_ble_eq_true rfl) w2265 gm sh_42 (by decide) rfl (by decide) (s_258 w2265 gm (by omega)) (fun R2276 T2277 H2278 p2279 => ?_))
  obtain ⟨e2280, w2282, f2283, z2285, e2281, b2286, p2284⟩ := p2279
  subst e2280
  subst e2281
  show WL _ _ _ _ 953 [(4, vI i), (3, .ref o), (2, .ref m), (1, .ref x), (0, .ref 0)] [vL z2285] _ H2278
  refine wl_of hX hb cL_953 (rw_pop2 (pc' := 954) rfl rfl ?_)
  refine wl_of hX hb cL_954 (rw_goto (p1 := 1681) (by decide) ?_)
  have k2287 : H2278 x 9 = H2261 x 9 := (f2283 x 9 _ gx rfl)
  have k2288 : H2278 m 6 = H2261 m 6 := (f2283 m 6 _ gm rfl)
  have k2289 : H2278 x 11 = H2261 x 11 := (f2283 x 11 _ gx rfl)
  have k2290 : H2278 m 13 = H2261 m 13 := (f2283 m 13 _ gm rfl)
  have k2291 : H2278 x 8 = H2261 x 8 := (f2283 x 8 _ gx rfl)
  have k2292 : H2278 m 3 = H2261 m 3 := (f2283 m 3 _ gm rfl)
  have h2293 : XI T H2278 x m := (XI_fr w2265 gx f2283 rfl (XI_fr hW gx f2266 rfl hXI))
  exact WL.loc hX (by simp) (next T H2278 ⟨⟨w2282, g0, gx, gm, go, by omega, by omega⟩, h2293, by omega, by omega⟩ (by omega) (by omega))
set_option maxHeartbeats 4000000 in
theorem wl_c25 {kt : Nat → Option mc_E} {CB SB : Nat} {X : mc_S → Prop} {T : wq_T} {H : wq_H} {Len x m o : Nat} {i : Int} (hX : wlX kt CB SB X) (hb : T.2.1 ≤ CB ∧ T.2.2.1 ≤ SB) (hI : wlJ Len x m o T H) (hL : Len ≤ 3072) (hi : 0 ≤ i ∧ i + 6 ≤ Len) (hb2 : T.2.1 + 20 ≤ CB ∧ T.2.2.1 + 500 ≤ SB)  (next : ∀ T' H', wlJ Len x m o T' H' → T'.2.1 ≤ T.2.1 + 20 → T'.2.2.1 ≤ T.2.2.1 + 500 → WL kt CB SB X 1681 (wlL i x m o) [] T' H') : WL kt CB SB X 957 (wlL i x m o) [] T H := by
  obtain ⟨⟨hW, g0, gx, gm, go, hK, hr⟩, hXI, hY1, hY2⟩ := hI
  refine wl_of hX hb cL_957 (rw_aload_n (pc' := 958) (v := .ref x) rfl rfl rfl ?_)
  refine wl_of hX hb cL_958 (rw_aload_n (pc' := 959) (v := .ref 0) rfl rfl rfl ?_)
  refine wl_of hX hb cL_959 (rw_iload (pc' := 961) (z := i) rfl rfl ?_)
  refine wl_of hX hb cL_961 (rw_iconst (pc' := 962) rfl ?_)
  refine wl_of hX hb cL_962 (rw_iadd (pc' := 963) rfl ?_)
  refine wl_of hX hb cL_963 (xa_I (so := 0) (pc' := 964) (a := 0) hW g0 (wsh_s _) (by omega) (wty_s _ _) (by omega) (by omega) rfl (fun b2294 b2295 => ?_))
  refine wl_of hX hb cL_964 (rw_aload_n (pc' := 965) (v := .ref 0) rfl rfl rfl ?_)
  refine wl_of hX hb cL_965 (rw_iload (pc' := 967) (z := i) rfl rfl ?_)
  refine wl_of hX hb cL_967 (rw_iconst (pc' := 968) rfl ?_)
  refine wl_of hX hb cL_968 (rw_iadd (pc' := 969) rfl ?_)
  refine wl_of hX hb cL_969 (xa_I (so := 0) (pc' := 970) (a := 0) hW g0 (wsh_s _) (by omega) (wty_s _ _) (by omega) (by omega) rfl (fun b2296 b2297 => ?_))
  refine wl_of hX hb cL_970 (xc_V (pc' := 973) (r := x) (as := [vI (H 0 ((i + 1).toNat)), vI (H 0 ((i + 2).toNat))]) (st := []) (lm_11_126) rfl rfl (Nat.le_of_ble_eq_true rfl) hW gx sh_1 (by decide) rfl (by decide) (s_109 hW gx ⟨by omega, by omega⟩ ⟨by omega, by omega⟩) (fun R2298 T2299 H2300 p2301 => ?_))
  obtain ⟨e2302, w2304, f2305, z2306, e2303, b2307⟩ := p2301
  subst e2302
  subst e2303
  show WL _ _ _ _ 973 [(4, vI i), (3, .ref o), (2, .ref m), (1, .ref x), (0, .ref 0)] [vI z2306] _ H2300
  refine wl_of hX hb cL_973 (rw_pop (pc' := 974) rfl rfl ?_)
  refine wl_of hX hb cL_974 (rw_aload_n (pc' := 975) (v := .ref m) rfl rfl rfl ?_)
  refine wl_of hX hb cL_975 (rw_aload_n (pc' := 976) (v := .ref 0) rfl rfl rfl ?_)
  refine wl_of hX hb cL_976 (rw_iload (pc' := 978) (z := i) rfl rfl ?_)
  refine wl_of hX hb cL_978 (rw_iconst (pc' := 979) rfl ?_)
  refine wl_of hX hb cL_979 (rw_iadd (pc' := 980) rfl ?_)
  have k2310 : H2300 0 ((i + 1).toNat) = H 0 ((i + 1).toNat) := (f2305 0 ((i + 1).toNat) _ g0 (wmem_s rfl))
  refine wl_of hX hb cL_980 (xa_I (so := 0) (pc' := 981) (a := 0) w2304 g0 (wsh_s _) (by omega) (wty_s _ _) (by omega) (by omega) rfl (fun b2308 b2309 => ?_))
  refine wl_of hX hb cL_981 (rw_aload_n (pc' := 982) (v := .ref 0) rfl rfl rfl ?_)
  refine wl_of hX hb cL_982 (rw_iload (pc' := 984) (z := i) rfl rfl ?_)
  refine wl_of hX hb cL_984 (rw_iconst (pc' := 985) rfl ?_)
  refine wl_of hX hb cL_985 (rw_iadd (pc' := 986) rfl ?_)
  have k2313 : H2300 0 ((i + 2).toNat) = H 0 ((i + 2).toNat) := (f2305 0 ((i + 2).toNat) _ g0 (wmem_s rfl))
  refine wl_of hX hb cL_986 (xa_I (so := 0) (pc' := 987) (a := 0) w2304 g0 (wsh_s _) (by omega) (wty_s _ _) (by omega) (by omega) rfl (fun b2311 b2312 => ?_))
  have k2314 : wKI H2300 m = wKI H m := (wKI_fr hW gm f2305 rfl)
  have k2315 : H2300 x 9 = H x 9 := (f2305 x 9 _ gx rfl)
  have k2316 : H2300 m 6 = H m 6 := (f2305 m 6 _ gm rfl)
  have k2317 : H2300 x 11 = H x 11 := (f2305 x 11 _ gx rfl)
  have k2318 : H2300 m 13 = H m 13 := (f2305 m 13 _ gm rfl)
  have k2319 : H2300 x 8 = H x 8 := (f2305 x 8 _ gx rfl)
  have k2320 : H2300 m 3 = H m 3 := (f2305 m 3 _ gm rfl)
  refine wl_of hX hb cL_987 (xc_V (pc' := 990) (r := m) (as := [vI (H2300 0 ((i + 1).toNat)), vI (H2300 0 ((i + 2).toNat))]) (st := []) (lm_11_129) rfl rfl (Nat.le_of_ble_eq_true rfl) w2304 gm sh_42 (by decide) rfl (by decide) (s_259 w2304 gm ⟨by omega, by omega⟩ ⟨by omega, by omega⟩ (by omega)) (fun R2321 T2322 H2323 p2324 => ?_))
  obtain ⟨e2325, w2327, f2328, z2330, e2326, b2331, p2329⟩ := p2324
  subst e2325
  subst e2326
  show WL _ _ _ _ 990 [(4, vI i), (3, .ref o), (2, .ref m), (1, .ref x), (0, .ref 0)] [vI z2330] _ H2323
  refine wl_of hX hb cL_990 (rw_pop (pc' := 991) rfl rfl ?_)
  refine wl_of hX hb cL_991 (rw_goto (p1 := 1681) (by decide) ?_)
  have k2332 : H2323 x 9 = H2300 x 9 := (f2328 x 9 _ gx rfl)
  have k2333 : H2323 m 6 = H2300 m 6 := (f2328 m 6 _ gm rfl)
  have k2334 : H2323 x 11 = H2300 x 11 := (f2328 x 11 _ gx rfl)
  have k2335 : H2323 m 13 = H2300 m 13 := (f2328 m 13 _ gm rfl)
  have k2336 : H2323 x 8 = H2300 x 8 := (f2328 x 8 _ gx rfl)
  have k2337 : H2323 m 3 = H2300 m 3 := (f2328 m 3 _ gm rfl)
  have h2338 : XI T H2323 x m := (XI_fr w2304 gx f2328 rfl (XI_fr hW gx f2305 rfl hXI))
  exact WL.loc hX (by simp) (next T H2323 ⟨⟨w2327, g0, gx, gm, go, by omega, by omega⟩, h2338, by omega, by omega⟩ (by omega) (by omega))
set_option maxHeartbeats 4000000 in
theorem wl_c26 {kt : Nat → Option mc_E} {CB SB : Nat} {X : mc_S → Prop} {T : wq_T} {H : wq_H} {Len x m o : Nat} {i : Int} (hX : wlX kt CB SB X) (hb : T.2.1 ≤ CB ∧ T.2.2.1 ≤ SB) (hI : wlJ Len x m o T H) (hL : Len ≤ 3072) (hi : 0 ≤ i ∧ i + 6 ≤ Len) (hb2 : T.2.1 + 20 ≤ CB ∧ T.2.2.1 + 500 ≤ SB)  (next : ∀ T' H', wlJ Len x m o T' H' → T'.2.1 ≤ T.2.1 + 20 → T'.2.2.1 ≤ T.2.2.1 + 500 → WL kt CB SB X 1681 (wlL i x m o) [] T' H') : WL kt CB SB X 994 (wlL i x m o) [] T H := by
  obtain ⟨⟨hW, g0, gx, gm, go, hK, hr⟩, hXI, hY1, hY2⟩ := hI
  refine wl_of hX hb cL_994 (rw_aload_n (pc' := 995) (v := .ref x) rfl rfl rfl ?_)
  refine wl_of hX hb cL_995 (rw_aload_n (pc' := 996) (v := .ref 0) rfl rfl rfl ?_)
  refine wl_of hX hb cL_996 (rw_iload (pc' := 998) (z := i) rfl rfl ?_)
  refine wl_of hX hb cL_998 (rw_iconst (pc' := 999) rfl ?_)
  refine wl_of hX hb cL_999 (rw_iadd (pc' := 1000) rfl ?_)
  refine wl_of hX hb cL_1000 (xa_I (so := 0) (pc' := 1001) (a := 0) hW g0 (wsh_s _) (by omega) (wty_s _ _) (by omega) (by omega) rfl (fun b2339 b2340 => ?_))
  refine wl_of hX hb cL_1001 (xc_V (pc' := 1004) (r := x) (as := [vI (H 0 ((i + 1).toNat))]) (st := []) (lm_11_130) rfl rfl (Nat.le_of_ble_eq_true rfl) hW gx sh_1 (by decide) rfl (by decide) (s_112 hW gx ⟨by omega, by omega⟩) (fun R2341 T2342 H2343 p2344 => ?_))
  obtain ⟨e2345, w2347, f2348, z2349, e2346, b2350⟩ := p2344
  subst e2345
  subst e2346
  show WL _ _ _ _ 1004 [(4, vI i), (3, .ref o), (2, .ref m), (1, .ref x), (0, .ref 0)] [vL z2349] _ H2343
  refine wl_of hX hb cL_1004 (rw_pop2 (pc' := 1005) rfl rfl ?_)
  refine wl_of hX hb cL_1005 (rw_aload_n (pc' := 1006) (v := .ref m) rfl rfl rfl ?_)
  refine wl_of hX hb cL_1006 (rw_aload_n (pc' := 1007) (v := .ref 0) rfl rfl rfl ?_)
  refine wl_of hX hb cL_1007 (rw_iload (pc' := 1009) (z := i) rfl rfl ?_)
  refine wl_of hX hb cL_1009 (rw_iconst (pc' := 1010) rfl ?_)
  refine wl_of hX hb cL_1010 (rw_iadd (pc' := 1011) rfl ?_)
  have k2353 : H2343 0 ((i + 1).toNat) = H 0 ((i + 1).toNat) := (f2348 0 ((i + 1).toNat) _ g0 (wmem_s rfl))
  refine wl_of hX hb cL_1011 (xa_I (so := 0) (pc' := 1012) (a := 0) w2347 g0 (wsh_s _) (by omega) (wty_s _ _) (by omega) (by omega) rfl (fun b2351 b2352 => ?_))
  have k2354 : wKI H2343 m = wKI H m := (wKI_fr hW gm f2348 rfl)
  have k2355 : H2343 x 9 = H x 9 := (f2348 x 9 _ gx rfl)
  have k2356 : H2343 m 6 = H m 6 := (f2348 m 6 _ gm rfl)
  have k2357 : H2343 x 11 = H x 11 := (f2348 x 11 _ gx rfl)
  have k2358 : H2343 m 13 = H m 13 := (f2348 m 13 _ gm rfl)
  have k2359 : H2343 x 8 = H x 8 := (f2348 x 8 _ gx rfl)
  have k2360 : H2343 m 3 = H m 3 := (f2348 m 3 _ gm rfl)
  refine wl_of hX hb cL_1012 (xc_V (pc' := 1015) (r := m) (as := [vI (H2343 0 ((i + 1).toNat))]) (st := []) (lm_11_134) rfl rfl (Nat.le_of_ble_eq_true rfl) w2347 gm sh_42 (by decide) rfl (by decide) (s_260 w2347 gm ⟨by omega, by omega⟩ (by omega)) (fun R2361 T2362 H2363 p2364 => ?_))
  obtain ⟨e2365, w2367, f2368, z2370, e2366, b2371, p2369⟩ := p2364
  subst e2365
  subst e2366
  show WL _ _ _ _ 1015 [(4, vI i), (3, .ref o), (2, .ref m), (1, .ref x), (0, .ref 0)] [vL z2370] _ H2363
  refine wl_of hX hb cL_1015 (rw_pop2 (pc' := 1016) rfl rfl ?_)
  refine wl_of hX hb cL_1016 (rw_goto (p1 := 1681) (by decide) ?_)
  have k2372 : H2363 x 9 = H2343 x 9 := (f2368 x 9 _ gx rfl)
  have k2373 : H2363 m 6 = H2343 m 6 := (f2368 m 6 _ gm rfl)
  have k2374 : H2363 x 11 = H2343 x 11 := (f2368 x 11 _ gx rfl)
  have k2375 : H2363 m 13 = H2343 m 13 := (f2368 m 13 _ gm rfl)
  have k2376 : H2363 x 8 = H2343 x 8 := (f2368 x 8 _ gx rfl)
  have k2377 : H2363 m 3 = H2343 m 3 := (f2368 m 3 _ gm rfl)
  have h2378 : XI T H2363 x m := (XI_fr w2347 gx f2368 rfl (XI_fr hW gx f2348 rfl hXI))
  exact WL.loc hX (by simp) (next T H2363 ⟨⟨w2367, g0, gx, gm, go, by omega, by omega⟩, h2378, by omega, by omega⟩ (by omega) (by omega))
set_option maxHeartbeats 4000000 in
theorem wl_c27 {kt : Nat → Option mc_E} {CB SB : Nat} {X : mc_S → Prop} {T : wq_T} {H : wq_H} {Len x m o : Nat} {i : Int} (hX : wlX kt CB SB X) (hb : T.2.1 ≤ CB ∧ T.2.2.1 ≤ SB) (hI : wlJ Len x m o T H) (hL : Len ≤ 3072) (hi : 0 ≤ i ∧ i + 6 ≤ Len) (hb2 : T.2.1 + 20 ≤ CB ∧ T.2.2.1 + 500 ≤ SB)  (next : ∀ T' H', wlJ Len x m o T' H' → T'.2.1 ≤ T.2.1 + 20 → T'.2.2.1 ≤ T.2.2.1 + 500 → WL kt CB SB X 1681 (wlL i x m o) [] T' H') : WL kt CB SB X 1019 (wlL i x m o) [] T H := by
  obtain ⟨⟨hW, g0, gx, gm, go, hK, hr⟩, hXI, hY1, hY2⟩ := hI
  refine wl_of hX hb cL_1019 (rw_aload_n (pc' := 1020) (v := .ref x) rfl rfl rfl ?_)
  refine wl_of hX hb cL_1020 (rw_aload_n (pc' := 1021) (v := .ref 0) rfl rfl rfl ?_)
  refine wl_of hX hb cL_1021 (rw_iload (pc' := 1023) (z := i) rfl rfl ?_)
  refine wl_of hX hb cL_1023 (rw_iconst (pc' := 1024) rfl ?_)
  refine wl_of hX hb cL_1024 (rw_iadd (pc' := 1025) rfl ?_)
  refine wl_of hX hb cL_1025 (xa_I (so := 0) (pc' := 1026) (a := 0) hW g0 (wsh_s _) (by omega) (wty_s _ _) (by omega) (by omega) rfl (fun b2379 b2380 => ?_))
  refine wl_of hX hb cL_1026 (rw_aload_n (pc' := 1027) (v := .ref 0) rfl rfl rfl ?_)
  refine wl_of hX hb cL_1027 (rw_iload (pc' := 1029) (z := i) rfl rfl ?_)
  refine wl_of hX hb cL_1029 (rw_iconst (pc' := 1030) rfl ?_)
  refine wl_of hX hb cL_1030 (rw_iadd (pc' := 1031) rfl ?_)
  refine wl_of hX hb cL_1031 (xa_I (so := 0) (pc' := 1032) (a := 0) hW g0 (wsh_s _) (by omega) (wty_s _ _) (by omega) (by omega) rfl (fun b2381 b2382 => ?_))
  refine wl_of hX hb cL_1032 (xc_V (pc' := 1035) (r := x) (as := [vI (H 0 ((i + 1).toNat)), vI (H 0 ((i + 2).toNat))]) (st := []) (lm_11_135) rfl rfl (Nat.le_of_ble_eq_true rfl) hW gx sh_1 (by decide) rfl (by decide) (s_114 hW gx ⟨by omega, by omega⟩ ⟨by omega, by omega⟩) (fun R2383 T2384 H2385 p2386 => ?_))
  obtain ⟨e2387, w2389, f2390, z2391, e2388, b2392⟩ := p2386
  subst e2387
  subst e2388
  show WL _ _ _ _ 1035 [(4, vI i), (3, .ref o), (2, .ref m), (1, .ref x), (0, .ref 0)] [vI z2391] _ H2385
  refine wl_of hX hb cL_1035 (rw_pop (pc' := 1036) rfl rfl ?_)
  refine wl_of hX hb cL_1036 (rw_aload_n (pc' := 1037) (v := .ref m) rfl rfl rfl ?_)
  refine wl_of hX hb cL_1037 (rw_aload_n (pc' := 1038) (v := .ref 0) rfl rfl rfl ?_)
  refine wl_of hX hb cL_1038 (rw_iload (pc' := 1040) (z := i) rfl rfl ?_)
  refine wl_of hX hb cL_1040 (rw_iconst (pc' := 1041) rfl ?_)
  refine wl_of hX hb cL_1041 (rw_iadd (pc' := 1042) rfl ?_)
  have k2395 : H2385 0 ((i + 1).toNat) = H 0 ((i + 1).toNat) := (f2390 0 ((i + 1).toNat) _ g0 (wmem_s rfl))
  refine wl_of hX hb cL_1042 (xa_I (so := 0) (pc' := 1043) (a := 0) w2389 g0 (wsh_s _) (by omega) (wty_s _ _) (by omega) (by omega) rfl (fun b2393 b2394 => ?_))
  refine wl_of hX hb cL_1043 (rw_aload_n (pc' := 1044) (v := .ref 0) rfl rfl rfl ?_)
  refine wl_of hX hb cL_1044 (rw_iload (pc' := 1046) (z := i) rfl rfl ?_)
  refine wl_of hX hb cL_1046 (rw_iconst (pc' := 1047) rfl ?_)
  refine wl_of hX hb cL_1047 (rw_iadd (pc' := 1048) rfl ?_)
  have k2398 : H2385 0 ((i + 2).toNat) = H 0 ((i + 2).toNat) := (f2390 0 ((i + 2).toNat) _ g0 (wmem_s rfl))
  refine wl_of hX hb cL_1048 (xa_I (so := 0) (pc' := 1049) (a := 0) w2389 g0 (wsh_s _) (by omega) (wty_s _ _) (by omega) (by omega) rfl (fun b2396 b2397 => ?_))
  have k2399 : wKI H2385 m = wKI H m := (wKI_fr hW gm f2390 rfl)
  have k2400 : H2385 x 9 = H x 9 := (f2390 x 9 _ gx rfl)
  have k2401 : H2385 m 6 = H m 6 := (f2390 m 6 _ gm rfl)
  have k2402 : H2385 x 11 = H x 11 := (f2390 x 11 _ gx rfl)
  have k2403 : H2385 m 13 = H m 13 := (f2390 m 13 _ gm rfl)
  have k2404 : H2385 x 8 = H x 8 := (f2390 x 8 _ gx rfl)
  have k2405 : H2385 m 3 = H m 3 := (f2390 m 3 _ gm rfl)
  refine wl_of hX hb cL_1049 (xc_V (pc' := 1052) (r := m) (as := [vI (H2385 0 ((i + 1).toNat)), vI (H2385 0 ((i + 2).toNat))]) (st := []) (lm_11_138) rfl rfl (Nat.le_of_ble_eq_true rfl) w2389 gm sh_42 (by decide) rfl (by decide) (s_261 w2389 gm ⟨by omega, by omega⟩ ⟨by omega, by omega⟩ (by omega)) (fun R2406 T2407 H2408 p2409 => ?_))
  obtain ⟨e2410, w2412, f2413, z2415, e2411, b2416, p2414⟩ := p2409
  subst e2410
  subst e2411
  show WL _ _ _ _ 1052 [(4, vI i), (3, .ref o), (2, .ref m), (1, .ref x), (0, .ref 0)] [vI z2415] _ H2408
  refine wl_of hX hb cL_1052 (rw_pop (pc' := 1053) rfl rfl ?_)
  refine wl_of hX hb cL_1053 (rw_goto (p1 := 1681) (by decide) ?_)
  have k2417 : H2408 x 9 = H2385 x 9 := (f2413 x 9 _ gx rfl)
  have k2418 : H2408 m 6 = H2385 m 6 := (f2413 m 6 _ gm rfl)
  have k2419 : H2408 x 11 = H2385 x 11 := (f2413 x 11 _ gx rfl)
  have k2420 : H2408 m 13 = H2385 m 13 := (f2413 m 13 _ gm rfl)
  have k2421 : H2408 x 8 = H2385 x 8 := (f2413 x 8 _ gx rfl)
  have k2422 : H2408 m 3 = H2385 m 3 := (f2413 m 3 _ gm rfl)
  have h2423 : XI T H2408 x m := (XI_fr w2389 gx f2413 rfl (XI_fr hW gx f2390 rfl hXI))
  exact WL.loc hX (by simp) (next T H2408 ⟨⟨w2412, g0, gx, gm, go, by omega, by omega⟩, h2423, by omega, by omega⟩ (by omega) (by omega))
set_option maxHeartbeats 4000000 in
theorem wl_c28 {kt : Nat → Option mc_E} {CB SB : Nat} {X : mc_S → Prop} {T : wq_T} {H : wq_H} {Len x m o : Nat} {i : Int} (hX : wlX kt CB SB X) (hb : T.2.1 ≤ CB ∧ T.2.2.1 ≤ SB) (hI : wlJ Len x m o T H) (hL : Len ≤ 3072) (hi : 0 ≤ i ∧ i + 6 ≤ Len) (hb2 : T.2.1 + 20 ≤ CB ∧ T.2.2.1 + 500 ≤ SB)  (next : ∀ T' H', wlJ Len x m o T' H' → T'.2.1 ≤ T.2.1 + 20 → T'.2.2.1 ≤ T.2.2.1 + 500 → WL kt CB SB X 1681 (wlL i x m o) [] T' H') : WL kt CB SB X 1056 (wlL i x m o) [] T H := by
  obtain ⟨⟨hW, g0, gx, gm, go, hK, hr⟩, hXI, hY1, hY2⟩ := hI
  refine wl_of hX hb cL_1056 (rw_aload_n (pc' := 1057) (v := .ref x) rfl rfl rfl ?_)
  refine wl_of hX hb cL_1057 (rw_aload_n (pc' := 1058) (v := .ref 0) rfl rfl rfl ?_)
  refine wl_of hX hb cL_1058 (rw_iload (pc' := 1060) (z := i) rfl rfl ?_)
  refine wl_of hX hb cL_1060 (rw_iconst (pc' := 1061) rfl ?_)
  refine wl_of hX hb cL_1061 (rw_iadd (pc' := 1062) rfl ?_)
  refine wl_of hX hb cL_1062 (xa_I (so := 0) (pc' := 1063) (a := 0) hW g0 (wsh_s _) (by omega) (wty_s _ _) (by omega) (by omega) rfl (fun b2424 b2425 => ?_))
  refine wl_of hX hb cL_1063 (rw_aload_n (pc' := 1064) (v := .ref 0) rfl rfl rfl ?_)
  refine wl_of hX hb cL_1064 (rw_iload (pc' := 1066) (z := i) rfl rfl ?_)
  refine wl_of hX hb cL_1066 (rw_iconst (pc' := 1067) rfl ?_)
  refine wl_of hX hb cL_1067 (rw_iadd (pc' := 1068) rfl ?_)
  refine wl_of hX hb cL_1068 (xa_I (so := 0) (pc' := 1069) (a := 0) hW g0 (wsh_s _) (by omega) (wty_s _ _) (by omega) (by omega) rfl (fun b2426 b2427 => ?_))
  refine wl_of hX hb cL_1069 (rw_if_eq (p1 := 1076) (p2 := 1072) (by decide) rfl ⟨by omega, by omega⟩ (fun c2428 => ?_) (fun c2428 => ?_))
  · refine wl_of hX hb cL_1076 (rw_iconst (pc' := 1077) rfl ?_)
    refine wl_of hX hb cL_1077 (xc_V (pc' := 1080) (r := x) (as := [vI (H 0 ((i + 1).toNat)), vI 0]) (st := []) (lm_11_139) rfl rfl (Nat.le_of_ble_eq_true rfl) hW gx sh_1 (by decide) rfl (by decide) (s_117 hW gx ⟨by omega, by omega⟩ ⟨by decide, by decide⟩) (fun R2429 T2430 H2431 p2432 => ?_))
    obtain ⟨e2433, w2435, f2436, z2437, e2434, b2438⟩ := p2432
    subst e2433
    subst e2434
    show WL _ _ _ _ 1080 [(4, vI i), (3, .ref o), (2, .ref m), (1, .ref x), (0, .ref 0)] [vI z2437] _ H2431
    refine wl_of hX hb cL_1080 (rw_pop (pc' := 1081) rfl rfl ?_)
    refine wl_of hX hb cL_1081 (rw_aload_n (pc' := 1082) (v := .ref m) rfl rfl rfl ?_)
    refine wl_of hX hb cL_1082 (rw_aload_n (pc' := 1083) (v := .ref 0) rfl rfl rfl ?_)
    refine wl_of hX hb cL_1083 (rw_iload (pc' := 1085) (z := i) rfl rfl ?_)
    refine wl_of hX hb cL_1085 (rw_iconst (pc' := 1086) rfl ?_)
    refine wl_of hX hb cL_1086 (rw_iadd (pc' := 1087) rfl ?_)
    have k2441 : H2431 0 ((i + 1).toNat) = H 0 ((i + 1).toNat) := (f2436 0 ((i + 1).toNat) _ g0 (wmem_s rfl))
    refine wl_of hX hb cL_1087 (xa_I (so := 0) (pc' := 1088) (a := 0) w2435 g0 (wsh_s _) (by omega) (wty_s _ _) (by omega) (by omega) rfl (fun b2439 b2440 => ?_))
    refine wl_of hX hb cL_1088 (rw_aload_n (pc' := 1089) (v := .ref 0) rfl rfl rfl ?_)
    refine wl_of hX hb cL_1089 (rw_iload (pc' := 1091) (z := i) rfl rfl ?_)
    refine wl_of hX hb cL_1091 (rw_iconst (pc' := 1092) rfl ?_)
    refine wl_of hX hb cL_1092 (rw_iadd (pc' := 1093) rfl ?_)
    have k2444 : H2431 0 ((i + 2).toNat) = H 0 ((i + 2).toNat) := (f2436 0 ((i + 2).toNat) _ g0 (wmem_s rfl))
    refine wl_of hX hb cL_1093 (xa_I (so := 0) (pc' := 1094) (a := 0) w2435 g0 (wsh_s _) (by omega) (wty_s _ _) (by omega) (by omega) rfl (fun b2442 b2443 => ?_))
    refine wl_of hX hb cL_1094 (rw_if_eq (p1 := 1101) (p2 := 1097) (by decide) rfl ⟨by omega, by omega⟩ (fun c2445 => ?_) (fun c2445 => ?_))
    · refine wl_of hX hb cL_1101 (rw_iconst (pc' := 1102) rfl ?_)
      have k2446 : wKI H2431 m = wKI H m := (wKI_fr hW gm f2436 rfl)
      have k2447 : H2431 x 9 = H x 9 := (f2436 x 9 _ gx rfl)
      have k2448 : H2431 m 6 = H m 6 := (f2436 m 6 _ gm rfl)
      have k2449 : H2431 x 11 = H x 11 := (f2436 x 11 _ gx rfl)
      have k2450 : H2431 m 13 = H m 13 := (f2436 m 13 _ gm rfl)
      have k2451 : H2431 x 8 = H x 8 := (f2436 x 8 _ gx rfl)
      have k2452 : H2431 m 3 = H m 3 := (f2436 m 3 _ gm rfl)
      refine wl_of hX hb cL_1102 (xc_V (pc' := 1105) (r := m) (as := [vI (H2431 0 ((i + 1).toNat)), vI 0]) (st := []) (lm_11_142) rfl rfl (Nat.le_of_ble_eq_true rfl) w2435 gm sh_42 (by decide) rfl (by decide) (s_263 w2435 gm ⟨by omega, by omega⟩ ⟨by decide, by decide⟩ (by omega)) (fun R2453 T2454 H2455 p2456 => ?_))
      obtain ⟨e2457, w2459, f2460, z2462, e2458, b2463, p2461⟩ := p2456
      subst e2457
      subst e2458
      show WL _ _ _ _ 1105 [(4, vI i), (3, .ref o), (2, .ref m), (1, .ref x), (0, .ref 0)] [vI z2462] _ H2455
      refine wl_of hX hb cL_1105 (rw_pop (pc' := 1106) rfl rfl ?_)
      refine wl_of hX hb cL_1106 (rw_goto (p1 := 1681) (by decide) ?_)
      have k2464 : H2455 x 9 = H2431 x 9 := (f2460 x 9 _ gx rfl)
      have k2465 : H2455 m 6 = H2431 m 6 := (f2460 m 6 _ gm rfl)
      have k2466 : H2455 x 11 = H2431 x 11 := (f2460 x 11 _ gx rfl)
      have k2467 : H2455 m 13 = H2431 m 13 := (f2460 m 13 _ gm rfl)
      have k2468 : H2455 x 8 = H2431 x 8 := (f2460 x 8 _ gx rfl)
      have k2469 : H2455 m 3 = H2431 m 3 := (f2460 m 3 _ gm rfl)
      have h2470 : XI T H2455 x m := (XI_fr w2435 gx f2460 rfl (XI_fr hW gx f2436 rfl hXI))
      exact WL.loc hX (by simp) (next T H2455 ⟨⟨w2459, g0, gx, gm, go, by omega, by omega⟩, h2470, by omega, by omega⟩ (by omega) (by omega))
    · exfalso
      omega
  · refine wl_of hX hb cL_1072 (rw_iconst (pc' := 1073) rfl ?_)
    refine wl_of hX hb cL_1073 (rw_goto (p1 := 1077) (by decide) ?_)
    refine wl_of hX hb cL_1077 (xc_V (pc' := 1080) (r := x) (as := [vI (H 0 ((i + 1).toNat)), vI 1]) (st := []) (lm_11_139) rfl rfl (Nat.le_of_ble_eq_true rfl) hW gx sh_1 (by decide) rfl (by decide) (s_117 hW gx ⟨by omega, by omega⟩ ⟨by decide, by decide⟩) (fun R2471 T2472 H2473 p2474 => ?_))
    obtain ⟨e2475, w2477, f2478, z2479, e2476, b2480⟩ := p2474
    subst e2475
    subst e2476
    show WL _ _ _ _ 1080 [(4, vI i), (3, .ref o), (2, .ref m), (1, .ref x), (0, .ref 0)] [vI z2479] _ H2473
    refine wl_of hX hb cL_1080 (rw_pop (pc' := 1081) rfl rfl ?_)
    refine wl_of hX hb cL_1081 (rw_aload_n (pc' := 1082) (v := .ref m) rfl rfl rfl ?_)
    refine wl_of hX hb cL_1082 (rw_aload_n (pc' := 1083) (v := .ref 0) rfl rfl rfl ?_)
    refine wl_of hX hb cL_1083 (rw_iload (pc' := 1085) (z := i) rfl rfl ?_)
    refine wl_of hX hb cL_1085 (rw_iconst (pc' := 1086) rfl ?_)
    refine wl_of hX hb cL_1086 (rw_iadd (pc' := 1087) rfl ?_)
    have k2483 : H2473 0 ((i + 1).toNat) = H 0 ((i + 1).toNat) := (f2478 0 ((i + 1).toNat) _ g0 (wmem_s rfl))
    refine wl_of hX hb cL_1087 (xa_I (so := 0) (pc' := 1088) (a := 0) w2477 g0 (wsh_s _) (by omega) (wty_s _ _) (by omega) (by omega) rfl (fun b2481 b2482 => ?_))
    refine wl_of hX hb cL_1088 (rw_aload_n (pc' := 1089) (v := .ref 0) rfl rfl rfl ?_)
    refine wl_of hX hb cL_1089 (rw_iload (pc' := 1091) (z := i) rfl rfl ?_)
    refine wl_of hX hb cL_1091 (rw_iconst (pc' := 1092) rfl ?_)
    refine wl_of hX hb cL_1092 (rw_iadd (pc' := 1093) rfl ?_)
    have k2486 : H2473 0 ((i + 2).toNat) = H 0 ((i + 2).toNat) := (f2478 0 ((i + 2).toNat) _ g0 (wmem_s rfl))
    refine wl_of hX hb cL_1093 (xa_I (so := 0) (pc' := 1094) (a := 0) w2477 g0 (wsh_s _) (by omega) (wty_s _ _) (by omega) (by omega) rfl (fun b2484 b2485 => ?_))
    refine wl_of hX hb cL_1094 (rw_if_eq (p1 := 1101) (p2 := 1097) (by decide) rfl ⟨by omega, by omega⟩ (fun c2487 => ?_) (fun c2487 => ?_))
    · refine wl_of hX hb cL_1101 (rw_iconst (pc' := 1102) rfl ?_)
      have k2488 : wKI H2473 m = wKI H m := (wKI_fr hW gm f2478 rfl)
      have k2489 : H2473 x 9 = H x 9 := (f2478 x 9 _ gx rfl)
      have k2490 : H2473 m 6 = H m 6 := (f2478 m 6 _ gm rfl)
      have k2491 : H2473 x 11 = H x 11 := (f2478 x 11 _ gx rfl)
      have k2492 : H2473 m 13 = H m 13 := (f2478 m 13 _ gm rfl)
      have k2493 : H2473 x 8 = H x 8 := (f2478 x 8 _ gx rfl)
      have k2494 : H2473 m 3 = H m 3 := (f2478 m 3 _ gm rfl)
      refine wl_of hX hb cL_1102 (xc_V (pc' := 1105) (r := m) (as := [vI (H2473 0 ((i + 1).toNat)), vI 0]) (st := []) (lm_11_142) rfl rfl (Nat.le_of_ble_eq_true rfl) w2477 gm sh_42 (by decide) rfl (by decide) (s_263 w2477 gm ⟨by omega, by omega⟩ ⟨by decide, by decide⟩ (by omega)) (fun R2495 T2496 H2497 p2498 => ?_))
      obtain ⟨e2499, w2501, f2502, z2504, e2500, b2505, p2503⟩ := p2498
      subst e2499
      subst e2500
      show WL _ _ _ _ 1105 [(4, vI i), (3, .ref o), (2, .ref m), (1, .ref x), (0, .ref 0)] [vI z2504] _ H2497
      refine wl_of hX hb cL_1105 (rw_pop (pc' := 1106) rfl rfl ?_)
      refine wl_of hX hb cL_1106 (rw_goto (p1 := 1681) (by decide) ?_)
      have k2506 : H2497 x 9 = H2473 x 9 := (f2502 x 9 _ gx rfl)
      have k2507 : H2497 m 6 = H2473 m 6 := (f2502 m 6 _ gm rfl)
      have k2508 : H2497 x 11 = H2473 x 11 := (f2502 x 11 _ gx rfl)
      have k2509 : H2497 m 13 = H2473 m 13 := (f2502 m 13 _ gm rfl)
      have k2510 : H2497 x 8 = H2473 x 8 := (f2502 x 8 _ gx rfl)
      have k2511 : H2497 m 3 = H2473 m 3 := (f2502 m 3 _ gm rfl)
      have h2512 : XI T H2497 x m := (XI_fr w2477 gx f2502 rfl (XI_fr hW gx f2478 rfl hXI))
      exact WL.loc hX (by simp) (next T H2497 ⟨⟨w2501, g0, gx, gm, go, by omega, by omega⟩, h2512, by omega, by omega⟩ (by omega) (by omega))
    · refine wl_of hX hb cL_1097 (rw_iconst (pc' := 1098) rfl ?_)
      refine wl_of hX hb cL_1098 (rw_goto (p1 := 1102) (by decide) ?_)
      have k2513 : wKI H2473 m = wKI H m := (wKI_fr hW gm f2478 rfl)
      have k2514 : H2473 x 9 = H x 9 := (f2478 x 9 _ gx rfl)
      have k2515 : H2473 m 6 = H m 6 := (f2478 m 6 _ gm rfl)
      have k2516 : H2473 x 11 = H x 11 := (f2478 x 11 _ gx rfl)
      have k2517 : H2473 m 13 = H m 13 := (f2478 m 13 _ gm rfl)
      have k2518 : H2473 x 8 = H x 8 := (f2478 x 8 _ gx rfl)
      have k2519 : H2473 m 3 = H m 3 := (f2478 m 3 _ gm rfl)
      refine wl_of hX hb cL_1102 (xc_V (pc' := 1105) (r := m) (as := [vI (H2473 0 ((i + 1).toNat)), vI 1]) (st := []) (lm_11_142) rfl rfl (Nat.le_of_ble_eq_true rfl) w2477 gm sh_42 (by decide) rfl (by decide) (s_263 w2477 gm ⟨by omega, by omega⟩ ⟨by decide, by decide⟩ (by omega)) (fun R2520 T2521 H2522 p2523 => ?_))
      obtain ⟨e2524, w2526, f2527, z2529, e2525, b2530, p2528⟩ := p2523
      subst e2524
      subst e2525
      show WL _ _ _ _ 1105 [(4, vI i), (3, .ref o), (2, .ref m), (1, .ref x), (0, .ref 0)] [vI z2529] _ H2522
      refine wl_of hX hb cL_1105 (rw_pop (pc' := 1106) rfl rfl ?_)
      refine wl_of hX hb cL_1106 (rw_goto (p1 := 1681) (by decide) ?_)
      have k2531 : H2522 x 9 = H2473 x 9 := (f2527 x 9 _ gx rfl)
      have k2532 : H2522 m 6 = H2473 m 6 := (f2527 m 6 _ gm rfl)
      have k2533 : H2522 x 11 = H2473 x 11 := (f2527 x 11 _ gx rfl)
      have k2534 : H2522 m 13 = H2473 m 13 := (f2527 m 13 _ gm rfl)
      have k2535 : H2522 x 8 = H2473 x 8 := (f2527 x 8 _ gx rfl)
      have k2536 : H2522 m 3 = H2473 m 3 := (f2527 m 3 _ gm rfl)
      have h2537 : XI T H2522 x m := (XI_fr w2477 gx f2527 rfl (XI_fr hW gx f2478 rfl hXI))
      exact WL.loc hX (by simp) (next T H2522 ⟨⟨w2526, g0, gx, gm, go, by omega, by omega⟩, h2537, by omega, by omega⟩ (by omega) (by omega))
set_option maxHeartbeats 4000000 in
theorem wl_c29 {kt : Nat → Option mc_E} {CB SB : Nat} {X : mc_S → Prop} {T : wq_T} {H : wq_H} {Len x m o : Nat} {i : Int} (hX : wlX kt CB SB X) (hb : T.2.1 ≤ CB ∧ T.2.2.1 ≤ SB) (hI : wlJ Len x m o T H) (hL : Len ≤ 3072) (hi : 0 ≤ i ∧ i + 6 ≤ Len) (hb2 : T.2.1 + 20 ≤ CB ∧ T.2.2.1 + 500 ≤ SB)  (next : ∀ T' H', wlJ Len x m o T' H' → T'.2.1 ≤ T.2.1 + 20 → T'.2.2.1 ≤ T.2.2.1 + 500 → WL kt CB SB X 1681 (wlL i x m o) [] T' H') : WL kt CB SB X 1109 (wlL i x m o) [] T H := by
  obtain ⟨⟨hW, g0, gx, gm, go, hK, hr⟩, hXI, hY1, hY2⟩ := hI
  refine wl_of hX hb cL_1109 (rw_aload_n (pc' := 1110) (v := .ref x) rfl rfl rfl ?_)
  refine wl_of hX hb cL_1110 (rw_aload_n (pc' := 1111) (v := .ref 0) rfl rfl rfl ?_)
  refine wl_of hX hb cL_1111 (rw_iload (pc' := 1113) (z := i) rfl rfl ?_)
  refine wl_of hX hb cL_1113 (rw_iconst (pc' := 1114) rfl ?_)
  refine wl_of hX hb cL_1114 (rw_iadd (pc' := 1115) rfl ?_)
  refine wl_of hX hb cL_1115 (xa_I (so := 0) (pc' := 1116) (a := 0) hW g0 (wsh_s _) (by omega) (wty_s _ _) (by omega) (by omega) rfl (fun b2538 b2539 => ?_))
  refine wl_of hX hb cL_1116 (rw_aload_n (pc' := 1117) (v := .ref 0) rfl rfl rfl ?_)
  refine wl_of hX hb cL_1117 (rw_iload (pc' := 1119) (z := i) rfl rfl ?_)
  refine wl_of hX hb cL_1119 (rw_iconst (pc' := 1120) rfl ?_)
  refine wl_of hX hb cL_1120 (rw_iadd (pc' := 1121) rfl ?_)
  refine wl_of hX hb cL_1121 (xa_I (so := 0) (pc' := 1122) (a := 0) hW g0 (wsh_s _) (by omega) (wty_s _ _) (by omega) (by omega) rfl (fun b2540 b2541 => ?_))
  refine wl_of hX hb cL_1122 (rw_if_eq (p1 := 1129) (p2 := 1125) (by decide) rfl ⟨by omega, by omega⟩ (fun c2542 => ?_) (fun c2542 => ?_))
  · refine wl_of hX hb cL_1129 (rw_iconst (pc' := 1130) rfl ?_)
    refine wl_of hX hb cL_1130 (xc_V (pc' := 1133) (r := x) (as := [vI (H 0 ((i + 1).toNat)), vI 0]) (st := []) (lm_11_143) rfl rfl (Nat.le_of_ble_eq_true rfl) hW gx sh_1 (by decide) rfl (by decide) (s_119 hW gx ⟨by omega, by omega⟩ ⟨by decide, by decide⟩) (fun R2543 T2544 H2545 p2546 => ?_))
    obtain ⟨e2547, w2549, f2550, z2551, e2548, b2552⟩ := p2546
    subst e2547
    subst e2548
    show WL _ _ _ _ 1133 [(4, vI i), (3, .ref o), (2, .ref m), (1, .ref x), (0, .ref 0)] [vI z2551] _ H2545
    refine wl_of hX hb cL_1133 (rw_pop (pc' := 1134) rfl rfl ?_)
    refine wl_of hX hb cL_1134 (rw_aload_n (pc' := 1135) (v := .ref m) rfl rfl rfl ?_)
    refine wl_of hX hb cL_1135 (rw_aload_n (pc' := 1136) (v := .ref 0) rfl rfl rfl ?_)
    refine wl_of hX hb cL_1136 (rw_iload (pc' := 1138) (z := i) rfl rfl ?_)
    refine wl_of hX hb cL_1138 (rw_iconst (pc' := 1139) rfl ?_)
    refine wl_of hX hb cL_1139 (rw_iadd (pc' := 1140) rfl ?_)
    have k2555 : H2545 0 ((i + 1).toNat) = H 0 ((i + 1).toNat) := (f2550 0 ((i + 1).toNat) _ g0 (wmem_s rfl))
    refine wl_of hX hb cL_1140 (xa_I (so := 0) (pc' := 1141) (a := 0) w2549 g0 (wsh_s _) (by omega) (wty_s _ _) (by omega) (by omega) rfl (fun b2553 b2554 => ?_))
    refine wl_of hX hb cL_1141 (rw_aload_n (pc' := 1142) (v := .ref 0) rfl rfl rfl ?_)
    refine wl_of hX hb cL_1142 (rw_iload (pc' := 1144) (z := i) rfl rfl ?_)
    refine wl_of hX hb cL_1144 (rw_iconst (pc' := 1145) rfl ?_)
    refine wl_of hX hb cL_1145 (rw_iadd (pc' := 1146) rfl ?_)
    have k2558 : H2545 0 ((i + 2).toNat) = H 0 ((i + 2).toNat) := (f2550 0 ((i + 2).toNat) _ g0 (wmem_s rfl))
    refine wl_of hX hb cL_1146 (xa_I (so := 0) (pc' := 1147) (a := 0) w2549 g0 (wsh_s _) (by omega) (wty_s _ _) (by omega) (by omega) rfl (fun b2556 b2557 => ?_))
    refine wl_of hX hb cL_1147 (rw_if_eq (p1 := 1154) (p2 := 1150) (by decide) rfl ⟨by omega, by omega⟩ (fun c2559 => ?_) (fun c2559 => ?_))
    · refine wl_of hX hb cL_1154 (rw_iconst (pc' := 1155) rfl ?_)
      have k2560 : wKI H2545 m = wKI H m := (wKI_fr hW gm f2550 rfl)
      have k2561 : H2545 x 9 = H x 9 := (f2550 x 9 _ gx rfl)
      have k2562 : H2545 m 6 = H m 6 := (f2550 m 6 _ gm rfl)
      have k2563 : H2545 x 11 = H x 11 := (f2550 x 11 _ gx rfl)
      have k2564 : H2545 m 13 = H m 13 := (f2550 m 13 _ gm rfl)
      have k2565 : H2545 x 8 = H x 8 := (f2550 x 8 _ gx rfl)
      have k2566 : H2545 m 3 = H m 3 := (f2550 m 3 _ gm rfl)
      refine wl_of hX hb cL_1155 (xc_V (pc' := 1158) (r := m) (as := [vI (H2545 0 ((i + 1).toNat)), vI 0]) (st := []) (lm_11_146) rfl rfl (Nat.le_of_ble_eq_true rfl) w2549 gm sh_42 (by decide) rfl (by decide) (s_265 w2549 gm ⟨by omega, by omega⟩ ⟨by decide, by decide⟩ (by omega)) (fun R2567 T2568 H2569 p2570 => ?_))
      obtain ⟨e2571, w2573, f2574, z2576, e2572, b2577, p2575⟩ := p2570
      subst e2571
      subst e2572
      show WL _ _ _ _ 1158 [(4, vI i), (3, .ref o), (2, .ref m), (1, .ref x), (0, .ref 0)] [vI z2576] _ H2569
      refine wl_of hX hb cL_1158 (rw_pop (pc' := 1159) rfl rfl ?_)
      refine wl_of hX hb cL_1159 (rw_goto (p1 := 1681) (by decide) ?_)
      have k2578 : H2569 x 9 = H2545 x 9 := (f2574 x 9 _ gx rfl)
      have k2579 : H2569 m 6 = H2545 m 6 := (f2574 m 6 _ gm rfl)
      have k2580 : H2569 x 11 = H2545 x 11 := (f2574 x 11 _ gx rfl)
      have k2581 : H2569 m 13 = H2545 m 13 := (f2574 m 13 _ gm rfl)
      have k2582 : H2569 x 8 = H2545 x 8 := (f2574 x 8 _ gx rfl)
      have k2583 : H2569 m 3 = H2545 m 3 := (f2574 m 3 _ gm rfl)
      have h2584 : XI T H2569 x m := (XI_fr w2549 gx f2574 rfl (XI_fr hW gx f2550 rfl hXI))
      exact WL.loc hX (by simp) (next T H2569 ⟨⟨w2573, g0, gx, gm, go, by omega, by omega⟩, h2584, by omega, by omega⟩ (by omega) (by omega))
    · exfalso
      omega
  · refine wl_of hX hb cL_1125 (rw_iconst (pc' := 1126) rfl ?_)
    refine wl_of hX hb cL_1126 (rw_goto (p1 := 1130) (by decide) ?_)
    refine wl_of hX hb cL_1130 (xc_V (pc' := 1133) (r := x) (as := [vI (H 0 ((i + 1).toNat)), vI 1]) (st := []) (lm_11_143) rfl rfl (Nat.le_of_ble_eq_true rfl) hW gx sh_1 (by decide) rfl (by decide) (s_119 hW gx ⟨by omega, by omega⟩ ⟨by decide, by decide⟩) (fun R2585 T2586 H2587 p2588 => ?_))
    obtain ⟨e2589, w2591, f2592, z2593, e2590, b2594⟩ := p2588
    subst e2589
    subst e2590
    show WL _ _ _ _ 1133 [(4, vI i), (3, .ref o), (2, .ref m), (1, .ref x), (0, .ref 0)] [vI z2593] _ H2587
    refine wl_of hX hb cL_1133 (rw_pop (pc' := 1134) rfl rfl ?_)
    refine wl_of hX hb cL_1134 (rw_aload_n (pc' := 1135) (v := .ref m) rfl rfl rfl ?_)
    refine wl_of hX hb cL_1135 (rw_aload_n (pc' := 1136) (v := .ref 0) rfl rfl rfl ?_)
    refine wl_of hX hb cL_1136 (rw_iload (pc' := 1138) (z := i) rfl rfl ?_)
    refine wl_of hX hb cL_1138 (rw_iconst (pc' := 1139) rfl ?_)
    refine wl_of hX hb cL_1139 (rw_iadd (pc' := 1140) rfl ?_)
    have k2597 : H2587 0 ((i + 1).toNat) = H 0 ((i + 1).toNat) := (f2592 0 ((i + 1).toNat) _ g0 (wmem_s rfl))
    refine wl_of hX hb cL_1140 (xa_I (so := 0) (pc' := 1141) (a := 0) w2591 g0 (wsh_s _) (by omega) (wty_s _ _) (by omega) (by omega) rfl (fun b2595 b2596 => ?_))
    refine wl_of hX hb cL_1141 (rw_aload_n (pc' := 1142) (v := .ref 0) rfl rfl rfl ?_)
    refine wl_of hX hb cL_1142 (rw_iload (pc' := 1144) (z := i) rfl rfl ?_)
    refine wl_of hX hb cL_1144 (rw_iconst (pc' := 1145) rfl ?_)
    refine wl_of hX hb cL_1145 (rw_iadd (pc' := 1146) rfl ?_)
    have k2600 : H2587 0 ((i + 2).toNat) = H 0 ((i + 2).toNat) := (f2592 0 ((i + 2).toNat) _ g0 (wmem_s rfl))
    refine wl_of hX hb cL_1146 (xa_I (so := 0) (pc' := 1147) (a := 0) w2591 g0 (wsh_s _) (by omega) (wty_s _ _) (by omega) (by omega) rfl (fun b2598 b2599 => ?_))
    refine wl_of hX hb cL_1147 (rw_if_eq (p1 := 1154) (p2 := 1150) (by decide) rfl ⟨by omega, by omega⟩ (fun c2601 => ?_) (fun c2601 => ?_))
    · refine wl_of hX hb cL_1154 (rw_iconst (pc' := 1155) rfl ?_)
      have k2602 : wKI H2587 m = wKI H m := (wKI_fr hW gm f2592 rfl)
      have k2603 : H2587 x 9 = H x 9 := (f2592 x 9 _ gx rfl)
      have k2604 : H2587 m 6 = H m 6 := (f2592 m 6 _ gm rfl)
      have k2605 : H2587 x 11 = H x 11 := (f2592 x 11 _ gx rfl)
      have k2606 : H2587 m 13 = H m 13 := (f2592 m 13 _ gm rfl)
      have k2607 : H2587 x 8 = H x 8 := (f2592 x 8 _ gx rfl)
      have k2608 : H2587 m 3 = H m 3 := (f2592 m 3 _ gm rfl)
      refine wl_of hX hb cL_1155 (xc_V (pc' := 1158) (r := m) (as := [vI (H2587 0 ((i + 1).toNat)), vI 0]) (st := []) (lm_11_146) rfl rfl (Nat.le_of_ble_eq_true rfl) w2591 gm sh_42 (by decide) rfl (by decide) (s_265 w2591 gm ⟨by omega, by omega⟩ ⟨by decide, by decide⟩ (by omega)) (fun R2609 T2610 H2611 p2612 => ?_))
      obtain ⟨e2613, w2615, f2616, z2618, e2614, b2619, p2617⟩ := p2612
      subst e2613
      subst e2614
      show WL _ _ _ _ 1158 [(4, vI i), (3, .ref o), (2, .ref m), (1, .ref x), (0, .ref 0)] [vI z2618] _ H2611
      refine wl_of hX hb cL_1158 (rw_pop (pc' := 1159) rfl rfl ?_)
      refine wl_of hX hb cL_1159 (rw_goto (p1 := 1681) (by decide) ?_)
      have k2620 : H2611 x 9 = H2587 x 9 := (f2616 x 9 _ gx rfl)
      have k2621 : H2611 m 6 = H2587 m 6 := (f2616 m 6 _ gm rfl)
      have k2622 : H2611 x 11 = H2587 x 11 := (f2616 x 11 _ gx rfl)
      have k2623 : H2611 m 13 = H2587 m 13 := (f2616 m 13 _ gm rfl)
      have k2624 : H2611 x 8 = H2587 x 8 := (f2616 x 8 _ gx rfl)
      have k2625 : H2611 m 3 = H2587 m 3 := (f2616 m 3 _ gm rfl)
      have h2626 : XI T H2611 x m := (XI_fr w2591 gx f2616 rfl (XI_fr hW gx f2592 rfl hXI))
      exact WL.loc hX (by simp) (next T H2611 ⟨⟨w2615, g0, gx, gm, go, by omega, by omega⟩, h2626, by omega, by omega⟩ (by omega) (by omega))
    · refine wl_of hX hb cL_1150 (rw_iconst (pc' := 1151) rfl ?_)
      refine wl_of hX hb cL_1151 (rw_goto (p1 := 1155) (by decide) ?_)
      have k2627 : wKI H2587 m = wKI H m := (wKI_fr hW gm f2592 rfl)
      have k2628 : H2587 x 9 = H x 9 := (f2592 x 9 _ gx rfl)
      have k2629 : H2587 m 6 = H m 6 := (f2592 m 6 _ gm rfl)
      have k2630 : H2587 x 11 = H x 11 := (f2592 x 11 _ gx rfl)
      have k2631 : H2587 m 13 = H m 13 := (f2592 m 13 _ gm rfl)
      have k2632 : H2587 x 8 = H x 8 := (f2592 x 8 _ gx rfl)
      have k2633 : H2587 m 3 = H m 3 := (f2592 m 3 _ gm rfl)
      refine wl_of hX hb cL_1155 (xc_V (pc' := 1158) (r := m) (as := [vI (H2587 0 ((i + 1).toNat)), vI 1]) (st := []) (lm_11_146) rfl rfl (Nat.le_of_ble_eq_true rfl) w2591 gm sh_42 (by decide) rfl (by decide) (s_265 w2591 gm ⟨by omega, by omega⟩ ⟨by decide, by decide⟩ (by omega)) (fun R2634 T2635 H2636 p2637 => ?_))
      obtain ⟨e2638, w2640, f2641, z2643, e2639, b2644, p2642⟩ := p2637
      subst e2638
      subst e2639
      show WL _ _ _ _ 1158 [(4, vI i), (3, .ref o), (2, .ref m), (1, .ref x), (0, .ref 0)] [vI z2643] _ H2636
      refine wl_of hX hb cL_1158 (rw_pop (pc' := 1159) rfl rfl ?_)
      refine wl_of hX hb cL_1159 (rw_goto (p1 := 1681) (by decide) ?_)
      have k2645 : H2636 x 9 = H2587 x 9 := (f2641 x 9 _ gx rfl)
      have k2646 : H2636 m 6 = H2587 m 6 := (f2641 m 6 _ gm rfl)
      have k2647 : H2636 x 11 = H2587 x 11 := (f2641 x 11 _ gx rfl)
      have k2648 : H2636 m 13 = H2587 m 13 := (f2641 m 13 _ gm rfl)
      have k2649 : H2636 x 8 = H2587 x 8 := (f2641 x 8 _ gx rfl)
      have k2650 : H2636 m 3 = H2587 m 3 := (f2641 m 3 _ gm rfl)
      have h2651 : XI T H2636 x m := (XI_fr w2591 gx f2641 rfl (XI_fr hW gx f2592 rfl hXI))
      exact WL.loc hX (by simp) (next T H2636 ⟨⟨w2640, g0, gx, gm, go, by omega, by omega⟩, h2651, by omega, by omega⟩ (by omega) (by omega))
set_option maxHeartbeats 4000000 in
theorem wl_c30 {kt : Nat → Option mc_E} {CB SB : Nat} {X : mc_S → Prop} {T : wq_T} {H : wq_H} {Len x m o : Nat} {i : Int} (hX : wlX kt CB SB X) (hb : T.2.1 ≤ CB ∧ T.2.2.1 ≤ SB) (hI : wlJ Len x m o T H) (hL : Len ≤ 3072) (hi : 0 ≤ i ∧ i + 6 ≤ Len) (hb2 : T.2.1 + 20 ≤ CB ∧ T.2.2.1 + 500 ≤ SB)  (next : ∀ T' H', wlJ Len x m o T' H' → T'.2.1 ≤ T.2.1 + 20 → T'.2.2.1 ≤ T.2.2.1 + 500 → WL kt CB SB X 1681 (wlL i x m o) [] T' H') : WL kt CB SB X 1162 (wlL i x m o) [] T H := by
  obtain ⟨⟨hW, g0, gx, gm, go, hK, hr⟩, hXI, hY1, hY2⟩ := hI
  refine wl_of hX hb cL_1162 (rw_aload_n (pc' := 1163) (v := .ref x) rfl rfl rfl ?_)
  refine wl_of hX hb cL_1163 (xc_V (pc' := 1166) (r := x) (as := []) (st := []) (lm_11_147) rfl rfl (Nat.le_of_ble_eq_true rfl) hW gx sh_1 (by decide) rfl (by decide) (s_120 hW gx) (fun R2652 T2653 H2654 p2655 => ?_))
  obtain ⟨e2656, w2658, f2659, z2660, e2657, b2661⟩ := p2655
  subst e2656
  subst e2657
  show WL _ _ _ _ 1166 [(4, vI i), (3, .ref o), (2, .ref m), (1, .ref x), (0, .ref 0)] [vI z2660] _ H2654
  refine wl_of hX hb cL_1166 (rw_pop (pc' := 1167) rfl rfl ?_)
  refine wl_of hX hb cL_1167 (rw_aload_n (pc' := 1168) (v := .ref m) rfl rfl rfl ?_)
  have k2662 : wKI H2654 m = wKI H m := (wKI_fr hW gm f2659 rfl)
  have k2663 : H2654 x 9 = H x 9 := (f2659 x 9 _ gx rfl)
  have k2664 : H2654 m 6 = H m 6 := (f2659 m 6 _ gm rfl)
  have k2665 : H2654 x 11 = H x 11 := (f2659 x 11 _ gx rfl)
  have k2666 : H2654 m 13 = H m 13 := (f2659 m 13 _ gm rfl)
  have k2667 : H2654 x 8 = H x 8 := (f2659 x 8 _ gx rfl)
  have k2668 : H2654 m 3 = H m 3 := (f2659 m 3 _ gm rfl)
  refine wl_of hX hb cL_1168 (xc_V (pc' := 1171) (r := m) (as := []) (st := []) (lm_11_150) rfl rfl (Nat.le_of_ble_eq_true rfl) w2658 gm sh_42 (by decide) rfl (by decide) (s_266 w2658 gm (by omega)) (fun R2669 T2670 H2671 p2672 => ?_))
  obtain ⟨e2673, w2675, f2676, z2678, e2674, b2679, p2677⟩ := p2672
  subst e2673
  subst e2674
  show WL _ _ _ _ 1171 [(4, vI i), (3, .ref o), (2, .ref m), (1, .ref x), (0, .ref 0)] [vI z2678] _ H2671
  refine wl_of hX hb cL_1171 (rw_pop (pc' := 1172) rfl rfl ?_)
  refine wl_of hX hb cL_1172 (rw_goto (p1 := 1681) (by decide) ?_)
  have k2680 : H2671 x 9 = H2654 x 9 := (f2676 x 9 _ gx rfl)
  have k2681 : H2671 m 6 = H2654 m 6 := (f2676 m 6 _ gm rfl)
  have k2682 : H2671 x 11 = H2654 x 11 := (f2676 x 11 _ gx rfl)
  have k2683 : H2671 m 13 = H2654 m 13 := (f2676 m 13 _ gm rfl)
  have k2684 : H2671 x 8 = H2654 x 8 := (f2676 x 8 _ gx rfl)
  have k2685 : H2671 m 3 = H2654 m 3 := (f2676 m 3 _ gm rfl)
  have h2686 : XI T H2671 x m := (XI_fr w2658 gx f2676 rfl (XI_fr hW gx f2659 rfl hXI))
  exact WL.loc hX (by simp) (next T H2671 ⟨⟨w2675, g0, gx, gm, go, by omega, by omega⟩, h2686, by omega, by omega⟩ (by omega) (by omega))
set_option maxHeartbeats 4000000 in
theorem wl_c31 {kt : Nat → Option mc_E} {CB SB : Nat} {X : mc_S → Prop} {T : wq_T} {H : wq_H} {Len x m o : Nat} {i : Int} (hX : wlX kt CB SB X) (hb : T.2.1 ≤ CB ∧ T.2.2.1 ≤ SB) (hI : wlJ Len x m o T H) (hL : Len ≤ 3072) (hi : 0 ≤ i ∧ i + 6 ≤ Len) (hb2 : T.2.1 + 20 ≤ CB ∧ T.2.2.1 + 500 ≤ SB)  (next : ∀ T' H', wlJ Len x m o T' H' → T'.2.1 ≤ T.2.1 + 20 → T'.2.2.1 ≤ T.2.2.1 + 500 → WL kt CB SB X 1681 (wlL i x m o) [] T' H') : WL kt CB SB X 1175 (wlL i x m o) [] T H := by
  obtain ⟨⟨hW, g0, gx, gm, go, hK, hr⟩, hXI, hY1, hY2⟩ := hI
  refine wl_of hX hb cL_1175 (rw_aload_n (pc' := 1176) (v := .ref x) rfl rfl rfl ?_)
  refine wl_of hX hb cL_1176 (rw_aload_n (pc' := 1177) (v := .ref 0) rfl rfl rfl ?_)
  refine wl_of hX hb cL_1177 (rw_iload (pc' := 1179) (z := i) rfl rfl ?_)
  refine wl_of hX hb cL_1179 (rw_iconst (pc' := 1180) rfl ?_)
  refine wl_of hX hb cL_1180 (rw_iadd (pc' := 1181) rfl ?_)
  refine wl_of hX hb cL_1181 (xa_I (so := 0) (pc' := 1182) (a := 0) hW g0 (wsh_s _) (by omega) (wty_s _ _) (by omega) (by omega) rfl (fun b2687 b2688 => ?_))
  refine wl_of hX hb cL_1182 (xc_V (pc' := 1185) (r := x) (as := [vI (H 0 ((i + 1).toNat))]) (st := []) (lm_11_151) rfl rfl (Nat.le_of_ble_eq_true rfl) hW gx sh_1 (by decide) rfl (by decide) (s_130 hW gx ⟨by omega, by omega⟩) (fun R2689 T2690 H2691 p2692 => ?_))
  obtain ⟨e2693, w2695, f2696, z2697, e2694, b2698⟩ := p2692
  subst e2693
  subst e2694
  show WL _ _ _ _ 1185 [(4, vI i), (3, .ref o), (2, .ref m), (1, .ref x), (0, .ref 0)] [vI z2697] _ H2691
  refine wl_of hX hb cL_1185 (rw_pop (pc' := 1186) rfl rfl ?_)
  refine wl_of hX hb cL_1186 (rw_aload_n (pc' := 1187) (v := .ref m) rfl rfl rfl ?_)
  refine wl_of hX hb cL_1187 (rw_aload_n (pc' := 1188) (v := .ref 0) rfl rfl rfl ?_)
  refine wl_of hX hb cL_1188 (rw_iload (pc' := 1190) (z := i) rfl rfl ?_)
  refine wl_of hX hb cL_1190 (rw_iconst (pc' := 1191) rfl ?_)
  refine wl_of hX hb cL_1191 (rw_iadd (pc' := 1192) rfl ?_)
  have k2701 : H2691 0 ((i + 1).toNat) = H 0 ((i + 1).toNat) := (f2696 0 ((i + 1).toNat) _ g0 (wmem_s rfl))
  refine wl_of hX hb cL_1192 (xa_I (so := 0) (pc' := 1193) (a := 0) w2695 g0 (wsh_s _) (by omega) (wty_s _ _) (by omega) (by omega) rfl (fun b2699 b2700 => ?_))
  have k2702 : wKI H2691 m = wKI H m := (wKI_fr hW gm f2696 rfl)
  have k2703 : H2691 x 9 = H x 9 := (f2696 x 9 _ gx rfl)
  have k2704 : H2691 m 6 = H m 6 := (f2696 m 6 _ gm rfl)
  have k2705 : H2691 x 11 = H x 11 := (f2696 x 11 _ gx rfl)
  have k2706 : H2691 m 13 = H m 13 := (f2696 m 13 _ gm rfl)
  have k2707 : H2691 x 8 = H x 8 := (f2696 x 8 _ gx rfl)
  have k2708 : H2691 m 3 = H m 3 := (f2696 m 3 _ gm rfl)
  refine wl_of hX hb cL_1193 (xc_V (pc' := 1196) (r := m) (as := [vI (H2691 0 ((i + 1).toNat))]) (st := []) (lm_11_154) rfl rfl (Nat.le_of_ble_eq_true rfl) w2695 gm sh_42 (by decide) rfl (by decide) (s_271 w2695 gm ⟨by omega, by omega⟩ (by omega)) (fun R2709 T2710 H2711 p2712 => ?_))
  obtain ⟨e2713, w2715, f2716, z2718, e2714, b2719, p2717⟩ := p2712
  subst e2713
  subst e2714
  show WL _ _ _ _ 1196 [(4, vI i), (3, .ref o), (2, .ref m), (1, .ref x), (0, .ref 0)] [vI z2718] _ H2711
  refine wl_of hX hb cL_1196 (rw_pop (pc' := 1197) rfl rfl ?_)
  refine wl_of hX hb cL_1197 (rw_goto (p1 := 1681) (by decide) ?_)
  have k2720 : H2711 x 9 = H2691 x 9 := (f2716 x 9 _ gx rfl)
  have k2721 : H2711 m 6 = H2691 m 6 := (f2716 m 6 _ gm rfl)
  have k2722 : H2711 x 11 = H2691 x 11 := (f2716 x 11 _ gx rfl)
  have k2723 : H2711 m 13 = H2691 m 13 := (f2716 m 13 _ gm rfl)
  have k2724 : H2711 x 8 = H2691 x 8 := (f2716 x 8 _ gx rfl)
  have k2725 : H2711 m 3 = H2691 m 3 := (f2716 m 3 _ gm rfl)
  have h2726 : XI T H2711 x m := (XI_fr w2695 gx f2716 rfl (XI_fr hW gx f2696 rfl hXI))
  exact WL.loc hX (by simp) (next T H2711 ⟨⟨w2715, g0, gx, gm, go, by omega, by omega⟩, h2726, by omega, by omega⟩ (by omega) (by omega))
set_option maxHeartbeats 4000000 in
theorem wl_c32 {kt : Nat → Option mc_E} {CB SB : Nat} {X : mc_S → Prop} {T : wq_T} {H : wq_H} {Len x m o : Nat} {i : Int} (hX : wlX kt CB SB X) (hb : T.2.1 ≤ CB ∧ T.2.2.1 ≤ SB) (hI : wlJ Len x m o T H) (hL : Len ≤ 3072) (hi : 0 ≤ i ∧ i + 6 ≤ Len) (hb2 : T.2.1 + 20 ≤ CB ∧ T.2.2.1 + 500 ≤ SB)  (next : ∀ T' H', wlJ Len x m o T' H' → T'.2.1 ≤ T.2.1 + 20 → T'.2.2.1 ≤ T.2.2.1 + 500 → WL kt CB SB X 1681 (wlL i x m o) [] T' H') : WL kt CB SB X 1200 (wlL i x m o) [] T H := by
  obtain ⟨⟨hW, g0, gx, gm, go, hK, hr⟩, hXI, hY1, hY2⟩ := hI
  refine wl_of hX hb cL_1200 (rw_aload_n (pc' := 1201) (v := .ref x) rfl rfl rfl ?_)
  refine wl_of hX hb cL_1201 (rw_aload_n (pc' := 1202) (v := .ref 0) rfl rfl rfl ?_)
  refine wl_of hX hb cL_1202 (rw_iload (pc' := 1204) (z := i) rfl rfl ?_)
  refine wl_of hX hb cL_1204 (rw_iconst (pc' := 1205) rfl ?_)
  refine wl_of hX hb cL_1205 (rw_iadd (pc' := 1206) rfl ?_)
  refine wl_of hX hb cL_1206 (xa_I (so := 0) (pc' := 1207) (a := 0) hW g0 (wsh_s _) (by omega) (wty_s _ _) (by omega) (by omega) rfl (fun b2727 b2728 => ?_))
  refine wl_of hX hb cL_1207 (xc_V (pc' := 1210) (r := x) (as := [vI (H 0 ((i + 1).toNat))]) (st := []) (lm_11_155) rfl rfl (Nat.le_of_ble_eq_true rfl) hW gx sh_1 (by decide) rfl (by decide) (s_132 hW gx ⟨by omega, by omega⟩) (fun R2729 T2730 H2731 p2732 => ?_))
  obtain ⟨e2733, w2735, f2736, z2737, e2734, b2738⟩ := p2732
  subst e2733
  subst e2734
  show WL _ _ _ _ 1210 [(4, vI i), (3, .ref o), (2, .ref m), (1, .ref x), (0, .ref 0)] [vI z2737] _ H2731
  refine wl_of hX hb cL_1210 (rw_pop (pc' := 1211) rfl rfl ?_)
  refine wl_of hX hb cL_1211 (rw_aload_n (pc' := 1212) (v := .ref m) rfl rfl rfl ?_)
  refine wl_of hX hb cL_1212 (rw_aload_n (pc' := 1213) (v := .ref 0) rfl rfl rfl ?_)
  refine wl_of hX hb cL_1213 (rw_iload (pc' := 1215) (z := i) rfl rfl ?_)
  refine wl_of hX hb cL_1215 (rw_iconst (pc' := 1216) rfl ?_)
  refine wl_of hX hb cL_1216 (rw_iadd (pc' := 1217) rfl ?_)
  have k2741 : H2731 0 ((i + 1).toNat) = H 0 ((i + 1).toNat) := (f2736 0 ((i + 1).toNat) _ g0 (wmem_s rfl))
  refine wl_of hX hb cL_1217 (xa_I (so := 0) (pc' := 1218) (a := 0) w2735 g0 (wsh_s _) (by omega) (wty_s _ _) (by omega) (by omega) rfl (fun b2739 b2740 => ?_))
  have k2742 : wKI H2731 m = wKI H m := (wKI_fr hW gm f2736 rfl)
  have k2743 : H2731 x 9 = H x 9 := (f2736 x 9 _ gx rfl)
  have k2744 : H2731 m 6 = H m 6 := (f2736 m 6 _ gm rfl)
  have k2745 : H2731 x 11 = H x 11 := (f2736 x 11 _ gx rfl)
  have k2746 : H2731 m 13 = H m 13 := (f2736 m 13 _ gm rfl)
  have k2747 : H2731 x 8 = H x 8 := (f2736 x 8 _ gx rfl)
  have k2748 : H2731 m 3 = H m 3 := (f2736 m 3 _ gm rfl)
  refine wl_of hX hb cL_1218 (xc_V (pc' := 1221) (r := m) (as := [vI (H2731 0 ((i + 1).toNat))]) (st := []) (lm_11_158) rfl rfl (Nat.le_of_ble_eq_true rfl) w2735 gm sh_42 (by decide) rfl (by decide) (s_272 w2735 gm ⟨by omega, by omega⟩ (by omega)) (fun R2749 T2750 H2751 p2752 => ?_))
  obtain ⟨e2753, w2755, f2756, z2758, e2754, b2759, p2757⟩ := p2752
  subst e2753
  subst e2754
  show WL _ _ _ _ 1221 [(4, vI i), (3, .ref o), (2, .ref m), (1, .ref x), (0, .ref 0)] [vI z2758] _ H2751
  refine wl_of hX hb cL_1221 (rw_pop (pc' := 1222) rfl rfl ?_)
  refine wl_of hX hb cL_1222 (rw_goto (p1 := 1681) (by decide) ?_)
  have k2760 : H2751 x 9 = H2731 x 9 := (f2756 x 9 _ gx rfl)
  have k2761 : H2751 m 6 = H2731 m 6 := (f2756 m 6 _ gm rfl)
  have k2762 : H2751 x 11 = H2731 x 11 := (f2756 x 11 _ gx rfl)
  have k2763 : H2751 m 13 = H2731 m 13 := (f2756 m 13 _ gm rfl)
  have k2764 : H2751 x 8 = H2731 x 8 := (f2756 x 8 _ gx rfl)
  have k2765 : H2751 m 3 = H2731 m 3 := (f2756 m 3 _ gm rfl)
  have h2766 : XI T H2751 x m := (XI_fr w2735 gx f2756 rfl (XI_fr hW gx f2736 rfl hXI))
  exact WL.loc hX (by simp) (next T H2751 ⟨⟨w2755, g0, gx, gm, go, by omega, by omega⟩, h2766, by omega, by omega⟩ (by omega) (by omega))
set_option maxHeartbeats 4000000 in
theorem wl_c33 {kt : Nat → Option mc_E} {CB SB : Nat} {X : mc_S → Prop} {T : wq_T} {H : wq_H} {Len x m o : Nat} {i : Int} (hX : wlX kt CB SB X) (hb : T.2.1 ≤ CB ∧ T.2.2.1 ≤ SB) (hI : wlJ Len x m o T H) (hL : Len ≤ 3072) (hi : 0 ≤ i ∧ i + 6 ≤ Len) (hb2 : T.2.1 + 20 ≤ CB ∧ T.2.2.1 + 500 ≤ SB)  (next : ∀ T' H', wlJ Len x m o T' H' → T'.2.1 ≤ T.2.1 + 20 → T'.2.2.1 ≤ T.2.2.1 + 500 → WL kt CB SB X 1681 (wlL i x m o) [] T' H') : WL kt CB SB X 1225 (wlL i x m o) [] T H := by
  obtain ⟨⟨hW, g0, gx, gm, go, hK, hr⟩, hXI, hY1, hY2⟩ := hI
  refine wl_of hX hb cL_1225 (rw_aload_n (pc' := 1226) (v := .ref x) rfl rfl rfl ?_)
  refine wl_of hX hb cL_1226 (rw_aload_n (pc' := 1227) (v := .ref 0) rfl rfl rfl ?_)
  refine wl_of hX hb cL_1227 (rw_iload (pc' := 1229) (z := i) rfl rfl ?_)
  refine wl_of hX hb cL_1229 (rw_iconst (pc' := 1230) rfl ?_)
  refine wl_of hX hb cL_1230 (rw_iadd (pc' := 1231) rfl ?_)
  refine wl_of hX hb cL_1231 (xa_I (so := 0) (pc' := 1232) (a := 0) hW g0 (wsh_s _) (by omega) (wty_s _ _) (by omega) (by omega) rfl (fun b2767 b2768 => ?_))
  refine wl_of hX hb cL_1232 (xc_V (pc' := 1235) (r := x) (as := [vI (H 0 ((i + 1).toNat))]) (st := []) (lm_11_159) rfl rfl (Nat.le_of_ble_eq_true rfl) hW gx sh_1 (by decide) rfl (by decide) (s_135 hW gx ⟨by omega, by omega⟩) (fun R2769 T2770 H2771 p2772 => ?_))
  obtain ⟨e2773, w2775, f2776, z2777, e2774, b2778⟩ := p2772
  subst e2773
  subst e2774
  show WL _ _ _ _ 1235 [(4, vI i), (3, .ref o), (2, .ref m), (1, .ref x), (0, .ref 0)] [vI z2777] _ H2771
  refine wl_of hX hb cL_1235 (rw_pop (pc' := 1236) rfl rfl ?_)
  refine wl_of hX hb cL_1236 (rw_aload_n (pc' := 1237) (v := .ref m) rfl rfl rfl ?_)
  refine wl_of hX hb cL_1237 (rw_aload_n (pc' := 1238) (v := .ref 0) rfl rfl rfl ?_)
  refine wl_of hX hb cL_1238 (rw_iload (pc' := 1240) (z := i) rfl rfl ?_)
  refine wl_of hX hb cL_1240 (rw_iconst (pc' := 1241) rfl ?_)
  refine wl_of hX hb cL_1241 (rw_iadd (pc' := 1242) rfl ?_)
  have k2781 : H2771 0 ((i + 1).toNat) = H 0 ((i + 1).toNat) := (f2776 0 ((i + 1).toNat) _ g0 (wmem_s rfl))
  refine wl_of hX hb cL_1242 (xa_I (so := 0) (pc' := 1243) (a := 0) w2775 g0 (wsh_s _) (by omega) (wty_s _ _) (by omega) (by omega) rfl (fun b2779 b2780 => ?_))
  have k2782 : wKI H2771 m = wKI H m := (wKI_fr hW gm f2776 rfl)
  have k2783 : H2771 x 9 = H x 9 := (f2776 x 9 _ gx rfl)
  have k2784 : H2771 m 6 = H m 6 := (f2776 m 6 _ gm rfl)
  have k2785 : H2771 x 11 = H x 11 := (f2776 x 11 _ gx rfl)
  have k2786 : H2771 m 13 = H m 13 := (f2776 m 13 _ gm rfl)
  have k2787 : H2771 x 8 = H x 8 := (f2776 x 8 _ gx rfl)
  have k2788 : H2771 m 3 = H m 3 := (f2776 m 3 _ gm rfl)
  refine wl_of hX hb cL_1243 (xc_V (pc' := 1246) (r := m) (as := [vI (H2771 0 ((i + 1).toNat))]) (st := []) (lm_11_162) rfl rfl (Nat.le_of_ble_eq_true rfl) w2775 gm sh_42 (by decide) rfl (by decide) (s_275 w2775 gm ⟨by omega, by omega⟩ (by omega)) (fun R2789 T2790 H2791 p2792 => ?_))
  obtain ⟨e2793, w2795, f2796, z2798, e2794, b2799, p2797⟩ := p2792
  subst e2793
  subst e2794
  show WL _ _ _ _ 1246 [(4, vI i), (3, .ref o), (2, .ref m), (1, .ref x), (0, .ref 0)] [vI z2798] _ H2791
  refine wl_of hX hb cL_1246 (rw_pop (pc' := 1247) rfl rfl ?_)
  refine wl_of hX hb cL_1247 (rw_goto (p1 := 1681) (by decide) ?_)
  have k2800 : H2791 x 9 = H2771 x 9 := (f2796 x 9 _ gx rfl)
  have k2801 : H2791 m 6 = H2771 m 6 := (f2796 m 6 _ gm rfl)
  have k2802 : H2791 x 11 = H2771 x 11 := (f2796 x 11 _ gx rfl)
  have k2803 : H2791 m 13 = H2771 m 13 := (f2796 m 13 _ gm rfl)
  have k2804 : H2791 x 8 = H2771 x 8 := (f2796 x 8 _ gx rfl)
  have k2805 : H2791 m 3 = H2771 m 3 := (f2796 m 3 _ gm rfl)
  have h2806 : XI T H2791 x m := (XI_fr w2775 gx f2796 rfl (XI_fr hW gx f2776 rfl hXI))
  exact WL.loc hX (by simp) (next T H2791 ⟨⟨w2795, g0, gx, gm, go, by omega, by omega⟩, h2806, by omega, by omega⟩ (by omega) (by omega))
set_option maxHeartbeats 4000000 in
theorem wl_c34 {kt : Nat → Option mc_E} {CB SB : Nat} {X : mc_S → Prop} {T : wq_T} {H : wq_H} {Len x m o : Nat} {i : Int} (hX : wlX kt CB SB X) (hb : T.2.1 ≤ CB ∧ T.2.2.1 ≤ SB) (hI : wlJ Len x m o T H) (hL : Len ≤ 3072) (hi : 0 ≤ i ∧ i + 6 ≤ Len) (hb2 : T.2.1 + 20 ≤ CB ∧ T.2.2.1 + 500 ≤ SB)  (next : ∀ T' H', wlJ Len x m o T' H' → T'.2.1 ≤ T.2.1 + 20 → T'.2.2.1 ≤ T.2.2.1 + 500 → WL kt CB SB X 1681 (wlL i x m o) [] T' H') : WL kt CB SB X 1250 (wlL i x m o) [] T H := by
  obtain ⟨⟨hW, g0, gx, gm, go, hK, hr⟩, hXI, hY1, hY2⟩ := hI
  refine wl_of hX hb cL_1250 (rw_aload_n (pc' := 1251) (v := .ref x) rfl rfl rfl ?_)
  refine wl_of hX hb cL_1251 (xc_V (pc' := 1254) (r := x) (as := []) (st := []) (lm_11_163) rfl rfl (Nat.le_of_ble_eq_true rfl) hW gx sh_1 (by decide) rfl (by decide) (s_137 hW gx) (fun R2807 T2808 H2809 p2810 => ?_))
  obtain ⟨e2811, w2813, f2814, z2815, e2812, b2816⟩ := p2810
  subst e2811
  subst e2812
  show WL _ _ _ _ 1254 [(4, vI i), (3, .ref o), (2, .ref m), (1, .ref x), (0, .ref 0)] [vI z2815] _ H2809
  refine wl_of hX hb cL_1254 (rw_pop (pc' := 1255) rfl rfl ?_)
  refine wl_of hX hb cL_1255 (rw_aload_n (pc' := 1256) (v := .ref m) rfl rfl rfl ?_)
  have k2817 : wKI H2809 m = wKI H m := (wKI_fr hW gm f2814 rfl)
  have k2818 : H2809 x 9 = H x 9 := (f2814 x 9 _ gx rfl)
  have k2819 : H2809 m 6 = H m 6 := (f2814 m 6 _ gm rfl)
  have k2820 : H2809 x 11 = H x 11 := (f2814 x 11 _ gx rfl)
  have k2821 : H2809 m 13 = H m 13 := (f2814 m 13 _ gm rfl)
  have k2822 : H2809 x 8 = H x 8 := (f2814 x 8 _ gx rfl)
  have k2823 : H2809 m 3 = H m 3 := (f2814 m 3 _ gm rfl)
  refine wl_of hX hb cL_1256 (xc_V (pc' := 1259) (r := m) (as := []) (st := []) (lm_11_166) rfl rfl (Nat.le_of_ble_eq_true rfl) w2813 gm sh_42 (by decide) rfl (by decide) (s_276 w2813 gm (by omega)) (fun R2824 T2825 H2826 p2827 => ?_))
  obtain ⟨e2828, w2830, f2831, z2833, e2829, b2834, p2832⟩ := p2827
  subst e2828
  subst e2829
  show WL _ _ _ _ 1259 [(4, vI i), (3, .ref o), (2, .ref m), (1, .ref x), (0, .ref 0)] [vI z2833] _ H2826
  refine wl_of hX hb cL_1259 (rw_pop (pc' := 1260) rfl rfl ?_)
  refine wl_of hX hb cL_1260 (rw_goto (p1 := 1681) (by decide) ?_)
  have k2835 : H2826 x 9 = H2809 x 9 := (f2831 x 9 _ gx rfl)
  have k2836 : H2826 m 6 = H2809 m 6 := (f2831 m 6 _ gm rfl)
  have k2837 : H2826 x 11 = H2809 x 11 := (f2831 x 11 _ gx rfl)
  have k2838 : H2826 m 13 = H2809 m 13 := (f2831 m 13 _ gm rfl)
  have k2839 : H2826 x 8 = H2809 x 8 := (f2831 x 8 _ gx rfl)
  have k2840 : H2826 m 3 = H2809 m 3 := (f2831 m 3 _ gm rfl)
  have h2841 : XI T H2826 x m := (XI_fr w2813 gx f2831 rfl (XI_fr hW gx f2814 rfl hXI))
  exact WL.loc hX (by simp) (next T H2826 ⟨⟨w2830, g0, gx, gm, go, by omega, by omega⟩, h2841, by omega, by omega⟩ (by omega) (by omega))
set_option maxHeartbeats 4000000 in
theorem wl_c35 {kt : Nat → Option mc_E} {CB SB : Nat} {X : mc_S → Prop} {T : wq_T} {H : wq_H} {Len x m o : Nat} {i : Int} (hX : wlX kt CB SB X) (hb : T.2.1 ≤ CB ∧ T.2.2.1 ≤ SB) (hI : wlJ Len x m o T H) (hL : Len ≤ 3072) (hi : 0 ≤ i ∧ i + 6 ≤ Len) (hb2 : T.2.1 + 20 ≤ CB ∧ T.2.2.1 + 500 ≤ SB)  (next : ∀ T' H', wlJ Len x m o T' H' → T'.2.1 ≤ T.2.1 + 20 → T'.2.2.1 ≤ T.2.2.1 + 500 → WL kt CB SB X 1681 (wlL i x m o) [] T' H') : WL kt CB SB X 1263 (wlL i x m o) [] T H := by
  obtain ⟨⟨hW, g0, gx, gm, go, hK, hr⟩, hXI, hY1, hY2⟩ := hI
  refine wl_of hX hb cL_1263 (rw_aload_n (pc' := 1264) (v := .ref x) rfl rfl rfl ?_)
  refine wl_of hX hb cL_1264 (rw_aload_n (pc' := 1265) (v := .ref 0) rfl rfl rfl ?_)
  refine wl_of hX hb cL_1265 (rw_iload (pc' := 1267) (z := i) rfl rfl ?_)
  refine wl_of hX hb cL_1267 (rw_iconst (pc' := 1268) rfl ?_)
  refine wl_of hX hb cL_1268 (rw_iadd (pc' := 1269) rfl ?_)
  refine wl_of hX hb cL_1269 (xa_I (so := 0) (pc' := 1270) (a := 0) hW g0 (wsh_s _) (by omega) (wty_s _ _) (by omega) (by omega) rfl (fun b2842 b2843 => ?_))
  refine wl_of hX hb cL_1270 (rw_aload_n (pc' := 1271) (v := .ref 0) rfl rfl rfl ?_)
  refine wl_of hX hb cL_1271 (rw_iload (pc' := 1273) (z := i) rfl rfl ?_)
  refine wl_of hX hb cL_1273 (rw_iconst (pc' := 1274) rfl ?_)
  refine wl_of hX hb cL_1274 (rw_iadd (pc' := 1275) rfl ?_)
  refine wl_of hX hb cL_1275 (xa_I (so := 0) (pc' := 1276) (a := 0) hW g0 (wsh_s _) (by omega) (wty_s _ _) (by omega) (by omega) rfl (fun b2844 b2845 => ?_))
  refine wl_of hX hb cL_1276 (rw_if_eq (p1 := 1283) (p2 := 1279) (by decide) rfl ⟨by omega, by omega⟩ (fun c2846 => ?_) (fun c2846 => ?_))
  · refine wl_of hX hb cL_1283 (rw_iconst (pc' := 1284) rfl ?_)
    refine wl_of hX hb cL_1284 (xc_V (pc' := 1287) (r := x) (as := [vI (H 0 ((i + 1).toNat)), vI 0]) (st := []) (lm_11_167) rfl rfl (Nat.le_of_ble_eq_true rfl) hW gx sh_1 (by decide) rfl (by decide) (s_146 hW gx ⟨by omega, by omega⟩ ⟨by decide, by decide⟩) (fun R2847 T2848 H2849 p2850 => ?_))
    obtain ⟨e2851, w2853, f2854, z2855, e2852, b2856⟩ := p2850
    subst e2851
    subst e2852
    show WL _ _ _ _ 1287 [(4, vI i), (3, .ref o), (2, .ref m), (1, .ref x), (0, .ref 0)] [vI z2855] _ H2849
    refine wl_of hX hb cL_1287 (rw_pop (pc' := 1288) rfl rfl ?_)
    refine wl_of hX hb cL_1288 (rw_aload_n (pc' := 1289) (v := .ref m) rfl rfl rfl ?_)
    refine wl_of hX hb cL_1289 (rw_aload_n (pc' := 1290) (v := .ref 0) rfl rfl rfl ?_)
    refine wl_of hX hb cL_1290 (rw_iload (pc' := 1292) (z := i) rfl rfl ?_)
    refine wl_of hX hb cL_1292 (rw_iconst (pc' := 1293) rfl ?_)
    refine wl_of hX hb cL_1293 (rw_iadd (pc' := 1294) rfl ?_)
    have k2859 : H2849 0 ((i + 1).toNat) = H 0 ((i + 1).toNat) := (f2854 0 ((i + 1).toNat) _ g0 (wmem_s rfl))
    refine wl_of hX hb cL_1294 (xa_I (so := 0) (pc' := 1295) (a := 0) w2853 g0 (wsh_s _) (by omega) (wty_s _ _) (by omega) (by omega) rfl (fun b2857 b2858 => ?_))
    refine wl_of hX hb cL_1295 (rw_aload_n (pc' := 1296) (v := .ref 0) rfl rfl rfl ?_)
    refine wl_of hX hb cL_1296 (rw_iload (pc' := 1298) (z := i) rfl rfl ?_)
    refine wl_of hX hb cL_1298 (rw_iconst (pc' := 1299) rfl ?_)
    refine wl_of hX hb cL_1299 (rw_iadd (pc' := 1300) rfl ?_)
    have k2862 : H2849 0 ((i + 2).toNat) = H 0 ((i + 2).toNat) := (f2854 0 ((i + 2).toNat) _ g0 (wmem_s rfl))
    refine wl_of hX hb cL_1300 (xa_I (so := 0) (pc' := 1301) (a := 0) w2853 g0 (wsh_s _) (by omega) (wty_s _ _) (by omega) (by omega) rfl (fun b2860 b2861 => ?_))
    refine wl_of hX hb cL_1301 (rw_if_eq (p1 := 1308) (p2 := 1304) (by decide) rfl ⟨by omega, by omega⟩ (fun c2863 => ?_) (fun c2863 => ?_))
    · refine wl_of hX hb cL_1308 (rw_iconst (pc' := 1309) rfl ?_)
      have k2864 : wKI H2849 m = wKI H m := (wKI_fr hW gm f2854 rfl)
      have k2865 : H2849 x 9 = H x 9 := (f2854 x 9 _ gx rfl)
      have k2866 : H2849 m 6 = H m 6 := (f2854 m 6 _ gm rfl)
      have k2867 : H2849 x 11 = H x 11 := (f2854 x 11 _ gx rfl)
      have k2868 : H2849 m 13 = H m 13 := (f2854 m 13 _ gm rfl)
      have k2869 : H2849 x 8 = H x 8 := (f2854 x 8 _ gx rfl)
      have k2870 : H2849 m 3 = H m 3 := (f2854 m 3 _ gm rfl)
      refine wl_of hX hb cL_1309 (xc_V (pc' := 1312) (r := m) (as := [vI (H2849 0 ((i + 1).toNat)), vI 0]) (st := []) (lm_11_170) rfl rfl (Nat.le_of_ble_eq_true rfl) w2853 gm sh_42 (by decide) rfl (by decide) (s_279 w2853 gm ⟨by omega, by omega⟩ ⟨by decide, by decide⟩ (by omega)) (fun R2871 T2872 H2873 p2874 => ?_))
      obtain ⟨e2875, w2877, f2878, z2880, e2876, b2881, p2879⟩ := p2874
      subst e2875
      subst e2876
      show WL _ _ _ _ 1312 [(4, vI i), (3, .ref o), (2, .ref m), (1, .ref x), (0, .ref 0)] [vI z2880] _ H2873
      refine wl_of hX hb cL_1312 (rw_pop (pc' := 1313) rfl rfl ?_)
      refine wl_of hX hb cL_1313 (rw_goto (p1 := 1681) (by decide) ?_)
      have k2882 : H2873 x 9 = H2849 x 9 := (f2878 x 9 _ gx rfl)
      have k2883 : H2873 m 6 = H2849 m 6 := (f2878 m 6 _ gm rfl)
      have k2884 : H2873 x 11 = H2849 x 11 := (f2878 x 11 _ gx rfl)
      have k2885 : H2873 m 13 = H2849 m 13 := (f2878 m 13 _ gm rfl)
      have k2886 : H2873 x 8 = H2849 x 8 := (f2878 x 8 _ gx rfl)
      have k2887 : H2873 m 3 = H2849 m 3 := (f2878 m 3 _ gm rfl)
      have h2888 : XI T H2873 x m := (XI_fr w2853 gx f2878 rfl (XI_fr hW gx f2854 rfl hXI))
      exact WL.loc hX (by simp) (next T H2873 ⟨⟨w2877, g0, gx, gm, go, by omega, by omega⟩, h2888, by omega, by omega⟩ (by omega) (by omega))
    · exfalso
      omega
  · refine wl_of hX hb cL_1279 (rw_iconst (pc' := 1280) rfl ?_)
    refine wl_of hX hb cL_1280 (rw_goto (p1 := 1284) (by decide) ?_)
    refine wl_of hX hb cL_1284 (xc_V (pc' := 1287) (r := x) (as := [vI (H 0 ((i + 1).toNat)), vI 1]) (st := []) (lm_11_167) rfl rfl (Nat.le_of_ble_eq_true rfl) hW gx sh_1 (by decide) rfl (by decide) (s_146 hW gx ⟨by omega, by omega⟩ ⟨by decide, by decide⟩) (fun R2889 T2890 H2891 p2892 => ?_))
    obtain ⟨e2893, w2895, f2896, z2897, e2894, b2898⟩ := p2892
    subst e2893
    subst e2894
    show WL _ _ _ _ 1287 [(4, vI i), (3, .ref o), (2, .ref m), (1, .ref x), (0, .ref 0)] [vI z2897] _ H2891
    refine wl_of hX hb cL_1287 (rw_pop (pc' := 1288) rfl rfl ?_)
    refine wl_of hX hb cL_1288 (rw_aload_n (pc' := 1289) (v := .ref m) rfl rfl rfl ?_)
    refine wl_of hX hb cL_1289 (rw_aload_n (pc' := 1290) (v := .ref 0) rfl rfl rfl ?_)
    refine wl_of hX hb cL_1290 (rw_iload (pc' := 1292) (z := i) rfl rfl ?_)
    refine wl_of hX hb cL_1292 (rw_iconst (pc' := 1293) rfl ?_)
    refine wl_of hX hb cL_1293 (rw_iadd (pc' := 1294) rfl ?_)
    have k2901 : H2891 0 ((i + 1).toNat) = H 0 ((i + 1).toNat) := (f2896 0 ((i + 1).toNat) _ g0 (wmem_s rfl))
    refine wl_of hX hb cL_1294 (xa_I (so := 0) (pc' := 1295) (a := 0) w2895 g0 (wsh_s _) (by omega) (wty_s _ _) (by omega) (by omega) rfl (fun b2899 b2900 => ?_))
    refine wl_of hX hb cL_1295 (rw_aload_n (pc' := 1296) (v := .ref 0) rfl rfl rfl ?_)
    refine wl_of hX hb cL_1296 (rw_iload (pc' := 1298) (z := i) rfl rfl ?_)
    refine wl_of hX hb cL_1298 (rw_iconst (pc' := 1299) rfl ?_)
    refine wl_of hX hb cL_1299 (rw_iadd (pc' := 1300) rfl ?_)
    have k2904 : H2891 0 ((i + 2).toNat) = H 0 ((i + 2).toNat) := (f2896 0 ((i + 2).toNat) _ g0 (wmem_s rfl))
    refine wl_of hX hb cL_1300 (xa_I (so := 0) (pc' := 1301) (a := 0) w2895 g0 (wsh_s _) (by omega) (wty_s _ _) (by omega) (by omega) rfl (fun b2902 b2903 => ?_))
    refine wl_of hX hb cL_1301 (rw_if_eq (p1 := 1308) (p2 := 1304) (by decide) rfl ⟨by omega, by omega⟩ (fun c2905 => ?_) (fun c2905 => ?_))
    · refine wl_of hX hb cL_1308 (rw_iconst (pc' := 1309) rfl ?_)
      have k2906 : wKI H2891 m = wKI H m := (wKI_fr hW gm f2896 rfl)
      have k2907 : H2891 x 9 = H x 9 := (f2896 x 9 _ gx rfl)
      have k2908 : H2891 m 6 = H m 6 := (f2896 m 6 _ gm rfl)
      have k2909 : H2891 x 11 = H x 11 := (f2896 x 11 _ gx rfl)
      have k2910 : H2891 m 13 = H m 13 := (f2896 m 13 _ gm rfl)
      have k2911 : H2891 x 8 = H x 8 := (f2896 x 8 _ gx rfl)
      have k2912 : H2891 m 3 = H m 3 := (f2896 m 3 _ gm rfl)
      refine wl_of hX hb cL_1309 (xc_V (pc' := 1312) (r := m) (as := [vI (H2891 0 ((i + 1).toNat)), vI 0]) (st := []) (lm_11_170) rfl rfl (Nat.le_of_ble_eq_true rfl) w2895 gm sh_42 (by decide) rfl (by decide) (s_279 w2895 gm ⟨by omega, by omega⟩ ⟨by decide, by decide⟩ (by omega)) (fun R2913 T2914 H2915 p2916 => ?_))
      obtain ⟨e2917, w2919, f2920, z2922, e2918, b2923, p2921⟩ := p2916
      subst e2917
      subst e2918
      show WL _ _ _ _ 1312 [(4, vI i), (3, .ref o), (2, .ref m), (1, .ref x), (0, .ref 0)] [vI z2922] _ H2915
      refine wl_of hX hb cL_1312 (rw_pop (pc' := 1313) rfl rfl ?_)
      refine wl_of hX hb cL_1313 (rw_goto (p1 := 1681) (by decide) ?_)
      have k2924 : H2915 x 9 = H2891 x 9 := (f2920 x 9 _ gx rfl)
      have k2925 : H2915 m 6 = H2891 m 6 := (f2920 m 6 _ gm rfl)
      have k2926 : H2915 x 11 = H2891 x 11 := (f2920 x 11 _ gx rfl)
      have k2927 : H2915 m 13 = H2891 m 13 := (f2920 m 13 _ gm rfl)
      have k2928 : H2915 x 8 = H2891 x 8 := (f2920 x 8 _ gx rfl)
      have k2929 : H2915 m 3 = H2891 m 3 := (f2920 m 3 _ gm rfl)
      have h2930 : XI T H2915 x m := (XI_fr w2895 gx f2920 rfl (XI_fr hW gx f2896 rfl hXI))
      exact WL.loc hX (by simp) (next T H2915 ⟨⟨w2919, g0, gx, gm, go, by omega, by omega⟩, h2930, by omega, by omega⟩ (by omega) (by omega))
    · refine wl_of hX hb cL_1304 (rw_iconst (pc' := 1305) rfl ?_)
      refine wl_of hX hb cL_1305 (rw_goto (p1 := 1309) (by decide) ?_)
      have k2931 : wKI H2891 m = wKI H m := (wKI_fr hW gm f2896 rfl)
      have k2932 : H2891 x 9 = H x 9 := (f2896 x 9 _ gx rfl)
      have k2933 : H2891 m 6 = H m 6 := (f2896 m 6 _ gm rfl)
      have k2934 : H2891 x 11 = H x 11 := (f2896 x 11 _ gx rfl)
      have k2935 : H2891 m 13 = H m 13 := (f2896 m 13 _ gm rfl)
      have k2936 : H2891 x 8 = H x 8 := (f2896 x 8 _ gx rfl)
      have k2937 : H2891 m 3 = H m 3 := (f2896 m 3 _ gm rfl)
      refine wl_of hX hb cL_1309 (xc_V (pc' := 1312) (r := m) (as := [vI (H2891 0 ((i + 1).toNat)), vI 1]) (st := []) (lm_11_170) rfl rfl (Nat.le_of_ble_eq_true rfl) w2895 gm sh_42 (by decide) rfl (by decide) (s_279 w2895 gm ⟨by omega, by omega⟩ ⟨by decide, by decide⟩ (by omega)) (fun R2938 T2939 H2940 p2941 => ?_))
      obtain ⟨e2942, w2944, f2945, z2947, e2943, b2948, p2946⟩ := p2941
      subst e2942
      subst e2943
      show WL _ _ _ _ 1312 [(4, vI i), (3, .ref o), (2, .ref m), (1, .ref x), (0, .ref 0)] [vI z2947] _ H2940
      refine wl_of hX hb cL_1312 (rw_pop (pc' := 1313) rfl rfl ?_)
      refine wl_of hX hb cL_1313 (rw_goto (p1 := 1681) (by decide) ?_)
      have k2949 : H2940 x 9 = H2891 x 9 := (f2945 x 9 _ gx rfl)
      have k2950 : H2940 m 6 = H2891 m 6 := (f2945 m 6 _ gm rfl)
      have k2951 : H2940 x 11 = H2891 x 11 := (f2945 x 11 _ gx rfl)
      have k2952 : H2940 m 13 = H2891 m 13 := (f2945 m 13 _ gm rfl)
      have k2953 : H2940 x 8 = H2891 x 8 := (f2945 x 8 _ gx rfl)
      have k2954 : H2940 m 3 = H2891 m 3 := (f2945 m 3 _ gm rfl)
      have h2955 : XI T H2940 x m := (XI_fr w2895 gx f2945 rfl (XI_fr hW gx f2896 rfl hXI))
      exact WL.loc hX (by simp) (next T H2940 ⟨⟨w2944, g0, gx, gm, go, by omega, by omega⟩, h2955, by omega, by omega⟩ (by omega) (by omega))
set_option maxHeartbeats 4000000 in
theorem wl_c36 {kt : Nat → Option mc_E} {CB SB : Nat} {X : mc_S → Prop} {T : wq_T} {H : wq_H} {Len x m o : Nat} {i : Int} (hX : wlX kt CB SB X) (hb : T.2.1 ≤ CB ∧ T.2.2.1 ≤ SB) (hI : wlJ Len x m o T H) (hL : Len ≤ 3072) (hi : 0 ≤ i ∧ i + 6 ≤ Len) (hb2 : T.2.1 + 20 ≤ CB ∧ T.2.2.1 + 500 ≤ SB)  (next : ∀ T' H', wlJ Len x m o T' H' → T'.2.1 ≤ T.2.1 + 20 → T'.2.2.1 ≤ T.2.2.1 + 500 → WL kt CB SB X 1681 (wlL i x m o) [] T' H') : WL kt CB SB X 1316 (wlL i x m o) [] T H := by
  obtain ⟨⟨hW, g0, gx, gm, go, hK, hr⟩, hXI, hY1, hY2⟩ := hI
  refine wl_of hX hb cL_1316 (rw_aload_n (pc' := 1317) (v := .ref x) rfl rfl rfl ?_)
  refine wl_of hX hb cL_1317 (xc_V (pc' := 1320) (r := x) (as := []) (st := []) (lm_11_171) rfl rfl (Nat.le_of_ble_eq_true rfl) hW gx sh_1 (by decide) rfl (by decide) (s_147 hW gx) (fun R2956 T2957 H2958 p2959 => ?_))
  obtain ⟨e2960, w2962, f2963, z2964, e2961, b2965⟩ := p2959
  subst e2960
  subst e2961
  show WL _ _ _ _ 1320 [(4, vI i), (3, .ref o), (2, .ref m), (1, .ref x), (0, .ref 0)] [vI z2964] _ H2958
  refine wl_of hX hb cL_1320 (rw_pop (pc' := 1321) rfl rfl ?_)
  refine wl_of hX hb cL_1321 (rw_aload_n (pc' := 1322) (v := .ref m) rfl rfl rfl ?_)
  have k2966 : wKI H2958 m = wKI H m := (wKI_fr hW gm f2963 rfl)
  have k2967 : H2958 x 9 = H x 9 := (f2963 x 9 _ gx rfl)
  have k2968 : H2958 m 6 = H m 6 := (f2963 m 6 _ gm rfl)
  have k2969 : H2958 x 11 = H x 11 := (f2963 x 11 _ gx rfl)
  have k2970 : H2958 m 13 = H m 13 := (f2963 m 13 _ gm rfl)
  have k2971 : H2958 x 8 = H x 8 := (f2963 x 8 _ gx rfl)
  have k2972 : H2958 m 3 = H m 3 := (f2963 m 3 _ gm rfl)
  refine wl_of hX hb cL_1322 (xc_V (pc' := 1325) (r := m) (as := []) (st := []) (lm_11_174) rfl rfl (Nat.le_of_ble_eq_true rfl) w2962 gm sh_42 (by decide) rfl (by decide) (s_282 w2962 gm (by omega)) (fun R2973 T2974 H2975 p2976 => ?_))
  obtain ⟨e2977, w2979, f2980, z2982, e2978, b2983, p2981⟩ := p2976
  subst e2977
  subst e2978
  show WL _ _ _ _ 1325 [(4, vI i), (3, .ref o), (2, .ref m), (1, .ref x), (0, .ref 0)] [vI z2982] _ H2975
  refine wl_of hX hb cL_1325 (rw_pop (pc' := 1326) rfl rfl ?_)
  refine wl_of hX hb cL_1326 (rw_goto (p1 := 1681) (by decide) ?_)
  have k2984 : H2975 x 9 = H2958 x 9 := (f2980 x 9 _ gx rfl)
  have k2985 : H2975 m 6 = H2958 m 6 := (f2980 m 6 _ gm rfl)
  have k2986 : H2975 x 11 = H2958 x 11 := (f2980 x 11 _ gx rfl)
  have k2987 : H2975 m 13 = H2958 m 13 := (f2980 m 13 _ gm rfl)
  have k2988 : H2975 x 8 = H2958 x 8 := (f2980 x 8 _ gx rfl)
  have k2989 : H2975 m 3 = H2958 m 3 := (f2980 m 3 _ gm rfl)
  have h2990 : XI T H2975 x m := (XI_fr w2962 gx f2980 rfl (XI_fr hW gx f2963 rfl hXI))
  exact WL.loc hX (by simp) (next T H2975 ⟨⟨w2979, g0, gx, gm, go, by omega, by omega⟩, h2990, by omega, by omega⟩ (by omega) (by omega))
set_option maxHeartbeats 4000000 in
theorem wl_c37 {kt : Nat → Option mc_E} {CB SB : Nat} {X : mc_S → Prop} {T : wq_T} {H : wq_H} {Len x m o : Nat} {i : Int} (hX : wlX kt CB SB X) (hb : T.2.1 ≤ CB ∧ T.2.2.1 ≤ SB) (hI : wlJ Len x m o T H) (hL : Len ≤ 3072) (hi : 0 ≤ i ∧ i + 6 ≤ Len) (hb2 : T.2.1 + 20 ≤ CB ∧ T.2.2.1 + 500 ≤ SB)  (next : ∀ T' H', wlJ Len x m o T' H' → T'.2.1 ≤ T.2.1 + 20 → T'.2.2.1 ≤ T.2.2.1 + 500 → WL kt CB SB X 1681 (wlL i x m o) [] T' H') : WL kt CB SB X 1329 (wlL i x m o) [] T H := by
  obtain ⟨⟨hW, g0, gx, gm, go, hK, hr⟩, hXI, hY1, hY2⟩ := hI
  refine wl_of hX hb cL_1329 (rw_aload_n (pc' := 1330) (v := .ref x) rfl rfl rfl ?_)
  refine wl_of hX hb cL_1330 (xc_V (pc' := 1333) (r := x) (as := []) (st := []) (lm_11_175) rfl rfl (Nat.le_of_ble_eq_true rfl) hW gx sh_1 (by decide) rfl (by decide) (s_149 hW gx) (fun R2991 T2992 H2993 p2994 => ?_))
  obtain ⟨e2995, w2997, f2998, z2999, e2996, b3000⟩ := p2994
  subst e2995
  subst e2996
  show WL _ _ _ _ 1333 [(4, vI i), (3, .ref o), (2, .ref m), (1, .ref x), (0, .ref 0)] [vI z2999] _ H2993
  refine wl_of hX hb cL_1333 (rw_pop (pc' := 1334) rfl rfl ?_)
  refine wl_of hX hb cL_1334 (rw_aload_n (pc' := 1335) (v := .ref m) rfl rfl rfl ?_)
  have k3001 : wKI H2993 m = wKI H m := (wKI_fr hW gm f2998 rfl)
  have k3002 : H2993 x 9 = H x 9 := (f2998 x 9 _ gx rfl)
  have k3003 : H2993 m 6 = H m 6 := (f2998 m 6 _ gm rfl)
  have k3004 : H2993 x 11 = H x 11 := (f2998 x 11 _ gx rfl)
  have k3005 : H2993 m 13 = H m 13 := (f2998 m 13 _ gm rfl)
  have k3006 : H2993 x 8 = H x 8 := (f2998 x 8 _ gx rfl)
  have k3007 : H2993 m 3 = H m 3 := (f2998 m 3 _ gm rfl)
  refine wl_of hX hb cL_1335 (xc_V (pc' := 1338) (r := m) (as := []) (st := []) (lm_11_178) rfl rfl (Nat.le_of_ble_eq_true rfl) w2997 gm sh_42 (by decide) rfl (by decide) (s_283 w2997 gm (by omega)) (fun R3008 T3009 H3010 p3011 => ?_))
  obtain ⟨e3012, w3014, f3015, z3017, e3013, b3018, p3016⟩ := p3011
  subst e3012
  subst e3013
  show WL _ _ _ _ 1338 [(4, vI i), (3, .ref o), (2, .ref m), (1, .ref x), (0, .ref 0)] [vI z3017] _ H3010
  refine wl_of hX hb cL_1338 (rw_pop (pc' := 1339) rfl rfl ?_)
  refine wl_of hX hb cL_1339 (rw_goto (p1 := 1681) (by decide) ?_)
  have k3019 : H3010 x 9 = H2993 x 9 := (f3015 x 9 _ gx rfl)
  have k3020 : H3010 m 6 = H2993 m 6 := (f3015 m 6 _ gm rfl)
  have k3021 : H3010 x 11 = H2993 x 11 := (f3015 x 11 _ gx rfl)
  have k3022 : H3010 m 13 = H2993 m 13 := (f3015 m 13 _ gm rfl)
  have k3023 : H3010 x 8 = H2993 x 8 := (f3015 x 8 _ gx rfl)
  have k3024 : H3010 m 3 = H2993 m 3 := (f3015 m 3 _ gm rfl)
  have h3025 : XI T H3010 x m := (XI_fr w2997 gx f3015 rfl (XI_fr hW gx f2998 rfl hXI))
  exact WL.loc hX (by simp) (next T H3010 ⟨⟨w3014, g0, gx, gm, go, by omega, by omega⟩, h3025, by omega, by omega⟩ (by omega) (by omega))
set_option maxHeartbeats 4000000 in
theorem wl_c38 {kt : Nat → Option mc_E} {CB SB : Nat} {X : mc_S → Prop} {T : wq_T} {H : wq_H} {Len x m o : Nat} {i : Int} (hX : wlX kt CB SB X) (hb : T.2.1 ≤ CB ∧ T.2.2.1 ≤ SB) (hI : wlJ Len x m o T H) (hL : Len ≤ 3072) (hi : 0 ≤ i ∧ i + 6 ≤ Len) (hb2 : T.2.1 + 20 ≤ CB ∧ T.2.2.1 + 500 ≤ SB)  (next : ∀ T' H', wlJ Len x m o T' H' → T'.2.1 ≤ T.2.1 + 20 → T'.2.2.1 ≤ T.2.2.1 + 500 → WL kt CB SB X 1681 (wlL i x m o) [] T' H') : WL kt CB SB X 1342 (wlL i x m o) [] T H := by
  obtain ⟨⟨hW, g0, gx, gm, go, hK, hr⟩, hXI, hY1, hY2⟩ := hI
  refine wl_of hX hb cL_1342 (rw_aload_n (pc' := 1343) (v := .ref x) rfl rfl rfl ?_)
  refine wl_of hX hb cL_1343 (rw_aload_n (pc' := 1344) (v := .ref 0) rfl rfl rfl ?_)
  refine wl_of hX hb cL_1344 (rw_iload (pc' := 1346) (z := i) rfl rfl ?_)
  refine wl_of hX hb cL_1346 (rw_iconst (pc' := 1347) rfl ?_)
  refine wl_of hX hb cL_1347 (rw_iadd (pc' := 1348) rfl ?_)
  refine wl_of hX hb cL_1348 (xa_I (so := 0) (pc' := 1349) (a := 0) hW g0 (wsh_s _) (by omega) (wty_s _ _) (by omega) (by omega) rfl (fun b3026 b3027 => ?_))
  refine wl_of hX hb cL_1349 (xc_V (pc' := 1352) (r := x) (as := [vI (H 0 ((i + 1).toNat))]) (st := []) (lm_11_179) rfl rfl (Nat.le_of_ble_eq_true rfl) hW gx sh_1 (by decide) rfl (by decide) (s_152 hW gx ⟨by omega, by omega⟩) (fun R3028 T3029 H3030 p3031 => ?_))
  obtain ⟨e3032, w3034, f3035, z3036, e3033, b3037⟩ := p3031
  subst e3032
  subst e3033
  show WL _ _ _ _ 1352 [(4, vI i), (3, .ref o), (2, .ref m), (1, .ref x), (0, .ref 0)] [vI z3036] _ H3030
  refine wl_of hX hb cL_1352 (rw_pop (pc' := 1353) rfl rfl ?_)
  refine wl_of hX hb cL_1353 (rw_aload_n (pc' := 1354) (v := .ref m) rfl rfl rfl ?_)
  refine wl_of hX hb cL_1354 (rw_aload_n (pc' := 1355) (v := .ref 0) rfl rfl rfl ?_)
  refine wl_of hX hb cL_1355 (rw_iload (pc' := 1357) (z := i) rfl rfl ?_)
  refine wl_of hX hb cL_1357 (rw_iconst (pc' := 1358) rfl ?_)
  refine wl_of hX hb cL_1358 (rw_iadd (pc' := 1359) rfl ?_)
  have k3040 : H3030 0 ((i + 1).toNat) = H 0 ((i + 1).toNat) := (f3035 0 ((i + 1).toNat) _ g0 (wmem_s rfl))
  refine wl_of hX hb cL_1359 (xa_I (so := 0) (pc' := 1360) (a := 0) w3034 g0 (wsh_s _) (by omega) (wty_s _ _) (by omega) (by omega) rfl (fun b3038 b3039 => ?_))
  have k3041 : wKI H3030 m = wKI H m := (wKI_fr hW gm f3035 rfl)
  have k3042 : H3030 x 9 = H x 9 := (f3035 x 9 _ gx rfl)
  have k3043 : H3030 m 6 = H m 6 := (f3035 m 6 _ gm rfl)
  have k3044 : H3030 x 11 = H x 11 := (f3035 x 11 _ gx rfl)
  have k3045 : H3030 m 13 = H m 13 := (f3035 m 13 _ gm rfl)
  have k3046 : H3030 x 8 = H x 8 := (f3035 x 8 _ gx rfl)
  have k3047 : H3030 m 3 = H m 3 := (f3035 m 3 _ gm rfl)
  refine wl_of hX hb cL_1360 (xc_V (pc' := 1363) (r := m) (as := [vI (H3030 0 ((i + 1).toNat))]) (st := []) (lm_11_182) rfl rfl (Nat.le_of_ble_eq_true rfl) w3034 gm sh_42 (by decide) rfl (by decide) (s_284 w3034 gm ⟨by omega, by omega⟩ (by omega)) (fun R3048 T3049 H3050 p3051 => ?_))
  obtain ⟨e3052, w3054, f3055, z3057, e3053, b3058, p3056⟩ := p3051
  subst e3052
  subst e3053
  show WL _ _ _ _ 1363 [(4, vI i), (3, .ref o), (2, .ref m), (1, .ref x), (0, .ref 0)] [vI z3057] _ H3050
  refine wl_of hX hb cL_1363 (rw_pop (pc' := 1364) rfl rfl ?_)
  refine wl_of hX hb cL_1364 (rw_goto (p1 := 1681) (by decide) ?_)
  have k3059 : H3050 x 9 = H3030 x 9 := (f3055 x 9 _ gx rfl)
  have k3060 : H3050 m 6 = H3030 m 6 := (f3055 m 6 _ gm rfl)
  have k3061 : H3050 x 11 = H3030 x 11 := (f3055 x 11 _ gx rfl)
  have k3062 : H3050 m 13 = H3030 m 13 := (f3055 m 13 _ gm rfl)
  have k3063 : H3050 x 8 = H3030 x 8 := (f3055 x 8 _ gx rfl)
  have k3064 : H3050 m 3 = H3030 m 3 := (f3055 m 3 _ gm rfl)
  have h3065 : XI T H3050 x m := (XI_fr w3034 gx f3055 rfl (XI_fr hW gx f3035 rfl hXI))
  exact WL.loc hX (by simp) (next T H3050 ⟨⟨w3054, g0, gx, gm, go, by omega, by omega⟩, h3065, by omega, by omega⟩ (by omega) (by omega))
set_option maxHeartbeats 4000000 in
theorem wl_c39 {kt : Nat → Option mc_E} {CB SB : Nat} {X : mc_S → Prop} {T : wq_T} {H : wq_H} {Len x m o : Nat} {i : Int} (hX : wlX kt CB SB X) (hb : T.2.1 ≤ CB ∧ T.2.2.1 ≤ SB) (hI : wlJ Len x m o T H) (hL : Len ≤ 3072) (hi : 0 ≤ i ∧ i + 6 ≤ Len) (hb2 : T.2.1 + 20 ≤ CB ∧ T.2.2.1 + 500 ≤ SB)  (next : ∀ T' H', wlJ Len x m o T' H' → T'.2.1 ≤ T.2.1 + 20 → T'.2.2.1 ≤ T.2.2.1 + 500 → WL kt CB SB X 1681 (wlL i x m o) [] T' H') : WL kt CB SB X 1367 (wlL i x m o) [] T H := by
  obtain ⟨⟨hW, g0, gx, gm, go, hK, hr⟩, hXI, hY1, hY2⟩ := hI
  refine wl_of hX hb cL_1367 (rw_aload_n (pc' := 1368) (v := .ref x) rfl rfl rfl ?_)
  refine wl_of hX hb cL_1368 (rw_aload_n (pc' := 1369) (v := .ref 0) rfl rfl rfl ?_)
  refine wl_of hX hb cL_1369 (rw_iload (pc' := 1371) (z := i) rfl rfl ?_)
  refine wl_of hX hb cL_1371 (rw_iconst (pc' := 1372) rfl ?_)
  refine wl_of hX hb cL_1372 (rw_iadd (pc' := 1373) rfl ?_)
  refine wl_of hX hb cL_1373 (xa_I (so := 0) (pc' := 1374) (a := 0) hW g0 (wsh_s _) (by omega) (wty_s _ _) (by omega) (by omega) rfl (fun b3066 b3067 => ?_))
  refine wl_of hX hb cL_1374 (rw_aload_n (pc' := 1375) (v := .ref 0) rfl rfl rfl ?_)
  refine wl_of hX hb cL_1375 (rw_iload (pc' := 1377) (z := i) rfl rfl ?_)
  refine wl_of hX hb cL_1377 (rw_iconst (pc' := 1378) rfl ?_)
  refine wl_of hX hb cL_1378 (rw_iadd (pc' := 1379) rfl ?_)
  refine wl_of hX hb cL_1379 (xa_I (so := 0) (pc' := 1380) (a := 0) hW g0 (wsh_s _) (by omega) (wty_s _ _) (by omega) (by omega) rfl (fun b3068 b3069 => ?_))
  obtain ⟨B, tc, tm, cu, dr, C8, e8, d8, n8, e0, gtc, htc, em, gtm, htm, ecu, gcu, edr, gdr, hcu, hdr, hdec, hded, hsp, hC1, hC2, hcu8, hrb8, hE, hZ, hn8, -⟩ := hXI
  have hN3 := RB_n3 hrb8
  have hE13 : ∀ h : Nat, h < 24 → 0 ≤ e8 13 h ∧ e8 13 h ≤ 100 := fun k hk => by
    obtain ⟨s, h1, h2, h3⟩ := hcu8.1.2.2.1
    exact ⟨(h3 k hk).1, (h3 k hk).2.1⟩
  have hE0 : e8 0 3 = d8 0 3 ∧ e8 0 0 = d8 0 0 := by
    have h := hE 0 (by decide)
    exact ⟨congrFun h 3, congrFun h 0⟩
  have u3070 := CU_k hcu8
  obtain ⟨t9, ht9⟩ : ∃ t : Int, t = H x 9 := ⟨_, rfl⟩
  obtain ⟨y9, hy9⟩ : ∃ y : Int, y = H 0 ((i + 2).toNat) := ⟨_, rfl⟩
  refine wl_of hX hb cL_1380 (xc_V (pc' := 1383) (r := x) (as := [vI (H 0 ((i + 1).toNat)), vI (H 0 ((i + 2).toNat))]) (st := []) (lm_11_183) rfl rfl (Nat.le_of_ble_eq_true rfl) hW gx sh_1 (by decide) rfl (by decide) (u_153 (e := e8) (d := d8) (n := n8) (y := ((H 0 ((i + 1).toNat)))) (w := (((H 0 ((i + 2).toNat)) + 1))) hW gx ⟨by omega, by omega⟩ ⟨by omega, by omega⟩ ecu gcu (by omega) (by omega) (by omega) (by omega) hcu8) (fun R3071 T3072 H3073 p3074 => ?_))
  obtain ⟨e3075, w3077, f3078, z3079, e3076, b3080, p3081⟩ := p3074
  subst e3075
  subst e3076
  rcases p3081 with ⟨a3082, a3083, a3084⟩ | ⟨a3085, a3086, a3087, a3088⟩
  · show WL _ _ _ _ 1383 [(4, vI i), (3, .ref o), (2, .ref m), (1, .ref x), (0, .ref 0)] [vI z3079] _ H3073
    have u3089 := CU_k a3084
    refine wl_of hX hb cL_1383 (rw_pop (pc' := 1384) rfl rfl ?_)
    refine wl_of hX hb cL_1384 (rw_aload_n (pc' := 1385) (v := .ref m) rfl rfl rfl ?_)
    refine wl_of hX hb cL_1385 (rw_aload_n (pc' := 1386) (v := .ref 0) rfl rfl rfl ?_)
    refine wl_of hX hb cL_1386 (rw_iload (pc' := 1388) (z := i) rfl rfl ?_)
    refine wl_of hX hb cL_1388 (rw_iconst (pc' := 1389) rfl ?_)
    refine wl_of hX hb cL_1389 (rw_iadd (pc' := 1390) rfl ?_)
    have k3092 : H3073 0 ((i + 1).toNat) = H 0 ((i + 1).toNat) := (f3078 0 ((i + 1).toNat) _ g0 (wmem_s rfl))
    refine wl_of hX hb cL_1390 (xa_I (so := 0) (pc' := 1391) (a := 0) w3077 g0 (wsh_s _) (by omega) (wty_s _ _) (by omega) (by omega) rfl (fun b3090 b3091 => ?_))
    refine wl_of hX hb cL_1391 (rw_aload_n (pc' := 1392) (v := .ref 0) rfl rfl rfl ?_)
    refine wl_of hX hb cL_1392 (rw_iload (pc' := 1394) (z := i) rfl rfl ?_)
    refine wl_of hX hb cL_1394 (rw_iconst (pc' := 1395) rfl ?_)
    refine wl_of hX hb cL_1395 (rw_iadd (pc' := 1396) rfl ?_)
    have k3095 : H3073 0 ((i + 2).toNat) = H 0 ((i + 2).toNat) := (f3078 0 ((i + 2).toNat) _ g0 (wmem_s rfl))
    refine wl_of hX hb cL_1396 (xa_I (so := 0) (pc' := 1397) (a := 0) w3077 g0 (wsh_s _) (by omega) (wty_s _ _) (by omega) (by omega) rfl (fun b3093 b3094 => ?_))
    have k3096 : wKI H3073 m = wKI H m := (wKI_fr hW gm f3078 rfl)
    have k3097 : H3073 x 9 = H x 9 := (f3078 x 9 _ gx rfl)
    have k3098 : H3073 m 6 = H m 6 := (f3078 m 6 _ gm rfl)
    have k3099 : H3073 x 11 = H x 11 := (f3078 x 11 _ gx rfl)
    have k3100 : H3073 m 13 = H m 13 := (f3078 m 13 _ gm rfl)
    have k3101 : H3073 x 8 = H x 8 := (f3078 x 8 _ gx rfl)
    have k3102 : H3073 m 3 = H m 3 := (f3078 m 3 _ gm rfl)
    rw [show H3073 0 ((i + 2).toNat) = H 0 ((i + 2).toNat) by omega]
    rw [show H3073 0 ((i + 1).toNat) = H 0 ((i + 1).toNat) by omega]
    have h3103 : RB T H3073 m e8 d8 := (RB_fr hW gm f3078 rfl hrb8)
    refine wl_of hX hb cL_1397 (xc_V (pc' := 1400) (r := m) (as := [vI (H 0 ((i + 1).toNat)), vI (H 0 ((i + 2).toNat))]) (st := []) (lm_11_186) rfl rfl (Nat.le_of_ble_eq_true rfl) w3077 gm sh_42 (by decide) rfl (by decide) (u_285 (e := e8) (d := d8) (y := ((H 0 ((i + 1).toNat)))) (w := (((H 0 ((i + 2).toNat)) + 1))) w3077 gm ⟨by omega, by omega⟩ ⟨by omega, by omega⟩ (by omega) (by omega) (by omega) h3103) (fun R3104 T3105 H3106 p3107 => ?_))
    obtain ⟨e3108, w3110, f3111, z3112, e3109, b3113, p3114⟩ := p3107
    subst e3108
    subst e3109
    rcases p3114 with ⟨a3115, a3116, a3117, a3118⟩ | ⟨a3119, a3120, a3121⟩
    · show WL _ _ _ _ 1400 [(4, vI i), (3, .ref o), (2, .ref m), (1, .ref x), (0, .ref 0)] [vI z3112] _ H3106
      refine wl_of hX hb cL_1400 (rw_pop (pc' := 1401) rfl rfl ?_)
      refine wl_of hX hb cL_1401 (rw_goto (p1 := 1681) (by decide) ?_)
      have k3122 : H3106 x 9 = H3073 x 9 := (f3111 x 9 _ gx rfl)
      have k3123 : H3106 m 6 = H3073 m 6 := (f3111 m 6 _ gm rfl)
      have k3124 : H3106 x 11 = H3073 x 11 := (f3111 x 11 _ gx rfl)
      have k3125 : H3106 m 13 = H3073 m 13 := (f3111 m 13 _ gm rfl)
      have k3126 : H3106 x 8 = H3073 x 8 := (f3111 x 8 _ gx rfl)
      have k3127 : H3106 m 3 = H3073 m 3 := (f3111 m 3 _ gm rfl)
      have k3128 : H3106 x 0 = H x 0 := ((f3111 x 0 _ gx rfl).trans (f3078 x 0 _ gx rfl))
      have q3129 : H3106 x 0 = (tc : Int) := k3128.trans e0
      have k3130 : H3106 m 5 = H m 5 := ((f3111 m 5 _ gm rfl).trans (f3078 m 5 _ gm rfl))
      have q3131 : H3106 m 5 = (tm : Int) := k3130.trans em
      have k3132 : H3106 x 6 = H x 6 := ((f3111 x 6 _ gx rfl).trans (f3078 x 6 _ gx rfl))
      have q3133 : H3106 x 6 = (cu : Int) := k3132.trans ecu
      have k3134 : H3106 x 7 = H x 7 := ((f3111 x 7 _ gx rfl).trans (f3078 x 7 _ gx rfl))
      have q3135 : H3106 x 7 = (dr : Int) := k3134.trans edr
      have h3136 : TP T H3106 tc B := (TP_fr w3077 gtc f3111 rfl (TP_fr hW gtc f3078 rfl htc))
      have h3137 : TM T H3106 tm B := (TM_fr w3077 gtm f3111 rfl (TM_fr hW gtm f3078 rfl htm))
      have h3138 : DD T H3106 cu  := (DD_fr w3077 gcu f3111 rfl (DD_fr hW gcu f3078 rfl hcu))
      have h3139 : DD T H3106 dr  := (DD_fr w3077 gdr f3111 rfl (DD_fr hW gdr f3078 rfl hdr))
      have h3140 : DE T H3106 cu  := (DE_fr w3077 gcu f3111 rfl (DE_fr hW gcu f3078 rfl hdec))
      have h3141 : DE T H3106 dr  := (DE_fr w3077 gdr f3111 rfl (DE_fr hW gdr f3078 rfl hded))
      have h3142 : SP T H3106 x C8 := (SP_fr w3077 gx f3111 rfl (SP_fr hW gx f3078 rfl hsp))
      have h3143 : CU T H3106 cu e8 d8 n8 := (CU_fr w3077 gcu f3111 rfl a3084)
      exact WL.loc hX (by simp) (next T H3106 ⟨⟨w3110, g0, gx, gm, go, by omega, by omega⟩, ⟨_, tc, tm, cu, dr, _, _, _, _, q3129, gtc, h3136, q3131, gtm, h3137, q3133, gcu, q3135, gdr, h3138, h3139, h3140, h3141, h3142, hC1, hC2, h3143, a3118, hE, hZ, (by omega), gm⟩, by omega, by omega⟩ (by omega) (by omega))
    · show WL _ _ _ _ 1400 [(4, vI i), (3, .ref o), (2, .ref m), (1, .ref x), (0, .ref 0)] [vI z3112] _ H3106
      refine wl_of hX hb cL_1400 (rw_pop (pc' := 1401) rfl rfl ?_)
      refine wl_of hX hb cL_1401 (rw_goto (p1 := 1681) (by decide) ?_)
      have k3144 : H3106 x 9 = H3073 x 9 := (f3111 x 9 _ gx rfl)
      have k3145 : H3106 m 6 = H3073 m 6 := (f3111 m 6 _ gm rfl)
      have k3146 : H3106 x 11 = H3073 x 11 := (f3111 x 11 _ gx rfl)
      have k3147 : H3106 m 13 = H3073 m 13 := (f3111 m 13 _ gm rfl)
      have k3148 : H3106 x 8 = H3073 x 8 := (f3111 x 8 _ gx rfl)
      have k3149 : H3106 m 3 = H3073 m 3 := (f3111 m 3 _ gm rfl)
      have k3150 : H3106 x 0 = H x 0 := ((f3111 x 0 _ gx rfl).trans (f3078 x 0 _ gx rfl))
      have q3151 : H3106 x 0 = (tc : Int) := k3150.trans e0
      have k3152 : H3106 m 5 = H m 5 := ((f3111 m 5 _ gm rfl).trans (f3078 m 5 _ gm rfl))
      have q3153 : H3106 m 5 = (tm : Int) := k3152.trans em
      have k3154 : H3106 x 6 = H x 6 := ((f3111 x 6 _ gx rfl).trans (f3078 x 6 _ gx rfl))
      have q3155 : H3106 x 6 = (cu : Int) := k3154.trans ecu
      have k3156 : H3106 x 7 = H x 7 := ((f3111 x 7 _ gx rfl).trans (f3078 x 7 _ gx rfl))
      have q3157 : H3106 x 7 = (dr : Int) := k3156.trans edr
      have h3158 : TP T H3106 tc B := (TP_fr w3077 gtc f3111 rfl (TP_fr hW gtc f3078 rfl htc))
      have h3159 : TM T H3106 tm B := (TM_fr w3077 gtm f3111 rfl (TM_fr hW gtm f3078 rfl htm))
      have h3160 : DD T H3106 cu  := (DD_fr w3077 gcu f3111 rfl (DD_fr hW gcu f3078 rfl hcu))
      have h3161 : DD T H3106 dr  := (DD_fr w3077 gdr f3111 rfl (DD_fr hW gdr f3078 rfl hdr))
      have h3162 : DE T H3106 cu  := (DE_fr w3077 gcu f3111 rfl (DE_fr hW gcu f3078 rfl hdec))
      have h3163 : DE T H3106 dr  := (DE_fr w3077 gdr f3111 rfl (DE_fr hW gdr f3078 rfl hded))
      have h3164 : SP T H3106 x C8 := (SP_fr w3077 gx f3111 rfl (SP_fr hW gx f3078 rfl hsp))
      have h3165 : CU T H3106 cu e8 d8 n8 := (CU_fr w3077 gcu f3111 rfl a3084)
      exfalso
      omega
  · show WL _ _ _ _ 1383 [(4, vI i), (3, .ref o), (2, .ref m), (1, .ref x), (0, .ref 0)] [vI z3079] _ H3073
    have u3166 := CU_k a3088
    refine wl_of hX hb cL_1383 (rw_pop (pc' := 1384) rfl rfl ?_)
    refine wl_of hX hb cL_1384 (rw_aload_n (pc' := 1385) (v := .ref m) rfl rfl rfl ?_)
    refine wl_of hX hb cL_1385 (rw_aload_n (pc' := 1386) (v := .ref 0) rfl rfl rfl ?_)
    refine wl_of hX hb cL_1386 (rw_iload (pc' := 1388) (z := i) rfl rfl ?_)
    refine wl_of hX hb cL_1388 (rw_iconst (pc' := 1389) rfl ?_)
    refine wl_of hX hb cL_1389 (rw_iadd (pc' := 1390) rfl ?_)
    have k3169 : H3073 0 ((i + 1).toNat) = H 0 ((i + 1).toNat) := (f3078 0 ((i + 1).toNat) _ g0 (wmem_s rfl))
    refine wl_of hX hb cL_1390 (xa_I (so := 0) (pc' := 1391) (a := 0) w3077 g0 (wsh_s _) (by omega) (wty_s _ _) (by omega) (by omega) rfl (fun b3167 b3168 => ?_))
    refine wl_of hX hb cL_1391 (rw_aload_n (pc' := 1392) (v := .ref 0) rfl rfl rfl ?_)
    refine wl_of hX hb cL_1392 (rw_iload (pc' := 1394) (z := i) rfl rfl ?_)
    refine wl_of hX hb cL_1394 (rw_iconst (pc' := 1395) rfl ?_)
    refine wl_of hX hb cL_1395 (rw_iadd (pc' := 1396) rfl ?_)
    have k3172 : H3073 0 ((i + 2).toNat) = H 0 ((i + 2).toNat) := (f3078 0 ((i + 2).toNat) _ g0 (wmem_s rfl))
    refine wl_of hX hb cL_1396 (xa_I (so := 0) (pc' := 1397) (a := 0) w3077 g0 (wsh_s _) (by omega) (wty_s _ _) (by omega) (by omega) rfl (fun b3170 b3171 => ?_))
    have k3173 : wKI H3073 m = wKI H m := (wKI_fr hW gm f3078 rfl)
    have k3174 : H3073 x 9 = H x 9 := (f3078 x 9 _ gx rfl)
    have k3175 : H3073 m 6 = H m 6 := (f3078 m 6 _ gm rfl)
    have k3176 : H3073 x 11 = H x 11 := (f3078 x 11 _ gx rfl)
    have k3177 : H3073 m 13 = H m 13 := (f3078 m 13 _ gm rfl)
    have k3178 : H3073 x 8 = H x 8 := (f3078 x 8 _ gx rfl)
    have k3179 : H3073 m 3 = H m 3 := (f3078 m 3 _ gm rfl)
    rw [show H3073 0 ((i + 2).toNat) = H 0 ((i + 2).toNat) by omega]
    rw [show H3073 0 ((i + 1).toNat) = H 0 ((i + 1).toNat) by omega]
    have h3180 : RB T H3073 m e8 d8 := (RB_fr hW gm f3078 rfl hrb8)
    refine wl_of hX hb cL_1397 (xc_V (pc' := 1400) (r := m) (as := [vI (H 0 ((i + 1).toNat)), vI (H 0 ((i + 2).toNat))]) (st := []) (lm_11_186) rfl rfl (Nat.le_of_ble_eq_true rfl) w3077 gm sh_42 (by decide) rfl (by decide) (u_285 (e := e8) (d := d8) (y := ((H 0 ((i + 1).toNat)))) (w := (((H 0 ((i + 2).toNat)) + 1))) w3077 gm ⟨by omega, by omega⟩ ⟨by omega, by omega⟩ (by omega) (by omega) (by omega) h3180) (fun R3181 T3182 H3183 p3184 => ?_))
    obtain ⟨e3185, w3187, f3188, z3189, e3186, b3190, p3191⟩ := p3184
    subst e3185
    subst e3186
    rcases p3191 with ⟨a3192, a3193, a3194, a3195⟩ | ⟨a3196, a3197, a3198⟩
    · show WL _ _ _ _ 1400 [(4, vI i), (3, .ref o), (2, .ref m), (1, .ref x), (0, .ref 0)] [vI z3189] _ H3183
      refine wl_of hX hb cL_1400 (rw_pop (pc' := 1401) rfl rfl ?_)
      refine wl_of hX hb cL_1401 (rw_goto (p1 := 1681) (by decide) ?_)
      have k3199 : H3183 x 9 = H3073 x 9 := (f3188 x 9 _ gx rfl)
      have k3200 : H3183 m 6 = H3073 m 6 := (f3188 m 6 _ gm rfl)
      have k3201 : H3183 x 11 = H3073 x 11 := (f3188 x 11 _ gx rfl)
      have k3202 : H3183 m 13 = H3073 m 13 := (f3188 m 13 _ gm rfl)
      have k3203 : H3183 x 8 = H3073 x 8 := (f3188 x 8 _ gx rfl)
      have k3204 : H3183 m 3 = H3073 m 3 := (f3188 m 3 _ gm rfl)
      have k3205 : H3183 x 0 = H x 0 := ((f3188 x 0 _ gx rfl).trans (f3078 x 0 _ gx rfl))
      have q3206 : H3183 x 0 = (tc : Int) := k3205.trans e0
      have k3207 : H3183 m 5 = H m 5 := ((f3188 m 5 _ gm rfl).trans (f3078 m 5 _ gm rfl))
      have q3208 : H3183 m 5 = (tm : Int) := k3207.trans em
      have k3209 : H3183 x 6 = H x 6 := ((f3188 x 6 _ gx rfl).trans (f3078 x 6 _ gx rfl))
      have q3210 : H3183 x 6 = (cu : Int) := k3209.trans ecu
      have k3211 : H3183 x 7 = H x 7 := ((f3188 x 7 _ gx rfl).trans (f3078 x 7 _ gx rfl))
      have q3212 : H3183 x 7 = (dr : Int) := k3211.trans edr
      have h3213 : TP T H3183 tc B := (TP_fr w3077 gtc f3188 rfl (TP_fr hW gtc f3078 rfl htc))
      have h3214 : TM T H3183 tm B := (TM_fr w3077 gtm f3188 rfl (TM_fr hW gtm f3078 rfl htm))
      have h3215 : DD T H3183 cu  := (DD_fr w3077 gcu f3188 rfl (DD_fr hW gcu f3078 rfl hcu))
      have h3216 : DD T H3183 dr  := (DD_fr w3077 gdr f3188 rfl (DD_fr hW gdr f3078 rfl hdr))
      have h3217 : DE T H3183 cu  := (DE_fr w3077 gcu f3188 rfl (DE_fr hW gcu f3078 rfl hdec))
      have h3218 : DE T H3183 dr  := (DE_fr w3077 gdr f3188 rfl (DE_fr hW gdr f3078 rfl hded))
      have h3219 : SP T H3183 x C8 := (SP_fr w3077 gx f3188 rfl (SP_fr hW gx f3078 rfl hsp))
      have h3220 : CU T H3183 cu (wq_u e8 13 (((H 0 ((i + 1).toNat)))).toNat (((H 0 ((i + 2).toNat)) + 1))) d8 n8 := (CU_fr w3077 gcu f3188 rfl a3088)
      exfalso
      omega
    · show WL _ _ _ _ 1400 [(4, vI i), (3, .ref o), (2, .ref m), (1, .ref x), (0, .ref 0)] [vI z3189] _ H3183
      refine wl_of hX hb cL_1400 (rw_pop (pc' := 1401) rfl rfl ?_)
      refine wl_of hX hb cL_1401 (rw_goto (p1 := 1681) (by decide) ?_)
      have k3221 : H3183 x 9 = H3073 x 9 := (f3188 x 9 _ gx rfl)
      have k3222 : H3183 m 6 = H3073 m 6 := (f3188 m 6 _ gm rfl)
      have k3223 : H3183 x 11 = H3073 x 11 := (f3188 x 11 _ gx rfl)
      have k3224 : H3183 m 13 = H3073 m 13 := (f3188 m 13 _ gm rfl)
      have k3225 : H3183 x 8 = H3073 x 8 := (f3188 x 8 _ gx rfl)
      have k3226 : H3183 m 3 = H3073 m 3 := (f3188 m 3 _ gm rfl)
      have k3227 : H3183 x 0 = H x 0 := ((f3188 x 0 _ gx rfl).trans (f3078 x 0 _ gx rfl))
      have q3228 : H3183 x 0 = (tc : Int) := k3227.trans e0
      have k3229 : H3183 m 5 = H m 5 := ((f3188 m 5 _ gm rfl).trans (f3078 m 5 _ gm rfl))
      have q3230 : H3183 m 5 = (tm : Int) := k3229.trans em
      have k3231 : H3183 x 6 = H x 6 := ((f3188 x 6 _ gx rfl).trans (f3078 x 6 _ gx rfl))
      have q3232 : H3183 x 6 = (cu : Int) := k3231.trans ecu
      have k3233 : H3183 x 7 = H x 7 := ((f3188 x 7 _ gx rfl).trans (f3078 x 7 _ gx rfl))
      have q3234 : H3183 x 7 = (dr : Int) := k3233.trans edr
      have h3235 : TP T H3183 tc B := (TP_fr w3077 gtc f3188 rfl (TP_fr hW gtc f3078 rfl htc))
      have h3236 : TM T H3183 tm B := (TM_fr w3077 gtm f3188 rfl (TM_fr hW gtm f3078 rfl htm))
      have h3237 : DD T H3183 cu  := (DD_fr w3077 gcu f3188 rfl (DD_fr hW gcu f3078 rfl hcu))
      have h3238 : DD T H3183 dr  := (DD_fr w3077 gdr f3188 rfl (DD_fr hW gdr f3078 rfl hdr))
      have h3239 : DE T H3183 cu  := (DE_fr w3077 gcu f3188 rfl (DE_fr hW gcu f3078 rfl hdec))
      have h3240 : DE T H3183 dr  := (DE_fr w3077 gdr f3188 rfl (DE_fr hW gdr f3078 rfl hded))
      have h3241 : SP T H3183 x C8 := (SP_fr w3077 gx f3188 rfl (SP_fr hW gx f3078 rfl hsp))
      have h3242 : CU T H3183 cu (wq_u e8 13 (((H 0 ((i + 1).toNat)))).toNat (((H 0 ((i + 2).toNat)) + 1))) d8 n8 := (CU_fr w3077 gcu f3188 rfl a3088)
      exact WL.loc hX (by simp) (next T H3183 ⟨⟨w3187, g0, gx, gm, go, by omega, by omega⟩, ⟨_, tc, tm, cu, dr, _, _, _, _, q3228, gtc, h3235, q3230, gtm, h3236, q3232, gcu, q3234, gdr, h3237, h3238, h3239, h3240, h3241, hC1, hC2, h3242, a3198, (fun i hi => (wq_u_row hi).trans (hE i hi)), (fun h h1 h2 => by rw [wq_u_e2 (fun c => by omega)]; exact hZ h h1 h2), (by omega), gm⟩, by omega, by omega⟩ (by omega) (by omega))
set_option maxHeartbeats 4000000 in
theorem wl_c40 {kt : Nat → Option mc_E} {CB SB : Nat} {X : mc_S → Prop} {T : wq_T} {H : wq_H} {Len x m o : Nat} {i : Int} (hX : wlX kt CB SB X) (hb : T.2.1 ≤ CB ∧ T.2.2.1 ≤ SB) (hI : wlJ Len x m o T H) (hL : Len ≤ 3072) (hi : 0 ≤ i ∧ i + 6 ≤ Len) (hb2 : T.2.1 + 20 ≤ CB ∧ T.2.2.1 + 500 ≤ SB)  (next : ∀ T' H', wlJ Len x m o T' H' → T'.2.1 ≤ T.2.1 + 20 → T'.2.2.1 ≤ T.2.2.1 + 500 → WL kt CB SB X 1681 (wlL i x m o) [] T' H') : WL kt CB SB X 1404 (wlL i x m o) [] T H := by
  obtain ⟨⟨hW, g0, gx, gm, go, hK, hr⟩, hXI, hY1, hY2⟩ := hI
  refine wl_of hX hb cL_1404 (rw_aload_n (pc' := 1405) (v := .ref x) rfl rfl rfl ?_)
  refine wl_of hX hb cL_1405 (rw_aload_n (pc' := 1406) (v := .ref 0) rfl rfl rfl ?_)
  refine wl_of hX hb cL_1406 (rw_iload (pc' := 1408) (z := i) rfl rfl ?_)
  refine wl_of hX hb cL_1408 (rw_iconst (pc' := 1409) rfl ?_)
  refine wl_of hX hb cL_1409 (rw_iadd (pc' := 1410) rfl ?_)
  refine wl_of hX hb cL_1410 (xa_I (so := 0) (pc' := 1411) (a := 0) hW g0 (wsh_s _) (by omega) (wty_s _ _) (by omega) (by omega) rfl (fun b3243 b3244 => ?_))
  obtain ⟨B, tc, tm, cu, dr, C8, e8, d8, n8, e0, gtc, htc, em, gtm, htm, ecu, gcu, edr, gdr, hcu, hdr, hdec, hded, hsp, hC1, hC2, hcu8, hrb8, hE, hZ, hn8, -⟩ := hXI
  have hN3 := RB_n3 hrb8
  have hE13 : ∀ h : Nat, h < 24 → 0 ≤ e8 13 h ∧ e8 13 h ≤ 100 := fun k hk => by
    obtain ⟨s, h1, h2, h3⟩ := hcu8.1.2.2.1
    exact ⟨(h3 k hk).1, (h3 k hk).2.1⟩
  have hE0 : e8 0 3 = d8 0 3 ∧ e8 0 0 = d8 0 0 := by
    have h := hE 0 (by decide)
    exact ⟨congrFun h 3, congrFun h 0⟩
  have u3245 := CU_k hcu8
  obtain ⟨t9, ht9⟩ : ∃ t : Int, t = H x 9 := ⟨_, rfl⟩
  obtain ⟨y9, hy9⟩ : ∃ y : Int, y = H 0 ((i + 1).toNat) := ⟨_, rfl⟩
  refine wl_of hX hb cL_1411 (xc_V (pc' := 1414) (r := x) (as := [vI (H 0 ((i + 1).toNat))]) (st := []) (lm_11_187) rfl rfl (Nat.le_of_ble_eq_true rfl) hW gx sh_1 (by decide) rfl (by decide) (u_154 (e := e8) (d := d8) (n := n8) (y := ((H 0 ((i + 1).toNat)))) hW gx ⟨by omega, by omega⟩ ecu gcu (by omega) (by omega) (by omega) hcu8) (fun R3246 T3247 H3248 p3249 => ?_))
  obtain ⟨e3250, w3252, f3253, z3254, e3251, b3255, p3256⟩ := p3249
  subst e3250
  subst e3251
  rcases p3256 with ⟨a3257, a3258, a3259, a3260⟩ | ⟨a3261, a3262, a3263⟩
  · show WL _ _ _ _ 1414 [(4, vI i), (3, .ref o), (2, .ref m), (1, .ref x), (0, .ref 0)] [vI z3254] _ H3248
    have u3264 := CU_k a3260
    refine wl_of hX hb cL_1414 (rw_pop (pc' := 1415) rfl rfl ?_)
    refine wl_of hX hb cL_1415 (rw_aload_n (pc' := 1416) (v := .ref m) rfl rfl rfl ?_)
    refine wl_of hX hb cL_1416 (rw_aload_n (pc' := 1417) (v := .ref 0) rfl rfl rfl ?_)
    refine wl_of hX hb cL_1417 (rw_iload (pc' := 1419) (z := i) rfl rfl ?_)
    refine wl_of hX hb cL_1419 (rw_iconst (pc' := 1420) rfl ?_)
    refine wl_of hX hb cL_1420 (rw_iadd (pc' := 1421) rfl ?_)
    have k3267 : H3248 0 ((i + 1).toNat) = H 0 ((i + 1).toNat) := (f3253 0 ((i + 1).toNat) _ g0 (wmem_s rfl))
    refine wl_of hX hb cL_1421 (xa_I (so := 0) (pc' := 1422) (a := 0) w3252 g0 (wsh_s _) (by omega) (wty_s _ _) (by omega) (by omega) rfl (fun b3265 b3266 => ?_))
    have k3268 : wKI H3248 m = wKI H m := (wKI_fr hW gm f3253 rfl)
    have k3269 : H3248 x 9 = H x 9 := (f3253 x 9 _ gx rfl)
    have k3270 : H3248 m 6 = H m 6 := (f3253 m 6 _ gm rfl)
    have k3271 : H3248 x 11 = H x 11 := (f3253 x 11 _ gx rfl)
    have k3272 : H3248 m 13 = H m 13 := (f3253 m 13 _ gm rfl)
    have k3273 : H3248 x 8 = H x 8 := (f3253 x 8 _ gx rfl)
    have k3274 : H3248 m 3 = H m 3 := (f3253 m 3 _ gm rfl)
    rw [show H3248 0 ((i + 1).toNat) = H 0 ((i + 1).toNat) by omega]
    have h3275 : RB T H3248 m e8 d8 := (RB_fr hW gm f3253 rfl hrb8)
    refine wl_of hX hb cL_1422 (xc_V (pc' := 1425) (r := m) (as := [vI (H 0 ((i + 1).toNat))]) (st := []) (lm_11_191) rfl rfl (Nat.le_of_ble_eq_true rfl) w3252 gm sh_42 (by decide) rfl (by decide) (u_286 (e := e8) (d := d8) (y := ((H 0 ((i + 1).toNat)))) w3252 gm ⟨by omega, by omega⟩ (by omega) (by omega) h3275) (fun R3276 T3277 H3278 p3279 => ?_))
    obtain ⟨e3280, w3282, f3283, z3284, e3281, b3285, p3286⟩ := p3279
    subst e3280
    subst e3281
    rcases p3286 with ⟨a3287, a3288, a3289, a3290, a3291⟩ | ⟨a3292, a3293, a3294, a3295⟩
    · show WL _ _ _ _ 1425 [(4, vI i), (3, .ref o), (2, .ref m), (1, .ref x), (0, .ref 0)] [vI z3284] _ H3278
      refine wl_of hX hb cL_1425 (rw_pop (pc' := 1426) rfl rfl ?_)
      refine wl_of hX hb cL_1426 (rw_goto (p1 := 1681) (by decide) ?_)
      have k3296 : H3278 x 9 = H3248 x 9 := (f3283 x 9 _ gx rfl)
      have k3297 : H3278 m 6 = H3248 m 6 := (f3283 m 6 _ gm rfl)
      have k3298 : H3278 x 11 = H3248 x 11 := (f3283 x 11 _ gx rfl)
      have k3299 : H3278 m 13 = H3248 m 13 := (f3283 m 13 _ gm rfl)
      have k3300 : H3278 x 8 = H3248 x 8 := (f3283 x 8 _ gx rfl)
      have k3301 : H3278 m 3 = H3248 m 3 := (f3283 m 3 _ gm rfl)
      have k3302 : H3278 x 0 = H x 0 := ((f3283 x 0 _ gx rfl).trans (f3253 x 0 _ gx rfl))
      have q3303 : H3278 x 0 = (tc : Int) := k3302.trans e0
      have k3304 : H3278 m 5 = H m 5 := ((f3283 m 5 _ gm rfl).trans (f3253 m 5 _ gm rfl))
      have q3305 : H3278 m 5 = (tm : Int) := k3304.trans em
      have k3306 : H3278 x 6 = H x 6 := ((f3283 x 6 _ gx rfl).trans (f3253 x 6 _ gx rfl))
      have q3307 : H3278 x 6 = (cu : Int) := k3306.trans ecu
      have k3308 : H3278 x 7 = H x 7 := ((f3283 x 7 _ gx rfl).trans (f3253 x 7 _ gx rfl))
      have q3309 : H3278 x 7 = (dr : Int) := k3308.trans edr
      have h3310 : TP T H3278 tc B := (TP_fr w3252 gtc f3283 rfl (TP_fr hW gtc f3253 rfl htc))
      have h3311 : TM T H3278 tm B := (TM_fr w3252 gtm f3283 rfl (TM_fr hW gtm f3253 rfl htm))
      have h3312 : DD T H3278 cu  := (DD_fr w3252 gcu f3283 rfl (DD_fr hW gcu f3253 rfl hcu))
      have h3313 : DD T H3278 dr  := (DD_fr w3252 gdr f3283 rfl (DD_fr hW gdr f3253 rfl hdr))
      have h3314 : DE T H3278 cu  := (DE_fr w3252 gcu f3283 rfl (DE_fr hW gcu f3253 rfl hdec))
      have h3315 : DE T H3278 dr  := (DE_fr w3252 gdr f3283 rfl (DE_fr hW gdr f3253 rfl hded))
      have h3316 : SP T H3278 x C8 := (SP_fr w3252 gx f3283 rfl (SP_fr hW gx f3253 rfl hsp))
      have h3317 : CU T H3278 cu (wq_u e8 13 (((H 0 ((i + 1).toNat)))).toNat 0) d8 n8 := (CU_fr w3252 gcu f3283 rfl a3260)
      exact WL.loc hX (by simp) (next T H3278 ⟨⟨w3282, g0, gx, gm, go, by omega, by omega⟩, ⟨_, tc, tm, cu, dr, _, _, _, _, q3303, gtc, h3310, q3305, gtm, h3311, q3307, gcu, q3309, gdr, h3312, h3313, h3314, h3315, h3316, hC1, hC2, h3317, a3291, (fun i hi => (wq_u_row hi).trans (hE i hi)), (fun h h1 h2 => by rw [wq_u_e2 (fun c => by omega)]; exact hZ h h1 h2), (by omega), gm⟩, by omega, by omega⟩ (by omega) (by omega))
    · show WL _ _ _ _ 1425 [(4, vI i), (3, .ref o), (2, .ref m), (1, .ref x), (0, .ref 0)] [vI z3284] _ H3278
      refine wl_of hX hb cL_1425 (rw_pop (pc' := 1426) rfl rfl ?_)
      refine wl_of hX hb cL_1426 (rw_goto (p1 := 1681) (by decide) ?_)
      have k3318 : H3278 x 9 = H3248 x 9 := (f3283 x 9 _ gx rfl)
      have k3319 : H3278 m 6 = H3248 m 6 := (f3283 m 6 _ gm rfl)
      have k3320 : H3278 x 11 = H3248 x 11 := (f3283 x 11 _ gx rfl)
      have k3321 : H3278 m 13 = H3248 m 13 := (f3283 m 13 _ gm rfl)
      have k3322 : H3278 x 8 = H3248 x 8 := (f3283 x 8 _ gx rfl)
      have k3323 : H3278 m 3 = H3248 m 3 := (f3283 m 3 _ gm rfl)
      have k3324 : H3278 x 0 = H x 0 := ((f3283 x 0 _ gx rfl).trans (f3253 x 0 _ gx rfl))
      have q3325 : H3278 x 0 = (tc : Int) := k3324.trans e0
      have k3326 : H3278 m 5 = H m 5 := ((f3283 m 5 _ gm rfl).trans (f3253 m 5 _ gm rfl))
      have q3327 : H3278 m 5 = (tm : Int) := k3326.trans em
      have k3328 : H3278 x 6 = H x 6 := ((f3283 x 6 _ gx rfl).trans (f3253 x 6 _ gx rfl))
      have q3329 : H3278 x 6 = (cu : Int) := k3328.trans ecu
      have k3330 : H3278 x 7 = H x 7 := ((f3283 x 7 _ gx rfl).trans (f3253 x 7 _ gx rfl))
      have q3331 : H3278 x 7 = (dr : Int) := k3330.trans edr
      have h3332 : TP T H3278 tc B := (TP_fr w3252 gtc f3283 rfl (TP_fr hW gtc f3253 rfl htc))
      have h3333 : TM T H3278 tm B := (TM_fr w3252 gtm f3283 rfl (TM_fr hW gtm f3253 rfl htm))
      have h3334 : DD T H3278 cu  := (DD_fr w3252 gcu f3283 rfl (DD_fr hW gcu f3253 rfl hcu))
      have h3335 : DD T H3278 dr  := (DD_fr w3252 gdr f3283 rfl (DD_fr hW gdr f3253 rfl hdr))
      have h3336 : DE T H3278 cu  := (DE_fr w3252 gcu f3283 rfl (DE_fr hW gcu f3253 rfl hdec))
      have h3337 : DE T H3278 dr  := (DE_fr w3252 gdr f3283 rfl (DE_fr hW gdr f3253 rfl hded))
      have h3338 : SP T H3278 x C8 := (SP_fr w3252 gx f3283 rfl (SP_fr hW gx f3253 rfl hsp))
      have h3339 : CU T H3278 cu (wq_u e8 13 (((H 0 ((i + 1).toNat)))).toNat 0) d8 n8 := (CU_fr w3252 gcu f3283 rfl a3260)
      exfalso
      omega
  · show WL _ _ _ _ 1414 [(4, vI i), (3, .ref o), (2, .ref m), (1, .ref x), (0, .ref 0)] [vI z3254] _ H3248
    have u3340 := CU_k a3263
    refine wl_of hX hb cL_1414 (rw_pop (pc' := 1415) rfl rfl ?_)
    refine wl_of hX hb cL_1415 (rw_aload_n (pc' := 1416) (v := .ref m) rfl rfl rfl ?_)
    refine wl_of hX hb cL_1416 (rw_aload_n (pc' := 1417) (v := .ref 0) rfl rfl rfl ?_)
    refine wl_of hX hb cL_1417 (rw_iload (pc' := 1419) (z := i) rfl rfl ?_)
    refine wl_of hX hb cL_1419 (rw_iconst (pc' := 1420) rfl ?_)
    refine wl_of hX hb cL_1420 (rw_iadd (pc' := 1421) rfl ?_)
    have k3343 : H3248 0 ((i + 1).toNat) = H 0 ((i + 1).toNat) := (f3253 0 ((i + 1).toNat) _ g0 (wmem_s rfl))
    refine wl_of hX hb cL_1421 (xa_I (so := 0) (pc' := 1422) (a := 0) w3252 g0 (wsh_s _) (by omega) (wty_s _ _) (by omega) (by omega) rfl (fun b3341 b3342 => ?_))
    have k3344 : wKI H3248 m = wKI H m := (wKI_fr hW gm f3253 rfl)
    have k3345 : H3248 x 9 = H x 9 := (f3253 x 9 _ gx rfl)
    have k3346 : H3248 m 6 = H m 6 := (f3253 m 6 _ gm rfl)
    have k3347 : H3248 x 11 = H x 11 := (f3253 x 11 _ gx rfl)
    have k3348 : H3248 m 13 = H m 13 := (f3253 m 13 _ gm rfl)
    have k3349 : H3248 x 8 = H x 8 := (f3253 x 8 _ gx rfl)
    have k3350 : H3248 m 3 = H m 3 := (f3253 m 3 _ gm rfl)
    rw [show H3248 0 ((i + 1).toNat) = H 0 ((i + 1).toNat) by omega]
    have h3351 : RB T H3248 m e8 d8 := (RB_fr hW gm f3253 rfl hrb8)
    refine wl_of hX hb cL_1422 (xc_V (pc' := 1425) (r := m) (as := [vI (H 0 ((i + 1).toNat))]) (st := []) (lm_11_191) rfl rfl (Nat.le_of_ble_eq_true rfl) w3252 gm sh_42 (by decide) rfl (by decide) (u_286 (e := e8) (d := d8) (y := ((H 0 ((i + 1).toNat)))) w3252 gm ⟨by omega, by omega⟩ (by omega) (by omega) h3351) (fun R3352 T3353 H3354 p3355 => ?_))
    obtain ⟨e3356, w3358, f3359, z3360, e3357, b3361, p3362⟩ := p3355
    subst e3356
    subst e3357
    rcases p3362 with ⟨a3363, a3364, a3365, a3366, a3367⟩ | ⟨a3368, a3369, a3370, a3371⟩
    · show WL _ _ _ _ 1425 [(4, vI i), (3, .ref o), (2, .ref m), (1, .ref x), (0, .ref 0)] [vI z3360] _ H3354
      refine wl_of hX hb cL_1425 (rw_pop (pc' := 1426) rfl rfl ?_)
      refine wl_of hX hb cL_1426 (rw_goto (p1 := 1681) (by decide) ?_)
      have k3372 : H3354 x 9 = H3248 x 9 := (f3359 x 9 _ gx rfl)
      have k3373 : H3354 m 6 = H3248 m 6 := (f3359 m 6 _ gm rfl)
      have k3374 : H3354 x 11 = H3248 x 11 := (f3359 x 11 _ gx rfl)
      have k3375 : H3354 m 13 = H3248 m 13 := (f3359 m 13 _ gm rfl)
      have k3376 : H3354 x 8 = H3248 x 8 := (f3359 x 8 _ gx rfl)
      have k3377 : H3354 m 3 = H3248 m 3 := (f3359 m 3 _ gm rfl)
      have k3378 : H3354 x 0 = H x 0 := ((f3359 x 0 _ gx rfl).trans (f3253 x 0 _ gx rfl))
      have q3379 : H3354 x 0 = (tc : Int) := k3378.trans e0
      have k3380 : H3354 m 5 = H m 5 := ((f3359 m 5 _ gm rfl).trans (f3253 m 5 _ gm rfl))
      have q3381 : H3354 m 5 = (tm : Int) := k3380.trans em
      have k3382 : H3354 x 6 = H x 6 := ((f3359 x 6 _ gx rfl).trans (f3253 x 6 _ gx rfl))
      have q3383 : H3354 x 6 = (cu : Int) := k3382.trans ecu
      have k3384 : H3354 x 7 = H x 7 := ((f3359 x 7 _ gx rfl).trans (f3253 x 7 _ gx rfl))
      have q3385 : H3354 x 7 = (dr : Int) := k3384.trans edr
      have h3386 : TP T H3354 tc B := (TP_fr w3252 gtc f3359 rfl (TP_fr hW gtc f3253 rfl htc))
      have h3387 : TM T H3354 tm B := (TM_fr w3252 gtm f3359 rfl (TM_fr hW gtm f3253 rfl htm))
      have h3388 : DD T H3354 cu  := (DD_fr w3252 gcu f3359 rfl (DD_fr hW gcu f3253 rfl hcu))
      have h3389 : DD T H3354 dr  := (DD_fr w3252 gdr f3359 rfl (DD_fr hW gdr f3253 rfl hdr))
      have h3390 : DE T H3354 cu  := (DE_fr w3252 gcu f3359 rfl (DE_fr hW gcu f3253 rfl hdec))
      have h3391 : DE T H3354 dr  := (DE_fr w3252 gdr f3359 rfl (DE_fr hW gdr f3253 rfl hded))
      have h3392 : SP T H3354 x C8 := (SP_fr w3252 gx f3359 rfl (SP_fr hW gx f3253 rfl hsp))
      have h3393 : CU T H3354 cu e8 d8 n8 := (CU_fr w3252 gcu f3359 rfl a3263)
      exfalso
      omega
    · show WL _ _ _ _ 1425 [(4, vI i), (3, .ref o), (2, .ref m), (1, .ref x), (0, .ref 0)] [vI z3360] _ H3354
      refine wl_of hX hb cL_1425 (rw_pop (pc' := 1426) rfl rfl ?_)
      refine wl_of hX hb cL_1426 (rw_goto (p1 := 1681) (by decide) ?_)
      have k3394 : H3354 x 9 = H3248 x 9 := (f3359 x 9 _ gx rfl)
      have k3395 : H3354 m 6 = H3248 m 6 := (f3359 m 6 _ gm rfl)
      have k3396 : H3354 x 11 = H3248 x 11 := (f3359 x 11 _ gx rfl)
      have k3397 : H3354 m 13 = H3248 m 13 := (f3359 m 13 _ gm rfl)
      have k3398 : H3354 x 8 = H3248 x 8 := (f3359 x 8 _ gx rfl)
      have k3399 : H3354 m 3 = H3248 m 3 := (f3359 m 3 _ gm rfl)
      have k3400 : H3354 x 0 = H x 0 := ((f3359 x 0 _ gx rfl).trans (f3253 x 0 _ gx rfl))
      have q3401 : H3354 x 0 = (tc : Int) := k3400.trans e0
      have k3402 : H3354 m 5 = H m 5 := ((f3359 m 5 _ gm rfl).trans (f3253 m 5 _ gm rfl))
      have q3403 : H3354 m 5 = (tm : Int) := k3402.trans em
      have k3404 : H3354 x 6 = H x 6 := ((f3359 x 6 _ gx rfl).trans (f3253 x 6 _ gx rfl))
      have q3405 : H3354 x 6 = (cu : Int) := k3404.trans ecu
      have k3406 : H3354 x 7 = H x 7 := ((f3359 x 7 _ gx rfl).trans (f3253 x 7 _ gx rfl))
      have q3407 : H3354 x 7 = (dr : Int) := k3406.trans edr
      have h3408 : TP T H3354 tc B := (TP_fr w3252 gtc f3359 rfl (TP_fr hW gtc f3253 rfl htc))
      have h3409 : TM T H3354 tm B := (TM_fr w3252 gtm f3359 rfl (TM_fr hW gtm f3253 rfl htm))
      have h3410 : DD T H3354 cu  := (DD_fr w3252 gcu f3359 rfl (DD_fr hW gcu f3253 rfl hcu))
      have h3411 : DD T H3354 dr  := (DD_fr w3252 gdr f3359 rfl (DD_fr hW gdr f3253 rfl hdr))
      have h3412 : DE T H3354 cu  := (DE_fr w3252 gcu f3359 rfl (DE_fr hW gcu f3253 rfl hdec))
      have h3413 : DE T H3354 dr  := (DE_fr w3252 gdr f3359 rfl (DE_fr hW gdr f3253 rfl hded))
      have h3414 : SP T H3354 x C8 := (SP_fr w3252 gx f3359 rfl (SP_fr hW gx f3253 rfl hsp))
      have h3415 : CU T H3354 cu e8 d8 n8 := (CU_fr w3252 gcu f3359 rfl a3263)
      exact WL.loc hX (by simp) (next T H3354 ⟨⟨w3358, g0, gx, gm, go, by omega, by omega⟩, ⟨_, tc, tm, cu, dr, _, _, _, _, q3401, gtc, h3408, q3403, gtm, h3409, q3405, gcu, q3407, gdr, h3410, h3411, h3412, h3413, h3414, hC1, hC2, h3415, a3371, hE, hZ, (by omega), gm⟩, by omega, by omega⟩ (by omega) (by omega))
set_option maxHeartbeats 4000000 in
theorem wl_c41 {kt : Nat → Option mc_E} {CB SB : Nat} {X : mc_S → Prop} {T : wq_T} {H : wq_H} {Len x m o : Nat} {i : Int} (hX : wlX kt CB SB X) (hb : T.2.1 ≤ CB ∧ T.2.2.1 ≤ SB) (hI : wlJ Len x m o T H) (hL : Len ≤ 3072) (hi : 0 ≤ i ∧ i + 6 ≤ Len) (hb2 : T.2.1 + 20 ≤ CB ∧ T.2.2.1 + 500 ≤ SB)  (next : ∀ T' H', wlJ Len x m o T' H' → T'.2.1 ≤ T.2.1 + 20 → T'.2.2.1 ≤ T.2.2.1 + 500 → WL kt CB SB X 1681 (wlL i x m o) [] T' H') : WL kt CB SB X 1429 (wlL i x m o) [] T H := by
  obtain ⟨⟨hW, g0, gx, gm, go, hK, hr⟩, hXI, hY1, hY2⟩ := hI
  refine wl_of hX hb cL_1429 (rw_aload_n (pc' := 1430) (v := .ref x) rfl rfl rfl ?_)
  refine wl_of hX hb cL_1430 (rw_aload_n (pc' := 1431) (v := .ref 0) rfl rfl rfl ?_)
  refine wl_of hX hb cL_1431 (rw_iload (pc' := 1433) (z := i) rfl rfl ?_)
  refine wl_of hX hb cL_1433 (rw_iconst (pc' := 1434) rfl ?_)
  refine wl_of hX hb cL_1434 (rw_iadd (pc' := 1435) rfl ?_)
  refine wl_of hX hb cL_1435 (xa_I (so := 0) (pc' := 1436) (a := 0) hW g0 (wsh_s _) (by omega) (wty_s _ _) (by omega) (by omega) rfl (fun b3416 b3417 => ?_))
  refine wl_of hX hb cL_1436 (xc_V (pc' := 1439) (r := x) (as := [vI (H 0 ((i + 1).toNat))]) (st := []) (lm_11_192) rfl rfl (Nat.le_of_ble_eq_true rfl) hW gx sh_1 (by decide) rfl (by decide) (s_155 hW gx ⟨by omega, by omega⟩) (fun R3418 T3419 H3420 p3421 => ?_))
  obtain ⟨e3422, w3424, f3425, z3426, e3423, b3427⟩ := p3421
  subst e3422
  subst e3423
  show WL _ _ _ _ 1439 [(4, vI i), (3, .ref o), (2, .ref m), (1, .ref x), (0, .ref 0)] [vI z3426] _ H3420
  refine wl_of hX hb cL_1439 (rw_pop (pc' := 1440) rfl rfl ?_)
  refine wl_of hX hb cL_1440 (rw_aload_n (pc' := 1441) (v := .ref m) rfl rfl rfl ?_)
  refine wl_of hX hb cL_1441 (rw_aload_n (pc' := 1442) (v := .ref 0) rfl rfl rfl ?_)
  refine wl_of hX hb cL_1442 (rw_iload (pc' := 1444) (z := i) rfl rfl ?_)
  refine wl_of hX hb cL_1444 (rw_iconst (pc' := 1445) rfl ?_)
  refine wl_of hX hb cL_1445 (rw_iadd (pc' := 1446) rfl ?_)
  have k3430 : H3420 0 ((i + 1).toNat) = H 0 ((i + 1).toNat) := (f3425 0 ((i + 1).toNat) _ g0 (wmem_s rfl))
  refine wl_of hX hb cL_1446 (xa_I (so := 0) (pc' := 1447) (a := 0) w3424 g0 (wsh_s _) (by omega) (wty_s _ _) (by omega) (by omega) rfl (fun b3428 b3429 => ?_))
  have k3431 : wKI H3420 m = wKI H m := (wKI_fr hW gm f3425 rfl)
  have k3432 : H3420 x 9 = H x 9 := (f3425 x 9 _ gx rfl)
  have k3433 : H3420 m 6 = H m 6 := (f3425 m 6 _ gm rfl)
  have k3434 : H3420 x 11 = H x 11 := (f3425 x 11 _ gx rfl)
  have k3435 : H3420 m 13 = H m 13 := (f3425 m 13 _ gm rfl)
  have k3436 : H3420 x 8 = H x 8 := (f3425 x 8 _ gx rfl)
  have k3437 : H3420 m 3 = H m 3 := (f3425 m 3 _ gm rfl)
  refine wl_of hX hb cL_1447 (xc_V (pc' := 1450) (r := m) (as := [vI (H3420 0 ((i + 1).toNat))]) (st := []) (lm_11_195) rfl rfl (Nat.le_of_ble_eq_true rfl) w3424 gm sh_42 (by decide) rfl (by decide) (s_287 w3424 gm ⟨by omega, by omega⟩ (by omega)) (fun R3438 T3439 H3440 p3441 => ?_))
  obtain ⟨e3442, w3444, f3445, z3447, e3443, b3448, p3446⟩ := p3441
  subst e3442
  subst e3443
  show WL _ _ _ _ 1450 [(4, vI i), (3, .ref o), (2, .ref m), (1, .ref x), (0, .ref 0)] [vI z3447] _ H3440
  refine wl_of hX hb cL_1450 (rw_pop (pc' := 1451) rfl rfl ?_)
  refine wl_of hX hb cL_1451 (rw_goto (p1 := 1681) (by decide) ?_)
  have k3449 : H3440 x 9 = H3420 x 9 := (f3445 x 9 _ gx rfl)
  have k3450 : H3440 m 6 = H3420 m 6 := (f3445 m 6 _ gm rfl)
  have k3451 : H3440 x 11 = H3420 x 11 := (f3445 x 11 _ gx rfl)
  have k3452 : H3440 m 13 = H3420 m 13 := (f3445 m 13 _ gm rfl)
  have k3453 : H3440 x 8 = H3420 x 8 := (f3445 x 8 _ gx rfl)
  have k3454 : H3440 m 3 = H3420 m 3 := (f3445 m 3 _ gm rfl)
  have h3455 : XI T H3440 x m := (XI_fr w3424 gx f3445 rfl (XI_fr hW gx f3425 rfl hXI))
  exact WL.loc hX (by simp) (next T H3440 ⟨⟨w3444, g0, gx, gm, go, by omega, by omega⟩, h3455, by omega, by omega⟩ (by omega) (by omega))
set_option maxHeartbeats 4000000 in
theorem wl_c42 {kt : Nat → Option mc_E} {CB SB : Nat} {X : mc_S → Prop} {T : wq_T} {H : wq_H} {Len x m o : Nat} {i : Int} (hX : wlX kt CB SB X) (hb : T.2.1 ≤ CB ∧ T.2.2.1 ≤ SB) (hI : wlJ Len x m o T H) (hL : Len ≤ 3072) (hi : 0 ≤ i ∧ i + 6 ≤ Len) (hb2 : T.2.1 + 20 ≤ CB ∧ T.2.2.1 + 500 ≤ SB)  (next : ∀ T' H', wlJ Len x m o T' H' → T'.2.1 ≤ T.2.1 + 20 → T'.2.2.1 ≤ T.2.2.1 + 500 → WL kt CB SB X 1681 (wlL i x m o) [] T' H') : WL kt CB SB X 1454 (wlL i x m o) [] T H := by
  obtain ⟨⟨hW, g0, gx, gm, go, hK, hr⟩, hXI, hY1, hY2⟩ := hI
  refine wl_of hX hb cL_1454 (rw_aload_n (pc' := 1455) (v := .ref x) rfl rfl rfl ?_)
  refine wl_of hX hb cL_1455 (xc_V (pc' := 1458) (r := x) (as := []) (st := []) (lm_11_196) rfl rfl (Nat.le_of_ble_eq_true rfl) hW gx sh_1 (by decide) rfl (by decide) (s_156 hW gx) (fun R3456 T3457 H3458 p3459 => ?_))
  obtain ⟨e3460, w3462, f3463, z3464, e3461, b3465⟩ := p3459
  subst e3460
  subst e3461
  show WL _ _ _ _ 1458 [(4, vI i), (3, .ref o), (2, .ref m), (1, .ref x), (0, .ref 0)] [vI z3464] _ H3458
  refine wl_of hX hb cL_1458 (rw_pop (pc' := 1459) rfl rfl ?_)
  refine wl_of hX hb cL_1459 (rw_aload_n (pc' := 1460) (v := .ref m) rfl rfl rfl ?_)
  have k3466 : wKI H3458 m = wKI H m := (wKI_fr hW gm f3463 rfl)
  have k3467 : H3458 x 9 = H x 9 := (f3463 x 9 _ gx rfl)
  have k3468 : H3458 m 6 = H m 6 := (f3463 m 6 _ gm rfl)
  have k3469 : H3458 x 11 = H x 11 := (f3463 x 11 _ gx rfl)
  have k3470 : H3458 m 13 = H m 13 := (f3463 m 13 _ gm rfl)
  have k3471 : H3458 x 8 = H x 8 := (f3463 x 8 _ gx rfl)
  have k3472 : H3458 m 3 = H m 3 := (f3463 m 3 _ gm rfl)
  refine wl_of hX hb cL_1460 (xc_V (pc' := 1463) (r := m) (as := []) (st := []) (lm_11_199) rfl rfl (Nat.le_of_ble_eq_true rfl) w3462 gm sh_42 (by decide) rfl (by decide) (s_288 w3462 gm (by omega)) (fun R3473 T3474 H3475 p3476 => ?_))
  obtain ⟨e3477, w3479, f3480, z3482, e3478, b3483, p3481⟩ := p3476
  subst e3477
  subst e3478
  show WL _ _ _ _ 1463 [(4, vI i), (3, .ref o), (2, .ref m), (1, .ref x), (0, .ref 0)] [vI z3482] _ H3475
  refine wl_of hX hb cL_1463 (rw_pop (pc' := 1464) rfl rfl ?_)
  refine wl_of hX hb cL_1464 (rw_goto (p1 := 1681) (by decide) ?_)
  have k3484 : H3475 x 9 = H3458 x 9 := (f3480 x 9 _ gx rfl)
  have k3485 : H3475 m 6 = H3458 m 6 := (f3480 m 6 _ gm rfl)
  have k3486 : H3475 x 11 = H3458 x 11 := (f3480 x 11 _ gx rfl)
  have k3487 : H3475 m 13 = H3458 m 13 := (f3480 m 13 _ gm rfl)
  have k3488 : H3475 x 8 = H3458 x 8 := (f3480 x 8 _ gx rfl)
  have k3489 : H3475 m 3 = H3458 m 3 := (f3480 m 3 _ gm rfl)
  have h3490 : XI T H3475 x m := (XI_fr w3462 gx f3480 rfl (XI_fr hW gx f3463 rfl hXI))
  exact WL.loc hX (by simp) (next T H3475 ⟨⟨w3479, g0, gx, gm, go, by omega, by omega⟩, h3490, by omega, by omega⟩ (by omega) (by omega))
set_option maxHeartbeats 4000000 in
theorem wl_c43 {kt : Nat → Option mc_E} {CB SB : Nat} {X : mc_S → Prop} {T : wq_T} {H : wq_H} {Len x m o : Nat} {i : Int} (hX : wlX kt CB SB X) (hb : T.2.1 ≤ CB ∧ T.2.2.1 ≤ SB) (hI : wlJ Len x m o T H) (hL : Len ≤ 3072) (hi : 0 ≤ i ∧ i + 6 ≤ Len) (hb2 : T.2.1 + 20 ≤ CB ∧ T.2.2.1 + 500 ≤ SB)  (next : ∀ T' H', wlJ Len x m o T' H' → T'.2.1 ≤ T.2.1 + 20 → T'.2.2.1 ≤ T.2.2.1 + 500 → WL kt CB SB X 1681 (wlL i x m o) [] T' H') : WL kt CB SB X 1467 (wlL i x m o) [] T H := by
  obtain ⟨⟨hW, g0, gx, gm, go, hK, hr⟩, hXI, hY1, hY2⟩ := hI
  refine wl_of hX hb cL_1467 (rw_aload_n (pc' := 1468) (v := .ref x) rfl rfl rfl ?_)
  refine wl_of hX hb cL_1468 (rw_aload_n (pc' := 1469) (v := .ref 0) rfl rfl rfl ?_)
  refine wl_of hX hb cL_1469 (rw_iload (pc' := 1471) (z := i) rfl rfl ?_)
  refine wl_of hX hb cL_1471 (rw_iconst (pc' := 1472) rfl ?_)
  refine wl_of hX hb cL_1472 (rw_iadd (pc' := 1473) rfl ?_)
  refine wl_of hX hb cL_1473 (xa_I (so := 0) (pc' := 1474) (a := 0) hW g0 (wsh_s _) (by omega) (wty_s _ _) (by omega) (by omega) rfl (fun b3491 b3492 => ?_))
  refine wl_of hX hb cL_1474 (rw_aload_n (pc' := 1475) (v := .ref 0) rfl rfl rfl ?_)
  refine wl_of hX hb cL_1475 (rw_iload (pc' := 1477) (z := i) rfl rfl ?_)
  refine wl_of hX hb cL_1477 (rw_iconst (pc' := 1478) rfl ?_)
  refine wl_of hX hb cL_1478 (rw_iadd (pc' := 1479) rfl ?_)
  refine wl_of hX hb cL_1479 (xa_I (so := 0) (pc' := 1480) (a := 0) hW g0 (wsh_s _) (by omega) (wty_s _ _) (by omega) (by omega) rfl (fun b3493 b3494 => ?_))
  refine wl_of hX hb cL_1480 (xc_V (pc' := 1483) (r := x) (as := [vI (H 0 ((i + 1).toNat)), vI (H 0 ((i + 2).toNat))]) (st := []) (lm_11_200) rfl rfl (Nat.le_of_ble_eq_true rfl) hW gx sh_1 (by decide) rfl (by decide) (s_157 hW gx ⟨by omega, by omega⟩ ⟨by omega, by omega⟩) (fun R3495 T3496 H3497 p3498 => ?_))
  obtain ⟨e3499, w3501, f3502, z3503, e3500, b3504⟩ := p3498
  subst e3499
  subst e3500
  show WL _ _ _ _ 1483 [(4, vI i), (3, .ref o), (2, .ref m), (1, .ref x), (0, .ref 0)] [vI z3503] _ H3497
  refine wl_of hX hb cL_1483 (rw_pop (pc' := 1484) rfl rfl ?_)
  refine wl_of hX hb cL_1484 (rw_aload_n (pc' := 1485) (v := .ref m) rfl rfl rfl ?_)
  refine wl_of hX hb cL_1485 (rw_aload_n (pc' := 1486) (v := .ref 0) rfl rfl rfl ?_)
  refine wl_of hX hb cL_1486 (rw_iload (pc' := 1488) (z := i) rfl rfl ?_)
  refine wl_of hX hb cL_1488 (rw_iconst (pc' := 1489) rfl ?_)
  refine wl_of hX hb cL_1489 (rw_iadd (pc' := 1490) rfl ?_)
  have k3507 : H3497 0 ((i + 1).toNat) = H 0 ((i + 1).toNat) := (f3502 0 ((i + 1).toNat) _ g0 (wmem_s rfl))
  refine wl_of hX hb cL_1490 (xa_I (so := 0) (pc' := 1491) (a := 0) w3501 g0 (wsh_s _) (by omega) (wty_s _ _) (by omega) (by omega) rfl (fun b3505 b3506 => ?_))
  refine wl_of hX hb cL_1491 (rw_aload_n (pc' := 1492) (v := .ref 0) rfl rfl rfl ?_)
  refine wl_of hX hb cL_1492 (rw_iload (pc' := 1494) (z := i) rfl rfl ?_)
  refine wl_of hX hb cL_1494 (rw_iconst (pc' := 1495) rfl ?_)
  refine wl_of hX hb cL_1495 (rw_iadd (pc' := 1496) rfl ?_)
  have k3510 : H3497 0 ((i + 2).toNat) = H 0 ((i + 2).toNat) := (f3502 0 ((i + 2).toNat) _ g0 (wmem_s rfl))
  refine wl_of hX hb cL_1496 (xa_I (so := 0) (pc' := 1497) (a := 0) w3501 g0 (wsh_s _) (by omega) (wty_s _ _) (by omega) (by omega) rfl (fun b3508 b3509 => ?_))
  have k3511 : wKI H3497 m = wKI H m := (wKI_fr hW gm f3502 rfl)
  have k3512 : H3497 x 9 = H x 9 := (f3502 x 9 _ gx rfl)
  have k3513 : H3497 m 6 = H m 6 := (f3502 m 6 _ gm rfl)
  have k3514 : H3497 x 11 = H x 11 := (f3502 x 11 _ gx rfl)
  have k3515 : H3497 m 13 = H m 13 := (f3502 m 13 _ gm rfl)
  have k3516 : H3497 x 8 = H x 8 := (f3502 x 8 _ gx rfl)
  have k3517 : H3497 m 3 = H m 3 := (f3502 m 3 _ gm rfl)
  refine wl_of hX hb cL_1497 (xc_V (pc' := 1500) (r := m) (as := [vI (H3497 0 ((i + 1).toNat)), vI (H3497 0 ((i + 2).toNat))]) (st := []) (lm_11_203) rfl rfl (Nat.le_of_ble_eq_true rfl) w3501 gm sh_42 (by decide) rfl (by decide) (s_289 w3501 gm ⟨by omega, by omega⟩ ⟨by omega, by omega⟩ (by omega)) (fun R3518 T3519 H3520 p3521 => ?_))
  obtain ⟨e3522, w3524, f3525, z3527, e3523, b3528, p3526⟩ := p3521
  subst e3522
  subst e3523
  show WL _ _ _ _ 1500 [(4, vI i), (3, .ref o), (2, .ref m), (1, .ref x), (0, .ref 0)] [vI z3527] _ H3520
  refine wl_of hX hb cL_1500 (rw_pop (pc' := 1501) rfl rfl ?_)
  refine wl_of hX hb cL_1501 (rw_goto (p1 := 1681) (by decide) ?_)
  have k3529 : H3520 x 9 = H3497 x 9 := (f3525 x 9 _ gx rfl)
  have k3530 : H3520 m 6 = H3497 m 6 := (f3525 m 6 _ gm rfl)
  have k3531 : H3520 x 11 = H3497 x 11 := (f3525 x 11 _ gx rfl)
  have k3532 : H3520 m 13 = H3497 m 13 := (f3525 m 13 _ gm rfl)
  have k3533 : H3520 x 8 = H3497 x 8 := (f3525 x 8 _ gx rfl)
  have k3534 : H3520 m 3 = H3497 m 3 := (f3525 m 3 _ gm rfl)
  have h3535 : XI T H3520 x m := (XI_fr w3501 gx f3525 rfl (XI_fr hW gx f3502 rfl hXI))
  exact WL.loc hX (by simp) (next T H3520 ⟨⟨w3524, g0, gx, gm, go, by omega, by omega⟩, h3535, by omega, by omega⟩ (by omega) (by omega))
set_option maxHeartbeats 4000000 in
theorem wl_c44 {kt : Nat → Option mc_E} {CB SB : Nat} {X : mc_S → Prop} {T : wq_T} {H : wq_H} {Len x m o : Nat} {i : Int} (hX : wlX kt CB SB X) (hb : T.2.1 ≤ CB ∧ T.2.2.1 ≤ SB) (hI : wlJ Len x m o T H) (hL : Len ≤ 3072) (hi : 0 ≤ i ∧ i + 6 ≤ Len) (hb2 : T.2.1 + 20 ≤ CB ∧ T.2.2.1 + 500 ≤ SB)  (next : ∀ T' H', wlJ Len x m o T' H' → T'.2.1 ≤ T.2.1 + 20 → T'.2.2.1 ≤ T.2.2.1 + 500 → WL kt CB SB X 1681 (wlL i x m o) [] T' H') : WL kt CB SB X 1504 (wlL i x m o) [] T H := by
  obtain ⟨⟨hW, g0, gx, gm, go, hK, hr⟩, hXI, hY1, hY2⟩ := hI
  refine wl_of hX hb cL_1504 (rw_aload_n (pc' := 1505) (v := .ref x) rfl rfl rfl ?_)
  refine wl_of hX hb cL_1505 (xc_V (pc' := 1508) (r := x) (as := []) (st := []) (lm_11_204) rfl rfl (Nat.le_of_ble_eq_true rfl) hW gx sh_1 (by decide) rfl (by decide) (s_158 hW gx) (fun R3536 T3537 H3538 p3539 => ?_))
  obtain ⟨e3540, w3542, f3543, z3544, e3541, b3545⟩ := p3539
  subst e3540
  subst e3541
  show WL _ _ _ _ 1508 [(4, vI i), (3, .ref o), (2, .ref m), (1, .ref x), (0, .ref 0)] [vI z3544] _ H3538
  refine wl_of hX hb cL_1508 (rw_pop (pc' := 1509) rfl rfl ?_)
  refine wl_of hX hb cL_1509 (rw_aload_n (pc' := 1510) (v := .ref m) rfl rfl rfl ?_)
  have k3546 : wKI H3538 m = wKI H m := (wKI_fr hW gm f3543 rfl)
  have k3547 : H3538 x 9 = H x 9 := (f3543 x 9 _ gx rfl)
  have k3548 : H3538 m 6 = H m 6 := (f3543 m 6 _ gm rfl)
  have k3549 : H3538 x 11 = H x 11 := (f3543 x 11 _ gx rfl)
  have k3550 : H3538 m 13 = H m 13 := (f3543 m 13 _ gm rfl)
  have k3551 : H3538 x 8 = H x 8 := (f3543 x 8 _ gx rfl)
  have k3552 : H3538 m 3 = H m 3 := (f3543 m 3 _ gm rfl)
  refine wl_of hX hb cL_1510 (xc_V (pc' := 1513) (r := m) (as := []) (st := []) (lm_11_208) rfl rfl (Nat.le_of_ble_eq_true rfl) w3542 gm sh_42 (by decide) rfl (by decide) (s_290 w3542 gm (by omega)) (fun R3553 T3554 H3555 p3556 => ?_))
  obtain ⟨e3557, w3559, f3560, z3562, e3558, b3563, p3561⟩ := p3556
  subst e3557
  subst e3558
  show WL _ _ _ _ 1513 [(4, vI i), (3, .ref o), (2, .ref m), (1, .ref x), (0, .ref 0)] [vI z3562] _ H3555
  refine wl_of hX hb cL_1513 (rw_pop (pc' := 1514) rfl rfl ?_)
  refine wl_of hX hb cL_1514 (rw_goto (p1 := 1681) (by decide) ?_)
  have k3564 : H3555 x 9 = H3538 x 9 := (f3560 x 9 _ gx rfl)
  have k3565 : H3555 m 6 = H3538 m 6 := (f3560 m 6 _ gm rfl)
  have k3566 : H3555 x 11 = H3538 x 11 := (f3560 x 11 _ gx rfl)
  have k3567 : H3555 m 13 = H3538 m 13 := (f3560 m 13 _ gm rfl)
  have k3568 : H3555 x 8 = H3538 x 8 := (f3560 x 8 _ gx rfl)
  have k3569 : H3555 m 3 = H3538 m 3 := (f3560 m 3 _ gm rfl)
  have h3570 : XI T H3555 x m := (XI_fr w3542 gx f3560 rfl (XI_fr hW gx f3543 rfl hXI))
  exact WL.loc hX (by simp) (next T H3555 ⟨⟨w3559, g0, gx, gm, go, by omega, by omega⟩, h3570, by omega, by omega⟩ (by omega) (by omega))
set_option maxHeartbeats 4000000 in
theorem wl_c45 {kt : Nat → Option mc_E} {CB SB : Nat} {X : mc_S → Prop} {T : wq_T} {H : wq_H} {Len x m o : Nat} {i : Int} (hX : wlX kt CB SB X) (hb : T.2.1 ≤ CB ∧ T.2.2.1 ≤ SB) (hI : wlJ Len x m o T H) (hL : Len ≤ 3072) (hi : 0 ≤ i ∧ i + 6 ≤ Len) (hb2 : T.2.1 + 20 ≤ CB ∧ T.2.2.1 + 500 ≤ SB)  (next : ∀ T' H', wlJ Len x m o T' H' → T'.2.1 ≤ T.2.1 + 20 → T'.2.2.1 ≤ T.2.2.1 + 500 → WL kt CB SB X 1681 (wlL i x m o) [] T' H') : WL kt CB SB X 1517 (wlL i x m o) [] T H := by
  obtain ⟨⟨hW, g0, gx, gm, go, hK, hr⟩, hXI, hY1, hY2⟩ := hI
  refine wl_of hX hb cL_1517 (rw_aload_n (pc' := 1518) (v := .ref x) rfl rfl rfl ?_)
  refine wl_of hX hb cL_1518 (xc_V (pc' := 1521) (r := x) (as := []) (st := []) (lm_11_209) rfl rfl (Nat.le_of_ble_eq_true rfl) hW gx sh_1 (by decide) rfl (by decide) (s_159 hW gx) (fun R3571 T3572 H3573 p3574 => ?_))
  obtain ⟨e3575, w3577, f3578, z3579, e3576, b3580⟩ := p3574
  subst e3575
  subst e3576
  show WL _ _ _ _ 1521 [(4, vI i), (3, .ref o), (2, .ref m), (1, .ref x), (0, .ref 0)] [vL z3579] _ H3573
  refine wl_of hX hb cL_1521 (rw_pop2 (pc' := 1522) rfl rfl ?_)
  refine wl_of hX hb cL_1522 (rw_aload_n (pc' := 1523) (v := .ref m) rfl rfl rfl ?_)
  have k3581 : wKI H3573 m = wKI H m := (wKI_fr hW gm f3578 rfl)
  have k3582 : H3573 x 9 = H x 9 := (f3578 x 9 _ gx rfl)
  have k3583 : H3573 m 6 = H m 6 := (f3578 m 6 _ gm rfl)
  have k3584 : H3573 x 11 = H x 11 := (f3578 x 11 _ gx rfl)
  have k3585 : H3573 m 13 = H m 13 := (f3578 m 13 _ gm rfl)
  have k3586 : H3573 x 8 = H x 8 := (f3578 x 8 _ gx rfl)
  have k3587 : H3573 m 3 = H m 3 := (f3578 m 3 _ gm rfl)
  refine wl_of hX hb cL_1523 (xc_V (pc' := 1526) (r := m) (as := []) (st := []) (lm_11_212) rfl rfl (Nat.le_of_ble_eq_true rfl) w3577 gm sh_42 (by decide) rfl (by decide) (s_291 w3577 gm (by omega)) (fun R3588 T3589 H3590 p3591 => ?_))
  obtain ⟨e3592, w3594, f3595, z3597, e3593, b3598, p3596⟩ := p3591
  subst e3592
  subst e3593
  show WL _ _ _ _ 1526 [(4, vI i), (3, .ref o), (2, .ref m), (1, .ref x), (0, .ref 0)] [vL z3597] _ H3590
  refine wl_of hX hb cL_1526 (rw_pop2 (pc' := 1527) rfl rfl ?_)
  refine wl_of hX hb cL_1527 (rw_goto (p1 := 1681) (by decide) ?_)
  have k3599 : H3590 x 9 = H3573 x 9 := (f3595 x 9 _ gx rfl)
  have k3600 : H3590 m 6 = H3573 m 6 := (f3595 m 6 _ gm rfl)
  have k3601 : H3590 x 11 = H3573 x 11 := (f3595 x 11 _ gx rfl)
  have k3602 : H3590 m 13 = H3573 m 13 := (f3595 m 13 _ gm rfl)
  have k3603 : H3590 x 8 = H3573 x 8 := (f3595 x 8 _ gx rfl)
  have k3604 : H3590 m 3 = H3573 m 3 := (f3595 m 3 _ gm rfl)
  have h3605 : XI T H3590 x m := (XI_fr w3577 gx f3595 rfl (XI_fr hW gx f3578 rfl hXI))
  exact WL.loc hX (by simp) (next T H3590 ⟨⟨w3594, g0, gx, gm, go, by omega, by omega⟩, h3605, by omega, by omega⟩ (by omega) (by omega))
set_option maxHeartbeats 4000000 in
theorem wl_c46 {kt : Nat → Option mc_E} {CB SB : Nat} {X : mc_S → Prop} {T : wq_T} {H : wq_H} {Len x m o : Nat} {i : Int} (hX : wlX kt CB SB X) (hb : T.2.1 ≤ CB ∧ T.2.2.1 ≤ SB) (hI : wlJ Len x m o T H) (hL : Len ≤ 3072) (hi : 0 ≤ i ∧ i + 6 ≤ Len) (hb2 : T.2.1 + 20 ≤ CB ∧ T.2.2.1 + 500 ≤ SB)  (next : ∀ T' H', wlJ Len x m o T' H' → T'.2.1 ≤ T.2.1 + 20 → T'.2.2.1 ≤ T.2.2.1 + 500 → WL kt CB SB X 1681 (wlL i x m o) [] T' H') : WL kt CB SB X 1530 (wlL i x m o) [] T H := by
  obtain ⟨⟨hW, g0, gx, gm, go, hK, hr⟩, hXI, hY1, hY2⟩ := hI
  refine wl_of hX hb cL_1530 (rw_aload_n (pc' := 1531) (v := .ref x) rfl rfl rfl ?_)
  refine wl_of hX hb cL_1531 (rw_aload_n (pc' := 1532) (v := .ref 0) rfl rfl rfl ?_)
  refine wl_of hX hb cL_1532 (rw_iload (pc' := 1534) (z := i) rfl rfl ?_)
  refine wl_of hX hb cL_1534 (rw_iconst (pc' := 1535) rfl ?_)
  refine wl_of hX hb cL_1535 (rw_iadd (pc' := 1536) rfl ?_)
  refine wl_of hX hb cL_1536 (xa_I (so := 0) (pc' := 1537) (a := 0) hW g0 (wsh_s _) (by omega) (wty_s _ _) (by omega) (by omega) rfl (fun b3606 b3607 => ?_))
  refine wl_of hX hb cL_1537 (rw_i2l (pc' := 1538) rfl ⟨by omega, by omega⟩ ?_)
  refine wl_of hX hb cL_1538 (rw_bipush (pc' := 1540) (z := 32) rfl (by decide) ?_)
  refine wl_of hX hb cL_1540 (rw_lshl (pc' := 1541) rfl ?_)
  obtain ⟨v3608, e3609⟩ : ∃ x : Int, x = wl_shl (H 0 ((i + 1).toNat)) 32 := ⟨_, rfl⟩
  rw [← e3609]
  have b3610 : -9223372036854775808 ≤ v3608 ∧ v3608 ≤ 9223372036854775807 := by
    rw [e3609]
    exact wL_shl _ _
  refine wl_of hX hb cL_1541 (rw_aload_n (pc' := 1542) (v := .ref 0) rfl rfl rfl ?_)
  refine wl_of hX hb cL_1542 (rw_iload (pc' := 1544) (z := i) rfl rfl ?_)
  refine wl_of hX hb cL_1544 (rw_iconst (pc' := 1545) rfl ?_)
  refine wl_of hX hb cL_1545 (rw_iadd (pc' := 1546) rfl ?_)
  refine wl_of hX hb cL_1546 (xa_I (so := 0) (pc' := 1547) (a := 0) hW g0 (wsh_s _) (by omega) (wty_s _ _) (by omega) (by omega) rfl (fun b3611 b3612 => ?_))
  refine wl_of hX hb cL_1547 (rw_i2l (pc' := 1548) rfl ⟨by omega, by omega⟩ ?_)
  refine wl_of hX hb cL_1548 (rw_ldc2 (pc' := 1551) (z := 4294967295) rfl rfl rfl ?_)
  refine wl_of hX hb cL_1551 (rw_land (pc' := 1552) rfl ?_)
  obtain ⟨v3613, e3614⟩ : ∃ x : Int, x = wl_and (H 0 ((i + 2).toNat)) 4294967295 := ⟨_, rfl⟩
  rw [← e3614]
  have b3615 : -9223372036854775808 ≤ v3613 ∧ v3613 ≤ 9223372036854775807 := by
    rw [e3614]
    exact wL_and _ _
  refine wl_of hX hb cL_1552 (rw_lor (pc' := 1553) rfl ?_)
  obtain ⟨v3616, e3617⟩ : ∃ x : Int, x = wl_or v3608 v3613 := ⟨_, rfl⟩
  rw [← e3617]
  have b3618 : -9223372036854775808 ≤ v3616 ∧ v3616 ≤ 9223372036854775807 := by
    rw [e3617]
    exact wL_or _ _
  refine wl_of hX hb cL_1553 (xc_V (pc' := 1556) (r := x) (as := [vL v3616]) (st := []) (lm_11_215) rfl rfl (Nat.le_of_ble_eq_true rfl) hW gx sh_1 (by decide) rfl (by decide) (s_161 hW gx ⟨b3618.1, b3618.2⟩) (fun R3619 T3620 H3621 p3622 => ?_))
  obtain ⟨e3623, w3625, f3626, z3627, e3624, b3628⟩ := p3622
  subst e3623
  subst e3624
  show WL _ _ _ _ 1556 [(4, vI i), (3, .ref o), (2, .ref m), (1, .ref x), (0, .ref 0)] [vI z3627] _ H3621
  refine wl_of hX hb cL_1556 (rw_pop (pc' := 1557) rfl rfl ?_)
  refine wl_of hX hb cL_1557 (rw_aload_n (pc' := 1558) (v := .ref m) rfl rfl rfl ?_)
  refine wl_of hX hb cL_1558 (rw_aload_n (pc' := 1559) (v := .ref 0) rfl rfl rfl ?_)
  refine wl_of hX hb cL_1559 (rw_iload (pc' := 1561) (z := i) rfl rfl ?_)
  refine wl_of hX hb cL_1561 (rw_iconst (pc' := 1562) rfl ?_)
  refine wl_of hX hb cL_1562 (rw_iadd (pc' := 1563) rfl ?_)
  have k3631 : H3621 0 ((i + 1).toNat) = H 0 ((i + 1).toNat) := (f3626 0 ((i + 1).toNat) _ g0 (wmem_s rfl))
  refine wl_of hX hb cL_1563 (xa_I (so := 0) (pc' := 1564) (a := 0) w3625 g0 (wsh_s _) (by omega) (wty_s _ _) (by omega) (by omega) rfl (fun b3629 b3630 => ?_))
  refine wl_of hX hb cL_1564 (rw_i2l (pc' := 1565) rfl ⟨by omega, by omega⟩ ?_)
  refine wl_of hX hb cL_1565 (rw_bipush (pc' := 1567) (z := 32) rfl (by decide) ?_)
  refine wl_of hX hb cL_1567 (rw_lshl (pc' := 1568) rfl ?_)
  obtain ⟨v3632, e3633⟩ : ∃ x : Int, x = wl_shl (H3621 0 ((i + 1).toNat)) 32 := ⟨_, rfl⟩
  rw [← e3633]
  have b3634 : -9223372036854775808 ≤ v3632 ∧ v3632 ≤ 9223372036854775807 := by
    rw [e3633]
    exact wL_shl _ _
  refine wl_of hX hb cL_1568 (rw_aload_n (pc' := 1569) (v := .ref 0) rfl rfl rfl ?_)
  refine wl_of hX hb cL_1569 (rw_iload (pc' := 1571) (z := i) rfl rfl ?_)
  refine wl_of hX hb cL_1571 (rw_iconst (pc' := 1572) rfl ?_)
  refine wl_of hX hb cL_1572 (rw_iadd (pc' := 1573) rfl ?_)
  have k3637 : H3621 0 ((i + 2).toNat) = H 0 ((i + 2).toNat) := (f3626 0 ((i + 2).toNat) _ g0 (wmem_s rfl))
  refine wl_of hX hb cL_1573 (xa_I (so := 0) (pc' := 1574) (a := 0) w3625 g0 (wsh_s _) (by omega) (wty_s _ _) (by omega) (by omega) rfl (fun b3635 b3636 => ?_))
  refine wl_of hX hb cL_1574 (rw_i2l (pc' := 1575) rfl ⟨by omega, by omega⟩ ?_)
  refine wl_of hX hb cL_1575 (rw_ldc2 (pc' := 1578) (z := 4294967295) rfl rfl rfl ?_)
  refine wl_of hX hb cL_1578 (rw_land (pc' := 1579) rfl ?_)
  obtain ⟨v3638, e3639⟩ : ∃ x : Int, x = wl_and (H3621 0 ((i + 2).toNat)) 4294967295 := ⟨_, rfl⟩
  rw [← e3639]
  have b3640 : -9223372036854775808 ≤ v3638 ∧ v3638 ≤ 9223372036854775807 := by
    rw [e3639]
    exact wL_and _ _
  refine wl_of hX hb cL_1579 (rw_lor (pc' := 1580) rfl ?_)
  obtain ⟨v3641, e3642⟩ : ∃ x : Int, x = wl_or v3632 v3638 := ⟨_, rfl⟩
  rw [← e3642]
  have b3643 : -9223372036854775808 ≤ v3641 ∧ v3641 ≤ 9223372036854775807 := by
    rw [e3642]
    exact wL_or _ _
  have k3644 : wKI H3621 m = wKI H m := (wKI_fr hW gm f3626 rfl)
  have k3645 : H3621 x 9 = H x 9 := (f3626 x 9 _ gx rfl)
  have k3646 : H3621 m 6 = H m 6 := (f3626 m 6 _ gm rfl)
  have k3647 : H3621 x 11 = H x 11 := (f3626 x 11 _ gx rfl)
  have k3648 : H3621 m 13 = H m 13 := (f3626 m 13 _ gm rfl)
  have k3649 : H3621 x 8 = H x 8 := (f3626 x 8 _ gx rfl)
  have k3650 : H3621 m 3 = H m 3 := (f3626 m 3 _ gm rfl)
  refine wl_of hX hb cL_1580 (xc_V (pc' := 1583) (r := m) (as := [vL v3641]) (st := []) (lm_11_219) rfl rfl (Nat.le_of_ble_eq_true rfl) w3625 gm sh_42 (by decide) rfl (by decide) (s_292 w3625 gm ⟨b3643.1, b3643.2⟩ (by omega)) (fun R3651 T3652 H3653 p3654 => ?_))
  obtain ⟨e3655, w3657, f3658, z3660, e3656, b3661, p3659⟩ := p3654
  subst e3655
  subst e3656
  show WL _ _ _ _ 1583 [(4, vI i), (3, .ref o), (2, .ref m), (1, .ref x), (0, .ref 0)] [vI z3660] _ H3653
  refine wl_of hX hb cL_1583 (rw_pop (pc' := 1584) rfl rfl ?_)
  refine wl_of hX hb cL_1584 (rw_goto (p1 := 1681) (by decide) ?_)
  have k3662 : H3653 x 9 = H3621 x 9 := (f3658 x 9 _ gx rfl)
  have k3663 : H3653 m 6 = H3621 m 6 := (f3658 m 6 _ gm rfl)
  have k3664 : H3653 x 11 = H3621 x 11 := (f3658 x 11 _ gx rfl)
  have k3665 : H3653 m 13 = H3621 m 13 := (f3658 m 13 _ gm rfl)
  have k3666 : H3653 x 8 = H3621 x 8 := (f3658 x 8 _ gx rfl)
  have k3667 : H3653 m 3 = H3621 m 3 := (f3658 m 3 _ gm rfl)
  have h3668 : XI T H3653 x m := (XI_fr w3625 gx f3658 rfl (XI_fr hW gx f3626 rfl hXI))
  exact WL.loc hX (by simp) (next T H3653 ⟨⟨w3657, g0, gx, gm, go, by omega, by omega⟩, h3668, by omega, by omega⟩ (by omega) (by omega))
set_option maxHeartbeats 4000000 in
theorem wl_c47 {kt : Nat → Option mc_E} {CB SB : Nat} {X : mc_S → Prop} {T : wq_T} {H : wq_H} {Len x m o : Nat} {i : Int} (hX : wlX kt CB SB X) (hb : T.2.1 ≤ CB ∧ T.2.2.1 ≤ SB) (hI : wlJ Len x m o T H) (hL : Len ≤ 3072) (hi : 0 ≤ i ∧ i + 6 ≤ Len) (hb2 : T.2.1 + 20 ≤ CB ∧ T.2.2.1 + 500 ≤ SB) (hled : ∀ {z : Int}, wI z → T.2.1 ≤ CB ∧ T.2.2.1 ≤ SB → wlJ Len x m o T H → (∀ (z' : Int), wI z' → ∀ (T' : wq_T) (H' : wq_H), wlJ Len x m o T' H' → T'.2.1 ≤ T.2.1 + 20 → T'.2.2.1 ≤ T.2.2.1 + 500 → wlE H H' x o z z' → WL kt CB SB X 1598 (wlL i x m o) [vI z'] T' H') → WL kt CB SB X 1595 (wlL i x m o) [.ref o, vI z, .ref x] T H) (next : ∀ T' H', wlJ Len x m o T' H' → T'.2.1 ≤ T.2.1 + 20 → T'.2.2.1 ≤ T.2.2.1 + 500 → WL kt CB SB X 1681 (wlL i x m o) [] T' H') : WL kt CB SB X 1587 (wlL i x m o) [] T H := by
  obtain ⟨⟨hW, g0, gx, gm, go, hK, hr⟩, hXI, hY1, hY2⟩ := hI
  refine wl_of hX hb cL_1587 (rw_aload_n (pc' := 1588) (v := .ref x) rfl rfl rfl ?_)
  refine wl_of hX hb cL_1588 (rw_aload_n (pc' := 1589) (v := .ref 0) rfl rfl rfl ?_)
  refine wl_of hX hb cL_1589 (rw_iload (pc' := 1591) (z := i) rfl rfl ?_)
  refine wl_of hX hb cL_1591 (rw_iconst (pc' := 1592) rfl ?_)
  refine wl_of hX hb cL_1592 (rw_iadd (pc' := 1593) rfl ?_)
  refine wl_of hX hb cL_1593 (xa_I (so := 0) (pc' := 1594) (a := 0) hW g0 (wsh_s _) (by omega) (wty_s _ _) (by omega) (by omega) rfl (fun b3669 b3670 => ?_))
  refine wl_of hX hb cL_1594 (rw_aload_n (pc' := 1595) (v := .ref o) rfl rfl rfl ?_)
  refine hled ⟨by omega, by omega⟩ hb ⟨⟨hW, g0, gx, gm, go, by omega, by omega⟩, hXI, by omega, by omega⟩ (fun z9 b9 T9 H9 hI9 n9 s9 hx9 => ?_)
  obtain ⟨⟨w9, g0, gx, gm, go, hK, hr⟩, hXI, hY1, hY2⟩ := hI9
  have hb : T9.2.1 ≤ CB ∧ T9.2.2.1 ≤ SB := ⟨by omega, by omega⟩
  obtain ⟨hz9, hs9⟩ := hx9
  rw [← hs9] at hz9
  refine wl_of hX hb cL_1598 (rw_istore (pc' := 1600) (z := z9) (L' := [(5, vI z9), (4, vI i), (3, .ref o), (2, .ref m), (1, .ref x), (0, .ref 0)]) rfl rfl rfl ?_)
  refine wl_of hX hb cL_1600 (rw_aload_n (pc' := 1601) (v := .ref m) rfl rfl rfl ?_)
  refine wl_of hX hb cL_1601 (rw_aload_n (pc' := 1602) (v := .ref 0) rfl rfl rfl ?_)
  refine wl_of hX hb cL_1602 (rw_iload (pc' := 1604) (z := i) rfl rfl ?_)
  refine wl_of hX hb cL_1604 (rw_iconst (pc' := 1605) rfl ?_)
  refine wl_of hX hb cL_1605 (rw_iadd (pc' := 1606) rfl ?_)
  refine wl_of hX hb cL_1606 (xa_I (so := 0) (pc' := 1607) (a := 0) w9 g0 (wsh_s _) (by omega) (wty_s _ _) (by omega) (by omega) rfl (fun b3671 b3672 => ?_))
  obtain ⟨B, tc, tm, cu, dr, C8, e8, d8, n8, e0, gtc, htc, em, gtm, htm, ecu, gcu, edr, gdr, hcu, hdr, hdec, hded, hsp, hC1, hC2, hcu8, hrb8, hE, hZ, hn8, -⟩ := hXI
  have hN3 := RB_n3 hrb8
  have hE13 : ∀ h : Nat, h < 24 → 0 ≤ e8 13 h ∧ e8 13 h ≤ 100 := fun k hk => by
    obtain ⟨s, h1, h2, h3⟩ := hcu8.1.2.2.1
    exact ⟨(h3 k hk).1, (h3 k hk).2.1⟩
  have hE0 : e8 0 3 = d8 0 3 ∧ e8 0 0 = d8 0 0 := by
    have h := hE 0 (by decide)
    exact ⟨congrFun h 3, congrFun h 0⟩
  have u3673 := CU_k hcu8
  obtain ⟨t9, ht9⟩ : ∃ t : Int, t = H9 x 9 := ⟨_, rfl⟩
  obtain ⟨y9, hy9⟩ : ∃ y : Int, y = H9 0 ((i + 1).toNat) := ⟨_, rfl⟩
  have kz9 : H9 o ((0 : Int).toNat) = H9 o 0 := rfl
  have hx8 := XLH_cu (i := H9 0 ((i + 1).toNat)) ecu hcu8 hE
  rw [hx8] at hz9
  refine wl_of hX hb cL_1607 (xc_V (pc' := 1610) (r := m) (as := [vI (H9 0 ((i + 1).toNat))]) (st := []) (lm_11_225) rfl rfl (Nat.le_of_ble_eq_true rfl) w9 gm sh_42 (by decide) rfl (by decide) (u_293 (e := e8) (d := d8) w9 gm ⟨by omega, by omega⟩ hrb8) (fun R3674 T3675 H3676 p3677 => ?_))
  obtain ⟨e3678, w3680, f3681, z3682, e3679, b3683, p3684⟩ := p3677
  subst e3678
  subst e3679
  rcases p3684 with ⟨a3685, a3686, a3687⟩ | ⟨a3688, a3689⟩
  · show WL _ _ _ _ 1610 [(5, vI z9), (4, vI i), (3, .ref o), (2, .ref m), (1, .ref x), (0, .ref 0)] [vI z3682] _ H3676
    refine wl_of hX hb cL_1610 (rw_istore (pc' := 1612) (z := z3682) (L' := [(6, vI z3682), (5, vI z9), (4, vI i), (3, .ref o), (2, .ref m), (1, .ref x), (0, .ref 0)]) rfl rfl rfl ?_)
    refine wl_of hX hb cL_1612 (rw_aload_n (pc' := 1613) (v := .ref m) rfl rfl rfl ?_)
    have k3690 : wKI H3676 m = wKI H9 m := (wKI_fr w9 gm f3681 rfl)
    have k3691 : H3676 x 9 = H9 x 9 := (f3681 x 9 _ gx rfl)
    have k3692 : H3676 m 6 = H9 m 6 := (f3681 m 6 _ gm rfl)
    have k3693 : H3676 x 11 = H9 x 11 := (f3681 x 11 _ gx rfl)
    have k3694 : H3676 m 13 = H9 m 13 := (f3681 m 13 _ gm rfl)
    have k3695 : H3676 x 8 = H9 x 8 := (f3681 x 8 _ gx rfl)
    have k3696 : H3676 m 3 = H9 m 3 := (f3681 m 3 _ gm rfl)
    refine wl_of hX hb cL_1613 (xc_V (pc' := 1616) (r := m) (as := []) (st := []) (lm_11_226) rfl rfl (Nat.le_of_ble_eq_true rfl) w3680 gm sh_42 (by decide) rfl (by decide) (u_296  w3680 gm) (fun R3697 T3698 H3699 p3700 => ?_))
    obtain ⟨e3701, e3703, z3704, e3702, b3705, p3706⟩ := p3700
    subst e3701
    subst e3702
    subst e3703
    show WL _ _ _ _ 1616 [(6, vI z3682), (5, vI z9), (4, vI i), (3, .ref o), (2, .ref m), (1, .ref x), (0, .ref 0)] [vI z3704] _ H3676
    refine wl_of hX hb cL_1616 (rw_iload (pc' := 1618) (z := z9) rfl rfl ?_)
    refine wl_of hX hb cL_1618 (rw_icmp_eq (p1 := 1623) (p2 := 1621) (by decide) rfl ⟨b3705.1, b3705.2⟩ ⟨by omega, by omega⟩ (fun c3708 => ?_) (fun c3708 => ?_))
    · refine wl_of hX hb cL_1623 (rw_iload (pc' := 1625) (z := z9) rfl rfl ?_)
      refine wl_of hX hb cL_1625 (rw_if_ne (p1 := 1640) (p2 := 1628) (by decide) rfl ⟨by omega, by omega⟩ (fun c3709 => ?_) (fun c3709 => ?_))
      · refine wl_of hX hb cL_1640 (rw_goto (p1 := 1681) (by decide) ?_)
        have k3710 : H3676 x 0 = H9 x 0 := (f3681 x 0 _ gx rfl)
        have q3711 : H3676 x 0 = (tc : Int) := k3710.trans e0
        have k3712 : H3676 m 5 = H9 m 5 := (f3681 m 5 _ gm rfl)
        have q3713 : H3676 m 5 = (tm : Int) := k3712.trans em
        have k3714 : H3676 x 6 = H9 x 6 := (f3681 x 6 _ gx rfl)
        have q3715 : H3676 x 6 = (cu : Int) := k3714.trans ecu
        have k3716 : H3676 x 7 = H9 x 7 := (f3681 x 7 _ gx rfl)
        have q3717 : H3676 x 7 = (dr : Int) := k3716.trans edr
        have h3718 : TP T9 H3676 tc B := (TP_fr w9 gtc f3681 rfl htc)
        have h3719 : TM T9 H3676 tm B := (TM_fr w9 gtm f3681 rfl htm)
        have h3720 : DD T9 H3676 cu  := (DD_fr w9 gcu f3681 rfl hcu)
        have h3721 : DD T9 H3676 dr  := (DD_fr w9 gdr f3681 rfl hdr)
        have h3722 : DE T9 H3676 cu  := (DE_fr w9 gcu f3681 rfl hdec)
        have h3723 : DE T9 H3676 dr  := (DE_fr w9 gdr f3681 rfl hded)
        have h3724 : SP T9 H3676 x C8 := (SP_fr w9 gx f3681 rfl hsp)
        have h3725 : CU T9 H3676 cu e8 d8 n8 := (CU_fr w9 gcu f3681 rfl hcu8)
        have h3726 : RB T9 H3676 m e8 d8 := (RB_fr w9 gm f3681 rfl hrb8)
        exact WL.loc hX (by simp) (next T9 H3676 ⟨⟨w3680, g0, gx, gm, go, by omega, by omega⟩, ⟨_, tc, tm, cu, dr, _, _, _, _, q3711, gtc, h3718, q3713, gtm, h3719, q3715, gcu, q3717, gdr, h3720, h3721, h3722, h3723, h3724, hC1, hC2, h3725, h3726, hE, hZ, (by omega), gm⟩, by omega, by omega⟩ (by omega) (by omega))
      · refine wl_of hX hb cL_1628 (rw_aload_n (pc' := 1629) (v := .ref o) rfl rfl rfl ?_)
        refine wl_of hX hb cL_1629 (rw_iconst (pc' := 1630) rfl ?_)
        have k3727 : H3676 o ((0 : Int).toNat) = H9 o ((0 : Int).toNat) := (f3681 o ((0 : Int).toNat) _ go rfl)
        refine wl_of hX hb cL_1630 (xa_L (pc' := 1631) w3680 go sh_73 (by decide) (ty_73 _) (by decide) (by decide) rfl (fun b3728 b3729 => ?_))
        refine wl_of hX hb cL_1631 (rw_iload (pc' := 1633) (z := z3682) rfl rfl ?_)
        refine wl_of hX hb cL_1633 (rw_i2l (pc' := 1634) rfl ⟨b3683.1, b3683.2⟩ ?_)
        refine wl_of hX hb cL_1634 (rw_lcmp (pc' := 1635) rfl ⟨b3728, b3729⟩ ⟨Int.le_trans (by decide) b3683.1, Int.le_trans b3683.2 (by decide)⟩ ?_)
        have b3730 := wq_cmp_b (H3676 o ((0 : Int).toNat)) z3682
        refine wl_of hX hb cL_1635 (rw_if_eq (p1 := 1640) (p2 := 1638) (by decide) rfl ⟨by omega, by omega⟩ (fun c3731 => ?_) (fun c3731 => ?_))
        · refine wl_of hX hb cL_1640 (rw_goto (p1 := 1681) (by decide) ?_)
          have k3732 : H3676 x 0 = H9 x 0 := (f3681 x 0 _ gx rfl)
          have q3733 : H3676 x 0 = (tc : Int) := k3732.trans e0
          have k3734 : H3676 m 5 = H9 m 5 := (f3681 m 5 _ gm rfl)
          have q3735 : H3676 m 5 = (tm : Int) := k3734.trans em
          have k3736 : H3676 x 6 = H9 x 6 := (f3681 x 6 _ gx rfl)
          have q3737 : H3676 x 6 = (cu : Int) := k3736.trans ecu
          have k3738 : H3676 x 7 = H9 x 7 := (f3681 x 7 _ gx rfl)
          have q3739 : H3676 x 7 = (dr : Int) := k3738.trans edr
          have h3740 : TP T9 H3676 tc B := (TP_fr w9 gtc f3681 rfl htc)
          have h3741 : TM T9 H3676 tm B := (TM_fr w9 gtm f3681 rfl htm)
          have h3742 : DD T9 H3676 cu  := (DD_fr w9 gcu f3681 rfl hcu)
          have h3743 : DD T9 H3676 dr  := (DD_fr w9 gdr f3681 rfl hdr)
          have h3744 : DE T9 H3676 cu  := (DE_fr w9 gcu f3681 rfl hdec)
          have h3745 : DE T9 H3676 dr  := (DE_fr w9 gdr f3681 rfl hded)
          have h3746 : SP T9 H3676 x C8 := (SP_fr w9 gx f3681 rfl hsp)
          have h3747 : CU T9 H3676 cu e8 d8 n8 := (CU_fr w9 gcu f3681 rfl hcu8)
          have h3748 : RB T9 H3676 m e8 d8 := (RB_fr w9 gm f3681 rfl hrb8)
          exact WL.loc hX (by simp) (next T9 H3676 ⟨⟨w3680, g0, gx, gm, go, by omega, by omega⟩, ⟨_, tc, tm, cu, dr, _, _, _, _, q3733, gtc, h3740, q3735, gtm, h3741, q3737, gcu, q3739, gdr, h3742, h3743, h3744, h3745, h3746, hC1, hC2, h3747, h3748, hE, hZ, (by omega), gm⟩, by omega, by omega⟩ (by omega) (by omega))
        · refine wl_of hX hb cL_1638 (rw_iconst (pc' := 1639) rfl ?_)
          exfalso
          omega
    · refine wl_of hX hb cL_1621 (rw_iconst (pc' := 1622) rfl ?_)
      exfalso
      omega
  · show WL _ _ _ _ 1610 [(5, vI z9), (4, vI i), (3, .ref o), (2, .ref m), (1, .ref x), (0, .ref 0)] [vI z3682] _ H3676
    refine wl_of hX hb cL_1610 (rw_istore (pc' := 1612) (z := z3682) (L' := [(6, vI z3682), (5, vI z9), (4, vI i), (3, .ref o), (2, .ref m), (1, .ref x), (0, .ref 0)]) rfl rfl rfl ?_)
    refine wl_of hX hb cL_1612 (rw_aload_n (pc' := 1613) (v := .ref m) rfl rfl rfl ?_)
    have k3749 : wKI H3676 m = wKI H9 m := (wKI_fr w9 gm f3681 rfl)
    have k3750 : H3676 x 9 = H9 x 9 := (f3681 x 9 _ gx rfl)
    have k3751 : H3676 m 6 = H9 m 6 := (f3681 m 6 _ gm rfl)
    have k3752 : H3676 x 11 = H9 x 11 := (f3681 x 11 _ gx rfl)
    have k3753 : H3676 m 13 = H9 m 13 := (f3681 m 13 _ gm rfl)
    have k3754 : H3676 x 8 = H9 x 8 := (f3681 x 8 _ gx rfl)
    have k3755 : H3676 m 3 = H9 m 3 := (f3681 m 3 _ gm rfl)
    refine wl_of hX hb cL_1613 (xc_V (pc' := 1616) (r := m) (as := []) (st := []) (lm_11_226) rfl rfl (Nat.le_of_ble_eq_true rfl) w3680 gm sh_42 (by decide) rfl (by decide) (u_296  w3680 gm) (fun R3756 T3757 H3758 p3759 => ?_))
    obtain ⟨e3760, e3762, z3763, e3761, b3764, p3765⟩ := p3759
    subst e3760
    subst e3761
    subst e3762
    show WL _ _ _ _ 1616 [(6, vI z3682), (5, vI z9), (4, vI i), (3, .ref o), (2, .ref m), (1, .ref x), (0, .ref 0)] [vI z3763] _ H3676
    refine wl_of hX hb cL_1616 (rw_iload (pc' := 1618) (z := z9) rfl rfl ?_)
    refine wl_of hX hb cL_1618 (rw_icmp_eq (p1 := 1623) (p2 := 1621) (by decide) rfl ⟨b3764.1, b3764.2⟩ ⟨by omega, by omega⟩ (fun c3767 => ?_) (fun c3767 => ?_))
    · refine wl_of hX hb cL_1623 (rw_iload (pc' := 1625) (z := z9) rfl rfl ?_)
      refine wl_of hX hb cL_1625 (rw_if_ne (p1 := 1640) (p2 := 1628) (by decide) rfl ⟨by omega, by omega⟩ (fun c3768 => ?_) (fun c3768 => ?_))
      · refine wl_of hX hb cL_1640 (rw_goto (p1 := 1681) (by decide) ?_)
        have k3769 : H3676 x 0 = H9 x 0 := (f3681 x 0 _ gx rfl)
        have q3770 : H3676 x 0 = (tc : Int) := k3769.trans e0
        have k3771 : H3676 m 5 = H9 m 5 := (f3681 m 5 _ gm rfl)
        have q3772 : H3676 m 5 = (tm : Int) := k3771.trans em
        have k3773 : H3676 x 6 = H9 x 6 := (f3681 x 6 _ gx rfl)
        have q3774 : H3676 x 6 = (cu : Int) := k3773.trans ecu
        have k3775 : H3676 x 7 = H9 x 7 := (f3681 x 7 _ gx rfl)
        have q3776 : H3676 x 7 = (dr : Int) := k3775.trans edr
        have h3777 : TP T9 H3676 tc B := (TP_fr w9 gtc f3681 rfl htc)
        have h3778 : TM T9 H3676 tm B := (TM_fr w9 gtm f3681 rfl htm)
        have h3779 : DD T9 H3676 cu  := (DD_fr w9 gcu f3681 rfl hcu)
        have h3780 : DD T9 H3676 dr  := (DD_fr w9 gdr f3681 rfl hdr)
        have h3781 : DE T9 H3676 cu  := (DE_fr w9 gcu f3681 rfl hdec)
        have h3782 : DE T9 H3676 dr  := (DE_fr w9 gdr f3681 rfl hded)
        have h3783 : SP T9 H3676 x C8 := (SP_fr w9 gx f3681 rfl hsp)
        have h3784 : CU T9 H3676 cu e8 d8 n8 := (CU_fr w9 gcu f3681 rfl hcu8)
        have h3785 : RB T9 H3676 m e8 d8 := (RB_fr w9 gm f3681 rfl hrb8)
        exact WL.loc hX (by simp) (next T9 H3676 ⟨⟨w3680, g0, gx, gm, go, by omega, by omega⟩, ⟨_, tc, tm, cu, dr, _, _, _, _, q3770, gtc, h3777, q3772, gtm, h3778, q3774, gcu, q3776, gdr, h3779, h3780, h3781, h3782, h3783, hC1, hC2, h3784, h3785, hE, hZ, (by omega), gm⟩, by omega, by omega⟩ (by omega) (by omega))
      · refine wl_of hX hb cL_1628 (rw_aload_n (pc' := 1629) (v := .ref o) rfl rfl rfl ?_)
        refine wl_of hX hb cL_1629 (rw_iconst (pc' := 1630) rfl ?_)
        have k3786 : H3676 o ((0 : Int).toNat) = H9 o ((0 : Int).toNat) := (f3681 o ((0 : Int).toNat) _ go rfl)
        refine wl_of hX hb cL_1630 (xa_L (pc' := 1631) w3680 go sh_73 (by decide) (ty_73 _) (by decide) (by decide) rfl (fun b3787 b3788 => ?_))
        refine wl_of hX hb cL_1631 (rw_iload (pc' := 1633) (z := z3682) rfl rfl ?_)
        refine wl_of hX hb cL_1633 (rw_i2l (pc' := 1634) rfl ⟨b3683.1, b3683.2⟩ ?_)
        refine wl_of hX hb cL_1634 (rw_lcmp (pc' := 1635) rfl ⟨b3787, b3788⟩ ⟨Int.le_trans (by decide) b3683.1, Int.le_trans b3683.2 (by decide)⟩ ?_)
        have b3789 := wq_cmp_b (H3676 o ((0 : Int).toNat)) z3682
        refine wl_of hX hb cL_1635 (rw_if_eq (p1 := 1640) (p2 := 1638) (by decide) rfl ⟨by omega, by omega⟩ (fun c3790 => ?_) (fun c3790 => ?_))
        · refine wl_of hX hb cL_1640 (rw_goto (p1 := 1681) (by decide) ?_)
          have k3791 : H3676 x 0 = H9 x 0 := (f3681 x 0 _ gx rfl)
          have q3792 : H3676 x 0 = (tc : Int) := k3791.trans e0
          have k3793 : H3676 m 5 = H9 m 5 := (f3681 m 5 _ gm rfl)
          have q3794 : H3676 m 5 = (tm : Int) := k3793.trans em
          have k3795 : H3676 x 6 = H9 x 6 := (f3681 x 6 _ gx rfl)
          have q3796 : H3676 x 6 = (cu : Int) := k3795.trans ecu
          have k3797 : H3676 x 7 = H9 x 7 := (f3681 x 7 _ gx rfl)
          have q3798 : H3676 x 7 = (dr : Int) := k3797.trans edr
          have h3799 : TP T9 H3676 tc B := (TP_fr w9 gtc f3681 rfl htc)
          have h3800 : TM T9 H3676 tm B := (TM_fr w9 gtm f3681 rfl htm)
          have h3801 : DD T9 H3676 cu  := (DD_fr w9 gcu f3681 rfl hcu)
          have h3802 : DD T9 H3676 dr  := (DD_fr w9 gdr f3681 rfl hdr)
          have h3803 : DE T9 H3676 cu  := (DE_fr w9 gcu f3681 rfl hdec)
          have h3804 : DE T9 H3676 dr  := (DE_fr w9 gdr f3681 rfl hded)
          have h3805 : SP T9 H3676 x C8 := (SP_fr w9 gx f3681 rfl hsp)
          have h3806 : CU T9 H3676 cu e8 d8 n8 := (CU_fr w9 gcu f3681 rfl hcu8)
          have h3807 : RB T9 H3676 m e8 d8 := (RB_fr w9 gm f3681 rfl hrb8)
          exact WL.loc hX (by simp) (next T9 H3676 ⟨⟨w3680, g0, gx, gm, go, by omega, by omega⟩, ⟨_, tc, tm, cu, dr, _, _, _, _, q3792, gtc, h3799, q3794, gtm, h3800, q3796, gcu, q3798, gdr, h3801, h3802, h3803, h3804, h3805, hC1, hC2, h3806, h3807, hE, hZ, (by omega), gm⟩, by omega, by omega⟩ (by omega) (by omega))
        · refine wl_of hX hb cL_1638 (rw_iconst (pc' := 1639) rfl ?_)
          exfalso
          omega
    · refine wl_of hX hb cL_1621 (rw_iconst (pc' := 1622) rfl ?_)
      exfalso
      omega
set_option maxHeartbeats 4000000 in
theorem wl_c48 {kt : Nat → Option mc_E} {CB SB : Nat} {X : mc_S → Prop} {T : wq_T} {H : wq_H} {Len x m o : Nat} {i : Int} (hX : wlX kt CB SB X) (hb : T.2.1 ≤ CB ∧ T.2.2.1 ≤ SB) (hI : wlJ Len x m o T H) (hL : Len ≤ 3072) (hi : 0 ≤ i ∧ i + 6 ≤ Len) (hb2 : T.2.1 + 20 ≤ CB ∧ T.2.2.1 + 500 ≤ SB)  (next : ∀ T' H', wlJ Len x m o T' H' → T'.2.1 ≤ T.2.1 + 20 → T'.2.2.1 ≤ T.2.2.1 + 500 → WL kt CB SB X 1681 (wlL i x m o) [] T' H') : WL kt CB SB X 1643 (wlL i x m o) [] T H := by
  obtain ⟨⟨hW, g0, gx, gm, go, hK, hr⟩, hXI, hY1, hY2⟩ := hI
  refine wl_of hX hb cL_1643 (rw_aload_n (pc' := 1644) (v := .ref x) rfl rfl rfl ?_)
  refine wl_of hX hb cL_1644 (rw_aload_n (pc' := 1645) (v := .ref 0) rfl rfl rfl ?_)
  refine wl_of hX hb cL_1645 (rw_iload (pc' := 1647) (z := i) rfl rfl ?_)
  refine wl_of hX hb cL_1647 (rw_iconst (pc' := 1648) rfl ?_)
  refine wl_of hX hb cL_1648 (rw_iadd (pc' := 1649) rfl ?_)
  refine wl_of hX hb cL_1649 (xa_I (so := 0) (pc' := 1650) (a := 0) hW g0 (wsh_s _) (by omega) (wty_s _ _) (by omega) (by omega) rfl (fun b3808 b3809 => ?_))
  refine wl_of hX hb cL_1650 (xc_V (pc' := 1653) (r := x) (as := [vI (H 0 ((i + 1).toNat))]) (st := []) (lm_11_229) rfl rfl (Nat.le_of_ble_eq_true rfl) hW gx sh_1 (by decide) rfl (by decide) (s_164 hW gx ⟨by omega, by omega⟩) (fun R3810 T3811 H3812 p3813 => ?_))
  obtain ⟨e3814, e3816, z3817, e3815, b3818⟩ := p3813
  subst e3814
  subst e3815
  subst e3816
  show WL _ _ _ _ 1653 [(4, vI i), (3, .ref o), (2, .ref m), (1, .ref x), (0, .ref 0)] [vI z3817] _ H
  refine wl_of hX hb cL_1653 (rw_pop (pc' := 1654) rfl rfl ?_)
  refine wl_of hX hb cL_1654 (rw_aload_n (pc' := 1655) (v := .ref m) rfl rfl rfl ?_)
  refine wl_of hX hb cL_1655 (rw_aload_n (pc' := 1656) (v := .ref 0) rfl rfl rfl ?_)
  refine wl_of hX hb cL_1656 (rw_iload (pc' := 1658) (z := i) rfl rfl ?_)
  refine wl_of hX hb cL_1658 (rw_iconst (pc' := 1659) rfl ?_)
  refine wl_of hX hb cL_1659 (rw_iadd (pc' := 1660) rfl ?_)
  refine wl_of hX hb cL_1660 (xa_I (so := 0) (pc' := 1661) (a := 0) hW g0 (wsh_s _) (by omega) (wty_s _ _) (by omega) (by omega) rfl (fun b3819 b3820 => ?_))
  refine wl_of hX hb cL_1661 (xc_V (pc' := 1664) (r := m) (as := [vI (H 0 ((i + 1).toNat))]) (st := []) (lm_11_232) rfl rfl (Nat.le_of_ble_eq_true rfl) hW gm sh_42 (by decide) rfl (by decide) (s_294 hW gm ⟨by omega, by omega⟩ (by omega)) (fun R3821 T3822 H3823 p3824 => ?_))
  obtain ⟨e3825, w3827, f3828, z3830, e3826, b3831, p3829⟩ := p3824
  subst e3825
  subst e3826
  show WL _ _ _ _ 1664 [(4, vI i), (3, .ref o), (2, .ref m), (1, .ref x), (0, .ref 0)] [vI z3830] _ H3823
  refine wl_of hX hb cL_1664 (rw_pop (pc' := 1665) rfl rfl ?_)
  refine wl_of hX hb cL_1665 (rw_goto (p1 := 1681) (by decide) ?_)
  have k3832 : H3823 x 9 = H x 9 := (f3828 x 9 _ gx rfl)
  have k3833 : H3823 m 6 = H m 6 := (f3828 m 6 _ gm rfl)
  have k3834 : H3823 x 11 = H x 11 := (f3828 x 11 _ gx rfl)
  have k3835 : H3823 m 13 = H m 13 := (f3828 m 13 _ gm rfl)
  have k3836 : H3823 x 8 = H x 8 := (f3828 x 8 _ gx rfl)
  have k3837 : H3823 m 3 = H m 3 := (f3828 m 3 _ gm rfl)
  have h3838 : XI T H3823 x m := (XI_fr hW gx f3828 rfl hXI)
  exact WL.loc hX (by simp) (next T H3823 ⟨⟨w3827, g0, gx, gm, go, by omega, by omega⟩, h3838, by omega, by omega⟩ (by omega) (by omega))
set_option maxHeartbeats 4000000 in
theorem wl_c49 {kt : Nat → Option mc_E} {CB SB : Nat} {X : mc_S → Prop} {T : wq_T} {H : wq_H} {Len x m o : Nat} {i : Int} (hX : wlX kt CB SB X) (hb : T.2.1 ≤ CB ∧ T.2.2.1 ≤ SB) (hI : wlJ Len x m o T H) (hL : Len ≤ 3072) (hi : 0 ≤ i ∧ i + 6 ≤ Len) (hb2 : T.2.1 + 20 ≤ CB ∧ T.2.2.1 + 500 ≤ SB)  (next : ∀ T' H', wlJ Len x m o T' H' → T'.2.1 ≤ T.2.1 + 20 → T'.2.2.1 ≤ T.2.2.1 + 500 → WL kt CB SB X 1681 (wlL i x m o) [] T' H') : WL kt CB SB X 1668 (wlL i x m o) [] T H := by
  obtain ⟨⟨hW, g0, gx, gm, go, hK, hr⟩, hXI, hY1, hY2⟩ := hI
  refine wl_of hX hb cL_1668 (rw_aload_n (pc' := 1669) (v := .ref x) rfl rfl rfl ?_)
  refine wl_of hX hb cL_1669 (xc_V (pc' := 1672) (r := x) (as := []) (st := []) (lm_11_233) rfl rfl (Nat.le_of_ble_eq_true rfl) hW gx sh_1 (by decide) rfl (by decide) (s_165 hW gx) (fun R3839 T3840 H3841 p3842 => ?_))
  obtain ⟨e3843, e3845, z3846, e3844, b3847⟩ := p3842
  subst e3843
  subst e3844
  subst e3845
  show WL _ _ _ _ 1672 [(4, vI i), (3, .ref o), (2, .ref m), (1, .ref x), (0, .ref 0)] [vI z3846] _ H
  refine wl_of hX hb cL_1672 (rw_pop (pc' := 1673) rfl rfl ?_)
  refine wl_of hX hb cL_1673 (rw_aload_n (pc' := 1674) (v := .ref m) rfl rfl rfl ?_)
  refine wl_of hX hb cL_1674 (xc_V (pc' := 1677) (r := m) (as := []) (st := []) (lm_11_236) rfl rfl (Nat.le_of_ble_eq_true rfl) hW gm sh_42 (by decide) rfl (by decide) (s_295 hW gm (by omega)) (fun R3848 T3849 H3850 p3851 => ?_))
  obtain ⟨e3852, w3854, f3855, z3857, e3853, b3858, p3856⟩ := p3851
  subst e3852
  subst e3853
  show WL _ _ _ _ 1677 [(4, vI i), (3, .ref o), (2, .ref m), (1, .ref x), (0, .ref 0)] [vI z3857] _ H3850
  refine wl_of hX hb cL_1677 (rw_pop (pc' := 1678) rfl rfl ?_)
  refine wl_of hX hb cL_1678 (rw_goto (p1 := 1681) (by decide) ?_)
  have k3859 : H3850 x 9 = H x 9 := (f3855 x 9 _ gx rfl)
  have k3860 : H3850 m 6 = H m 6 := (f3855 m 6 _ gm rfl)
  have k3861 : H3850 x 11 = H x 11 := (f3855 x 11 _ gx rfl)
  have k3862 : H3850 m 13 = H m 13 := (f3855 m 13 _ gm rfl)
  have k3863 : H3850 x 8 = H x 8 := (f3855 x 8 _ gx rfl)
  have k3864 : H3850 m 3 = H m 3 := (f3855 m 3 _ gm rfl)
  have h3865 : XI T H3850 x m := (XI_fr hW gx f3855 rfl hXI)
  exact WL.loc hX (by simp) (next T H3850 ⟨⟨w3854, g0, gx, gm, go, by omega, by omega⟩, h3865, by omega, by omega⟩ (by omega) (by omega))
set_option maxHeartbeats 4000000 in
theorem wl_head {kt : Nat → Option mc_E} {CB SB : Nat} {X : mc_S → Prop} {T : wq_T} {H : wq_H} {Len x m o : Nat} {i : Int} (hX : wlX kt CB SB X) (hb : T.2.1 ≤ CB ∧ T.2.2.1 ≤ SB) (hI : wlJ Len x m o T H) (hL : Len ≤ 3072) (hi : 0 ≤ i ∧ i ≤ Len) (cases : ∀ t, t ∈ [256, 329, 354, 367, 380, 405, 454, 503, 516, 553, 578, 603, 616, 629, 642, 655, 668, 705, 718, 755, 792, 829, 882, 919, 944, 957, 994, 1019, 1056, 1109, 1162, 1175, 1200, 1225, 1250, 1263, 1316, 1329, 1342, 1367, 1404, 1429, 1454, 1467, 1504, 1517, 1530, 1587, 1643, 1668] → i + 6 ≤ Len → WL kt CB SB X t (wlL i x m o) [] T H) (next : i + 6 ≤ Len → WL kt CB SB X 1681 (wlL i x m o) [] T H) : WL kt CB SB X 23 (wlL i x m o) [] T H := by
  obtain ⟨⟨hW, g0, gx, gm, go, hK, hr⟩, hXI, hY1, hY2⟩ := hI
  refine wl_of hX hb cL_23 (rw_iload (pc' := 25) (z := i) rfl rfl ?_)
  refine wl_of hX hb cL_25 (rw_aload_n (pc' := 26) (v := .ref 0) rfl rfl rfl ?_)
  refine wl_of hX hb cL_26 (xa_N (pc' := 27) (a := 0) (n := Len) hW g0 (wsh_s _) (by decide) rfl ?_)
  refine wl_of hX hb cL_27 (rw_bipush (pc' := 29) (z := 6) rfl (by decide) ?_)
  refine wl_of hX hb cL_29 (rw_isub (pc' := 30) rfl ?_)
  refine wl_of hX hb cL_30 (rw_icmp_gt (p1 := 1687) (p2 := 33) (by decide) rfl ⟨by omega, by omega⟩ ⟨by omega, by omega⟩ (fun c3866 => ?_) (fun c3866 => ?_))
  · refine wl_of hX hb cL_1687 (rw_iconst (pc' := 1688) rfl ?_)
    exact WL.fin hX hb
  · refine wl_of hX hb cL_33 (rw_aload_n (pc' := 34) (v := .ref 0) rfl rfl rfl ?_)
    refine wl_of hX hb cL_34 (rw_iload (pc' := 36) (z := i) rfl rfl ?_)
    refine wl_of hX hb cL_36 (xa_I (so := 0) (pc' := 37) (a := 0) hW g0 (wsh_s _) (by omega) (wty_s _ _) (by omega) (by omega) rfl (fun b3867 b3868 => ?_))
    refine wl_of hX hb cL_37 (rw_bipush (pc' := 39) (z := 63) rfl (by decide) ?_)
    refine wl_of hX hb cL_39 (rw_iand (pc' := 40) rfl ?_)
    obtain ⟨v3869, e3870⟩ : ∃ x : Int, x = wq_and (H 0 (i.toNat)) 63 := ⟨_, rfl⟩
    rw [← e3870]
    have b3871 : 0 ≤ v3869 ∧ v3869 ≤ 63 := by
      rw [e3870]
      exact wq_and_b _ (by omega) (by omega)
    have c3872 : v3869 = 0 ∨ v3869 = 1 ∨ v3869 = 2 ∨ v3869 = 3 ∨ v3869 = 4 ∨ v3869 = 5 ∨ v3869 = 6 ∨ v3869 = 7 ∨ v3869 = 8 ∨ v3869 = 9 ∨ v3869 = 10 ∨ v3869 = 11 ∨ v3869 = 12 ∨ v3869 = 13 ∨ v3869 = 14 ∨ v3869 = 15 ∨ v3869 = 16 ∨ v3869 = 17 ∨ v3869 = 18 ∨ v3869 = 19 ∨ v3869 = 20 ∨ v3869 = 21 ∨ v3869 = 22 ∨ v3869 = 23 ∨ v3869 = 24 ∨ v3869 = 25 ∨ v3869 = 26 ∨ v3869 = 27 ∨ v3869 = 28 ∨ v3869 = 29 ∨ v3869 = 30 ∨ v3869 = 31 ∨ v3869 = 32 ∨ v3869 = 33 ∨ v3869 = 34 ∨ v3869 = 35 ∨ v3869 = 36 ∨ v3869 = 37 ∨ v3869 = 38 ∨ v3869 = 39 ∨ v3869 = 40 ∨ v3869 = 41 ∨ v3869 = 42 ∨ v3869 = 43 ∨ v3869 = 44 ∨ v3869 = 45 ∨ v3869 = 46 ∨ v3869 = 47 ∨ v3869 = 48 ∨ v3869 = 49 ∨ (v3869 < 0 ∨ 49 < v3869) := by omega
    rcases c3872 with c3872 | c3872 | c3872 | c3872 | c3872 | c3872 | c3872 | c3872 | c3872 | c3872 | c3872 | c3872 | c3872 | c3872 | c3872 | c3872 | c3872 | c3872 | c3872 | c3872 | c3872 | c3872 | c3872 | c3872 | c3872 | c3872 | c3872 | c3872 | c3872 | c3872 | c3872 | c3872 | c3872 | c3872 | c3872 | c3872 | c3872 | c3872 | c3872 | c3872 | c3872 | c3872 | c3872 | c3872 | c3872 | c3872 | c3872 | c3872 | c3872 | c3872 | c3872
    · refine wl_of hX hb cL_40 (rw_tsw (p1 := 256) ⟨by omega, by omega⟩ (by rw [c3872]; decide) ?_)
      exact cases 256 (by decide) (by omega)
    · refine wl_of hX hb cL_40 (rw_tsw (p1 := 329) ⟨by omega, by omega⟩ (by rw [c3872]; decide) ?_)
      exact cases 329 (by decide) (by omega)
    · refine wl_of hX hb cL_40 (rw_tsw (p1 := 354) ⟨by omega, by omega⟩ (by rw [c3872]; decide) ?_)
      exact cases 354 (by decide) (by omega)
    · refine wl_of hX hb cL_40 (rw_tsw (p1 := 367) ⟨by omega, by omega⟩ (by rw [c3872]; decide) ?_)
      exact cases 367 (by decide) (by omega)
    · refine wl_of hX hb cL_40 (rw_tsw (p1 := 380) ⟨by omega, by omega⟩ (by rw [c3872]; decide) ?_)
      exact cases 380 (by decide) (by omega)
    · refine wl_of hX hb cL_40 (rw_tsw (p1 := 405) ⟨by omega, by omega⟩ (by rw [c3872]; decide) ?_)
      exact cases 405 (by decide) (by omega)
    · refine wl_of hX hb cL_40 (rw_tsw (p1 := 454) ⟨by omega, by omega⟩ (by rw [c3872]; decide) ?_)
      exact cases 454 (by decide) (by omega)
    · refine wl_of hX hb cL_40 (rw_tsw (p1 := 503) ⟨by omega, by omega⟩ (by rw [c3872]; decide) ?_)
      exact cases 503 (by decide) (by omega)
    · refine wl_of hX hb cL_40 (rw_tsw (p1 := 516) ⟨by omega, by omega⟩ (by rw [c3872]; decide) ?_)
      exact cases 516 (by decide) (by omega)
    · refine wl_of hX hb cL_40 (rw_tsw (p1 := 553) ⟨by omega, by omega⟩ (by rw [c3872]; decide) ?_)
      exact cases 553 (by decide) (by omega)
    · refine wl_of hX hb cL_40 (rw_tsw (p1 := 578) ⟨by omega, by omega⟩ (by rw [c3872]; decide) ?_)
      exact cases 578 (by decide) (by omega)
    · refine wl_of hX hb cL_40 (rw_tsw (p1 := 603) ⟨by omega, by omega⟩ (by rw [c3872]; decide) ?_)
      exact cases 603 (by decide) (by omega)
    · refine wl_of hX hb cL_40 (rw_tsw (p1 := 616) ⟨by omega, by omega⟩ (by rw [c3872]; decide) ?_)
      exact cases 616 (by decide) (by omega)
    · refine wl_of hX hb cL_40 (rw_tsw (p1 := 629) ⟨by omega, by omega⟩ (by rw [c3872]; decide) ?_)
      exact cases 629 (by decide) (by omega)
    · refine wl_of hX hb cL_40 (rw_tsw (p1 := 642) ⟨by omega, by omega⟩ (by rw [c3872]; decide) ?_)
      exact cases 642 (by decide) (by omega)
    · refine wl_of hX hb cL_40 (rw_tsw (p1 := 655) ⟨by omega, by omega⟩ (by rw [c3872]; decide) ?_)
      exact cases 655 (by decide) (by omega)
    · refine wl_of hX hb cL_40 (rw_tsw (p1 := 668) ⟨by omega, by omega⟩ (by rw [c3872]; decide) ?_)
      exact cases 668 (by decide) (by omega)
    · refine wl_of hX hb cL_40 (rw_tsw (p1 := 705) ⟨by omega, by omega⟩ (by rw [c3872]; decide) ?_)
      exact cases 705 (by decide) (by omega)
    · refine wl_of hX hb cL_40 (rw_tsw (p1 := 718) ⟨by omega, by omega⟩ (by rw [c3872]; decide) ?_)
      exact cases 718 (by decide) (by omega)
    · refine wl_of hX hb cL_40 (rw_tsw (p1 := 755) ⟨by omega, by omega⟩ (by rw [c3872]; decide) ?_)
      exact cases 755 (by decide) (by omega)
    · refine wl_of hX hb cL_40 (rw_tsw (p1 := 792) ⟨by omega, by omega⟩ (by rw [c3872]; decide) ?_)
      exact cases 792 (by decide) (by omega)
    · refine wl_of hX hb cL_40 (rw_tsw (p1 := 829) ⟨by omega, by omega⟩ (by rw [c3872]; decide) ?_)
      exact cases 829 (by decide) (by omega)
    · refine wl_of hX hb cL_40 (rw_tsw (p1 := 882) ⟨by omega, by omega⟩ (by rw [c3872]; decide) ?_)
      exact cases 882 (by decide) (by omega)
    · refine wl_of hX hb cL_40 (rw_tsw (p1 := 919) ⟨by omega, by omega⟩ (by rw [c3872]; decide) ?_)
      exact cases 919 (by decide) (by omega)
    · refine wl_of hX hb cL_40 (rw_tsw (p1 := 944) ⟨by omega, by omega⟩ (by rw [c3872]; decide) ?_)
      exact cases 944 (by decide) (by omega)
    · refine wl_of hX hb cL_40 (rw_tsw (p1 := 957) ⟨by omega, by omega⟩ (by rw [c3872]; decide) ?_)
      exact cases 957 (by decide) (by omega)
    · refine wl_of hX hb cL_40 (rw_tsw (p1 := 994) ⟨by omega, by omega⟩ (by rw [c3872]; decide) ?_)
      exact cases 994 (by decide) (by omega)
    · refine wl_of hX hb cL_40 (rw_tsw (p1 := 1019) ⟨by omega, by omega⟩ (by rw [c3872]; decide) ?_)
      exact cases 1019 (by decide) (by omega)
    · refine wl_of hX hb cL_40 (rw_tsw (p1 := 1056) ⟨by omega, by omega⟩ (by rw [c3872]; decide) ?_)
      exact cases 1056 (by decide) (by omega)
    · refine wl_of hX hb cL_40 (rw_tsw (p1 := 1109) ⟨by omega, by omega⟩ (by rw [c3872]; decide) ?_)
      exact cases 1109 (by decide) (by omega)
    · refine wl_of hX hb cL_40 (rw_tsw (p1 := 1162) ⟨by omega, by omega⟩ (by rw [c3872]; decide) ?_)
      exact cases 1162 (by decide) (by omega)
    · refine wl_of hX hb cL_40 (rw_tsw (p1 := 1175) ⟨by omega, by omega⟩ (by rw [c3872]; decide) ?_)
      exact cases 1175 (by decide) (by omega)
    · refine wl_of hX hb cL_40 (rw_tsw (p1 := 1200) ⟨by omega, by omega⟩ (by rw [c3872]; decide) ?_)
      exact cases 1200 (by decide) (by omega)
    · refine wl_of hX hb cL_40 (rw_tsw (p1 := 1225) ⟨by omega, by omega⟩ (by rw [c3872]; decide) ?_)
      exact cases 1225 (by decide) (by omega)
    · refine wl_of hX hb cL_40 (rw_tsw (p1 := 1250) ⟨by omega, by omega⟩ (by rw [c3872]; decide) ?_)
      exact cases 1250 (by decide) (by omega)
    · refine wl_of hX hb cL_40 (rw_tsw (p1 := 1263) ⟨by omega, by omega⟩ (by rw [c3872]; decide) ?_)
      exact cases 1263 (by decide) (by omega)
    · refine wl_of hX hb cL_40 (rw_tsw (p1 := 1316) ⟨by omega, by omega⟩ (by rw [c3872]; decide) ?_)
      exact cases 1316 (by decide) (by omega)
    · refine wl_of hX hb cL_40 (rw_tsw (p1 := 1329) ⟨by omega, by omega⟩ (by rw [c3872]; decide) ?_)
      exact cases 1329 (by decide) (by omega)
    · refine wl_of hX hb cL_40 (rw_tsw (p1 := 1342) ⟨by omega, by omega⟩ (by rw [c3872]; decide) ?_)
      exact cases 1342 (by decide) (by omega)
    · refine wl_of hX hb cL_40 (rw_tsw (p1 := 1367) ⟨by omega, by omega⟩ (by rw [c3872]; decide) ?_)
      exact cases 1367 (by decide) (by omega)
    · refine wl_of hX hb cL_40 (rw_tsw (p1 := 1404) ⟨by omega, by omega⟩ (by rw [c3872]; decide) ?_)
      exact cases 1404 (by decide) (by omega)
    · refine wl_of hX hb cL_40 (rw_tsw (p1 := 1429) ⟨by omega, by omega⟩ (by rw [c3872]; decide) ?_)
      exact cases 1429 (by decide) (by omega)
    · refine wl_of hX hb cL_40 (rw_tsw (p1 := 1454) ⟨by omega, by omega⟩ (by rw [c3872]; decide) ?_)
      exact cases 1454 (by decide) (by omega)
    · refine wl_of hX hb cL_40 (rw_tsw (p1 := 1467) ⟨by omega, by omega⟩ (by rw [c3872]; decide) ?_)
      exact cases 1467 (by decide) (by omega)
    · refine wl_of hX hb cL_40 (rw_tsw (p1 := 1504) ⟨by omega, by omega⟩ (by rw [c3872]; decide) ?_)
      exact cases 1504 (by decide) (by omega)
    · refine wl_of hX hb cL_40 (rw_tsw (p1 := 1517) ⟨by omega, by omega⟩ (by rw [c3872]; decide) ?_)
      exact cases 1517 (by decide) (by omega)
    · refine wl_of hX hb cL_40 (rw_tsw (p1 := 1530) ⟨by omega, by omega⟩ (by rw [c3872]; decide) ?_)
      exact cases 1530 (by decide) (by omega)
    · refine wl_of hX hb cL_40 (rw_tsw (p1 := 1587) ⟨by omega, by omega⟩ (by rw [c3872]; decide) ?_)
      exact cases 1587 (by decide) (by omega)
    · refine wl_of hX hb cL_40 (rw_tsw (p1 := 1643) ⟨by omega, by omega⟩ (by rw [c3872]; decide) ?_)
      exact cases 1643 (by decide) (by omega)
    · refine wl_of hX hb cL_40 (rw_tsw (p1 := 1668) ⟨by omega, by omega⟩ (by rw [c3872]; decide) ?_)
      exact cases 1668 (by decide) (by omega)
    · refine wl_of hX hb cL_40 (rw_tsw (p1 := 1681) ⟨by omega, by omega⟩ (by rw [if_pos c3872]; decide) ?_)
      exact next (by omega)
theorem wl_back {kt : Nat → Option mc_E} {CB SB : Nat} {X : mc_S → Prop} {T : wq_T} {H : wq_H} {Len x m o : Nat} {i : Int} (hX : wlX kt CB SB X) (hb : T.2.1 ≤ CB ∧ T.2.2.1 ≤ SB) (hI : wlJ Len x m o T H) (hL : Len ≤ 3072) (hi : 0 ≤ i ∧ i + 6 ≤ Len) (next : WL kt CB SB X 23 (wlL (i + 6) x m o) [] T H) : WL kt CB SB X 1681 (wlL i x m o) [] T H := by
  obtain ⟨⟨hW, g0, gx, gm, go, hK, hr⟩, hXI, hY1, hY2⟩ := hI
  refine wl_of hX hb cL_1681 (rw_iinc (pc' := 1684) (z := i) (L' := [(4, vI (i + 6)), (3, .ref o), (2, .ref m), (1, .ref x), (0, .ref 0)]) rfl rfl rfl rfl ?_)
  refine wl_of hX hb cL_1684 (rw_goto (p1 := 23) (by decide) ?_)
  exact next
/-- the call that may throw, as the loop wants it -/
def wlLed (kt : Nat → Option mc_E) (CB SB : Nat) (X : mc_S → Prop) (Len x m o : Nat) : Prop := ∀ (T : wq_T) (H : wq_H) (i z : Int), T.2.1 + 20 ≤ CB ∧ T.2.2.1 + 500 ≤ SB → wI z → wlJ Len x m o T H → (∀ (z' : Int), wI z' → ∀ (T' : wq_T) (H' : wq_H), wlJ Len x m o T' H' → T'.2.1 ≤ T.2.1 + 20 → T'.2.2.1 ≤ T.2.2.1 + 500 → wlE H H' x o z z' → WL kt CB SB X 1598 (wlL i x m o) [vI z'] T' H') → WL kt CB SB X 1595 (wlL i x m o) [.ref o, vI z, .ref x] T H
set_option maxRecDepth 40000 in
theorem wl_loopL {kt : Nat → Option mc_E} {CB SB : Nat} {X : mc_S → Prop} {Len x m o : Nat} (hX : wlX kt CB SB X) (hL : Len ≤ 3072) (hled : wlLed kt CB SB X Len x m o) : ∀ (n : Nat) (T : wq_T) (H : wq_H) (i : Int), 0 ≤ i ∧ i ≤ Len → (Len - i).toNat = n → T.2.1 + 4 * (n + 6) ≤ CB → T.2.2.1 + 100 * (n + 6) ≤ SB → wlJ Len x m o T H → WL kt CB SB X 23 (wlL i x m o) [] T H := by
  intro n
  induction n using Nat.strongRecOn with
  | _ n ih =>
    intro T H i hi hn hc hs hI
    have hb : T.2.1 ≤ CB ∧ T.2.2.1 ≤ SB := ⟨by omega, by omega⟩
    have hb2 : T.2.1 + 20 ≤ CB ∧ T.2.2.1 + 500 ≤ SB := ⟨by omega, by omega⟩
    refine wl_head hX hb hI hL hi (fun t ht h6 => ?_) (fun h6 => wl_back hX hb hI hL ⟨hi.1, h6⟩ (ih (Len - (i + 6)).toNat (by omega) T H (i + 6) ⟨by omega, by omega⟩ rfl (by omega) (by omega) hI))
    have next : ∀ T' H', wlJ Len x m o T' H' → T'.2.1 ≤ T.2.1 + 20 → T'.2.2.1 ≤ T.2.2.1 + 500 → WL kt CB SB X 1681 (wlL i x m o) [] T' H' := fun T' H' hI' h1 h2 => wl_back hX ⟨by omega, by omega⟩ hI' hL ⟨hi.1, h6⟩ (ih (Len - (i + 6)).toNat (by omega) T' H' (i + 6) ⟨by omega, by omega⟩ rfl (by omega) (by omega) hI')
    rcases List.mem_cons.mp ht with rfl | ht
    · exact wl_c0 hX hb hI hL ⟨hi.1, h6⟩ hb2 next
    rcases List.mem_cons.mp ht with rfl | ht
    · exact wl_c1 hX hb hI hL ⟨hi.1, h6⟩ hb2 next
    rcases List.mem_cons.mp ht with rfl | ht
    · exact wl_c2 hX hb hI hL ⟨hi.1, h6⟩ hb2 next
    rcases List.mem_cons.mp ht with rfl | ht
    · exact wl_c3 hX hb hI hL ⟨hi.1, h6⟩ hb2 next
    rcases List.mem_cons.mp ht with rfl | ht
    · exact wl_c4 hX hb hI hL ⟨hi.1, h6⟩ hb2 next
    rcases List.mem_cons.mp ht with rfl | ht
    · exact wl_c5 hX hb hI hL ⟨hi.1, h6⟩ hb2 next
    rcases List.mem_cons.mp ht with rfl | ht
    · exact wl_c6 hX hb hI hL ⟨hi.1, h6⟩ hb2 next
    rcases List.mem_cons.mp ht with rfl | ht
    · exact wl_c7 hX hb hI hL ⟨hi.1, h6⟩ hb2 next
    rcases List.mem_cons.mp ht with rfl | ht
    · exact wl_c8 hX hb hI hL ⟨hi.1, h6⟩ hb2 next
    rcases List.mem_cons.mp ht with rfl | ht
    · exact wl_c9 hX hb hI hL ⟨hi.1, h6⟩ hb2 next
    rcases List.mem_cons.mp ht with rfl | ht
    · exact wl_c10 hX hb hI hL ⟨hi.1, h6⟩ hb2 next
    rcases List.mem_cons.mp ht with rfl | ht
    · exact wl_c11 hX hb hI hL ⟨hi.1, h6⟩ hb2 next
    rcases List.mem_cons.mp ht with rfl | ht
    · exact wl_c12 hX hb hI hL ⟨hi.1, h6⟩ hb2 next
    rcases List.mem_cons.mp ht with rfl | ht
    · exact wl_c13 hX hb hI hL ⟨hi.1, h6⟩ hb2 next
    rcases List.mem_cons.mp ht with rfl | ht
    · exact wl_c14 hX hb hI hL ⟨hi.1, h6⟩ hb2 next
    rcases List.mem_cons.mp ht with rfl | ht
    · exact wl_c15 hX hb hI hL ⟨hi.1, h6⟩ hb2 next
    rcases List.mem_cons.mp ht with rfl | ht
    · exact wl_c16 hX hb hI hL ⟨hi.1, h6⟩ hb2 next
    rcases List.mem_cons.mp ht with rfl | ht
    · exact wl_c17 hX hb hI hL ⟨hi.1, h6⟩ hb2 next
    rcases List.mem_cons.mp ht with rfl | ht
    · exact wl_c18 hX hb hI hL ⟨hi.1, h6⟩ hb2 next
    rcases List.mem_cons.mp ht with rfl | ht
    · exact wl_c19 hX hb hI hL ⟨hi.1, h6⟩ hb2 next
    rcases List.mem_cons.mp ht with rfl | ht
    · exact wl_c20 hX hb hI hL ⟨hi.1, h6⟩ hb2 next
    rcases List.mem_cons.mp ht with rfl | ht
    · exact wl_c21 hX hb hI hL ⟨hi.1, h6⟩ hb2 next
    rcases List.mem_cons.mp ht with rfl | ht
    · exact wl_c22 hX hb hI hL ⟨hi.1, h6⟩ hb2 next
    rcases List.mem_cons.mp ht with rfl | ht
    · exact wl_c23 hX hb hI hL ⟨hi.1, h6⟩ hb2 next
    rcases List.mem_cons.mp ht with rfl | ht
    · exact wl_c24 hX hb hI hL ⟨hi.1, h6⟩ hb2 next
    rcases List.mem_cons.mp ht with rfl | ht
    · exact wl_c25 hX hb hI hL ⟨hi.1, h6⟩ hb2 next
    rcases List.mem_cons.mp ht with rfl | ht
    · exact wl_c26 hX hb hI hL ⟨hi.1, h6⟩ hb2 next
    rcases List.mem_cons.mp ht with rfl | ht
    · exact wl_c27 hX hb hI hL ⟨hi.1, h6⟩ hb2 next
    rcases List.mem_cons.mp ht with rfl | ht
    · exact wl_c28 hX hb hI hL ⟨hi.1, h6⟩ hb2 next
    rcases List.mem_cons.mp ht with rfl | ht
    · exact wl_c29 hX hb hI hL ⟨hi.1, h6⟩ hb2 next
    rcases List.mem_cons.mp ht with rfl | ht
    · exact wl_c30 hX hb hI hL ⟨hi.1, h6⟩ hb2 next
    rcases List.mem_cons.mp ht with rfl | ht
    · exact wl_c31 hX hb hI hL ⟨hi.1, h6⟩ hb2 next
    rcases List.mem_cons.mp ht with rfl | ht
    · exact wl_c32 hX hb hI hL ⟨hi.1, h6⟩ hb2 next
    rcases List.mem_cons.mp ht with rfl | ht
    · exact wl_c33 hX hb hI hL ⟨hi.1, h6⟩ hb2 next
    rcases List.mem_cons.mp ht with rfl | ht
    · exact wl_c34 hX hb hI hL ⟨hi.1, h6⟩ hb2 next
    rcases List.mem_cons.mp ht with rfl | ht
    · exact wl_c35 hX hb hI hL ⟨hi.1, h6⟩ hb2 next
    rcases List.mem_cons.mp ht with rfl | ht
    · exact wl_c36 hX hb hI hL ⟨hi.1, h6⟩ hb2 next
    rcases List.mem_cons.mp ht with rfl | ht
    · exact wl_c37 hX hb hI hL ⟨hi.1, h6⟩ hb2 next
    rcases List.mem_cons.mp ht with rfl | ht
    · exact wl_c38 hX hb hI hL ⟨hi.1, h6⟩ hb2 next
    rcases List.mem_cons.mp ht with rfl | ht
    · exact wl_c39 hX hb hI hL ⟨hi.1, h6⟩ hb2 next
    rcases List.mem_cons.mp ht with rfl | ht
    · exact wl_c40 hX hb hI hL ⟨hi.1, h6⟩ hb2 next
    rcases List.mem_cons.mp ht with rfl | ht
    · exact wl_c41 hX hb hI hL ⟨hi.1, h6⟩ hb2 next
    rcases List.mem_cons.mp ht with rfl | ht
    · exact wl_c42 hX hb hI hL ⟨hi.1, h6⟩ hb2 next
    rcases List.mem_cons.mp ht with rfl | ht
    · exact wl_c43 hX hb hI hL ⟨hi.1, h6⟩ hb2 next
    rcases List.mem_cons.mp ht with rfl | ht
    · exact wl_c44 hX hb hI hL ⟨hi.1, h6⟩ hb2 next
    rcases List.mem_cons.mp ht with rfl | ht
    · exact wl_c45 hX hb hI hL ⟨hi.1, h6⟩ hb2 next
    rcases List.mem_cons.mp ht with rfl | ht
    · exact wl_c46 hX hb hI hL ⟨hi.1, h6⟩ hb2 next
    rcases List.mem_cons.mp ht with rfl | ht
    · exact wl_c47 hX hb hI hL ⟨hi.1, h6⟩ hb2 (fun hz _ hI2 k => hled T H i _ hb2 hz hI2 k) next
    rcases List.mem_cons.mp ht with rfl | ht
    · exact wl_c48 hX hb hI hL ⟨hi.1, h6⟩ hb2 next
    rcases List.mem_cons.mp ht with rfl | ht
    · exact wl_c49 hX hb hI hL ⟨hi.1, h6⟩ hb2 next
    cases ht
