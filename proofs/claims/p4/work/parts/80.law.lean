/-! THE LAW'S LOOP OVER PURE MEMORY (own work): X is any property of states that one instruction carries backwards; WL: from this place on it is good -/
def wlX (kt : Nat → Option mc_E) (CB SB : Nat) (X : mc_S → Prop) : Prop :=
  (∀ (F : Nat) (x : Instr) (n : Nat) (S0 S : mc_S), mc_lawcd S0.1 = some (x, n) → mc_step kt (mc_call kt F 11) 11 7 false (some .boolean) x n S0 = some (.inl S) → S.2.2.2.length ≤ CB ∧ mc_sz S.2.2.2 ≤ SB → X S → X S0) ∧
  (∀ (pc : Nat) (L L' : List (Nat × Value)) (st : List Value) (M : mc_M), (∀ q ∈ L, q ∈ L') → X (pc, L, st, M) → X (pc, L', st, M)) ∧
  ∀ (L : List (Nat × Value)) (M : mc_M), M.length ≤ CB → mc_sz M ≤ SB → X (1660, L, [.int 1], M)
theorem wmem_s {l : List (Nat × Nat)} {n j : Nat} (h : l.all (fun q => decide (q.1 < 1000)) = true) : wmem l (1000 + n) j = false := wmem_no (fun q hq hh => by
  have h1 := of_decide_eq_true (List.all_eq_true.mp h q hq)
  have h2 := hh.1
  omega)
def WL (kt : Nat → Option mc_E) (CB SB : Nat) (X : mc_S → Prop) (pc : Nat) (L : List (Nat × Value)) (st : List Value) (T : wq_T) (H : wq_H) : Prop := (T.2.1 ≤ CB ∧ T.2.2.1 ≤ SB) ∧ ∀ M, wq_R kt M T H → X (pc, L, st, M)
theorem wl_of {kt : Nat → Option mc_E} {CB SB : Nat} {X : mc_S → Prop} (hX : wlX kt CB SB X) {pc : Nat} {L : List (Nat × Value)} {st : List Value} {T : wq_T} {H : wq_H} (hb : T.2.1 ≤ CB ∧ T.2.2.1 ≤ SB) {x : Instr} {n : Nat} (hd : mc_lawcd pc = some (x, n)) (h : wq_s kt 11 (11, 7, false, some .boolean) x n pc L st T H (WL kt CB SB X)) : WL kt CB SB X pc L st T H := ⟨hb, fun M hM => by
  obtain ⟨F, pc', L', st', M', T', H', h1, h2, h3⟩ := h M hM
  have hl := h2.1
  have hz := h2.2.1
  have hb' := h3.1
  exact hX.1 F x n (pc, L, st, M) (pc', L', st', M') hd h1 ⟨by show M'.length ≤ CB; omega, by show mc_sz M' ≤ SB; omega⟩ (h3.2 M' h2)⟩
theorem WL.loc {kt : Nat → Option mc_E} {CB SB : Nat} {X : mc_S → Prop} (hX : wlX kt CB SB X) {pc : Nat} {L L' : List (Nat × Value)} {st : List Value} {T : wq_T} {H : wq_H} (hq : ∀ q ∈ L, q ∈ L') (h : WL kt CB SB X pc L st T H) : WL kt CB SB X pc L' st T H := ⟨h.1, fun M hM => hX.2.1 pc L L' st M hq (h.2 M hM)⟩
theorem WL.fin {kt : Nat → Option mc_E} {CB SB : Nat} {X : mc_S → Prop} (hX : wlX kt CB SB X) {L : List (Nat × Value)} {T : wq_T} {H : wq_H} (hb : T.2.1 ≤ CB ∧ T.2.2.1 ≤ SB) : WL kt CB SB X 1660 L [vI 1] T H := ⟨hb, fun M hM => hX.2.2 L M (by have := hM.1; omega) (by have := hM.2.1; omega)⟩
/-- what holds at the head of the law's loop -/
def wlI (Len x m o : Nat) (T : wq_T) (H : wq_H) : Prop := WT T H ∧ T.2.2.2 0 = some (1000 + Len) ∧ T.2.2.2 x = some 1 ∧ T.2.2.2 m = some 42 ∧ T.2.2.2 o = some 73 ∧ wKI H m = 1 ∧ H x 9 = H m 6
abbrev wlL (i : Int) (x m o : Nat) : List (Nat × Value) := [(4, vI i), (3, .ref o), (2, .ref m), (1, .ref x), (0, .ref 0)]
/-- and what the two have in common: THE TAPE; two PARISHES with six persons each; the FAULT's number; whether there is a PARISH -/
def wlJ (Len x m o : Nat) (T : wq_T) (H : wq_H) : Prop := wlI Len x m o T H ∧ XI T H x m ∧ H x 11 = H m 13 ∧ ((H x 8 = 0 ∧ H m 3 = -1) ∨ (H x 8 = 1 ∧ H m 3 ≠ -1))

theorem cL_20 : mc_lawcd 20 = some (.iconst 0, 1) := by decide +kernel
theorem cL_21 : mc_lawcd 21 = some (.istore 4, 2) := by decide +kernel
theorem cL_23 : mc_lawcd 23 = some (.iload 4, 2) := by decide +kernel
theorem cL_25 : mc_lawcd 25 = some (.aload_n 0, 1) := by decide +kernel
theorem cL_26 : mc_lawcd 26 = some (.arraylength, 1) := by decide +kernel
theorem cL_27 : mc_lawcd 27 = some (.bipush 6, 2) := by decide +kernel
theorem cL_29 : mc_lawcd 29 = some (.isub, 1) := by decide +kernel
theorem cL_30 : mc_lawcd 30 = some (.if_icmp .gt 1629, 3) := by decide +kernel
theorem cL_33 : mc_lawcd 33 = some (.aload_n 0, 1) := by decide +kernel
theorem cL_34 : mc_lawcd 34 = some (.iload 4, 2) := by decide +kernel
theorem cL_36 : mc_lawcd 36 = some (.iaload, 1) := by decide +kernel
theorem cL_37 : mc_lawcd 37 = some (.bipush 63, 2) := by decide +kernel
theorem cL_39 : mc_lawcd 39 = some (.iand, 1) := by decide +kernel
theorem cL_40 : mc_lawcd 40 = some (.tableswitch 1613 0 49 #[216, 289, 314, 327, 340, 365, 414, 463, 476, 513, 538, 563, 576, 589, 602, 615, 628, 665, 678, 715, 752, 789, 842, 879, 904, 917, 954, 979, 1016, 1069, 1122, 1135, 1160, 1185, 1210, 1223, 1276, 1289, 1302, 1327, 1364, 1389, 1414, 1427, 1464, 1477, 1490, 1547, 1575, 1600], 216) := by decide +kernel
theorem cL_256 : mc_lawcd 256 = some (.aload_n 1, 1) := by decide +kernel
theorem cL_257 : mc_lawcd 257 = some (.aload_n 0, 1) := by decide +kernel
theorem cL_258 : mc_lawcd 258 = some (.iload 4, 2) := by decide +kernel
theorem cL_260 : mc_lawcd 260 = some (.iconst 1, 1) := by decide +kernel
theorem cL_261 : mc_lawcd 261 = some (.iadd, 1) := by decide +kernel
theorem cL_262 : mc_lawcd 262 = some (.iaload, 1) := by decide +kernel
theorem cL_263 : mc_lawcd 263 = some (.aload_n 0, 1) := by decide +kernel
theorem cL_264 : mc_lawcd 264 = some (.iload 4, 2) := by decide +kernel
theorem cL_266 : mc_lawcd 266 = some (.iconst 2, 1) := by decide +kernel
theorem cL_267 : mc_lawcd 267 = some (.iadd, 1) := by decide +kernel
theorem cL_268 : mc_lawcd 268 = some (.iaload, 1) := by decide +kernel
theorem cL_269 : mc_lawcd 269 = some (.aload_n 0, 1) := by decide +kernel
theorem cL_270 : mc_lawcd 270 = some (.iload 4, 2) := by decide +kernel
theorem cL_272 : mc_lawcd 272 = some (.iconst 3, 1) := by decide +kernel
theorem cL_273 : mc_lawcd 273 = some (.iadd, 1) := by decide +kernel
theorem cL_274 : mc_lawcd 274 = some (.iaload, 1) := by decide +kernel
theorem cL_275 : mc_lawcd 275 = some (.aload_n 0, 1) := by decide +kernel
theorem cL_276 : mc_lawcd 276 = some (.iload 4, 2) := by decide +kernel
theorem cL_278 : mc_lawcd 278 = some (.iconst 4, 1) := by decide +kernel
theorem cL_279 : mc_lawcd 279 = some (.iadd, 1) := by decide +kernel
theorem cL_280 : mc_lawcd 280 = some (.iaload, 1) := by decide +kernel
theorem cL_281 : mc_lawcd 281 = some (.aload_n 0, 1) := by decide +kernel
theorem cL_282 : mc_lawcd 282 = some (.iload 4, 2) := by decide +kernel
theorem cL_284 : mc_lawcd 284 = some (.iconst 5, 1) := by decide +kernel
theorem cL_285 : mc_lawcd 285 = some (.iadd, 1) := by decide +kernel
theorem cL_286 : mc_lawcd 286 = some (.iaload, 1) := by decide +kernel
theorem cL_287 : mc_lawcd 287 = some (.invokevirtual 19, 3) := by decide +kernel
theorem cL_290 : mc_lawcd 290 = some (.pop, 1) := by decide +kernel
theorem cL_291 : mc_lawcd 291 = some (.aload_n 2, 1) := by decide +kernel
theorem cL_292 : mc_lawcd 292 = some (.aload_n 0, 1) := by decide +kernel
theorem cL_293 : mc_lawcd 293 = some (.iload 4, 2) := by decide +kernel
theorem cL_295 : mc_lawcd 295 = some (.iconst 1, 1) := by decide +kernel
theorem cL_296 : mc_lawcd 296 = some (.iadd, 1) := by decide +kernel
theorem cL_297 : mc_lawcd 297 = some (.iaload, 1) := by decide +kernel
theorem cL_298 : mc_lawcd 298 = some (.aload_n 0, 1) := by decide +kernel
theorem cL_299 : mc_lawcd 299 = some (.iload 4, 2) := by decide +kernel
theorem cL_301 : mc_lawcd 301 = some (.iconst 2, 1) := by decide +kernel
theorem cL_302 : mc_lawcd 302 = some (.iadd, 1) := by decide +kernel
theorem cL_303 : mc_lawcd 303 = some (.iaload, 1) := by decide +kernel
theorem cL_304 : mc_lawcd 304 = some (.aload_n 0, 1) := by decide +kernel
theorem cL_305 : mc_lawcd 305 = some (.iload 4, 2) := by decide +kernel
theorem cL_307 : mc_lawcd 307 = some (.iconst 3, 1) := by decide +kernel
theorem cL_308 : mc_lawcd 308 = some (.iadd, 1) := by decide +kernel
theorem cL_309 : mc_lawcd 309 = some (.iaload, 1) := by decide +kernel
theorem cL_310 : mc_lawcd 310 = some (.aload_n 0, 1) := by decide +kernel
theorem cL_311 : mc_lawcd 311 = some (.iload 4, 2) := by decide +kernel
theorem cL_313 : mc_lawcd 313 = some (.iconst 4, 1) := by decide +kernel
theorem cL_314 : mc_lawcd 314 = some (.iadd, 1) := by decide +kernel
theorem cL_315 : mc_lawcd 315 = some (.iaload, 1) := by decide +kernel
theorem cL_316 : mc_lawcd 316 = some (.aload_n 0, 1) := by decide +kernel
theorem cL_317 : mc_lawcd 317 = some (.iload 4, 2) := by decide +kernel
theorem cL_319 : mc_lawcd 319 = some (.iconst 5, 1) := by decide +kernel
theorem cL_320 : mc_lawcd 320 = some (.iadd, 1) := by decide +kernel
theorem cL_321 : mc_lawcd 321 = some (.iaload, 1) := by decide +kernel
theorem cL_322 : mc_lawcd 322 = some (.invokevirtual 23, 3) := by decide +kernel
theorem cL_325 : mc_lawcd 325 = some (.pop, 1) := by decide +kernel
theorem cL_326 : mc_lawcd 326 = some (.goto 1327, 3) := by decide +kernel
theorem cL_329 : mc_lawcd 329 = some (.aload_n 1, 1) := by decide +kernel
theorem cL_330 : mc_lawcd 330 = some (.aload_n 0, 1) := by decide +kernel
theorem cL_331 : mc_lawcd 331 = some (.iload 4, 2) := by decide +kernel
theorem cL_333 : mc_lawcd 333 = some (.iconst 1, 1) := by decide +kernel
theorem cL_334 : mc_lawcd 334 = some (.iadd, 1) := by decide +kernel
theorem cL_335 : mc_lawcd 335 = some (.iaload, 1) := by decide +kernel
theorem cL_336 : mc_lawcd 336 = some (.invokevirtual 24, 3) := by decide +kernel
theorem cL_339 : mc_lawcd 339 = some (.pop, 1) := by decide +kernel
theorem cL_340 : mc_lawcd 340 = some (.aload_n 2, 1) := by decide +kernel
theorem cL_341 : mc_lawcd 341 = some (.aload_n 0, 1) := by decide +kernel
theorem cL_342 : mc_lawcd 342 = some (.iload 4, 2) := by decide +kernel
theorem cL_344 : mc_lawcd 344 = some (.iconst 1, 1) := by decide +kernel
theorem cL_345 : mc_lawcd 345 = some (.iadd, 1) := by decide +kernel
theorem cL_346 : mc_lawcd 346 = some (.iaload, 1) := by decide +kernel
theorem cL_347 : mc_lawcd 347 = some (.invokevirtual 27, 3) := by decide +kernel
theorem cL_350 : mc_lawcd 350 = some (.pop, 1) := by decide +kernel
theorem cL_351 : mc_lawcd 351 = some (.goto 1302, 3) := by decide +kernel
theorem cL_354 : mc_lawcd 354 = some (.aload_n 1, 1) := by decide +kernel
theorem cL_355 : mc_lawcd 355 = some (.invokevirtual 28, 3) := by decide +kernel
theorem cL_358 : mc_lawcd 358 = some (.aload_n 2, 1) := by decide +kernel
theorem cL_359 : mc_lawcd 359 = some (.invokevirtual 32, 3) := by decide +kernel
theorem cL_362 : mc_lawcd 362 = some (.if_icmp .eq 1291, 3) := by decide +kernel
theorem cL_365 : mc_lawcd 365 = some (.iconst 0, 1) := by decide +kernel
theorem cL_366 : mc_lawcd 366 = some (.ireturn, 1) := by decide +kernel
theorem cL_367 : mc_lawcd 367 = some (.aload_n 1, 1) := by decide +kernel
theorem cL_368 : mc_lawcd 368 = some (.invokevirtual 33, 3) := by decide +kernel
theorem cL_371 : mc_lawcd 371 = some (.pop, 1) := by decide +kernel
theorem cL_372 : mc_lawcd 372 = some (.aload_n 2, 1) := by decide +kernel
theorem cL_373 : mc_lawcd 373 = some (.invokevirtual 36, 3) := by decide +kernel
theorem cL_376 : mc_lawcd 376 = some (.pop, 1) := by decide +kernel
theorem cL_377 : mc_lawcd 377 = some (.goto 1276, 3) := by decide +kernel
theorem cL_380 : mc_lawcd 380 = some (.aload_n 1, 1) := by decide +kernel
theorem cL_381 : mc_lawcd 381 = some (.aload_n 0, 1) := by decide +kernel
theorem cL_382 : mc_lawcd 382 = some (.iload 4, 2) := by decide +kernel
theorem cL_384 : mc_lawcd 384 = some (.iconst 1, 1) := by decide +kernel
theorem cL_385 : mc_lawcd 385 = some (.iadd, 1) := by decide +kernel
theorem cL_386 : mc_lawcd 386 = some (.iaload, 1) := by decide +kernel
theorem cL_387 : mc_lawcd 387 = some (.invokevirtual 37, 3) := by decide +kernel
theorem cL_390 : mc_lawcd 390 = some (.pop, 1) := by decide +kernel
theorem cL_391 : mc_lawcd 391 = some (.aload_n 2, 1) := by decide +kernel
theorem cL_392 : mc_lawcd 392 = some (.aload_n 0, 1) := by decide +kernel
theorem cL_393 : mc_lawcd 393 = some (.iload 4, 2) := by decide +kernel
theorem cL_395 : mc_lawcd 395 = some (.iconst 1, 1) := by decide +kernel
theorem cL_396 : mc_lawcd 396 = some (.iadd, 1) := by decide +kernel
theorem cL_397 : mc_lawcd 397 = some (.iaload, 1) := by decide +kernel
theorem cL_398 : mc_lawcd 398 = some (.invokevirtual 40, 3) := by decide +kernel
theorem cL_401 : mc_lawcd 401 = some (.pop, 1) := by decide +kernel
theorem cL_402 : mc_lawcd 402 = some (.goto 1251, 3) := by decide +kernel
theorem cL_405 : mc_lawcd 405 = some (.aload_n 1, 1) := by decide +kernel
theorem cL_406 : mc_lawcd 406 = some (.aload_n 0, 1) := by decide +kernel
theorem cL_407 : mc_lawcd 407 = some (.iload 4, 2) := by decide +kernel
theorem cL_409 : mc_lawcd 409 = some (.iconst 1, 1) := by decide +kernel
theorem cL_410 : mc_lawcd 410 = some (.iadd, 1) := by decide +kernel
theorem cL_411 : mc_lawcd 411 = some (.iaload, 1) := by decide +kernel
theorem cL_412 : mc_lawcd 412 = some (.aload_n 0, 1) := by decide +kernel
theorem cL_413 : mc_lawcd 413 = some (.iload 4, 2) := by decide +kernel
theorem cL_415 : mc_lawcd 415 = some (.iconst 2, 1) := by decide +kernel
theorem cL_416 : mc_lawcd 416 = some (.iadd, 1) := by decide +kernel
theorem cL_417 : mc_lawcd 417 = some (.iaload, 1) := by decide +kernel
theorem cL_418 : mc_lawcd 418 = some (.aload_n 0, 1) := by decide +kernel
theorem cL_419 : mc_lawcd 419 = some (.iload 4, 2) := by decide +kernel
theorem cL_421 : mc_lawcd 421 = some (.iconst 3, 1) := by decide +kernel
theorem cL_422 : mc_lawcd 422 = some (.iadd, 1) := by decide +kernel
theorem cL_423 : mc_lawcd 423 = some (.iaload, 1) := by decide +kernel
theorem cL_424 : mc_lawcd 424 = some (.invokevirtual 41, 3) := by decide +kernel
theorem cL_427 : mc_lawcd 427 = some (.pop, 1) := by decide +kernel
theorem cL_428 : mc_lawcd 428 = some (.aload_n 2, 1) := by decide +kernel
theorem cL_429 : mc_lawcd 429 = some (.aload_n 0, 1) := by decide +kernel
theorem cL_430 : mc_lawcd 430 = some (.iload 4, 2) := by decide +kernel
theorem cL_432 : mc_lawcd 432 = some (.iconst 1, 1) := by decide +kernel
theorem cL_433 : mc_lawcd 433 = some (.iadd, 1) := by decide +kernel
theorem cL_434 : mc_lawcd 434 = some (.iaload, 1) := by decide +kernel
theorem cL_435 : mc_lawcd 435 = some (.aload_n 0, 1) := by decide +kernel
theorem cL_436 : mc_lawcd 436 = some (.iload 4, 2) := by decide +kernel
theorem cL_438 : mc_lawcd 438 = some (.iconst 2, 1) := by decide +kernel
theorem cL_439 : mc_lawcd 439 = some (.iadd, 1) := by decide +kernel
theorem cL_440 : mc_lawcd 440 = some (.iaload, 1) := by decide +kernel
theorem cL_441 : mc_lawcd 441 = some (.aload_n 0, 1) := by decide +kernel
theorem cL_442 : mc_lawcd 442 = some (.iload 4, 2) := by decide +kernel
theorem cL_444 : mc_lawcd 444 = some (.iconst 3, 1) := by decide +kernel
theorem cL_445 : mc_lawcd 445 = some (.iadd, 1) := by decide +kernel
theorem cL_446 : mc_lawcd 446 = some (.iaload, 1) := by decide +kernel
theorem cL_447 : mc_lawcd 447 = some (.invokevirtual 45, 3) := by decide +kernel
theorem cL_450 : mc_lawcd 450 = some (.pop, 1) := by decide +kernel
theorem cL_451 : mc_lawcd 451 = some (.goto 1202, 3) := by decide +kernel
theorem cL_454 : mc_lawcd 454 = some (.aload_n 1, 1) := by decide +kernel
theorem cL_455 : mc_lawcd 455 = some (.aload_n 0, 1) := by decide +kernel
theorem cL_456 : mc_lawcd 456 = some (.iload 4, 2) := by decide +kernel
theorem cL_458 : mc_lawcd 458 = some (.iconst 1, 1) := by decide +kernel
theorem cL_459 : mc_lawcd 459 = some (.iadd, 1) := by decide +kernel
theorem cL_460 : mc_lawcd 460 = some (.iaload, 1) := by decide +kernel
theorem cL_461 : mc_lawcd 461 = some (.aload_n 0, 1) := by decide +kernel
theorem cL_462 : mc_lawcd 462 = some (.iload 4, 2) := by decide +kernel
theorem cL_464 : mc_lawcd 464 = some (.iconst 2, 1) := by decide +kernel
theorem cL_465 : mc_lawcd 465 = some (.iadd, 1) := by decide +kernel
theorem cL_466 : mc_lawcd 466 = some (.iaload, 1) := by decide +kernel
theorem cL_467 : mc_lawcd 467 = some (.aload_n 0, 1) := by decide +kernel
theorem cL_468 : mc_lawcd 468 = some (.iload 4, 2) := by decide +kernel
theorem cL_470 : mc_lawcd 470 = some (.iconst 3, 1) := by decide +kernel
theorem cL_471 : mc_lawcd 471 = some (.iadd, 1) := by decide +kernel
theorem cL_472 : mc_lawcd 472 = some (.iaload, 1) := by decide +kernel
theorem cL_473 : mc_lawcd 473 = some (.invokevirtual 46, 3) := by decide +kernel
theorem cL_476 : mc_lawcd 476 = some (.pop, 1) := by decide +kernel
theorem cL_477 : mc_lawcd 477 = some (.aload_n 2, 1) := by decide +kernel
theorem cL_478 : mc_lawcd 478 = some (.aload_n 0, 1) := by decide +kernel
theorem cL_479 : mc_lawcd 479 = some (.iload 4, 2) := by decide +kernel
theorem cL_481 : mc_lawcd 481 = some (.iconst 1, 1) := by decide +kernel
theorem cL_482 : mc_lawcd 482 = some (.iadd, 1) := by decide +kernel
theorem cL_483 : mc_lawcd 483 = some (.iaload, 1) := by decide +kernel
theorem cL_484 : mc_lawcd 484 = some (.aload_n 0, 1) := by decide +kernel
theorem cL_485 : mc_lawcd 485 = some (.iload 4, 2) := by decide +kernel
theorem cL_487 : mc_lawcd 487 = some (.iconst 2, 1) := by decide +kernel
theorem cL_488 : mc_lawcd 488 = some (.iadd, 1) := by decide +kernel
theorem cL_489 : mc_lawcd 489 = some (.iaload, 1) := by decide +kernel
theorem cL_490 : mc_lawcd 490 = some (.aload_n 0, 1) := by decide +kernel
theorem cL_491 : mc_lawcd 491 = some (.iload 4, 2) := by decide +kernel
theorem cL_493 : mc_lawcd 493 = some (.iconst 3, 1) := by decide +kernel
theorem cL_494 : mc_lawcd 494 = some (.iadd, 1) := by decide +kernel
theorem cL_495 : mc_lawcd 495 = some (.iaload, 1) := by decide +kernel
theorem cL_496 : mc_lawcd 496 = some (.invokevirtual 49, 3) := by decide +kernel
theorem cL_499 : mc_lawcd 499 = some (.pop, 1) := by decide +kernel
theorem cL_500 : mc_lawcd 500 = some (.goto 1153, 3) := by decide +kernel
theorem cL_503 : mc_lawcd 503 = some (.aload_n 1, 1) := by decide +kernel
theorem cL_504 : mc_lawcd 504 = some (.invokevirtual 50, 3) := by decide +kernel
theorem cL_507 : mc_lawcd 507 = some (.pop2, 1) := by decide +kernel
theorem cL_508 : mc_lawcd 508 = some (.aload_n 2, 1) := by decide +kernel
theorem cL_509 : mc_lawcd 509 = some (.invokevirtual 54, 3) := by decide +kernel
theorem cL_512 : mc_lawcd 512 = some (.pop2, 1) := by decide +kernel
theorem cL_513 : mc_lawcd 513 = some (.goto 1140, 3) := by decide +kernel
theorem cL_516 : mc_lawcd 516 = some (.aload_n 1, 1) := by decide +kernel
theorem cL_517 : mc_lawcd 517 = some (.aload_n 0, 1) := by decide +kernel
theorem cL_518 : mc_lawcd 518 = some (.iload 4, 2) := by decide +kernel
theorem cL_520 : mc_lawcd 520 = some (.iconst 1, 1) := by decide +kernel
theorem cL_521 : mc_lawcd 521 = some (.iadd, 1) := by decide +kernel
theorem cL_522 : mc_lawcd 522 = some (.iaload, 1) := by decide +kernel
theorem cL_523 : mc_lawcd 523 = some (.aload_n 0, 1) := by decide +kernel
theorem cL_524 : mc_lawcd 524 = some (.iload 4, 2) := by decide +kernel
theorem cL_526 : mc_lawcd 526 = some (.iconst 2, 1) := by decide +kernel
theorem cL_527 : mc_lawcd 527 = some (.iadd, 1) := by decide +kernel
theorem cL_528 : mc_lawcd 528 = some (.iaload, 1) := by decide +kernel
theorem cL_529 : mc_lawcd 529 = some (.invokevirtual 55, 3) := by decide +kernel
theorem cL_532 : mc_lawcd 532 = some (.pop, 1) := by decide +kernel
theorem cL_533 : mc_lawcd 533 = some (.aload_n 2, 1) := by decide +kernel
theorem cL_534 : mc_lawcd 534 = some (.aload_n 0, 1) := by decide +kernel
theorem cL_535 : mc_lawcd 535 = some (.iload 4, 2) := by decide +kernel
theorem cL_537 : mc_lawcd 537 = some (.iconst 1, 1) := by decide +kernel
theorem cL_538 : mc_lawcd 538 = some (.iadd, 1) := by decide +kernel
theorem cL_539 : mc_lawcd 539 = some (.iaload, 1) := by decide +kernel
theorem cL_540 : mc_lawcd 540 = some (.aload_n 0, 1) := by decide +kernel
theorem cL_541 : mc_lawcd 541 = some (.iload 4, 2) := by decide +kernel
theorem cL_543 : mc_lawcd 543 = some (.iconst 2, 1) := by decide +kernel
theorem cL_544 : mc_lawcd 544 = some (.iadd, 1) := by decide +kernel
theorem cL_545 : mc_lawcd 545 = some (.iaload, 1) := by decide +kernel
theorem cL_546 : mc_lawcd 546 = some (.invokevirtual 59, 3) := by decide +kernel
theorem cL_549 : mc_lawcd 549 = some (.pop, 1) := by decide +kernel
theorem cL_550 : mc_lawcd 550 = some (.goto 1103, 3) := by decide +kernel
theorem cL_553 : mc_lawcd 553 = some (.aload_n 1, 1) := by decide +kernel
theorem cL_554 : mc_lawcd 554 = some (.aload_n 0, 1) := by decide +kernel
theorem cL_555 : mc_lawcd 555 = some (.iload 4, 2) := by decide +kernel
theorem cL_557 : mc_lawcd 557 = some (.iconst 1, 1) := by decide +kernel
theorem cL_558 : mc_lawcd 558 = some (.iadd, 1) := by decide +kernel
theorem cL_559 : mc_lawcd 559 = some (.iaload, 1) := by decide +kernel
theorem cL_560 : mc_lawcd 560 = some (.invokevirtual 60, 3) := by decide +kernel
theorem cL_563 : mc_lawcd 563 = some (.pop, 1) := by decide +kernel
theorem cL_564 : mc_lawcd 564 = some (.aload_n 2, 1) := by decide +kernel
theorem cL_565 : mc_lawcd 565 = some (.aload_n 0, 1) := by decide +kernel
theorem cL_566 : mc_lawcd 566 = some (.iload 4, 2) := by decide +kernel
theorem cL_568 : mc_lawcd 568 = some (.iconst 1, 1) := by decide +kernel
theorem cL_569 : mc_lawcd 569 = some (.iadd, 1) := by decide +kernel
theorem cL_570 : mc_lawcd 570 = some (.iaload, 1) := by decide +kernel
theorem cL_571 : mc_lawcd 571 = some (.invokevirtual 63, 3) := by decide +kernel
theorem cL_574 : mc_lawcd 574 = some (.pop, 1) := by decide +kernel
theorem cL_575 : mc_lawcd 575 = some (.goto 1078, 3) := by decide +kernel
theorem cL_578 : mc_lawcd 578 = some (.aload_n 1, 1) := by decide +kernel
theorem cL_579 : mc_lawcd 579 = some (.aload_n 0, 1) := by decide +kernel
theorem cL_580 : mc_lawcd 580 = some (.iload 4, 2) := by decide +kernel
theorem cL_582 : mc_lawcd 582 = some (.iconst 1, 1) := by decide +kernel
theorem cL_583 : mc_lawcd 583 = some (.iadd, 1) := by decide +kernel
theorem cL_584 : mc_lawcd 584 = some (.iaload, 1) := by decide +kernel
theorem cL_585 : mc_lawcd 585 = some (.invokevirtual 64, 3) := by decide +kernel
theorem cL_588 : mc_lawcd 588 = some (.pop, 1) := by decide +kernel
theorem cL_589 : mc_lawcd 589 = some (.aload_n 2, 1) := by decide +kernel
theorem cL_590 : mc_lawcd 590 = some (.aload_n 0, 1) := by decide +kernel
theorem cL_591 : mc_lawcd 591 = some (.iload 4, 2) := by decide +kernel
theorem cL_593 : mc_lawcd 593 = some (.iconst 1, 1) := by decide +kernel
theorem cL_594 : mc_lawcd 594 = some (.iadd, 1) := by decide +kernel
theorem cL_595 : mc_lawcd 595 = some (.iaload, 1) := by decide +kernel
theorem cL_596 : mc_lawcd 596 = some (.invokevirtual 67, 3) := by decide +kernel
theorem cL_599 : mc_lawcd 599 = some (.pop, 1) := by decide +kernel
theorem cL_600 : mc_lawcd 600 = some (.goto 1053, 3) := by decide +kernel
theorem cL_603 : mc_lawcd 603 = some (.aload_n 1, 1) := by decide +kernel
theorem cL_604 : mc_lawcd 604 = some (.invokevirtual 68, 3) := by decide +kernel
theorem cL_607 : mc_lawcd 607 = some (.pop, 1) := by decide +kernel
theorem cL_608 : mc_lawcd 608 = some (.aload_n 2, 1) := by decide +kernel
theorem cL_609 : mc_lawcd 609 = some (.invokevirtual 71, 3) := by decide +kernel
theorem cL_612 : mc_lawcd 612 = some (.pop, 1) := by decide +kernel
theorem cL_613 : mc_lawcd 613 = some (.goto 1040, 3) := by decide +kernel
theorem cL_616 : mc_lawcd 616 = some (.aload_n 1, 1) := by decide +kernel
theorem cL_617 : mc_lawcd 617 = some (.invokevirtual 72, 3) := by decide +kernel
theorem cL_620 : mc_lawcd 620 = some (.pop, 1) := by decide +kernel
theorem cL_621 : mc_lawcd 621 = some (.aload_n 2, 1) := by decide +kernel
theorem cL_622 : mc_lawcd 622 = some (.invokevirtual 75, 3) := by decide +kernel
theorem cL_625 : mc_lawcd 625 = some (.pop, 1) := by decide +kernel
theorem cL_626 : mc_lawcd 626 = some (.goto 1027, 3) := by decide +kernel
theorem cL_629 : mc_lawcd 629 = some (.aload_n 1, 1) := by decide +kernel
theorem cL_630 : mc_lawcd 630 = some (.invokevirtual 76, 3) := by decide +kernel
theorem cL_633 : mc_lawcd 633 = some (.pop, 1) := by decide +kernel
theorem cL_634 : mc_lawcd 634 = some (.aload_n 2, 1) := by decide +kernel
theorem cL_635 : mc_lawcd 635 = some (.invokevirtual 79, 3) := by decide +kernel
theorem cL_638 : mc_lawcd 638 = some (.pop, 1) := by decide +kernel
theorem cL_639 : mc_lawcd 639 = some (.goto 1014, 3) := by decide +kernel
theorem cL_642 : mc_lawcd 642 = some (.aload_n 1, 1) := by decide +kernel
theorem cL_643 : mc_lawcd 643 = some (.invokevirtual 80, 3) := by decide +kernel
theorem cL_646 : mc_lawcd 646 = some (.pop, 1) := by decide +kernel
theorem cL_647 : mc_lawcd 647 = some (.aload_n 2, 1) := by decide +kernel
theorem cL_648 : mc_lawcd 648 = some (.invokevirtual 83, 3) := by decide +kernel
theorem cL_651 : mc_lawcd 651 = some (.pop, 1) := by decide +kernel
theorem cL_652 : mc_lawcd 652 = some (.goto 1001, 3) := by decide +kernel
theorem cL_655 : mc_lawcd 655 = some (.aload_n 1, 1) := by decide +kernel
theorem cL_656 : mc_lawcd 656 = some (.invokevirtual 84, 3) := by decide +kernel
theorem cL_659 : mc_lawcd 659 = some (.pop, 1) := by decide +kernel
theorem cL_660 : mc_lawcd 660 = some (.aload_n 2, 1) := by decide +kernel
theorem cL_661 : mc_lawcd 661 = some (.invokevirtual 87, 3) := by decide +kernel
theorem cL_664 : mc_lawcd 664 = some (.pop, 1) := by decide +kernel
theorem cL_665 : mc_lawcd 665 = some (.goto 988, 3) := by decide +kernel
theorem cL_668 : mc_lawcd 668 = some (.aload_n 1, 1) := by decide +kernel
theorem cL_669 : mc_lawcd 669 = some (.aload_n 0, 1) := by decide +kernel
theorem cL_670 : mc_lawcd 670 = some (.iload 4, 2) := by decide +kernel
theorem cL_672 : mc_lawcd 672 = some (.iconst 1, 1) := by decide +kernel
theorem cL_673 : mc_lawcd 673 = some (.iadd, 1) := by decide +kernel
theorem cL_674 : mc_lawcd 674 = some (.iaload, 1) := by decide +kernel
theorem cL_675 : mc_lawcd 675 = some (.aload_n 0, 1) := by decide +kernel
theorem cL_676 : mc_lawcd 676 = some (.iload 4, 2) := by decide +kernel
theorem cL_678 : mc_lawcd 678 = some (.iconst 2, 1) := by decide +kernel
theorem cL_679 : mc_lawcd 679 = some (.iadd, 1) := by decide +kernel
theorem cL_680 : mc_lawcd 680 = some (.iaload, 1) := by decide +kernel
theorem cL_681 : mc_lawcd 681 = some (.invokevirtual 88, 3) := by decide +kernel
theorem cL_684 : mc_lawcd 684 = some (.pop, 1) := by decide +kernel
theorem cL_685 : mc_lawcd 685 = some (.aload_n 2, 1) := by decide +kernel
theorem cL_686 : mc_lawcd 686 = some (.aload_n 0, 1) := by decide +kernel
theorem cL_687 : mc_lawcd 687 = some (.iload 4, 2) := by decide +kernel
theorem cL_689 : mc_lawcd 689 = some (.iconst 1, 1) := by decide +kernel
theorem cL_690 : mc_lawcd 690 = some (.iadd, 1) := by decide +kernel
theorem cL_691 : mc_lawcd 691 = some (.iaload, 1) := by decide +kernel
theorem cL_692 : mc_lawcd 692 = some (.aload_n 0, 1) := by decide +kernel
theorem cL_693 : mc_lawcd 693 = some (.iload 4, 2) := by decide +kernel
theorem cL_695 : mc_lawcd 695 = some (.iconst 2, 1) := by decide +kernel
theorem cL_696 : mc_lawcd 696 = some (.iadd, 1) := by decide +kernel
theorem cL_697 : mc_lawcd 697 = some (.iaload, 1) := by decide +kernel
theorem cL_698 : mc_lawcd 698 = some (.invokevirtual 92, 3) := by decide +kernel
theorem cL_701 : mc_lawcd 701 = some (.pop, 1) := by decide +kernel
theorem cL_702 : mc_lawcd 702 = some (.goto 951, 3) := by decide +kernel
theorem cL_705 : mc_lawcd 705 = some (.aload_n 1, 1) := by decide +kernel
theorem cL_706 : mc_lawcd 706 = some (.invokevirtual 93, 3) := by decide +kernel
theorem cL_709 : mc_lawcd 709 = some (.pop2, 1) := by decide +kernel
theorem cL_710 : mc_lawcd 710 = some (.aload_n 2, 1) := by decide +kernel
theorem cL_711 : mc_lawcd 711 = some (.invokevirtual 96, 3) := by decide +kernel
theorem cL_714 : mc_lawcd 714 = some (.pop2, 1) := by decide +kernel
theorem cL_715 : mc_lawcd 715 = some (.goto 938, 3) := by decide +kernel
theorem cL_718 : mc_lawcd 718 = some (.aload_n 1, 1) := by decide +kernel
theorem cL_719 : mc_lawcd 719 = some (.aload_n 0, 1) := by decide +kernel
theorem cL_720 : mc_lawcd 720 = some (.iload 4, 2) := by decide +kernel
theorem cL_722 : mc_lawcd 722 = some (.iconst 1, 1) := by decide +kernel
theorem cL_723 : mc_lawcd 723 = some (.iadd, 1) := by decide +kernel
theorem cL_724 : mc_lawcd 724 = some (.iaload, 1) := by decide +kernel
theorem cL_725 : mc_lawcd 725 = some (.aload_n 0, 1) := by decide +kernel
theorem cL_726 : mc_lawcd 726 = some (.iload 4, 2) := by decide +kernel
theorem cL_728 : mc_lawcd 728 = some (.iconst 2, 1) := by decide +kernel
theorem cL_729 : mc_lawcd 729 = some (.iadd, 1) := by decide +kernel
theorem cL_730 : mc_lawcd 730 = some (.iaload, 1) := by decide +kernel
theorem cL_731 : mc_lawcd 731 = some (.invokevirtual 97, 3) := by decide +kernel
theorem cL_734 : mc_lawcd 734 = some (.pop, 1) := by decide +kernel
theorem cL_735 : mc_lawcd 735 = some (.aload_n 2, 1) := by decide +kernel
theorem cL_736 : mc_lawcd 736 = some (.aload_n 0, 1) := by decide +kernel
theorem cL_737 : mc_lawcd 737 = some (.iload 4, 2) := by decide +kernel
theorem cL_739 : mc_lawcd 739 = some (.iconst 1, 1) := by decide +kernel
theorem cL_740 : mc_lawcd 740 = some (.iadd, 1) := by decide +kernel
theorem cL_741 : mc_lawcd 741 = some (.iaload, 1) := by decide +kernel
theorem cL_742 : mc_lawcd 742 = some (.aload_n 0, 1) := by decide +kernel
theorem cL_743 : mc_lawcd 743 = some (.iload 4, 2) := by decide +kernel
theorem cL_745 : mc_lawcd 745 = some (.iconst 2, 1) := by decide +kernel
theorem cL_746 : mc_lawcd 746 = some (.iadd, 1) := by decide +kernel
theorem cL_747 : mc_lawcd 747 = some (.iaload, 1) := by decide +kernel
theorem cL_748 : mc_lawcd 748 = some (.invokevirtual 100, 3) := by decide +kernel
theorem cL_751 : mc_lawcd 751 = some (.pop, 1) := by decide +kernel
theorem cL_752 : mc_lawcd 752 = some (.goto 901, 3) := by decide +kernel
theorem cL_755 : mc_lawcd 755 = some (.aload_n 1, 1) := by decide +kernel
theorem cL_756 : mc_lawcd 756 = some (.aload_n 0, 1) := by decide +kernel
theorem cL_757 : mc_lawcd 757 = some (.iload 4, 2) := by decide +kernel
theorem cL_759 : mc_lawcd 759 = some (.iconst 1, 1) := by decide +kernel
theorem cL_760 : mc_lawcd 760 = some (.iadd, 1) := by decide +kernel
theorem cL_761 : mc_lawcd 761 = some (.iaload, 1) := by decide +kernel
theorem cL_762 : mc_lawcd 762 = some (.aload_n 0, 1) := by decide +kernel
theorem cL_763 : mc_lawcd 763 = some (.iload 4, 2) := by decide +kernel
theorem cL_765 : mc_lawcd 765 = some (.iconst 2, 1) := by decide +kernel
theorem cL_766 : mc_lawcd 766 = some (.iadd, 1) := by decide +kernel
theorem cL_767 : mc_lawcd 767 = some (.iaload, 1) := by decide +kernel
theorem cL_768 : mc_lawcd 768 = some (.invokevirtual 101, 3) := by decide +kernel
theorem cL_771 : mc_lawcd 771 = some (.pop, 1) := by decide +kernel
theorem cL_772 : mc_lawcd 772 = some (.aload_n 2, 1) := by decide +kernel
theorem cL_773 : mc_lawcd 773 = some (.aload_n 0, 1) := by decide +kernel
theorem cL_774 : mc_lawcd 774 = some (.iload 4, 2) := by decide +kernel
theorem cL_776 : mc_lawcd 776 = some (.iconst 1, 1) := by decide +kernel
theorem cL_777 : mc_lawcd 777 = some (.iadd, 1) := by decide +kernel
theorem cL_778 : mc_lawcd 778 = some (.iaload, 1) := by decide +kernel
theorem cL_779 : mc_lawcd 779 = some (.aload_n 0, 1) := by decide +kernel
theorem cL_780 : mc_lawcd 780 = some (.iload 4, 2) := by decide +kernel
theorem cL_782 : mc_lawcd 782 = some (.iconst 2, 1) := by decide +kernel
theorem cL_783 : mc_lawcd 783 = some (.iadd, 1) := by decide +kernel
theorem cL_784 : mc_lawcd 784 = some (.iaload, 1) := by decide +kernel
theorem cL_785 : mc_lawcd 785 = some (.invokevirtual 104, 3) := by decide +kernel
theorem cL_788 : mc_lawcd 788 = some (.pop, 1) := by decide +kernel
theorem cL_789 : mc_lawcd 789 = some (.goto 864, 3) := by decide +kernel
theorem cL_792 : mc_lawcd 792 = some (.aload_n 1, 1) := by decide +kernel
theorem cL_793 : mc_lawcd 793 = some (.aload_n 0, 1) := by decide +kernel
theorem cL_794 : mc_lawcd 794 = some (.iload 4, 2) := by decide +kernel
theorem cL_796 : mc_lawcd 796 = some (.iconst 1, 1) := by decide +kernel
theorem cL_797 : mc_lawcd 797 = some (.iadd, 1) := by decide +kernel
theorem cL_798 : mc_lawcd 798 = some (.iaload, 1) := by decide +kernel
theorem cL_799 : mc_lawcd 799 = some (.aload_n 0, 1) := by decide +kernel
theorem cL_800 : mc_lawcd 800 = some (.iload 4, 2) := by decide +kernel
theorem cL_802 : mc_lawcd 802 = some (.iconst 2, 1) := by decide +kernel
theorem cL_803 : mc_lawcd 803 = some (.iadd, 1) := by decide +kernel
theorem cL_804 : mc_lawcd 804 = some (.iaload, 1) := by decide +kernel
theorem cL_805 : mc_lawcd 805 = some (.invokevirtual 105, 3) := by decide +kernel
theorem cL_808 : mc_lawcd 808 = some (.pop, 1) := by decide +kernel
theorem cL_809 : mc_lawcd 809 = some (.aload_n 2, 1) := by decide +kernel
theorem cL_810 : mc_lawcd 810 = some (.aload_n 0, 1) := by decide +kernel
theorem cL_811 : mc_lawcd 811 = some (.iload 4, 2) := by decide +kernel
theorem cL_813 : mc_lawcd 813 = some (.iconst 1, 1) := by decide +kernel
theorem cL_814 : mc_lawcd 814 = some (.iadd, 1) := by decide +kernel
theorem cL_815 : mc_lawcd 815 = some (.iaload, 1) := by decide +kernel
theorem cL_816 : mc_lawcd 816 = some (.aload_n 0, 1) := by decide +kernel
theorem cL_817 : mc_lawcd 817 = some (.iload 4, 2) := by decide +kernel
theorem cL_819 : mc_lawcd 819 = some (.iconst 2, 1) := by decide +kernel
theorem cL_820 : mc_lawcd 820 = some (.iadd, 1) := by decide +kernel
theorem cL_821 : mc_lawcd 821 = some (.iaload, 1) := by decide +kernel
theorem cL_822 : mc_lawcd 822 = some (.invokevirtual 108, 3) := by decide +kernel
theorem cL_825 : mc_lawcd 825 = some (.pop, 1) := by decide +kernel
theorem cL_826 : mc_lawcd 826 = some (.goto 827, 3) := by decide +kernel
theorem cL_829 : mc_lawcd 829 = some (.aload_n 1, 1) := by decide +kernel
theorem cL_830 : mc_lawcd 830 = some (.aload_n 0, 1) := by decide +kernel
theorem cL_831 : mc_lawcd 831 = some (.iload 4, 2) := by decide +kernel
theorem cL_833 : mc_lawcd 833 = some (.iconst 1, 1) := by decide +kernel
theorem cL_834 : mc_lawcd 834 = some (.iadd, 1) := by decide +kernel
theorem cL_835 : mc_lawcd 835 = some (.iaload, 1) := by decide +kernel
theorem cL_836 : mc_lawcd 836 = some (.aload_n 0, 1) := by decide +kernel
theorem cL_837 : mc_lawcd 837 = some (.iload 4, 2) := by decide +kernel
theorem cL_839 : mc_lawcd 839 = some (.iconst 2, 1) := by decide +kernel
theorem cL_840 : mc_lawcd 840 = some (.iadd, 1) := by decide +kernel
theorem cL_841 : mc_lawcd 841 = some (.iaload, 1) := by decide +kernel
theorem cL_842 : mc_lawcd 842 = some (.ifCond .eq 7, 3) := by decide +kernel
theorem cL_845 : mc_lawcd 845 = some (.iconst 1, 1) := by decide +kernel
theorem cL_846 : mc_lawcd 846 = some (.goto 4, 3) := by decide +kernel
theorem cL_849 : mc_lawcd 849 = some (.iconst 0, 1) := by decide +kernel
theorem cL_850 : mc_lawcd 850 = some (.invokevirtual 109, 3) := by decide +kernel
theorem cL_853 : mc_lawcd 853 = some (.pop, 1) := by decide +kernel
theorem cL_854 : mc_lawcd 854 = some (.aload_n 2, 1) := by decide +kernel
theorem cL_855 : mc_lawcd 855 = some (.aload_n 0, 1) := by decide +kernel
theorem cL_856 : mc_lawcd 856 = some (.iload 4, 2) := by decide +kernel
theorem cL_858 : mc_lawcd 858 = some (.iconst 1, 1) := by decide +kernel
theorem cL_859 : mc_lawcd 859 = some (.iadd, 1) := by decide +kernel
theorem cL_860 : mc_lawcd 860 = some (.iaload, 1) := by decide +kernel
theorem cL_861 : mc_lawcd 861 = some (.aload_n 0, 1) := by decide +kernel
theorem cL_862 : mc_lawcd 862 = some (.iload 4, 2) := by decide +kernel
theorem cL_864 : mc_lawcd 864 = some (.iconst 2, 1) := by decide +kernel
theorem cL_865 : mc_lawcd 865 = some (.iadd, 1) := by decide +kernel
theorem cL_866 : mc_lawcd 866 = some (.iaload, 1) := by decide +kernel
theorem cL_867 : mc_lawcd 867 = some (.ifCond .eq 7, 3) := by decide +kernel
theorem cL_870 : mc_lawcd 870 = some (.iconst 1, 1) := by decide +kernel
theorem cL_871 : mc_lawcd 871 = some (.goto 4, 3) := by decide +kernel
theorem cL_874 : mc_lawcd 874 = some (.iconst 0, 1) := by decide +kernel
theorem cL_875 : mc_lawcd 875 = some (.invokevirtual 113, 3) := by decide +kernel
theorem cL_878 : mc_lawcd 878 = some (.pop, 1) := by decide +kernel
theorem cL_879 : mc_lawcd 879 = some (.goto 774, 3) := by decide +kernel
theorem cL_882 : mc_lawcd 882 = some (.aload_n 1, 1) := by decide +kernel
theorem cL_883 : mc_lawcd 883 = some (.aload_n 0, 1) := by decide +kernel
theorem cL_884 : mc_lawcd 884 = some (.iload 4, 2) := by decide +kernel
theorem cL_886 : mc_lawcd 886 = some (.iconst 1, 1) := by decide +kernel
theorem cL_887 : mc_lawcd 887 = some (.iadd, 1) := by decide +kernel
theorem cL_888 : mc_lawcd 888 = some (.iaload, 1) := by decide +kernel
theorem cL_889 : mc_lawcd 889 = some (.aload_n 0, 1) := by decide +kernel
theorem cL_890 : mc_lawcd 890 = some (.iload 4, 2) := by decide +kernel
theorem cL_892 : mc_lawcd 892 = some (.iconst 2, 1) := by decide +kernel
theorem cL_893 : mc_lawcd 893 = some (.iadd, 1) := by decide +kernel
theorem cL_894 : mc_lawcd 894 = some (.iaload, 1) := by decide +kernel
theorem cL_895 : mc_lawcd 895 = some (.invokevirtual 114, 3) := by decide +kernel
theorem cL_898 : mc_lawcd 898 = some (.pop, 1) := by decide +kernel
theorem cL_899 : mc_lawcd 899 = some (.aload_n 2, 1) := by decide +kernel
theorem cL_900 : mc_lawcd 900 = some (.aload_n 0, 1) := by decide +kernel
theorem cL_901 : mc_lawcd 901 = some (.iload 4, 2) := by decide +kernel
theorem cL_903 : mc_lawcd 903 = some (.iconst 1, 1) := by decide +kernel
theorem cL_904 : mc_lawcd 904 = some (.iadd, 1) := by decide +kernel
theorem cL_905 : mc_lawcd 905 = some (.iaload, 1) := by decide +kernel
theorem cL_906 : mc_lawcd 906 = some (.aload_n 0, 1) := by decide +kernel
theorem cL_907 : mc_lawcd 907 = some (.iload 4, 2) := by decide +kernel
theorem cL_909 : mc_lawcd 909 = some (.iconst 2, 1) := by decide +kernel
theorem cL_910 : mc_lawcd 910 = some (.iadd, 1) := by decide +kernel
theorem cL_911 : mc_lawcd 911 = some (.iaload, 1) := by decide +kernel
theorem cL_912 : mc_lawcd 912 = some (.invokevirtual 117, 3) := by decide +kernel
theorem cL_915 : mc_lawcd 915 = some (.pop, 1) := by decide +kernel
theorem cL_916 : mc_lawcd 916 = some (.goto 737, 3) := by decide +kernel
theorem cL_919 : mc_lawcd 919 = some (.aload_n 1, 1) := by decide +kernel
theorem cL_920 : mc_lawcd 920 = some (.aload_n 0, 1) := by decide +kernel
theorem cL_921 : mc_lawcd 921 = some (.iload 4, 2) := by decide +kernel
theorem cL_923 : mc_lawcd 923 = some (.iconst 1, 1) := by decide +kernel
theorem cL_924 : mc_lawcd 924 = some (.iadd, 1) := by decide +kernel
theorem cL_925 : mc_lawcd 925 = some (.iaload, 1) := by decide +kernel
theorem cL_926 : mc_lawcd 926 = some (.invokevirtual 118, 3) := by decide +kernel
theorem cL_929 : mc_lawcd 929 = some (.pop, 1) := by decide +kernel
theorem cL_930 : mc_lawcd 930 = some (.aload_n 2, 1) := by decide +kernel
theorem cL_931 : mc_lawcd 931 = some (.aload_n 0, 1) := by decide +kernel
theorem cL_932 : mc_lawcd 932 = some (.iload 4, 2) := by decide +kernel
theorem cL_934 : mc_lawcd 934 = some (.iconst 1, 1) := by decide +kernel
theorem cL_935 : mc_lawcd 935 = some (.iadd, 1) := by decide +kernel
theorem cL_936 : mc_lawcd 936 = some (.iaload, 1) := by decide +kernel
theorem cL_937 : mc_lawcd 937 = some (.invokevirtual 121, 3) := by decide +kernel
theorem cL_940 : mc_lawcd 940 = some (.pop, 1) := by decide +kernel
theorem cL_941 : mc_lawcd 941 = some (.goto 712, 3) := by decide +kernel
theorem cL_944 : mc_lawcd 944 = some (.aload_n 1, 1) := by decide +kernel
theorem cL_945 : mc_lawcd 945 = some (.invokevirtual 122, 3) := by decide +kernel
theorem cL_948 : mc_lawcd 948 = some (.pop2, 1) := by decide +kernel
theorem cL_949 : mc_lawcd 949 = some (.aload_n 2, 1) := by decide +kernel
theorem cL_950 : mc_lawcd 950 = some (.invokevirtual 125, 3) := by decide +kernel
theorem cL_953 : mc_lawcd 953 = some (.pop2, 1) := by decide +kernel
theorem cL_954 : mc_lawcd 954 = some (.goto 699, 3) := by decide +kernel
theorem cL_957 : mc_lawcd 957 = some (.aload_n 1, 1) := by decide +kernel
theorem cL_958 : mc_lawcd 958 = some (.aload_n 0, 1) := by decide +kernel
theorem cL_959 : mc_lawcd 959 = some (.iload 4, 2) := by decide +kernel
theorem cL_961 : mc_lawcd 961 = some (.iconst 1, 1) := by decide +kernel
theorem cL_962 : mc_lawcd 962 = some (.iadd, 1) := by decide +kernel
theorem cL_963 : mc_lawcd 963 = some (.iaload, 1) := by decide +kernel
theorem cL_964 : mc_lawcd 964 = some (.aload_n 0, 1) := by decide +kernel
theorem cL_965 : mc_lawcd 965 = some (.iload 4, 2) := by decide +kernel
theorem cL_967 : mc_lawcd 967 = some (.iconst 2, 1) := by decide +kernel
theorem cL_968 : mc_lawcd 968 = some (.iadd, 1) := by decide +kernel
theorem cL_969 : mc_lawcd 969 = some (.iaload, 1) := by decide +kernel
theorem cL_970 : mc_lawcd 970 = some (.invokevirtual 126, 3) := by decide +kernel
theorem cL_973 : mc_lawcd 973 = some (.pop, 1) := by decide +kernel
theorem cL_974 : mc_lawcd 974 = some (.aload_n 2, 1) := by decide +kernel
theorem cL_975 : mc_lawcd 975 = some (.aload_n 0, 1) := by decide +kernel
theorem cL_976 : mc_lawcd 976 = some (.iload 4, 2) := by decide +kernel
theorem cL_978 : mc_lawcd 978 = some (.iconst 1, 1) := by decide +kernel
theorem cL_979 : mc_lawcd 979 = some (.iadd, 1) := by decide +kernel
theorem cL_980 : mc_lawcd 980 = some (.iaload, 1) := by decide +kernel
theorem cL_981 : mc_lawcd 981 = some (.aload_n 0, 1) := by decide +kernel
theorem cL_982 : mc_lawcd 982 = some (.iload 4, 2) := by decide +kernel
theorem cL_984 : mc_lawcd 984 = some (.iconst 2, 1) := by decide +kernel
theorem cL_985 : mc_lawcd 985 = some (.iadd, 1) := by decide +kernel
theorem cL_986 : mc_lawcd 986 = some (.iaload, 1) := by decide +kernel
theorem cL_987 : mc_lawcd 987 = some (.invokevirtual 129, 3) := by decide +kernel
theorem cL_990 : mc_lawcd 990 = some (.pop, 1) := by decide +kernel
theorem cL_991 : mc_lawcd 991 = some (.goto 662, 3) := by decide +kernel
theorem cL_994 : mc_lawcd 994 = some (.aload_n 1, 1) := by decide +kernel
theorem cL_995 : mc_lawcd 995 = some (.aload_n 0, 1) := by decide +kernel
theorem cL_996 : mc_lawcd 996 = some (.iload 4, 2) := by decide +kernel
theorem cL_998 : mc_lawcd 998 = some (.iconst 1, 1) := by decide +kernel
theorem cL_999 : mc_lawcd 999 = some (.iadd, 1) := by decide +kernel
theorem cL_1000 : mc_lawcd 1000 = some (.iaload, 1) := by decide +kernel
theorem cL_1001 : mc_lawcd 1001 = some (.invokevirtual 130, 3) := by decide +kernel
theorem cL_1004 : mc_lawcd 1004 = some (.pop2, 1) := by decide +kernel
theorem cL_1005 : mc_lawcd 1005 = some (.aload_n 2, 1) := by decide +kernel
theorem cL_1006 : mc_lawcd 1006 = some (.aload_n 0, 1) := by decide +kernel
theorem cL_1007 : mc_lawcd 1007 = some (.iload 4, 2) := by decide +kernel
theorem cL_1009 : mc_lawcd 1009 = some (.iconst 1, 1) := by decide +kernel
theorem cL_1010 : mc_lawcd 1010 = some (.iadd, 1) := by decide +kernel
theorem cL_1011 : mc_lawcd 1011 = some (.iaload, 1) := by decide +kernel
theorem cL_1012 : mc_lawcd 1012 = some (.invokevirtual 134, 3) := by decide +kernel
theorem cL_1015 : mc_lawcd 1015 = some (.pop2, 1) := by decide +kernel
theorem cL_1016 : mc_lawcd 1016 = some (.goto 637, 3) := by decide +kernel
theorem cL_1019 : mc_lawcd 1019 = some (.aload_n 1, 1) := by decide +kernel
theorem cL_1020 : mc_lawcd 1020 = some (.aload_n 0, 1) := by decide +kernel
theorem cL_1021 : mc_lawcd 1021 = some (.iload 4, 2) := by decide +kernel
theorem cL_1023 : mc_lawcd 1023 = some (.iconst 1, 1) := by decide +kernel
theorem cL_1024 : mc_lawcd 1024 = some (.iadd, 1) := by decide +kernel
theorem cL_1025 : mc_lawcd 1025 = some (.iaload, 1) := by decide +kernel
theorem cL_1026 : mc_lawcd 1026 = some (.aload_n 0, 1) := by decide +kernel
theorem cL_1027 : mc_lawcd 1027 = some (.iload 4, 2) := by decide +kernel
theorem cL_1029 : mc_lawcd 1029 = some (.iconst 2, 1) := by decide +kernel
theorem cL_1030 : mc_lawcd 1030 = some (.iadd, 1) := by decide +kernel
theorem cL_1031 : mc_lawcd 1031 = some (.iaload, 1) := by decide +kernel
theorem cL_1032 : mc_lawcd 1032 = some (.invokevirtual 135, 3) := by decide +kernel
theorem cL_1035 : mc_lawcd 1035 = some (.pop, 1) := by decide +kernel
theorem cL_1036 : mc_lawcd 1036 = some (.aload_n 2, 1) := by decide +kernel
theorem cL_1037 : mc_lawcd 1037 = some (.aload_n 0, 1) := by decide +kernel
theorem cL_1038 : mc_lawcd 1038 = some (.iload 4, 2) := by decide +kernel
theorem cL_1040 : mc_lawcd 1040 = some (.iconst 1, 1) := by decide +kernel
theorem cL_1041 : mc_lawcd 1041 = some (.iadd, 1) := by decide +kernel
theorem cL_1042 : mc_lawcd 1042 = some (.iaload, 1) := by decide +kernel
theorem cL_1043 : mc_lawcd 1043 = some (.aload_n 0, 1) := by decide +kernel
theorem cL_1044 : mc_lawcd 1044 = some (.iload 4, 2) := by decide +kernel
theorem cL_1046 : mc_lawcd 1046 = some (.iconst 2, 1) := by decide +kernel
theorem cL_1047 : mc_lawcd 1047 = some (.iadd, 1) := by decide +kernel
theorem cL_1048 : mc_lawcd 1048 = some (.iaload, 1) := by decide +kernel
theorem cL_1049 : mc_lawcd 1049 = some (.invokevirtual 138, 3) := by decide +kernel
theorem cL_1052 : mc_lawcd 1052 = some (.pop, 1) := by decide +kernel
theorem cL_1053 : mc_lawcd 1053 = some (.goto 600, 3) := by decide +kernel
theorem cL_1056 : mc_lawcd 1056 = some (.aload_n 1, 1) := by decide +kernel
theorem cL_1057 : mc_lawcd 1057 = some (.aload_n 0, 1) := by decide +kernel
theorem cL_1058 : mc_lawcd 1058 = some (.iload 4, 2) := by decide +kernel
theorem cL_1060 : mc_lawcd 1060 = some (.iconst 1, 1) := by decide +kernel
theorem cL_1061 : mc_lawcd 1061 = some (.iadd, 1) := by decide +kernel
theorem cL_1062 : mc_lawcd 1062 = some (.iaload, 1) := by decide +kernel
theorem cL_1063 : mc_lawcd 1063 = some (.aload_n 0, 1) := by decide +kernel
theorem cL_1064 : mc_lawcd 1064 = some (.iload 4, 2) := by decide +kernel
theorem cL_1066 : mc_lawcd 1066 = some (.iconst 2, 1) := by decide +kernel
theorem cL_1067 : mc_lawcd 1067 = some (.iadd, 1) := by decide +kernel
theorem cL_1068 : mc_lawcd 1068 = some (.iaload, 1) := by decide +kernel
theorem cL_1069 : mc_lawcd 1069 = some (.ifCond .eq 7, 3) := by decide +kernel
theorem cL_1072 : mc_lawcd 1072 = some (.iconst 1, 1) := by decide +kernel
theorem cL_1073 : mc_lawcd 1073 = some (.goto 4, 3) := by decide +kernel
theorem cL_1076 : mc_lawcd 1076 = some (.iconst 0, 1) := by decide +kernel
theorem cL_1077 : mc_lawcd 1077 = some (.invokevirtual 139, 3) := by decide +kernel
theorem cL_1080 : mc_lawcd 1080 = some (.pop, 1) := by decide +kernel
theorem cL_1081 : mc_lawcd 1081 = some (.aload_n 2, 1) := by decide +kernel
theorem cL_1082 : mc_lawcd 1082 = some (.aload_n 0, 1) := by decide +kernel
theorem cL_1083 : mc_lawcd 1083 = some (.iload 4, 2) := by decide +kernel
theorem cL_1085 : mc_lawcd 1085 = some (.iconst 1, 1) := by decide +kernel
theorem cL_1086 : mc_lawcd 1086 = some (.iadd, 1) := by decide +kernel
theorem cL_1087 : mc_lawcd 1087 = some (.iaload, 1) := by decide +kernel
theorem cL_1088 : mc_lawcd 1088 = some (.aload_n 0, 1) := by decide +kernel
theorem cL_1089 : mc_lawcd 1089 = some (.iload 4, 2) := by decide +kernel
theorem cL_1091 : mc_lawcd 1091 = some (.iconst 2, 1) := by decide +kernel
theorem cL_1092 : mc_lawcd 1092 = some (.iadd, 1) := by decide +kernel
theorem cL_1093 : mc_lawcd 1093 = some (.iaload, 1) := by decide +kernel
theorem cL_1094 : mc_lawcd 1094 = some (.ifCond .eq 7, 3) := by decide +kernel
theorem cL_1097 : mc_lawcd 1097 = some (.iconst 1, 1) := by decide +kernel
theorem cL_1098 : mc_lawcd 1098 = some (.goto 4, 3) := by decide +kernel
theorem cL_1101 : mc_lawcd 1101 = some (.iconst 0, 1) := by decide +kernel
theorem cL_1102 : mc_lawcd 1102 = some (.invokevirtual 142, 3) := by decide +kernel
theorem cL_1105 : mc_lawcd 1105 = some (.pop, 1) := by decide +kernel
theorem cL_1106 : mc_lawcd 1106 = some (.goto 547, 3) := by decide +kernel
theorem cL_1109 : mc_lawcd 1109 = some (.aload_n 1, 1) := by decide +kernel
theorem cL_1110 : mc_lawcd 1110 = some (.aload_n 0, 1) := by decide +kernel
theorem cL_1111 : mc_lawcd 1111 = some (.iload 4, 2) := by decide +kernel
theorem cL_1113 : mc_lawcd 1113 = some (.iconst 1, 1) := by decide +kernel
theorem cL_1114 : mc_lawcd 1114 = some (.iadd, 1) := by decide +kernel
theorem cL_1115 : mc_lawcd 1115 = some (.iaload, 1) := by decide +kernel
theorem cL_1116 : mc_lawcd 1116 = some (.aload_n 0, 1) := by decide +kernel
theorem cL_1117 : mc_lawcd 1117 = some (.iload 4, 2) := by decide +kernel
theorem cL_1119 : mc_lawcd 1119 = some (.iconst 2, 1) := by decide +kernel
theorem cL_1120 : mc_lawcd 1120 = some (.iadd, 1) := by decide +kernel
theorem cL_1121 : mc_lawcd 1121 = some (.iaload, 1) := by decide +kernel
theorem cL_1122 : mc_lawcd 1122 = some (.ifCond .eq 7, 3) := by decide +kernel
theorem cL_1125 : mc_lawcd 1125 = some (.iconst 1, 1) := by decide +kernel
theorem cL_1126 : mc_lawcd 1126 = some (.goto 4, 3) := by decide +kernel
theorem cL_1129 : mc_lawcd 1129 = some (.iconst 0, 1) := by decide +kernel
theorem cL_1130 : mc_lawcd 1130 = some (.invokevirtual 143, 3) := by decide +kernel
theorem cL_1133 : mc_lawcd 1133 = some (.pop, 1) := by decide +kernel
theorem cL_1134 : mc_lawcd 1134 = some (.aload_n 2, 1) := by decide +kernel
theorem cL_1135 : mc_lawcd 1135 = some (.aload_n 0, 1) := by decide +kernel
theorem cL_1136 : mc_lawcd 1136 = some (.iload 4, 2) := by decide +kernel
theorem cL_1138 : mc_lawcd 1138 = some (.iconst 1, 1) := by decide +kernel
theorem cL_1139 : mc_lawcd 1139 = some (.iadd, 1) := by decide +kernel
theorem cL_1140 : mc_lawcd 1140 = some (.iaload, 1) := by decide +kernel
theorem cL_1141 : mc_lawcd 1141 = some (.aload_n 0, 1) := by decide +kernel
theorem cL_1142 : mc_lawcd 1142 = some (.iload 4, 2) := by decide +kernel
theorem cL_1144 : mc_lawcd 1144 = some (.iconst 2, 1) := by decide +kernel
theorem cL_1145 : mc_lawcd 1145 = some (.iadd, 1) := by decide +kernel
theorem cL_1146 : mc_lawcd 1146 = some (.iaload, 1) := by decide +kernel
theorem cL_1147 : mc_lawcd 1147 = some (.ifCond .eq 7, 3) := by decide +kernel
theorem cL_1150 : mc_lawcd 1150 = some (.iconst 1, 1) := by decide +kernel
theorem cL_1151 : mc_lawcd 1151 = some (.goto 4, 3) := by decide +kernel
theorem cL_1154 : mc_lawcd 1154 = some (.iconst 0, 1) := by decide +kernel
theorem cL_1155 : mc_lawcd 1155 = some (.invokevirtual 146, 3) := by decide +kernel
theorem cL_1158 : mc_lawcd 1158 = some (.pop, 1) := by decide +kernel
theorem cL_1159 : mc_lawcd 1159 = some (.goto 494, 3) := by decide +kernel
theorem cL_1162 : mc_lawcd 1162 = some (.aload_n 1, 1) := by decide +kernel
theorem cL_1163 : mc_lawcd 1163 = some (.invokevirtual 147, 3) := by decide +kernel
theorem cL_1166 : mc_lawcd 1166 = some (.pop, 1) := by decide +kernel
theorem cL_1167 : mc_lawcd 1167 = some (.aload_n 2, 1) := by decide +kernel
theorem cL_1168 : mc_lawcd 1168 = some (.invokevirtual 150, 3) := by decide +kernel
theorem cL_1171 : mc_lawcd 1171 = some (.pop, 1) := by decide +kernel
theorem cL_1172 : mc_lawcd 1172 = some (.goto 481, 3) := by decide +kernel
theorem cL_1175 : mc_lawcd 1175 = some (.aload_n 1, 1) := by decide +kernel
theorem cL_1176 : mc_lawcd 1176 = some (.aload_n 0, 1) := by decide +kernel
theorem cL_1177 : mc_lawcd 1177 = some (.iload 4, 2) := by decide +kernel
theorem cL_1179 : mc_lawcd 1179 = some (.iconst 1, 1) := by decide +kernel
theorem cL_1180 : mc_lawcd 1180 = some (.iadd, 1) := by decide +kernel
theorem cL_1181 : mc_lawcd 1181 = some (.iaload, 1) := by decide +kernel
theorem cL_1182 : mc_lawcd 1182 = some (.invokevirtual 151, 3) := by decide +kernel
theorem cL_1185 : mc_lawcd 1185 = some (.pop, 1) := by decide +kernel
theorem cL_1186 : mc_lawcd 1186 = some (.aload_n 2, 1) := by decide +kernel
theorem cL_1187 : mc_lawcd 1187 = some (.aload_n 0, 1) := by decide +kernel
theorem cL_1188 : mc_lawcd 1188 = some (.iload 4, 2) := by decide +kernel
theorem cL_1190 : mc_lawcd 1190 = some (.iconst 1, 1) := by decide +kernel
theorem cL_1191 : mc_lawcd 1191 = some (.iadd, 1) := by decide +kernel
theorem cL_1192 : mc_lawcd 1192 = some (.iaload, 1) := by decide +kernel
theorem cL_1193 : mc_lawcd 1193 = some (.invokevirtual 154, 3) := by decide +kernel
theorem cL_1196 : mc_lawcd 1196 = some (.pop, 1) := by decide +kernel
theorem cL_1197 : mc_lawcd 1197 = some (.goto 456, 3) := by decide +kernel
theorem cL_1200 : mc_lawcd 1200 = some (.aload_n 1, 1) := by decide +kernel
theorem cL_1201 : mc_lawcd 1201 = some (.aload_n 0, 1) := by decide +kernel
theorem cL_1202 : mc_lawcd 1202 = some (.iload 4, 2) := by decide +kernel
theorem cL_1204 : mc_lawcd 1204 = some (.iconst 1, 1) := by decide +kernel
theorem cL_1205 : mc_lawcd 1205 = some (.iadd, 1) := by decide +kernel
theorem cL_1206 : mc_lawcd 1206 = some (.iaload, 1) := by decide +kernel
theorem cL_1207 : mc_lawcd 1207 = some (.invokevirtual 155, 3) := by decide +kernel
theorem cL_1210 : mc_lawcd 1210 = some (.pop, 1) := by decide +kernel
theorem cL_1211 : mc_lawcd 1211 = some (.aload_n 2, 1) := by decide +kernel
theorem cL_1212 : mc_lawcd 1212 = some (.aload_n 0, 1) := by decide +kernel
theorem cL_1213 : mc_lawcd 1213 = some (.iload 4, 2) := by decide +kernel
theorem cL_1215 : mc_lawcd 1215 = some (.iconst 1, 1) := by decide +kernel
theorem cL_1216 : mc_lawcd 1216 = some (.iadd, 1) := by decide +kernel
theorem cL_1217 : mc_lawcd 1217 = some (.iaload, 1) := by decide +kernel
theorem cL_1218 : mc_lawcd 1218 = some (.invokevirtual 158, 3) := by decide +kernel
theorem cL_1221 : mc_lawcd 1221 = some (.pop, 1) := by decide +kernel
theorem cL_1222 : mc_lawcd 1222 = some (.goto 431, 3) := by decide +kernel
theorem cL_1225 : mc_lawcd 1225 = some (.aload_n 1, 1) := by decide +kernel
theorem cL_1226 : mc_lawcd 1226 = some (.aload_n 0, 1) := by decide +kernel
theorem cL_1227 : mc_lawcd 1227 = some (.iload 4, 2) := by decide +kernel
theorem cL_1229 : mc_lawcd 1229 = some (.iconst 1, 1) := by decide +kernel
theorem cL_1230 : mc_lawcd 1230 = some (.iadd, 1) := by decide +kernel
theorem cL_1231 : mc_lawcd 1231 = some (.iaload, 1) := by decide +kernel
theorem cL_1232 : mc_lawcd 1232 = some (.invokevirtual 159, 3) := by decide +kernel
theorem cL_1235 : mc_lawcd 1235 = some (.pop, 1) := by decide +kernel
theorem cL_1236 : mc_lawcd 1236 = some (.aload_n 2, 1) := by decide +kernel
theorem cL_1237 : mc_lawcd 1237 = some (.aload_n 0, 1) := by decide +kernel
theorem cL_1238 : mc_lawcd 1238 = some (.iload 4, 2) := by decide +kernel
theorem cL_1240 : mc_lawcd 1240 = some (.iconst 1, 1) := by decide +kernel
theorem cL_1241 : mc_lawcd 1241 = some (.iadd, 1) := by decide +kernel
theorem cL_1242 : mc_lawcd 1242 = some (.iaload, 1) := by decide +kernel
theorem cL_1243 : mc_lawcd 1243 = some (.invokevirtual 162, 3) := by decide +kernel
theorem cL_1246 : mc_lawcd 1246 = some (.pop, 1) := by decide +kernel
theorem cL_1247 : mc_lawcd 1247 = some (.goto 406, 3) := by decide +kernel
theorem cL_1250 : mc_lawcd 1250 = some (.aload_n 1, 1) := by decide +kernel
theorem cL_1251 : mc_lawcd 1251 = some (.invokevirtual 163, 3) := by decide +kernel
theorem cL_1254 : mc_lawcd 1254 = some (.pop, 1) := by decide +kernel
theorem cL_1255 : mc_lawcd 1255 = some (.aload_n 2, 1) := by decide +kernel
theorem cL_1256 : mc_lawcd 1256 = some (.invokevirtual 166, 3) := by decide +kernel
theorem cL_1259 : mc_lawcd 1259 = some (.pop, 1) := by decide +kernel
theorem cL_1260 : mc_lawcd 1260 = some (.goto 393, 3) := by decide +kernel
theorem cL_1263 : mc_lawcd 1263 = some (.aload_n 1, 1) := by decide +kernel
theorem cL_1264 : mc_lawcd 1264 = some (.aload_n 0, 1) := by decide +kernel
theorem cL_1265 : mc_lawcd 1265 = some (.iload 4, 2) := by decide +kernel
theorem cL_1267 : mc_lawcd 1267 = some (.iconst 1, 1) := by decide +kernel
theorem cL_1268 : mc_lawcd 1268 = some (.iadd, 1) := by decide +kernel
theorem cL_1269 : mc_lawcd 1269 = some (.iaload, 1) := by decide +kernel
theorem cL_1270 : mc_lawcd 1270 = some (.aload_n 0, 1) := by decide +kernel
theorem cL_1271 : mc_lawcd 1271 = some (.iload 4, 2) := by decide +kernel
theorem cL_1273 : mc_lawcd 1273 = some (.iconst 2, 1) := by decide +kernel
theorem cL_1274 : mc_lawcd 1274 = some (.iadd, 1) := by decide +kernel
theorem cL_1275 : mc_lawcd 1275 = some (.iaload, 1) := by decide +kernel
theorem cL_1276 : mc_lawcd 1276 = some (.ifCond .eq 7, 3) := by decide +kernel
theorem cL_1279 : mc_lawcd 1279 = some (.iconst 1, 1) := by decide +kernel
theorem cL_1280 : mc_lawcd 1280 = some (.goto 4, 3) := by decide +kernel
theorem cL_1283 : mc_lawcd 1283 = some (.iconst 0, 1) := by decide +kernel
theorem cL_1284 : mc_lawcd 1284 = some (.invokevirtual 167, 3) := by decide +kernel
theorem cL_1287 : mc_lawcd 1287 = some (.pop, 1) := by decide +kernel
theorem cL_1288 : mc_lawcd 1288 = some (.aload_n 2, 1) := by decide +kernel
theorem cL_1289 : mc_lawcd 1289 = some (.aload_n 0, 1) := by decide +kernel
theorem cL_1290 : mc_lawcd 1290 = some (.iload 4, 2) := by decide +kernel
theorem cL_1292 : mc_lawcd 1292 = some (.iconst 1, 1) := by decide +kernel
theorem cL_1293 : mc_lawcd 1293 = some (.iadd, 1) := by decide +kernel
theorem cL_1294 : mc_lawcd 1294 = some (.iaload, 1) := by decide +kernel
theorem cL_1295 : mc_lawcd 1295 = some (.aload_n 0, 1) := by decide +kernel
theorem cL_1296 : mc_lawcd 1296 = some (.iload 4, 2) := by decide +kernel
theorem cL_1298 : mc_lawcd 1298 = some (.iconst 2, 1) := by decide +kernel
theorem cL_1299 : mc_lawcd 1299 = some (.iadd, 1) := by decide +kernel
theorem cL_1300 : mc_lawcd 1300 = some (.iaload, 1) := by decide +kernel
theorem cL_1301 : mc_lawcd 1301 = some (.ifCond .eq 7, 3) := by decide +kernel
theorem cL_1304 : mc_lawcd 1304 = some (.iconst 1, 1) := by decide +kernel
theorem cL_1305 : mc_lawcd 1305 = some (.goto 4, 3) := by decide +kernel
theorem cL_1308 : mc_lawcd 1308 = some (.iconst 0, 1) := by decide +kernel
theorem cL_1309 : mc_lawcd 1309 = some (.invokevirtual 170, 3) := by decide +kernel
theorem cL_1312 : mc_lawcd 1312 = some (.pop, 1) := by decide +kernel
theorem cL_1313 : mc_lawcd 1313 = some (.goto 340, 3) := by decide +kernel
theorem cL_1316 : mc_lawcd 1316 = some (.aload_n 1, 1) := by decide +kernel
theorem cL_1317 : mc_lawcd 1317 = some (.invokevirtual 171, 3) := by decide +kernel
theorem cL_1320 : mc_lawcd 1320 = some (.pop, 1) := by decide +kernel
theorem cL_1321 : mc_lawcd 1321 = some (.aload_n 2, 1) := by decide +kernel
theorem cL_1322 : mc_lawcd 1322 = some (.invokevirtual 174, 3) := by decide +kernel
theorem cL_1325 : mc_lawcd 1325 = some (.pop, 1) := by decide +kernel
theorem cL_1326 : mc_lawcd 1326 = some (.goto 327, 3) := by decide +kernel
theorem cL_1329 : mc_lawcd 1329 = some (.aload_n 1, 1) := by decide +kernel
theorem cL_1330 : mc_lawcd 1330 = some (.invokevirtual 175, 3) := by decide +kernel
theorem cL_1333 : mc_lawcd 1333 = some (.pop, 1) := by decide +kernel
theorem cL_1334 : mc_lawcd 1334 = some (.aload_n 2, 1) := by decide +kernel
theorem cL_1335 : mc_lawcd 1335 = some (.invokevirtual 178, 3) := by decide +kernel
theorem cL_1338 : mc_lawcd 1338 = some (.pop, 1) := by decide +kernel
theorem cL_1339 : mc_lawcd 1339 = some (.goto 314, 3) := by decide +kernel
theorem cL_1342 : mc_lawcd 1342 = some (.aload_n 1, 1) := by decide +kernel
theorem cL_1343 : mc_lawcd 1343 = some (.aload_n 0, 1) := by decide +kernel
theorem cL_1344 : mc_lawcd 1344 = some (.iload 4, 2) := by decide +kernel
theorem cL_1346 : mc_lawcd 1346 = some (.iconst 1, 1) := by decide +kernel
theorem cL_1347 : mc_lawcd 1347 = some (.iadd, 1) := by decide +kernel
theorem cL_1348 : mc_lawcd 1348 = some (.iaload, 1) := by decide +kernel
theorem cL_1349 : mc_lawcd 1349 = some (.invokevirtual 179, 3) := by decide +kernel
theorem cL_1352 : mc_lawcd 1352 = some (.pop, 1) := by decide +kernel
theorem cL_1353 : mc_lawcd 1353 = some (.aload_n 2, 1) := by decide +kernel
theorem cL_1354 : mc_lawcd 1354 = some (.aload_n 0, 1) := by decide +kernel
theorem cL_1355 : mc_lawcd 1355 = some (.iload 4, 2) := by decide +kernel
theorem cL_1357 : mc_lawcd 1357 = some (.iconst 1, 1) := by decide +kernel
theorem cL_1358 : mc_lawcd 1358 = some (.iadd, 1) := by decide +kernel
theorem cL_1359 : mc_lawcd 1359 = some (.iaload, 1) := by decide +kernel
theorem cL_1360 : mc_lawcd 1360 = some (.invokevirtual 182, 3) := by decide +kernel
theorem cL_1363 : mc_lawcd 1363 = some (.pop, 1) := by decide +kernel
theorem cL_1364 : mc_lawcd 1364 = some (.goto 289, 3) := by decide +kernel
theorem cL_1367 : mc_lawcd 1367 = some (.aload_n 1, 1) := by decide +kernel
theorem cL_1368 : mc_lawcd 1368 = some (.aload_n 0, 1) := by decide +kernel
theorem cL_1369 : mc_lawcd 1369 = some (.iload 4, 2) := by decide +kernel
theorem cL_1371 : mc_lawcd 1371 = some (.iconst 1, 1) := by decide +kernel
theorem cL_1372 : mc_lawcd 1372 = some (.iadd, 1) := by decide +kernel
theorem cL_1373 : mc_lawcd 1373 = some (.iaload, 1) := by decide +kernel
theorem cL_1374 : mc_lawcd 1374 = some (.aload_n 0, 1) := by decide +kernel
theorem cL_1375 : mc_lawcd 1375 = some (.iload 4, 2) := by decide +kernel
theorem cL_1377 : mc_lawcd 1377 = some (.iconst 2, 1) := by decide +kernel
theorem cL_1378 : mc_lawcd 1378 = some (.iadd, 1) := by decide +kernel
theorem cL_1379 : mc_lawcd 1379 = some (.iaload, 1) := by decide +kernel
theorem cL_1380 : mc_lawcd 1380 = some (.invokevirtual 183, 3) := by decide +kernel
theorem cL_1383 : mc_lawcd 1383 = some (.pop, 1) := by decide +kernel
theorem cL_1384 : mc_lawcd 1384 = some (.aload_n 2, 1) := by decide +kernel
theorem cL_1385 : mc_lawcd 1385 = some (.aload_n 0, 1) := by decide +kernel
theorem cL_1386 : mc_lawcd 1386 = some (.iload 4, 2) := by decide +kernel
theorem cL_1388 : mc_lawcd 1388 = some (.iconst 1, 1) := by decide +kernel
theorem cL_1389 : mc_lawcd 1389 = some (.iadd, 1) := by decide +kernel
theorem cL_1390 : mc_lawcd 1390 = some (.iaload, 1) := by decide +kernel
theorem cL_1391 : mc_lawcd 1391 = some (.aload_n 0, 1) := by decide +kernel
theorem cL_1392 : mc_lawcd 1392 = some (.iload 4, 2) := by decide +kernel
theorem cL_1394 : mc_lawcd 1394 = some (.iconst 2, 1) := by decide +kernel
theorem cL_1395 : mc_lawcd 1395 = some (.iadd, 1) := by decide +kernel
theorem cL_1396 : mc_lawcd 1396 = some (.iaload, 1) := by decide +kernel
theorem cL_1397 : mc_lawcd 1397 = some (.invokevirtual 186, 3) := by decide +kernel
theorem cL_1400 : mc_lawcd 1400 = some (.pop, 1) := by decide +kernel
theorem cL_1401 : mc_lawcd 1401 = some (.goto 252, 3) := by decide +kernel
theorem cL_1404 : mc_lawcd 1404 = some (.aload_n 1, 1) := by decide +kernel
theorem cL_1405 : mc_lawcd 1405 = some (.aload_n 0, 1) := by decide +kernel
theorem cL_1406 : mc_lawcd 1406 = some (.iload 4, 2) := by decide +kernel
theorem cL_1408 : mc_lawcd 1408 = some (.iconst 1, 1) := by decide +kernel
theorem cL_1409 : mc_lawcd 1409 = some (.iadd, 1) := by decide +kernel
theorem cL_1410 : mc_lawcd 1410 = some (.iaload, 1) := by decide +kernel
theorem cL_1411 : mc_lawcd 1411 = some (.invokevirtual 187, 3) := by decide +kernel
theorem cL_1414 : mc_lawcd 1414 = some (.pop, 1) := by decide +kernel
theorem cL_1415 : mc_lawcd 1415 = some (.aload_n 2, 1) := by decide +kernel
theorem cL_1416 : mc_lawcd 1416 = some (.aload_n 0, 1) := by decide +kernel
theorem cL_1417 : mc_lawcd 1417 = some (.iload 4, 2) := by decide +kernel
theorem cL_1419 : mc_lawcd 1419 = some (.iconst 1, 1) := by decide +kernel
theorem cL_1420 : mc_lawcd 1420 = some (.iadd, 1) := by decide +kernel
theorem cL_1421 : mc_lawcd 1421 = some (.iaload, 1) := by decide +kernel
theorem cL_1422 : mc_lawcd 1422 = some (.invokevirtual 191, 3) := by decide +kernel
theorem cL_1425 : mc_lawcd 1425 = some (.pop, 1) := by decide +kernel
theorem cL_1426 : mc_lawcd 1426 = some (.goto 227, 3) := by decide +kernel
theorem cL_1429 : mc_lawcd 1429 = some (.aload_n 1, 1) := by decide +kernel
theorem cL_1430 : mc_lawcd 1430 = some (.aload_n 0, 1) := by decide +kernel
theorem cL_1431 : mc_lawcd 1431 = some (.iload 4, 2) := by decide +kernel
theorem cL_1433 : mc_lawcd 1433 = some (.iconst 1, 1) := by decide +kernel
theorem cL_1434 : mc_lawcd 1434 = some (.iadd, 1) := by decide +kernel
theorem cL_1435 : mc_lawcd 1435 = some (.iaload, 1) := by decide +kernel
theorem cL_1436 : mc_lawcd 1436 = some (.invokevirtual 192, 3) := by decide +kernel
theorem cL_1439 : mc_lawcd 1439 = some (.pop, 1) := by decide +kernel
theorem cL_1440 : mc_lawcd 1440 = some (.aload_n 2, 1) := by decide +kernel
theorem cL_1441 : mc_lawcd 1441 = some (.aload_n 0, 1) := by decide +kernel
theorem cL_1442 : mc_lawcd 1442 = some (.iload 4, 2) := by decide +kernel
theorem cL_1444 : mc_lawcd 1444 = some (.iconst 1, 1) := by decide +kernel
theorem cL_1445 : mc_lawcd 1445 = some (.iadd, 1) := by decide +kernel
theorem cL_1446 : mc_lawcd 1446 = some (.iaload, 1) := by decide +kernel
theorem cL_1447 : mc_lawcd 1447 = some (.invokevirtual 195, 3) := by decide +kernel
theorem cL_1450 : mc_lawcd 1450 = some (.pop, 1) := by decide +kernel
theorem cL_1451 : mc_lawcd 1451 = some (.goto 202, 3) := by decide +kernel
theorem cL_1454 : mc_lawcd 1454 = some (.aload_n 1, 1) := by decide +kernel
theorem cL_1455 : mc_lawcd 1455 = some (.invokevirtual 196, 3) := by decide +kernel
theorem cL_1458 : mc_lawcd 1458 = some (.pop, 1) := by decide +kernel
theorem cL_1459 : mc_lawcd 1459 = some (.aload_n 2, 1) := by decide +kernel
theorem cL_1460 : mc_lawcd 1460 = some (.invokevirtual 199, 3) := by decide +kernel
theorem cL_1463 : mc_lawcd 1463 = some (.pop, 1) := by decide +kernel
theorem cL_1464 : mc_lawcd 1464 = some (.goto 189, 3) := by decide +kernel
theorem cL_1467 : mc_lawcd 1467 = some (.aload_n 1, 1) := by decide +kernel
theorem cL_1468 : mc_lawcd 1468 = some (.aload_n 0, 1) := by decide +kernel
theorem cL_1469 : mc_lawcd 1469 = some (.iload 4, 2) := by decide +kernel
theorem cL_1471 : mc_lawcd 1471 = some (.iconst 1, 1) := by decide +kernel
theorem cL_1472 : mc_lawcd 1472 = some (.iadd, 1) := by decide +kernel
theorem cL_1473 : mc_lawcd 1473 = some (.iaload, 1) := by decide +kernel
theorem cL_1474 : mc_lawcd 1474 = some (.aload_n 0, 1) := by decide +kernel
theorem cL_1475 : mc_lawcd 1475 = some (.iload 4, 2) := by decide +kernel
theorem cL_1477 : mc_lawcd 1477 = some (.iconst 2, 1) := by decide +kernel
theorem cL_1478 : mc_lawcd 1478 = some (.iadd, 1) := by decide +kernel
theorem cL_1479 : mc_lawcd 1479 = some (.iaload, 1) := by decide +kernel
theorem cL_1480 : mc_lawcd 1480 = some (.invokevirtual 200, 3) := by decide +kernel
theorem cL_1483 : mc_lawcd 1483 = some (.pop, 1) := by decide +kernel
theorem cL_1484 : mc_lawcd 1484 = some (.aload_n 2, 1) := by decide +kernel
theorem cL_1485 : mc_lawcd 1485 = some (.aload_n 0, 1) := by decide +kernel
theorem cL_1486 : mc_lawcd 1486 = some (.iload 4, 2) := by decide +kernel
theorem cL_1488 : mc_lawcd 1488 = some (.iconst 1, 1) := by decide +kernel
theorem cL_1489 : mc_lawcd 1489 = some (.iadd, 1) := by decide +kernel
theorem cL_1490 : mc_lawcd 1490 = some (.iaload, 1) := by decide +kernel
theorem cL_1491 : mc_lawcd 1491 = some (.aload_n 0, 1) := by decide +kernel
theorem cL_1492 : mc_lawcd 1492 = some (.iload 4, 2) := by decide +kernel
theorem cL_1494 : mc_lawcd 1494 = some (.iconst 2, 1) := by decide +kernel
theorem cL_1495 : mc_lawcd 1495 = some (.iadd, 1) := by decide +kernel
theorem cL_1496 : mc_lawcd 1496 = some (.iaload, 1) := by decide +kernel
theorem cL_1497 : mc_lawcd 1497 = some (.invokevirtual 203, 3) := by decide +kernel
theorem cL_1500 : mc_lawcd 1500 = some (.pop, 1) := by decide +kernel
theorem cL_1501 : mc_lawcd 1501 = some (.goto 152, 3) := by decide +kernel
theorem cL_1504 : mc_lawcd 1504 = some (.aload_n 1, 1) := by decide +kernel
theorem cL_1505 : mc_lawcd 1505 = some (.invokevirtual 204, 3) := by decide +kernel
theorem cL_1508 : mc_lawcd 1508 = some (.pop, 1) := by decide +kernel
theorem cL_1509 : mc_lawcd 1509 = some (.aload_n 2, 1) := by decide +kernel
theorem cL_1510 : mc_lawcd 1510 = some (.invokevirtual 208, 3) := by decide +kernel
theorem cL_1513 : mc_lawcd 1513 = some (.pop, 1) := by decide +kernel
theorem cL_1514 : mc_lawcd 1514 = some (.goto 139, 3) := by decide +kernel
theorem cL_1517 : mc_lawcd 1517 = some (.aload_n 1, 1) := by decide +kernel
theorem cL_1518 : mc_lawcd 1518 = some (.invokevirtual 209, 3) := by decide +kernel
theorem cL_1521 : mc_lawcd 1521 = some (.pop2, 1) := by decide +kernel
theorem cL_1522 : mc_lawcd 1522 = some (.aload_n 2, 1) := by decide +kernel
theorem cL_1523 : mc_lawcd 1523 = some (.invokevirtual 212, 3) := by decide +kernel
theorem cL_1526 : mc_lawcd 1526 = some (.pop2, 1) := by decide +kernel
theorem cL_1527 : mc_lawcd 1527 = some (.goto 126, 3) := by decide +kernel
theorem cL_1530 : mc_lawcd 1530 = some (.aload_n 1, 1) := by decide +kernel
theorem cL_1531 : mc_lawcd 1531 = some (.aload_n 0, 1) := by decide +kernel
theorem cL_1532 : mc_lawcd 1532 = some (.iload 4, 2) := by decide +kernel
theorem cL_1534 : mc_lawcd 1534 = some (.iconst 1, 1) := by decide +kernel
theorem cL_1535 : mc_lawcd 1535 = some (.iadd, 1) := by decide +kernel
theorem cL_1536 : mc_lawcd 1536 = some (.iaload, 1) := by decide +kernel
theorem cL_1537 : mc_lawcd 1537 = some (.i2l, 1) := by decide +kernel
theorem cL_1538 : mc_lawcd 1538 = some (.bipush 32, 2) := by decide +kernel
theorem cL_1540 : mc_lawcd 1540 = some (.lshl, 1) := by decide +kernel
theorem cL_1541 : mc_lawcd 1541 = some (.aload_n 0, 1) := by decide +kernel
theorem cL_1542 : mc_lawcd 1542 = some (.iload 4, 2) := by decide +kernel
theorem cL_1544 : mc_lawcd 1544 = some (.iconst 2, 1) := by decide +kernel
theorem cL_1545 : mc_lawcd 1545 = some (.iadd, 1) := by decide +kernel
theorem cL_1546 : mc_lawcd 1546 = some (.iaload, 1) := by decide +kernel
theorem cL_1547 : mc_lawcd 1547 = some (.i2l, 1) := by decide +kernel
theorem cL_1548 : mc_lawcd 1548 = some (.ldc2_w 213, 3) := by decide +kernel
theorem cL_1551 : mc_lawcd 1551 = some (.land, 1) := by decide +kernel
theorem cL_1552 : mc_lawcd 1552 = some (.lor, 1) := by decide +kernel
theorem cL_1553 : mc_lawcd 1553 = some (.invokevirtual 215, 3) := by decide +kernel
theorem cL_1556 : mc_lawcd 1556 = some (.pop, 1) := by decide +kernel
theorem cL_1557 : mc_lawcd 1557 = some (.aload_n 2, 1) := by decide +kernel
theorem cL_1558 : mc_lawcd 1558 = some (.aload_n 0, 1) := by decide +kernel
theorem cL_1559 : mc_lawcd 1559 = some (.iload 4, 2) := by decide +kernel
theorem cL_1561 : mc_lawcd 1561 = some (.iconst 1, 1) := by decide +kernel
theorem cL_1562 : mc_lawcd 1562 = some (.iadd, 1) := by decide +kernel
theorem cL_1563 : mc_lawcd 1563 = some (.iaload, 1) := by decide +kernel
theorem cL_1564 : mc_lawcd 1564 = some (.i2l, 1) := by decide +kernel
theorem cL_1565 : mc_lawcd 1565 = some (.bipush 32, 2) := by decide +kernel
theorem cL_1567 : mc_lawcd 1567 = some (.lshl, 1) := by decide +kernel
theorem cL_1568 : mc_lawcd 1568 = some (.aload_n 0, 1) := by decide +kernel
theorem cL_1569 : mc_lawcd 1569 = some (.iload 4, 2) := by decide +kernel
theorem cL_1571 : mc_lawcd 1571 = some (.iconst 2, 1) := by decide +kernel
theorem cL_1572 : mc_lawcd 1572 = some (.iadd, 1) := by decide +kernel
theorem cL_1573 : mc_lawcd 1573 = some (.iaload, 1) := by decide +kernel
theorem cL_1574 : mc_lawcd 1574 = some (.i2l, 1) := by decide +kernel
theorem cL_1575 : mc_lawcd 1575 = some (.ldc2_w 213, 3) := by decide +kernel
theorem cL_1578 : mc_lawcd 1578 = some (.land, 1) := by decide +kernel
theorem cL_1579 : mc_lawcd 1579 = some (.lor, 1) := by decide +kernel
theorem cL_1580 : mc_lawcd 1580 = some (.invokevirtual 219, 3) := by decide +kernel
theorem cL_1583 : mc_lawcd 1583 = some (.pop, 1) := by decide +kernel
theorem cL_1584 : mc_lawcd 1584 = some (.goto 69, 3) := by decide +kernel
theorem cL_1587 : mc_lawcd 1587 = some (.aload_n 1, 1) := by decide +kernel
theorem cL_1588 : mc_lawcd 1588 = some (.aload_n 0, 1) := by decide +kernel
theorem cL_1589 : mc_lawcd 1589 = some (.iload 4, 2) := by decide +kernel
theorem cL_1591 : mc_lawcd 1591 = some (.iconst 1, 1) := by decide +kernel
theorem cL_1592 : mc_lawcd 1592 = some (.iadd, 1) := by decide +kernel
theorem cL_1593 : mc_lawcd 1593 = some (.iaload, 1) := by decide +kernel
theorem cL_1594 : mc_lawcd 1594 = some (.aload_n 3, 1) := by decide +kernel
theorem cL_1595 : mc_lawcd 1595 = some (.invokestatic 220, 3) := by decide +kernel
theorem cL_1598 : mc_lawcd 1598 = some (.istore 5, 2) := by decide +kernel
theorem cL_1600 : mc_lawcd 1600 = some (.aload_n 2, 1) := by decide +kernel
theorem cL_1601 : mc_lawcd 1601 = some (.aload_n 0, 1) := by decide +kernel
theorem cL_1602 : mc_lawcd 1602 = some (.iload 4, 2) := by decide +kernel
theorem cL_1604 : mc_lawcd 1604 = some (.iconst 1, 1) := by decide +kernel
theorem cL_1605 : mc_lawcd 1605 = some (.iadd, 1) := by decide +kernel
theorem cL_1606 : mc_lawcd 1606 = some (.iaload, 1) := by decide +kernel
theorem cL_1607 : mc_lawcd 1607 = some (.invokevirtual 225, 3) := by decide +kernel
theorem cL_1610 : mc_lawcd 1610 = some (.istore 6, 2) := by decide +kernel
theorem cL_1612 : mc_lawcd 1612 = some (.goto 41, 3) := by decide +kernel
theorem cL_1615 : mc_lawcd 1615 = some (.aload_n 1, 1) := by decide +kernel
theorem cL_1616 : mc_lawcd 1616 = some (.aload_n 0, 1) := by decide +kernel
theorem cL_1617 : mc_lawcd 1617 = some (.iload 4, 2) := by decide +kernel
theorem cL_1619 : mc_lawcd 1619 = some (.iconst 1, 1) := by decide +kernel
theorem cL_1620 : mc_lawcd 1620 = some (.iadd, 1) := by decide +kernel
theorem cL_1621 : mc_lawcd 1621 = some (.iaload, 1) := by decide +kernel
theorem cL_1622 : mc_lawcd 1622 = some (.invokevirtual 226, 3) := by decide +kernel
theorem cL_1625 : mc_lawcd 1625 = some (.pop, 1) := by decide +kernel
theorem cL_1626 : mc_lawcd 1626 = some (.aload_n 2, 1) := by decide +kernel
theorem cL_1627 : mc_lawcd 1627 = some (.aload_n 0, 1) := by decide +kernel
theorem cL_1628 : mc_lawcd 1628 = some (.iload 4, 2) := by decide +kernel
theorem cL_1630 : mc_lawcd 1630 = some (.iconst 1, 1) := by decide +kernel
theorem cL_1631 : mc_lawcd 1631 = some (.iadd, 1) := by decide +kernel
theorem cL_1632 : mc_lawcd 1632 = some (.iaload, 1) := by decide +kernel
theorem cL_1633 : mc_lawcd 1633 = some (.invokevirtual 229, 3) := by decide +kernel
theorem cL_1636 : mc_lawcd 1636 = some (.pop, 1) := by decide +kernel
theorem cL_1637 : mc_lawcd 1637 = some (.goto 16, 3) := by decide +kernel
theorem cL_1640 : mc_lawcd 1640 = some (.aload_n 1, 1) := by decide +kernel
theorem cL_1641 : mc_lawcd 1641 = some (.invokevirtual 230, 3) := by decide +kernel
theorem cL_1644 : mc_lawcd 1644 = some (.pop, 1) := by decide +kernel
theorem cL_1645 : mc_lawcd 1645 = some (.aload_n 2, 1) := by decide +kernel
theorem cL_1646 : mc_lawcd 1646 = some (.invokevirtual 233, 3) := by decide +kernel
theorem cL_1649 : mc_lawcd 1649 = some (.pop, 1) := by decide +kernel
theorem cL_1650 : mc_lawcd 1650 = some (.goto 3, 3) := by decide +kernel
theorem cL_1653 : mc_lawcd 1653 = some (.iinc 4 6, 3) := by decide +kernel
theorem cL_1656 : mc_lawcd 1656 = some (.goto (-1633), 3) := by decide +kernel
theorem cL_1659 : mc_lawcd 1659 = some (.iconst 1, 1) := by decide +kernel
theorem cL_1660 : mc_lawcd 1660 = some (.ireturn, 1) := by decide +kernel
set_option maxHeartbeats 4000000 in
theorem wl_c0 {kt : Nat → Option mc_E} {CB SB : Nat} {X : mc_S → Prop} {T : wq_T} {H : wq_H} {Len x m o : Nat} {i : Int} (hX : wlX kt CB SB X) (hb : T.2.1 ≤ CB ∧ T.2.2.1 ≤ SB) (hI : wlJ Len x m o T H) (hL : Len ≤ 3072) (hi : 0 ≤ i ∧ i + 6 ≤ Len) (hb2 : T.2.1 + 20 ≤ CB ∧ T.2.2.1 + 500 ≤ SB)  (next : ∀ T' H', wlJ Len x m o T' H' → T'.2.1 ≤ T.2.1 + 20 → T'.2.2.1 ≤ T.2.2.1 + 500 → WL kt CB SB X 1653 (wlL i x m o) [] T' H') : WL kt CB SB X 256 (wlL i x m o) [] T H := by
  obtain ⟨⟨hW, g0, gx, gm, go, hK, hr⟩, hXI, hY1, hY2⟩ := hI
  refine wl_of hX hb cL_256 (rw_aload_n (pc' := 257) (v := .ref x) rfl rfl rfl ?_)
  refine wl_of hX hb cL_257 (rw_aload_n (pc' := 258) (v := .ref 0) rfl rfl rfl ?_)
  refine wl_of hX hb cL_258 (rw_iload (pc' := 260) (z := i) rfl rfl ?_)
  refine wl_of hX hb cL_260 (rw_iconst (pc' := 261) rfl ?_)
  refine wl_of hX hb cL_261 (rw_iadd (pc' := 262) rfl ?_)
  refine wl_of hX hb cL_262 (xa_I (so := 0) (pc' := 263) (a := 0) hW g0 (wsh_s _) (by omega) (wty_s _ _) (by omega) (by omega) rfl (fun b1093 b1094 => ?_))
  refine wl_of hX hb cL_263 (rw_aload_n (pc' := 264) (v := .ref 0) rfl rfl rfl ?_)
  refine wl_of hX hb cL_264 (rw_iload (pc' := 266) (z := i) rfl rfl ?_)
  refine wl_of hX hb cL_266 (rw_iconst (pc' := 267) rfl ?_)
  refine wl_of hX hb cL_267 (rw_iadd (pc' := 268) rfl ?_)
  refine wl_of hX hb cL_268 (xa_I (so := 0) (pc' := 269) (a := 0) hW g0 (wsh_s _) (by omega) (wty_s _ _) (by omega) (by omega) rfl (fun b1095 b1096 => ?_))
  refine wl_of hX hb cL_269 (rw_aload_n (pc' := 270) (v := .ref 0) rfl rfl rfl ?_)
  refine wl_of hX hb cL_270 (rw_iload (pc' := 272) (z := i) rfl rfl ?_)
  refine wl_of hX hb cL_272 (rw_iconst (pc' := 273) rfl ?_)
  refine wl_of hX hb cL_273 (rw_iadd (pc' := 274) rfl ?_)
  refine wl_of hX hb cL_274 (xa_I (so := 0) (pc' := 275) (a := 0) hW g0 (wsh_s _) (by omega) (wty_s _ _) (by omega) (by omega) rfl (fun b1097 b1098 => ?_))
  refine wl_of hX hb cL_275 (rw_aload_n (pc' := 276) (v := .ref 0) rfl rfl rfl ?_)
  refine wl_of hX hb cL_276 (rw_iload (pc' := 278) (z := i) rfl rfl ?_)
  refine wl_of hX hb cL_278 (rw_iconst (pc' := 279) rfl ?_)
  refine wl_of hX hb cL_279 (rw_iadd (pc' := 280) rfl ?_)
  refine wl_of hX hb cL_280 (xa_I (so := 0) (pc' := 281) (a := 0) hW g0 (wsh_s _) (by omega) (wty_s _ _) (by omega) (by omega) rfl (fun b1099 b1100 => ?_))
  refine wl_of hX hb cL_281 (rw_aload_n (pc' := 282) (v := .ref 0) rfl rfl rfl ?_)
  refine wl_of hX hb cL_282 (rw_iload (pc' := 284) (z := i) rfl rfl ?_)
  refine wl_of hX hb cL_284 (rw_iconst (pc' := 285) rfl ?_)
  refine wl_of hX hb cL_285 (rw_iadd (pc' := 286) rfl ?_)
  refine wl_of hX hb cL_286 (xa_I (so := 0) (pc' := 287) (a := 0) hW g0 (wsh_s _) (by omega) (wty_s _ _) (by omega) (by omega) rfl (fun b1101 b1102 => ?_))
  obtain ⟨B, tc, tm, cu, dr, e0, gtc, htc, em, gtm, htm, ecu, gcu, edr, gdr, hcu, hdr, -⟩ := hXI
  obtain ⟨t9, ht9⟩ : ∃ t : Int, t = H x 9 := ⟨_, rfl⟩
  obtain ⟨y9, hy9⟩ : ∃ y : Int, y = H 0 ((i + 5).toNat) := ⟨_, rfl⟩
  obtain ⟨d1, hd1⟩ : ∃ y : Int, y = H 0 ((i + 1).toNat) := ⟨_, rfl⟩
  obtain ⟨d2, hd2⟩ : ∃ y : Int, y = H 0 ((i + 2).toNat) := ⟨_, rfl⟩
  obtain ⟨d3, hd3⟩ : ∃ y : Int, y = H 0 ((i + 3).toNat) := ⟨_, rfl⟩
  obtain ⟨d4, hd4⟩ : ∃ y : Int, y = H 0 ((i + 4).toNat) := ⟨_, rfl⟩
  obtain ⟨d5, hd5⟩ : ∃ y : Int, y = H 0 ((i + 5).toNat) := ⟨_, rfl⟩
  refine wl_of hX hb cL_287 (xc_V (pc' := 290) (r := x) (as := [vI (H 0 ((i + 1).toNat)), vI (H 0 ((i + 2).toNat)), vI (H 0 ((i + 3).toNat)), vI (H 0 ((i + 4).toNat)), vI (H 0 ((i + 5).toNat))]) (st := []) (lm_11_19) rfl rfl (Nat.le_of_ble_eq_true rfl) hW gx sh_1 (by decide) rfl (by decide) (u_9 (B := B) (t := t9) (b1 := d1) (b2 := d2) (b3 := d3) (b4 := d4) (b5 := d5) hW gx ⟨by omega, by omega⟩ ⟨by omega, by omega⟩ ⟨by omega, by omega⟩ ⟨by omega, by omega⟩ ⟨by omega, by omega⟩ e0 gtc (by omega) (by omega) (by omega) (by omega) (by omega) (by omega) htc) (fun R1103 T1104 H1105 p1106 => ?_))
  obtain ⟨e1107, w1109, f1110, z1111, e1108, b1112, p1113⟩ := p1106
  subst e1107
  subst e1108
  rcases p1113 with ⟨a1114, a1115, a1116, a1117⟩ | ⟨a1118, a1119, a1120, a1121, a1122⟩
  · show WL _ _ _ _ 290 [(4, vI i), (3, .ref o), (2, .ref m), (1, .ref x), (0, .ref 0)] [vI z1111] _ H1105
    refine wl_of hX hb cL_290 (rw_pop (pc' := 291) rfl rfl ?_)
    refine wl_of hX hb cL_291 (rw_aload_n (pc' := 292) (v := .ref m) rfl rfl rfl ?_)
    refine wl_of hX hb cL_292 (rw_aload_n (pc' := 293) (v := .ref 0) rfl rfl rfl ?_)
    refine wl_of hX hb cL_293 (rw_iload (pc' := 295) (z := i) rfl rfl ?_)
    refine wl_of hX hb cL_295 (rw_iconst (pc' := 296) rfl ?_)
    refine wl_of hX hb cL_296 (rw_iadd (pc' := 297) rfl ?_)
    have k1125 : H1105 0 ((i + 1).toNat) = H 0 ((i + 1).toNat) := (f1110 0 ((i + 1).toNat) _ g0 (wmem_s rfl))
    refine wl_of hX hb cL_297 (xa_I (so := 0) (pc' := 298) (a := 0) w1109 g0 (wsh_s _) (by omega) (wty_s _ _) (by omega) (by omega) rfl (fun b1123 b1124 => ?_))
    refine wl_of hX hb cL_298 (rw_aload_n (pc' := 299) (v := .ref 0) rfl rfl rfl ?_)
    refine wl_of hX hb cL_299 (rw_iload (pc' := 301) (z := i) rfl rfl ?_)
    refine wl_of hX hb cL_301 (rw_iconst (pc' := 302) rfl ?_)
    refine wl_of hX hb cL_302 (rw_iadd (pc' := 303) rfl ?_)
    have k1128 : H1105 0 ((i + 2).toNat) = H 0 ((i + 2).toNat) := (f1110 0 ((i + 2).toNat) _ g0 (wmem_s rfl))
    refine wl_of hX hb cL_303 (xa_I (so := 0) (pc' := 304) (a := 0) w1109 g0 (wsh_s _) (by omega) (wty_s _ _) (by omega) (by omega) rfl (fun b1126 b1127 => ?_))
    refine wl_of hX hb cL_304 (rw_aload_n (pc' := 305) (v := .ref 0) rfl rfl rfl ?_)
    refine wl_of hX hb cL_305 (rw_iload (pc' := 307) (z := i) rfl rfl ?_)
    refine wl_of hX hb cL_307 (rw_iconst (pc' := 308) rfl ?_)
    refine wl_of hX hb cL_308 (rw_iadd (pc' := 309) rfl ?_)
    have k1131 : H1105 0 ((i + 3).toNat) = H 0 ((i + 3).toNat) := (f1110 0 ((i + 3).toNat) _ g0 (wmem_s rfl))
    refine wl_of hX hb cL_309 (xa_I (so := 0) (pc' := 310) (a := 0) w1109 g0 (wsh_s _) (by omega) (wty_s _ _) (by omega) (by omega) rfl (fun b1129 b1130 => ?_))
    refine wl_of hX hb cL_310 (rw_aload_n (pc' := 311) (v := .ref 0) rfl rfl rfl ?_)
    refine wl_of hX hb cL_311 (rw_iload (pc' := 313) (z := i) rfl rfl ?_)
    refine wl_of hX hb cL_313 (rw_iconst (pc' := 314) rfl ?_)
    refine wl_of hX hb cL_314 (rw_iadd (pc' := 315) rfl ?_)
    have k1134 : H1105 0 ((i + 4).toNat) = H 0 ((i + 4).toNat) := (f1110 0 ((i + 4).toNat) _ g0 (wmem_s rfl))
    refine wl_of hX hb cL_315 (xa_I (so := 0) (pc' := 316) (a := 0) w1109 g0 (wsh_s _) (by omega) (wty_s _ _) (by omega) (by omega) rfl (fun b1132 b1133 => ?_))
    refine wl_of hX hb cL_316 (rw_aload_n (pc' := 317) (v := .ref 0) rfl rfl rfl ?_)
    refine wl_of hX hb cL_317 (rw_iload (pc' := 319) (z := i) rfl rfl ?_)
    refine wl_of hX hb cL_319 (rw_iconst (pc' := 320) rfl ?_)
    refine wl_of hX hb cL_320 (rw_iadd (pc' := 321) rfl ?_)
    have k1137 : H1105 0 ((i + 5).toNat) = H 0 ((i + 5).toNat) := (f1110 0 ((i + 5).toNat) _ g0 (wmem_s rfl))
    refine wl_of hX hb cL_321 (xa_I (so := 0) (pc' := 322) (a := 0) w1109 g0 (wsh_s _) (by omega) (wty_s _ _) (by omega) (by omega) rfl (fun b1135 b1136 => ?_))
    have k1138 : wKI H1105 m = wKI H m := (wKI_fr hW gm f1110 rfl)
    have k1139 : H1105 m 6 = H m 6 := (f1110 m 6 _ gm rfl)
    have k1140 : H1105 x 11 = H x 11 := (f1110 x 11 _ gx rfl)
    have k1141 : H1105 m 13 = H m 13 := (f1110 m 13 _ gm rfl)
    have k1142 : H1105 x 8 = H x 8 := (f1110 x 8 _ gx rfl)
    have k1143 : H1105 m 3 = H m 3 := (f1110 m 3 _ gm rfl)
    have k1144 : H1105 m 5 = H m 5 := (f1110 m 5 _ gm rfl)
    have q1145 : H1105 m 5 = (tm : Int) := k1144.trans em
    have h1146 : TM T H1105 tm B := (TM_fr hW gtm f1110 rfl htm)
    refine wl_of hX hb cL_322 (xc_V (pc' := 325) (r := m) (as := [vI (H1105 0 ((i + 1).toNat)), vI (H1105 0 ((i + 2).toNat)), vI (H1105 0 ((i + 3).toNat)), vI (H1105 0 ((i + 4).toNat)), vI (H1105 0 ((i + 5).toNat))]) (st := []) (lm_11_23) rfl rfl (Nat.le_of_ble_eq_true rfl) w1109 gm sh_42 (by decide) rfl (by decide) (u_168 (B := B) (t := t9) (b1 := d1) (b2 := d2) (b3 := d3) (b4 := d4) (b5 := d5) w1109 gm ⟨by omega, by omega⟩ ⟨by omega, by omega⟩ ⟨by omega, by omega⟩ ⟨by omega, by omega⟩ ⟨by omega, by omega⟩ q1145 gtm (by omega) (by omega) (by omega) (by omega) (by omega) (by omega) h1146) (fun R1147 T1148 H1149 p1150 => ?_))
    obtain ⟨e1151, w1153, f1154, z1155, e1152, b1156, p1157⟩ := p1150
    subst e1151
    subst e1152
    rcases p1157 with ⟨a1158, a1159, a1160, a1161⟩ | ⟨a1162, a1163, a1164, a1165, a1166⟩
    · show WL _ _ _ _ 325 [(4, vI i), (3, .ref o), (2, .ref m), (1, .ref x), (0, .ref 0)] [vI z1155] _ H1149
      refine wl_of hX hb cL_325 (rw_pop (pc' := 326) rfl rfl ?_)
      refine wl_of hX hb cL_326 (rw_goto (p1 := 1653) (by decide) ?_)
      have k1167 : wKI H1149 m = wKI H1105 m := (wKI_fr w1109 gm f1154 rfl)
      have k1168 : H1149 x 9 = H1105 x 9 := (f1154 x 9 _ gx rfl)
      have k1169 : H1149 x 11 = H1105 x 11 := (f1154 x 11 _ gx rfl)
      have k1170 : H1149 m 13 = H1105 m 13 := (f1154 m 13 _ gm rfl)
      have k1171 : H1149 x 8 = H1105 x 8 := (f1154 x 8 _ gx rfl)
      have k1172 : H1149 m 3 = H1105 m 3 := (f1154 m 3 _ gm rfl)
      have k1173 : H1149 x 0 = H x 0 := ((f1154 x 0 _ gx rfl).trans (f1110 x 0 _ gx rfl))
      have q1174 : H1149 x 0 = (tc : Int) := k1173.trans e0
      have k1175 : H1149 m 5 = H1105 m 5 := (f1154 m 5 _ gm rfl)
      have q1176 : H1149 m 5 = (tm : Int) := k1175.trans q1145
      have k1177 : H1149 x 6 = H x 6 := ((f1154 x 6 _ gx rfl).trans (f1110 x 6 _ gx rfl))
      have q1178 : H1149 x 6 = (cu : Int) := k1177.trans ecu
      have k1179 : H1149 x 7 = H x 7 := ((f1154 x 7 _ gx rfl).trans (f1110 x 7 _ gx rfl))
      have q1180 : H1149 x 7 = (dr : Int) := k1179.trans edr
      have h1181 : TP T H1149 tc B := (TP_fr w1109 gtc f1154 rfl a1117)
      have h1182 : DD T H1149 cu  := (DD_fr w1109 gcu f1154 rfl (DD_fr hW gcu f1110 rfl hcu))
      have h1183 : DD T H1149 dr  := (DD_fr w1109 gdr f1154 rfl (DD_fr hW gdr f1110 rfl hdr))
      exact WL.loc hX (by simp) (next T H1149 ⟨⟨w1153, g0, gx, gm, go, by omega, by omega⟩, ⟨_, tc, tm, cu, dr, q1174, gtc, h1181, q1176, gtm, a1161, q1178, gcu, q1180, gdr, h1182, h1183, gm⟩, by omega, by omega⟩ (by omega) (by omega))
    · show WL _ _ _ _ 325 [(4, vI i), (3, .ref o), (2, .ref m), (1, .ref x), (0, .ref 0)] [vI z1155] _ H1149
      refine wl_of hX hb cL_325 (rw_pop (pc' := 326) rfl rfl ?_)
      refine wl_of hX hb cL_326 (rw_goto (p1 := 1653) (by decide) ?_)
      have k1184 : wKI H1149 m = wKI H1105 m := (wKI_fr w1109 gm f1154 rfl)
      have k1185 : H1149 x 9 = H1105 x 9 := (f1154 x 9 _ gx rfl)
      have k1186 : H1149 x 11 = H1105 x 11 := (f1154 x 11 _ gx rfl)
      have k1187 : H1149 m 13 = H1105 m 13 := (f1154 m 13 _ gm rfl)
      have k1188 : H1149 x 8 = H1105 x 8 := (f1154 x 8 _ gx rfl)
      have k1189 : H1149 m 3 = H1105 m 3 := (f1154 m 3 _ gm rfl)
      have k1190 : H1149 x 0 = H x 0 := ((f1154 x 0 _ gx rfl).trans (f1110 x 0 _ gx rfl))
      have q1191 : H1149 x 0 = (tc : Int) := k1190.trans e0
      have k1192 : H1149 m 5 = H1105 m 5 := (f1154 m 5 _ gm rfl)
      have q1193 : H1149 m 5 = (tm : Int) := k1192.trans q1145
      have k1194 : H1149 x 6 = H x 6 := ((f1154 x 6 _ gx rfl).trans (f1110 x 6 _ gx rfl))
      have q1195 : H1149 x 6 = (cu : Int) := k1194.trans ecu
      have k1196 : H1149 x 7 = H x 7 := ((f1154 x 7 _ gx rfl).trans (f1110 x 7 _ gx rfl))
      have q1197 : H1149 x 7 = (dr : Int) := k1196.trans edr
      have h1198 : TP T H1149 tc B := (TP_fr w1109 gtc f1154 rfl a1117)
      have h1199 : DD T H1149 cu  := (DD_fr w1109 gcu f1154 rfl (DD_fr hW gcu f1110 rfl hcu))
      have h1200 : DD T H1149 dr  := (DD_fr w1109 gdr f1154 rfl (DD_fr hW gdr f1110 rfl hdr))
      exfalso
      omega
  · show WL _ _ _ _ 290 [(4, vI i), (3, .ref o), (2, .ref m), (1, .ref x), (0, .ref 0)] [vI z1111] _ H1105
    refine wl_of hX hb cL_290 (rw_pop (pc' := 291) rfl rfl ?_)
    refine wl_of hX hb cL_291 (rw_aload_n (pc' := 292) (v := .ref m) rfl rfl rfl ?_)
    refine wl_of hX hb cL_292 (rw_aload_n (pc' := 293) (v := .ref 0) rfl rfl rfl ?_)
    refine wl_of hX hb cL_293 (rw_iload (pc' := 295) (z := i) rfl rfl ?_)
    refine wl_of hX hb cL_295 (rw_iconst (pc' := 296) rfl ?_)
    refine wl_of hX hb cL_296 (rw_iadd (pc' := 297) rfl ?_)
    have k1203 : H1105 0 ((i + 1).toNat) = H 0 ((i + 1).toNat) := (f1110 0 ((i + 1).toNat) _ g0 (wmem_s rfl))
    refine wl_of hX hb cL_297 (xa_I (so := 0) (pc' := 298) (a := 0) w1109 g0 (wsh_s _) (by omega) (wty_s _ _) (by omega) (by omega) rfl (fun b1201 b1202 => ?_))
    refine wl_of hX hb cL_298 (rw_aload_n (pc' := 299) (v := .ref 0) rfl rfl rfl ?_)
    refine wl_of hX hb cL_299 (rw_iload (pc' := 301) (z := i) rfl rfl ?_)
    refine wl_of hX hb cL_301 (rw_iconst (pc' := 302) rfl ?_)
    refine wl_of hX hb cL_302 (rw_iadd (pc' := 303) rfl ?_)
    have k1206 : H1105 0 ((i + 2).toNat) = H 0 ((i + 2).toNat) := (f1110 0 ((i + 2).toNat) _ g0 (wmem_s rfl))
    refine wl_of hX hb cL_303 (xa_I (so := 0) (pc' := 304) (a := 0) w1109 g0 (wsh_s _) (by omega) (wty_s _ _) (by omega) (by omega) rfl (fun b1204 b1205 => ?_))
    refine wl_of hX hb cL_304 (rw_aload_n (pc' := 305) (v := .ref 0) rfl rfl rfl ?_)
    refine wl_of hX hb cL_305 (rw_iload (pc' := 307) (z := i) rfl rfl ?_)
    refine wl_of hX hb cL_307 (rw_iconst (pc' := 308) rfl ?_)
    refine wl_of hX hb cL_308 (rw_iadd (pc' := 309) rfl ?_)
    have k1209 : H1105 0 ((i + 3).toNat) = H 0 ((i + 3).toNat) := (f1110 0 ((i + 3).toNat) _ g0 (wmem_s rfl))
    refine wl_of hX hb cL_309 (xa_I (so := 0) (pc' := 310) (a := 0) w1109 g0 (wsh_s _) (by omega) (wty_s _ _) (by omega) (by omega) rfl (fun b1207 b1208 => ?_))
    refine wl_of hX hb cL_310 (rw_aload_n (pc' := 311) (v := .ref 0) rfl rfl rfl ?_)
    refine wl_of hX hb cL_311 (rw_iload (pc' := 313) (z := i) rfl rfl ?_)
    refine wl_of hX hb cL_313 (rw_iconst (pc' := 314) rfl ?_)
    refine wl_of hX hb cL_314 (rw_iadd (pc' := 315) rfl ?_)
    have k1212 : H1105 0 ((i + 4).toNat) = H 0 ((i + 4).toNat) := (f1110 0 ((i + 4).toNat) _ g0 (wmem_s rfl))
    refine wl_of hX hb cL_315 (xa_I (so := 0) (pc' := 316) (a := 0) w1109 g0 (wsh_s _) (by omega) (wty_s _ _) (by omega) (by omega) rfl (fun b1210 b1211 => ?_))
    refine wl_of hX hb cL_316 (rw_aload_n (pc' := 317) (v := .ref 0) rfl rfl rfl ?_)
    refine wl_of hX hb cL_317 (rw_iload (pc' := 319) (z := i) rfl rfl ?_)
    refine wl_of hX hb cL_319 (rw_iconst (pc' := 320) rfl ?_)
    refine wl_of hX hb cL_320 (rw_iadd (pc' := 321) rfl ?_)
    have k1215 : H1105 0 ((i + 5).toNat) = H 0 ((i + 5).toNat) := (f1110 0 ((i + 5).toNat) _ g0 (wmem_s rfl))
    refine wl_of hX hb cL_321 (xa_I (so := 0) (pc' := 322) (a := 0) w1109 g0 (wsh_s _) (by omega) (wty_s _ _) (by omega) (by omega) rfl (fun b1213 b1214 => ?_))
    have k1216 : wKI H1105 m = wKI H m := (wKI_fr hW gm f1110 rfl)
    have k1217 : H1105 m 6 = H m 6 := (f1110 m 6 _ gm rfl)
    have k1218 : H1105 x 11 = H x 11 := (f1110 x 11 _ gx rfl)
    have k1219 : H1105 m 13 = H m 13 := (f1110 m 13 _ gm rfl)
    have k1220 : H1105 x 8 = H x 8 := (f1110 x 8 _ gx rfl)
    have k1221 : H1105 m 3 = H m 3 := (f1110 m 3 _ gm rfl)
    have k1222 : H1105 m 5 = H m 5 := (f1110 m 5 _ gm rfl)
    have q1223 : H1105 m 5 = (tm : Int) := k1222.trans em
    have h1224 : TM T H1105 tm B := (TM_fr hW gtm f1110 rfl htm)
    refine wl_of hX hb cL_322 (xc_V (pc' := 325) (r := m) (as := [vI (H1105 0 ((i + 1).toNat)), vI (H1105 0 ((i + 2).toNat)), vI (H1105 0 ((i + 3).toNat)), vI (H1105 0 ((i + 4).toNat)), vI (H1105 0 ((i + 5).toNat))]) (st := []) (lm_11_23) rfl rfl (Nat.le_of_ble_eq_true rfl) w1109 gm sh_42 (by decide) rfl (by decide) (u_168 (B := B) (t := t9) (b1 := d1) (b2 := d2) (b3 := d3) (b4 := d4) (b5 := d5) w1109 gm ⟨by omega, by omega⟩ ⟨by omega, by omega⟩ ⟨by omega, by omega⟩ ⟨by omega, by omega⟩ ⟨by omega, by omega⟩ q1223 gtm (by omega) (by omega) (by omega) (by omega) (by omega) (by omega) h1224) (fun R1225 T1226 H1227 p1228 => ?_))
    obtain ⟨e1229, w1231, f1232, z1233, e1230, b1234, p1235⟩ := p1228
    subst e1229
    subst e1230
    rcases p1235 with ⟨a1236, a1237, a1238, a1239⟩ | ⟨a1240, a1241, a1242, a1243, a1244⟩
    · show WL _ _ _ _ 325 [(4, vI i), (3, .ref o), (2, .ref m), (1, .ref x), (0, .ref 0)] [vI z1233] _ H1227
      refine wl_of hX hb cL_325 (rw_pop (pc' := 326) rfl rfl ?_)
      refine wl_of hX hb cL_326 (rw_goto (p1 := 1653) (by decide) ?_)
      have k1245 : wKI H1227 m = wKI H1105 m := (wKI_fr w1109 gm f1232 rfl)
      have k1246 : H1227 x 9 = H1105 x 9 := (f1232 x 9 _ gx rfl)
      have k1247 : H1227 x 11 = H1105 x 11 := (f1232 x 11 _ gx rfl)
      have k1248 : H1227 m 13 = H1105 m 13 := (f1232 m 13 _ gm rfl)
      have k1249 : H1227 x 8 = H1105 x 8 := (f1232 x 8 _ gx rfl)
      have k1250 : H1227 m 3 = H1105 m 3 := (f1232 m 3 _ gm rfl)
      have k1251 : H1227 x 0 = H x 0 := ((f1232 x 0 _ gx rfl).trans (f1110 x 0 _ gx rfl))
      have q1252 : H1227 x 0 = (tc : Int) := k1251.trans e0
      have k1253 : H1227 m 5 = H1105 m 5 := (f1232 m 5 _ gm rfl)
      have q1254 : H1227 m 5 = (tm : Int) := k1253.trans q1223
      have k1255 : H1227 x 6 = H x 6 := ((f1232 x 6 _ gx rfl).trans (f1110 x 6 _ gx rfl))
      have q1256 : H1227 x 6 = (cu : Int) := k1255.trans ecu
      have k1257 : H1227 x 7 = H x 7 := ((f1232 x 7 _ gx rfl).trans (f1110 x 7 _ gx rfl))
      have q1258 : H1227 x 7 = (dr : Int) := k1257.trans edr
      have h1259 : TP T H1227 tc (xfk B t9 d1 d2 d3 d4 d5 20) := (TP_fr w1109 gtc f1232 rfl a1122)
      have h1260 : DD T H1227 cu  := (DD_fr w1109 gcu f1232 rfl (DD_fr hW gcu f1110 rfl hcu))
      have h1261 : DD T H1227 dr  := (DD_fr w1109 gdr f1232 rfl (DD_fr hW gdr f1110 rfl hdr))
      exfalso
      omega
    · show WL _ _ _ _ 325 [(4, vI i), (3, .ref o), (2, .ref m), (1, .ref x), (0, .ref 0)] [vI z1233] _ H1227
      refine wl_of hX hb cL_325 (rw_pop (pc' := 326) rfl rfl ?_)
      refine wl_of hX hb cL_326 (rw_goto (p1 := 1653) (by decide) ?_)
      have k1262 : wKI H1227 m = wKI H1105 m := (wKI_fr w1109 gm f1232 rfl)
      have k1263 : H1227 x 9 = H1105 x 9 := (f1232 x 9 _ gx rfl)
      have k1264 : H1227 x 11 = H1105 x 11 := (f1232 x 11 _ gx rfl)
      have k1265 : H1227 m 13 = H1105 m 13 := (f1232 m 13 _ gm rfl)
      have k1266 : H1227 x 8 = H1105 x 8 := (f1232 x 8 _ gx rfl)
      have k1267 : H1227 m 3 = H1105 m 3 := (f1232 m 3 _ gm rfl)
      have k1268 : H1227 x 0 = H x 0 := ((f1232 x 0 _ gx rfl).trans (f1110 x 0 _ gx rfl))
      have q1269 : H1227 x 0 = (tc : Int) := k1268.trans e0
      have k1270 : H1227 m 5 = H1105 m 5 := (f1232 m 5 _ gm rfl)
      have q1271 : H1227 m 5 = (tm : Int) := k1270.trans q1223
      have k1272 : H1227 x 6 = H x 6 := ((f1232 x 6 _ gx rfl).trans (f1110 x 6 _ gx rfl))
      have q1273 : H1227 x 6 = (cu : Int) := k1272.trans ecu
      have k1274 : H1227 x 7 = H x 7 := ((f1232 x 7 _ gx rfl).trans (f1110 x 7 _ gx rfl))
      have q1275 : H1227 x 7 = (dr : Int) := k1274.trans edr
      have h1276 : TP T H1227 tc (xfk B t9 d1 d2 d3 d4 d5 20) := (TP_fr w1109 gtc f1232 rfl a1122)
      have h1277 : DD T H1227 cu  := (DD_fr w1109 gcu f1232 rfl (DD_fr hW gcu f1110 rfl hcu))
      have h1278 : DD T H1227 dr  := (DD_fr w1109 gdr f1232 rfl (DD_fr hW gdr f1110 rfl hdr))
      exact WL.loc hX (by simp) (next T H1227 ⟨⟨w1231, g0, gx, gm, go, by omega, by omega⟩, ⟨_, tc, tm, cu, dr, q1269, gtc, h1276, q1271, gtm, a1244, q1273, gcu, q1275, gdr, h1277, h1278, gm⟩, by omega, by omega⟩ (by omega) (by omega))
set_option maxHeartbeats 4000000 in
theorem wl_c1 {kt : Nat → Option mc_E} {CB SB : Nat} {X : mc_S → Prop} {T : wq_T} {H : wq_H} {Len x m o : Nat} {i : Int} (hX : wlX kt CB SB X) (hb : T.2.1 ≤ CB ∧ T.2.2.1 ≤ SB) (hI : wlJ Len x m o T H) (hL : Len ≤ 3072) (hi : 0 ≤ i ∧ i + 6 ≤ Len) (hb2 : T.2.1 + 20 ≤ CB ∧ T.2.2.1 + 500 ≤ SB)  (next : ∀ T' H', wlJ Len x m o T' H' → T'.2.1 ≤ T.2.1 + 20 → T'.2.2.1 ≤ T.2.2.1 + 500 → WL kt CB SB X 1653 (wlL i x m o) [] T' H') : WL kt CB SB X 329 (wlL i x m o) [] T H := by
  obtain ⟨⟨hW, g0, gx, gm, go, hK, hr⟩, hXI, hY1, hY2⟩ := hI
  refine wl_of hX hb cL_329 (rw_aload_n (pc' := 330) (v := .ref x) rfl rfl rfl ?_)
  refine wl_of hX hb cL_330 (rw_aload_n (pc' := 331) (v := .ref 0) rfl rfl rfl ?_)
  refine wl_of hX hb cL_331 (rw_iload (pc' := 333) (z := i) rfl rfl ?_)
  refine wl_of hX hb cL_333 (rw_iconst (pc' := 334) rfl ?_)
  refine wl_of hX hb cL_334 (rw_iadd (pc' := 335) rfl ?_)
  refine wl_of hX hb cL_335 (xa_I (so := 0) (pc' := 336) (a := 0) hW g0 (wsh_s _) (by omega) (wty_s _ _) (by omega) (by omega) rfl (fun b1279 b1280 => ?_))
  obtain ⟨B, tc, tm, cu, dr, e0, gtc, htc, em, gtm, htm, ecu, gcu, edr, gdr, hcu, hdr, -⟩ := hXI
  obtain ⟨t9, ht9⟩ : ∃ t : Int, t = H x 9 := ⟨_, rfl⟩
  obtain ⟨y9, hy9⟩ : ∃ y : Int, y = H 0 ((i + 1).toNat) := ⟨_, rfl⟩
  obtain ⟨r1281, q1282, g1283⟩ := hW.ref gx (t' := 3) (n := 13) (j := 1) (p := 0) (q := 0) rfl (by decide) rfl
  refine wl_of hX hb cL_336 (xc_V (pc' := 339) (r := x) (as := [vI (H 0 ((i + 1).toNat))]) (st := []) (lm_11_24) rfl rfl (Nat.le_of_ble_eq_true rfl) hW gx sh_1 (by decide) rfl (by decide) (u_11 (B := B) (y := y9) hW gx ⟨by omega, by omega⟩ e0 gtc q1282 g1283 ecu gcu edr gdr (by omega) htc hdr) (fun R1284 T1285 H1286 p1287 => ?_))
  obtain ⟨e1288, w1290, f1291, z1292, e1289, b1293, p1294⟩ := p1287
  subst e1288
  subst e1289
  rcases p1294 with ⟨a1295, a1296, a1297, a1298, a1299, a1300, a1301, a1302⟩ | ⟨a1303, a1304, a1305, a1306, a1307, a1308, a1309, a1310, a1311, a1312⟩ | ⟨a1313, a1314, a1315, a1316, a1317, a1318, a1319, a1320, a1321, a1322⟩
  · show WL _ _ _ _ 339 [(4, vI i), (3, .ref o), (2, .ref m), (1, .ref x), (0, .ref 0)] [vI z1292] _ H1286
    refine wl_of hX hb cL_339 (rw_pop (pc' := 340) rfl rfl ?_)
    refine wl_of hX hb cL_340 (rw_aload_n (pc' := 341) (v := .ref m) rfl rfl rfl ?_)
    refine wl_of hX hb cL_341 (rw_aload_n (pc' := 342) (v := .ref 0) rfl rfl rfl ?_)
    refine wl_of hX hb cL_342 (rw_iload (pc' := 344) (z := i) rfl rfl ?_)
    refine wl_of hX hb cL_344 (rw_iconst (pc' := 345) rfl ?_)
    refine wl_of hX hb cL_345 (rw_iadd (pc' := 346) rfl ?_)
    have k1325 : H1286 0 ((i + 1).toNat) = H 0 ((i + 1).toNat) := (f1291 0 ((i + 1).toNat) _ g0 (wmem_s rfl))
    refine wl_of hX hb cL_346 (xa_I (so := 0) (pc' := 347) (a := 0) w1290 g0 (wsh_s _) (by omega) (wty_s _ _) (by omega) (by omega) rfl (fun b1323 b1324 => ?_))
    have k1326 : wKI H1286 m = wKI H m := (wKI_fr hW gm f1291 rfl)
    have k1327 : H1286 m 6 = H m 6 := (f1291 m 6 _ gm rfl)
    have k1328 : H1286 m 13 = H m 13 := (f1291 m 13 _ gm rfl)
    have k1329 : H1286 m 3 = H m 3 := (f1291 m 3 _ gm rfl)
    have k1330 : H1286 m 5 = H m 5 := (f1291 m 5 _ gm rfl)
    have q1331 : H1286 m 5 = (tm : Int) := k1330.trans em
    have h1332 : TM T H1286 tm B := (TM_fr hW gtm f1291 rfl htm)
    refine wl_of hX hb cL_347 (xc_V (pc' := 350) (r := m) (as := [vI (H1286 0 ((i + 1).toNat))]) (st := []) lm_11_27 rfl rfl (Nat.le_of_ble_eq_true rfl) w1290 gm sh_42 (by decide) rfl (by decide) (u_169 (B := B) (y := y9) w1290 gm ⟨by omega, by omega⟩ q1331 gtm (by omega) (by omega) h1332) (fun R9 T9 H9 p9 => ?_))
    obtain ⟨mT, nT, zT, w9, f9, z9, e9, b9, pa⟩ := p9
    subst e9
    have k1333 : H9 x 9 = H1286 x 9 := (f9 x 9 _ gx rfl)
    have k1334 : H9 x 11 = H1286 x 11 := (f9 x 11 _ gx rfl)
    have k1335 : H9 x 8 = H1286 x 8 := (f9 x 8 _ gx rfl)
    have k1336 : H9 x 0 = H x 0 := ((f9 x 0 _ gx rfl).trans (f1291 x 0 _ gx rfl))
    have q1337 : H9 x 0 = (tc : Int) := k1336.trans e0
    have k1338 : H9 m 5 = H1286 m 5 := (f9 m 5 _ gm rfl)
    have q1339 : H9 m 5 = (tm : Int) := k1338.trans q1331
    have k1340 : H9 x 6 = H1286 x 6 := (f9 x 6 _ gx rfl)
    have q1341 : H9 x 6 = (cu : Int) := k1340.trans a1299
    have k1342 : H9 x 7 = H1286 x 7 := (f9 x 7 _ gx rfl)
    have q1343 : H9 x 7 = (dr : Int) := k1342.trans a1300
    have h1344 : TP T H9 tc B := (TP_fr w1290 gtc f9 rfl (TP_fr hW gtc f1291 rfl htc))
    have h1345 : TM T H9 tm B := (TM_fr w1290 gtm f9 rfl h1332)
    have h1346 : DD T H9 cu  := (DD_fr w1290 gcu f9 rfl (DD_fr hW gcu f1291 rfl hcu))
    have h1347 : DD T H9 dr  := (DD_fr w1290 gdr f9 rfl (DD_fr hW gdr f1291 rfl hdr))
    have hb : T9.2.1 ≤ CB ∧ T9.2.2.1 ≤ SB := ⟨by omega, by omega⟩
    have hXI9 : XI T9 H9 x m := ⟨B, tc, tm, cu, dr, q1337, mT _ _ gtc, h1344, q1339, mT _ _ gtm, h1345, q1341, mT _ _ gcu, q1343, mT _ _ gdr, DD_mono mT h1346, DD_mono mT h1347, mT _ _ gm⟩
    have g0 := mT _ _ g0
    have gx := mT _ _ gx
    have gm := mT _ _ gm
    have go := mT _ _ go
    rcases pa with ⟨y0, y1, y2, y3, y4, y5, y6, y7⟩ | ⟨y0, y1, y2, y3, y4, y5, y6, y7, y8⟩ | ⟨y0, y1, y2, y3, y4, y5, y6, y7, y8, y9b⟩
    · show WL _ _ _ _ 350 [(4, vI i), (3, .ref o), (2, .ref m), (1, .ref x), (0, .ref 0)] [vI z9] _ H9
      refine wl_of hX hb cL_350 (rw_pop (pc' := 351) rfl rfl ?_)
      refine wl_of hX hb cL_351 (rw_goto (p1 := 1653) (by decide) ?_)
      exact WL.loc hX (by simp) (next T9 H9 ⟨⟨w9, g0, gx, gm, go, by omega, by omega⟩, hXI9, by omega, by omega⟩ (by omega) (by omega))
    · show WL _ _ _ _ 350 [(4, vI i), (3, .ref o), (2, .ref m), (1, .ref x), (0, .ref 0)] [vI z9] _ H9
      refine wl_of hX hb cL_350 (rw_pop (pc' := 351) rfl rfl ?_)
      refine wl_of hX hb cL_351 (rw_goto (p1 := 1653) (by decide) ?_)
      exact WL.loc hX (by simp) (next T9 H9 ⟨⟨w9, g0, gx, gm, go, by omega, by omega⟩, hXI9, by omega, by omega⟩ (by omega) (by omega))
    · show WL _ _ _ _ 350 [(4, vI i), (3, .ref o), (2, .ref m), (1, .ref x), (0, .ref 0)] [vI z9] _ H9
      refine wl_of hX hb cL_350 (rw_pop (pc' := 351) rfl rfl ?_)
      refine wl_of hX hb cL_351 (rw_goto (p1 := 1653) (by decide) ?_)
      exact WL.loc hX (by simp) (next T9 H9 ⟨⟨w9, g0, gx, gm, go, by omega, by omega⟩, hXI9, by omega, by omega⟩ (by omega) (by omega))
  · show WL _ _ _ _ 339 [(4, vI i), (3, .ref o), (2, .ref m), (1, .ref x), (0, .ref 0)] [vI z1292] _ H1286
    refine wl_of hX hb cL_339 (rw_pop (pc' := 340) rfl rfl ?_)
    refine wl_of hX hb cL_340 (rw_aload_n (pc' := 341) (v := .ref m) rfl rfl rfl ?_)
    refine wl_of hX hb cL_341 (rw_aload_n (pc' := 342) (v := .ref 0) rfl rfl rfl ?_)
    refine wl_of hX hb cL_342 (rw_iload (pc' := 344) (z := i) rfl rfl ?_)
    refine wl_of hX hb cL_344 (rw_iconst (pc' := 345) rfl ?_)
    refine wl_of hX hb cL_345 (rw_iadd (pc' := 346) rfl ?_)
    have k1350 : H1286 0 ((i + 1).toNat) = H 0 ((i + 1).toNat) := (f1291 0 ((i + 1).toNat) _ g0 (wmem_s rfl))
    refine wl_of hX hb cL_346 (xa_I (so := 0) (pc' := 347) (a := 0) w1290 g0 (wsh_s _) (by omega) (wty_s _ _) (by omega) (by omega) rfl (fun b1348 b1349 => ?_))
    have k1351 : wKI H1286 m = wKI H m := (wKI_fr hW gm f1291 rfl)
    have k1352 : H1286 m 6 = H m 6 := (f1291 m 6 _ gm rfl)
    have k1353 : H1286 m 13 = H m 13 := (f1291 m 13 _ gm rfl)
    have k1354 : H1286 m 3 = H m 3 := (f1291 m 3 _ gm rfl)
    have k1355 : H1286 m 5 = H m 5 := (f1291 m 5 _ gm rfl)
    have q1356 : H1286 m 5 = (tm : Int) := k1355.trans em
    have h1357 : TM T H1286 tm B := (TM_fr hW gtm f1291 rfl htm)
    refine wl_of hX hb cL_347 (xc_V (pc' := 350) (r := m) (as := [vI (H1286 0 ((i + 1).toNat))]) (st := []) lm_11_27 rfl rfl (Nat.le_of_ble_eq_true rfl) w1290 gm sh_42 (by decide) rfl (by decide) (u_169 (B := B) (y := y9) w1290 gm ⟨by omega, by omega⟩ q1356 gtm (by omega) (by omega) h1357) (fun R9 T9 H9 p9 => ?_))
    obtain ⟨mT, nT, zT, w9, f9, z9, e9, b9, pa⟩ := p9
    subst e9
    have k1358 : H9 x 9 = H1286 x 9 := (f9 x 9 _ gx rfl)
    have k1359 : H9 x 11 = H1286 x 11 := (f9 x 11 _ gx rfl)
    have k1360 : H9 x 8 = H1286 x 8 := (f9 x 8 _ gx rfl)
    have k1361 : H9 x 0 = H x 0 := ((f9 x 0 _ gx rfl).trans (f1291 x 0 _ gx rfl))
    have q1362 : H9 x 0 = (tc : Int) := k1361.trans e0
    have k1363 : H9 m 5 = H1286 m 5 := (f9 m 5 _ gm rfl)
    have q1364 : H9 m 5 = (tm : Int) := k1363.trans q1356
    have k1365 : H9 x 6 = H1286 x 6 := (f9 x 6 _ gx rfl)
    have q1366 : H9 x 6 = (cu : Int) := k1365.trans a1310
    have k1367 : H9 x 7 = H1286 x 7 := (f9 x 7 _ gx rfl)
    have q1368 : H9 x 7 = (dr : Int) := k1367.trans a1311
    have h1369 : TP T H9 tc B := (TP_fr w1290 gtc f9 rfl (TP_fr hW gtc f1291 rfl htc))
    have h1370 : TM T H9 tm B := (TM_fr w1290 gtm f9 rfl h1357)
    have h1371 : DD T H9 cu  := (DD_fr w1290 gcu f9 rfl (DD_fr hW gcu f1291 rfl hcu))
    have h1372 : DD T H9 dr  := (DD_fr w1290 gdr f9 rfl (DD_fr hW gdr f1291 rfl hdr))
    have hb : T9.2.1 ≤ CB ∧ T9.2.2.1 ≤ SB := ⟨by omega, by omega⟩
    have hXI9 : XI T9 H9 x m := ⟨B, tc, tm, cu, dr, q1362, mT _ _ gtc, h1369, q1364, mT _ _ gtm, h1370, q1366, mT _ _ gcu, q1368, mT _ _ gdr, DD_mono mT h1371, DD_mono mT h1372, mT _ _ gm⟩
    have g0 := mT _ _ g0
    have gx := mT _ _ gx
    have gm := mT _ _ gm
    have go := mT _ _ go
    rcases pa with ⟨y0, y1, y2, y3, y4, y5, y6, y7⟩ | ⟨y0, y1, y2, y3, y4, y5, y6, y7, y8⟩ | ⟨y0, y1, y2, y3, y4, y5, y6, y7, y8, y9b⟩
    · show WL _ _ _ _ 350 [(4, vI i), (3, .ref o), (2, .ref m), (1, .ref x), (0, .ref 0)] [vI z9] _ H9
      refine wl_of hX hb cL_350 (rw_pop (pc' := 351) rfl rfl ?_)
      refine wl_of hX hb cL_351 (rw_goto (p1 := 1653) (by decide) ?_)
      exact WL.loc hX (by simp) (next T9 H9 ⟨⟨w9, g0, gx, gm, go, by omega, by omega⟩, hXI9, by omega, by omega⟩ (by omega) (by omega))
    · show WL _ _ _ _ 350 [(4, vI i), (3, .ref o), (2, .ref m), (1, .ref x), (0, .ref 0)] [vI z9] _ H9
      refine wl_of hX hb cL_350 (rw_pop (pc' := 351) rfl rfl ?_)
      refine wl_of hX hb cL_351 (rw_goto (p1 := 1653) (by decide) ?_)
      exact WL.loc hX (by simp) (next T9 H9 ⟨⟨w9, g0, gx, gm, go, by omega, by omega⟩, hXI9, by omega, by omega⟩ (by omega) (by omega))
    · show WL _ _ _ _ 350 [(4, vI i), (3, .ref o), (2, .ref m), (1, .ref x), (0, .ref 0)] [vI z9] _ H9
      refine wl_of hX hb cL_350 (rw_pop (pc' := 351) rfl rfl ?_)
      refine wl_of hX hb cL_351 (rw_goto (p1 := 1653) (by decide) ?_)
      exact WL.loc hX (by simp) (next T9 H9 ⟨⟨w9, g0, gx, gm, go, by omega, by omega⟩, hXI9, by omega, by omega⟩ (by omega) (by omega))
  · show WL _ _ _ _ 339 [(4, vI i), (3, .ref o), (2, .ref m), (1, .ref x), (0, .ref 0)] [vI z1292] _ H1286
    refine wl_of hX hb cL_339 (rw_pop (pc' := 340) rfl rfl ?_)
    refine wl_of hX hb cL_340 (rw_aload_n (pc' := 341) (v := .ref m) rfl rfl rfl ?_)
    refine wl_of hX hb cL_341 (rw_aload_n (pc' := 342) (v := .ref 0) rfl rfl rfl ?_)
    refine wl_of hX hb cL_342 (rw_iload (pc' := 344) (z := i) rfl rfl ?_)
    refine wl_of hX hb cL_344 (rw_iconst (pc' := 345) rfl ?_)
    refine wl_of hX hb cL_345 (rw_iadd (pc' := 346) rfl ?_)
    have k1375 : H1286 0 ((i + 1).toNat) = H 0 ((i + 1).toNat) := (f1291 0 ((i + 1).toNat) _ g0 (wmem_s rfl))
    refine wl_of hX hb cL_346 (xa_I (so := 0) (pc' := 347) (a := 0) w1290 g0 (wsh_s _) (by omega) (wty_s _ _) (by omega) (by omega) rfl (fun b1373 b1374 => ?_))
    have k1376 : wKI H1286 m = wKI H m := (wKI_fr hW gm f1291 rfl)
    have k1377 : H1286 m 6 = H m 6 := (f1291 m 6 _ gm rfl)
    have k1378 : H1286 m 13 = H m 13 := (f1291 m 13 _ gm rfl)
    have k1379 : H1286 m 3 = H m 3 := (f1291 m 3 _ gm rfl)
    have k1380 : H1286 m 5 = H m 5 := (f1291 m 5 _ gm rfl)
    have q1381 : H1286 m 5 = (tm : Int) := k1380.trans em
    have h1382 : TM T H1286 tm B := (TM_fr hW gtm f1291 rfl htm)
    refine wl_of hX hb cL_347 (xc_V (pc' := 350) (r := m) (as := [vI (H1286 0 ((i + 1).toNat))]) (st := []) lm_11_27 rfl rfl (Nat.le_of_ble_eq_true rfl) w1290 gm sh_42 (by decide) rfl (by decide) (u_169 (B := B) (y := y9) w1290 gm ⟨by omega, by omega⟩ q1381 gtm (by omega) (by omega) h1382) (fun R9 T9 H9 p9 => ?_))
    obtain ⟨mT, nT, zT, w9, f9, z9, e9, b9, pa⟩ := p9
    subst e9
    have k1383 : H9 x 9 = H1286 x 9 := (f9 x 9 _ gx rfl)
    have k1384 : H9 x 11 = H1286 x 11 := (f9 x 11 _ gx rfl)
    have k1385 : H9 x 8 = H1286 x 8 := (f9 x 8 _ gx rfl)
    have k1386 : H9 x 0 = H x 0 := ((f9 x 0 _ gx rfl).trans (f1291 x 0 _ gx rfl))
    have q1387 : H9 x 0 = (tc : Int) := k1386.trans e0
    have k1388 : H9 m 5 = H1286 m 5 := (f9 m 5 _ gm rfl)
    have q1389 : H9 m 5 = (tm : Int) := k1388.trans q1381
    have k1390 : H9 x 6 = H1286 x 6 := (f9 x 6 _ gx rfl)
    have q1391 : H9 x 6 = (dr : Int) := k1390.trans a1319
    have k1392 : H9 x 7 = H1286 x 7 := (f9 x 7 _ gx rfl)
    have q1393 : H9 x 7 = (cu : Int) := k1392.trans a1320
    have h1394 : TP T H9 tc B := (TP_fr w1290 gtc f9 rfl (TP_fr hW gtc f1291 rfl htc))
    have h1395 : TM T H9 tm B := (TM_fr w1290 gtm f9 rfl h1382)
    have h1396 : DD T H9 cu  := (DD_fr w1290 gcu f9 rfl (DD_fr hW gcu f1291 rfl hcu))
    have h1397 : DD T H9 dr  := (DD_fr w1290 gdr f9 rfl (DD_fr hW gdr f1291 rfl hdr))
    have hb : T9.2.1 ≤ CB ∧ T9.2.2.1 ≤ SB := ⟨by omega, by omega⟩
    have hXI9 : XI T9 H9 x m := ⟨B, tc, tm, dr, cu, q1387, mT _ _ gtc, h1394, q1389, mT _ _ gtm, h1395, q1391, mT _ _ gdr, q1393, mT _ _ gcu, DD_mono mT h1397, DD_mono mT h1396, mT _ _ gm⟩
    have g0 := mT _ _ g0
    have gx := mT _ _ gx
    have gm := mT _ _ gm
    have go := mT _ _ go
    rcases pa with ⟨y0, y1, y2, y3, y4, y5, y6, y7⟩ | ⟨y0, y1, y2, y3, y4, y5, y6, y7, y8⟩ | ⟨y0, y1, y2, y3, y4, y5, y6, y7, y8, y9b⟩
    · show WL _ _ _ _ 350 [(4, vI i), (3, .ref o), (2, .ref m), (1, .ref x), (0, .ref 0)] [vI z9] _ H9
      refine wl_of hX hb cL_350 (rw_pop (pc' := 351) rfl rfl ?_)
      refine wl_of hX hb cL_351 (rw_goto (p1 := 1653) (by decide) ?_)
      exact WL.loc hX (by simp) (next T9 H9 ⟨⟨w9, g0, gx, gm, go, by omega, by omega⟩, hXI9, by omega, by omega⟩ (by omega) (by omega))
    · show WL _ _ _ _ 350 [(4, vI i), (3, .ref o), (2, .ref m), (1, .ref x), (0, .ref 0)] [vI z9] _ H9
      refine wl_of hX hb cL_350 (rw_pop (pc' := 351) rfl rfl ?_)
      refine wl_of hX hb cL_351 (rw_goto (p1 := 1653) (by decide) ?_)
      exact WL.loc hX (by simp) (next T9 H9 ⟨⟨w9, g0, gx, gm, go, by omega, by omega⟩, hXI9, by omega, by omega⟩ (by omega) (by omega))
    · show WL _ _ _ _ 350 [(4, vI i), (3, .ref o), (2, .ref m), (1, .ref x), (0, .ref 0)] [vI z9] _ H9
      refine wl_of hX hb cL_350 (rw_pop (pc' := 351) rfl rfl ?_)
      refine wl_of hX hb cL_351 (rw_goto (p1 := 1653) (by decide) ?_)
      exact WL.loc hX (by simp) (next T9 H9 ⟨⟨w9, g0, gx, gm, go, by omega, by omega⟩, hXI9, by omega, by omega⟩ (by omega) (by omega))
set_option maxHeartbeats 4000000 in
theorem wl_c2 {kt : Nat → Option mc_E} {CB SB : Nat} {X : mc_S → Prop} {T : wq_T} {H : wq_H} {Len x m o : Nat} {i : Int} (hX : wlX kt CB SB X) (hb : T.2.1 ≤ CB ∧ T.2.2.1 ≤ SB) (hI : wlJ Len x m o T H) (hL : Len ≤ 3072) (hi : 0 ≤ i ∧ i + 6 ≤ Len) (hb2 : T.2.1 + 20 ≤ CB ∧ T.2.2.1 + 500 ≤ SB)  (next : ∀ T' H', wlJ Len x m o T' H' → T'.2.1 ≤ T.2.1 + 20 → T'.2.2.1 ≤ T.2.2.1 + 500 → WL kt CB SB X 1653 (wlL i x m o) [] T' H') : WL kt CB SB X 354 (wlL i x m o) [] T H := by
  obtain ⟨⟨hW, g0, gx, gm, go, hK, hr⟩, hXI, hY1, hY2⟩ := hI
  refine wl_of hX hb cL_354 (rw_aload_n (pc' := 355) (v := .ref x) rfl rfl rfl ?_)
  refine wl_of hX hb cL_355 (xc_V (pc' := 358) (r := x) (as := []) (st := []) (lm_11_28) rfl rfl (Nat.le_of_ble_eq_true rfl) hW gx sh_1 (by decide) rfl (by decide) (u_52  hW gx) (fun R1398 T1399 H1400 p1401 => ?_))
  obtain ⟨e1402, e1404, z1405, e1403, b1406, p1407⟩ := p1401
  subst e1402
  subst e1403
  subst e1404
  show WL _ _ _ _ 358 [(4, vI i), (3, .ref o), (2, .ref m), (1, .ref x), (0, .ref 0)] [vI z1405] _ H
  refine wl_of hX hb cL_358 (rw_aload_n (pc' := 359) (v := .ref m) rfl rfl rfl ?_)
  refine wl_of hX hb cL_359 (xc_V (pc' := 362) (r := m) (as := []) (st := [vI z1405]) (lm_11_32) rfl rfl (Nat.le_of_ble_eq_true rfl) hW gm sh_42 (by decide) rfl (by decide) (u_210  hW gm) (fun R1409 T1410 H1411 p1412 => ?_))
  obtain ⟨e1413, w1415, f1416, z1417, e1414, b1418, p1419⟩ := p1412
  subst e1413
  subst e1414
  show WL _ _ _ _ 362 [(4, vI i), (3, .ref o), (2, .ref m), (1, .ref x), (0, .ref 0)] [vI z1417, vI z1405] _ H1411
  refine wl_of hX hb cL_362 (rw_icmp_eq (p1 := 1653) (p2 := 365) (by decide) rfl ⟨by omega, by omega⟩ ⟨by omega, by omega⟩ (fun c1421 => ?_) (fun c1421 => ?_))
  · have k1422 : wKI H1411 m = wKI H m := (wKI_fr hW gm f1416 rfl)
    have k1423 : H1411 x 9 = H x 9 := (f1416 x 9 _ gx rfl)
    have k1424 : H1411 m 6 = H m 6 := (f1416 m 6 _ gm rfl)
    have k1425 : H1411 x 11 = H x 11 := (f1416 x 11 _ gx rfl)
    have k1426 : H1411 m 13 = H m 13 := (f1416 m 13 _ gm rfl)
    have k1427 : H1411 x 8 = H x 8 := (f1416 x 8 _ gx rfl)
    have k1428 : H1411 m 3 = H m 3 := (f1416 m 3 _ gm rfl)
    have h1429 : XI T H1411 x m := (XI_fr hW gx f1416 rfl hXI)
    exact WL.loc hX (by simp) (next T H1411 ⟨⟨w1415, g0, gx, gm, go, by omega, by omega⟩, h1429, by omega, by omega⟩ (by omega) (by omega))
  · refine wl_of hX hb cL_365 (rw_iconst (pc' := 366) rfl ?_)
    exfalso
    omega
set_option maxHeartbeats 4000000 in
theorem wl_c3 {kt : Nat → Option mc_E} {CB SB : Nat} {X : mc_S → Prop} {T : wq_T} {H : wq_H} {Len x m o : Nat} {i : Int} (hX : wlX kt CB SB X) (hb : T.2.1 ≤ CB ∧ T.2.2.1 ≤ SB) (hI : wlJ Len x m o T H) (hL : Len ≤ 3072) (hi : 0 ≤ i ∧ i + 6 ≤ Len) (hb2 : T.2.1 + 20 ≤ CB ∧ T.2.2.1 + 500 ≤ SB)  (next : ∀ T' H', wlJ Len x m o T' H' → T'.2.1 ≤ T.2.1 + 20 → T'.2.2.1 ≤ T.2.2.1 + 500 → WL kt CB SB X 1653 (wlL i x m o) [] T' H') : WL kt CB SB X 367 (wlL i x m o) [] T H := by
  obtain ⟨⟨hW, g0, gx, gm, go, hK, hr⟩, hXI, hY1, hY2⟩ := hI
  refine wl_of hX hb cL_367 (rw_aload_n (pc' := 368) (v := .ref x) rfl rfl rfl ?_)
  refine wl_of hX hb cL_368 (xc_V (pc' := 371) (r := x) (as := []) (st := []) (lm_11_33) rfl rfl (Nat.le_of_ble_eq_true rfl) hW gx sh_1 (by decide) rfl (by decide) (s_53 hW gx) (fun R1430 T1431 H1432 p1433 => ?_))
  obtain ⟨e1434, e1436, z1437, e1435, b1438⟩ := p1433
  subst e1434
  subst e1435
  subst e1436
  show WL _ _ _ _ 371 [(4, vI i), (3, .ref o), (2, .ref m), (1, .ref x), (0, .ref 0)] [vI z1437] _ H
  refine wl_of hX hb cL_371 (rw_pop (pc' := 372) rfl rfl ?_)
  refine wl_of hX hb cL_372 (rw_aload_n (pc' := 373) (v := .ref m) rfl rfl rfl ?_)
  refine wl_of hX hb cL_373 (xc_V (pc' := 376) (r := m) (as := []) (st := []) (lm_11_36) rfl rfl (Nat.le_of_ble_eq_true rfl) hW gm sh_42 (by decide) rfl (by decide) (s_211 hW gm (by omega)) (fun R1439 T1440 H1441 p1442 => ?_))
  obtain ⟨e1443, w1445, f1446, z1448, e1444, b1449, p1447⟩ := p1442
  subst e1443
  subst e1444
  show WL _ _ _ _ 376 [(4, vI i), (3, .ref o), (2, .ref m), (1, .ref x), (0, .ref 0)] [vI z1448] _ H1441
  refine wl_of hX hb cL_376 (rw_pop (pc' := 377) rfl rfl ?_)
  refine wl_of hX hb cL_377 (rw_goto (p1 := 1653) (by decide) ?_)
  have k1450 : H1441 x 9 = H x 9 := (f1446 x 9 _ gx rfl)
  have k1451 : H1441 m 6 = H m 6 := (f1446 m 6 _ gm rfl)
  have k1452 : H1441 x 11 = H x 11 := (f1446 x 11 _ gx rfl)
  have k1453 : H1441 m 13 = H m 13 := (f1446 m 13 _ gm rfl)
  have k1454 : H1441 x 8 = H x 8 := (f1446 x 8 _ gx rfl)
  have k1455 : H1441 m 3 = H m 3 := (f1446 m 3 _ gm rfl)
  have h1456 : XI T H1441 x m := (XI_fr hW gx f1446 rfl hXI)
  exact WL.loc hX (by simp) (next T H1441 ⟨⟨w1445, g0, gx, gm, go, by omega, by omega⟩, h1456, by omega, by omega⟩ (by omega) (by omega))
set_option maxHeartbeats 4000000 in
theorem wl_c4 {kt : Nat → Option mc_E} {CB SB : Nat} {X : mc_S → Prop} {T : wq_T} {H : wq_H} {Len x m o : Nat} {i : Int} (hX : wlX kt CB SB X) (hb : T.2.1 ≤ CB ∧ T.2.2.1 ≤ SB) (hI : wlJ Len x m o T H) (hL : Len ≤ 3072) (hi : 0 ≤ i ∧ i + 6 ≤ Len) (hb2 : T.2.1 + 20 ≤ CB ∧ T.2.2.1 + 500 ≤ SB)  (next : ∀ T' H', wlJ Len x m o T' H' → T'.2.1 ≤ T.2.1 + 20 → T'.2.2.1 ≤ T.2.2.1 + 500 → WL kt CB SB X 1653 (wlL i x m o) [] T' H') : WL kt CB SB X 380 (wlL i x m o) [] T H := by
  obtain ⟨⟨hW, g0, gx, gm, go, hK, hr⟩, hXI, hY1, hY2⟩ := hI
  refine wl_of hX hb cL_380 (rw_aload_n (pc' := 381) (v := .ref x) rfl rfl rfl ?_)
  refine wl_of hX hb cL_381 (rw_aload_n (pc' := 382) (v := .ref 0) rfl rfl rfl ?_)
  refine wl_of hX hb cL_382 (rw_iload (pc' := 384) (z := i) rfl rfl ?_)
  refine wl_of hX hb cL_384 (rw_iconst (pc' := 385) rfl ?_)
  refine wl_of hX hb cL_385 (rw_iadd (pc' := 386) rfl ?_)
  refine wl_of hX hb cL_386 (xa_I (so := 0) (pc' := 387) (a := 0) hW g0 (wsh_s _) (by omega) (wty_s _ _) (by omega) (by omega) rfl (fun b1457 b1458 => ?_))
  refine wl_of hX hb cL_387 (xc_V (pc' := 390) (r := x) (as := [vI (H 0 ((i + 1).toNat))]) (st := []) (lm_11_37) rfl rfl (Nat.le_of_ble_eq_true rfl) hW gx sh_1 (by decide) rfl (by decide) (s_54 hW gx ⟨by omega, by omega⟩) (fun R1459 T1460 H1461 p1462 => ?_))
  obtain ⟨e1463, w1465, f1466, z1467, e1464, b1468⟩ := p1462
  subst e1463
  subst e1464
  show WL _ _ _ _ 390 [(4, vI i), (3, .ref o), (2, .ref m), (1, .ref x), (0, .ref 0)] [vI z1467] _ H1461
  refine wl_of hX hb cL_390 (rw_pop (pc' := 391) rfl rfl ?_)
  refine wl_of hX hb cL_391 (rw_aload_n (pc' := 392) (v := .ref m) rfl rfl rfl ?_)
  refine wl_of hX hb cL_392 (rw_aload_n (pc' := 393) (v := .ref 0) rfl rfl rfl ?_)
  refine wl_of hX hb cL_393 (rw_iload (pc' := 395) (z := i) rfl rfl ?_)
  refine wl_of hX hb cL_395 (rw_iconst (pc' := 396) rfl ?_)
  refine wl_of hX hb cL_396 (rw_iadd (pc' := 397) rfl ?_)
  have k1471 : H1461 0 ((i + 1).toNat) = H 0 ((i + 1).toNat) := (f1466 0 ((i + 1).toNat) _ g0 (wmem_s rfl))
  refine wl_of hX hb cL_397 (xa_I (so := 0) (pc' := 398) (a := 0) w1465 g0 (wsh_s _) (by omega) (wty_s _ _) (by omega) (by omega) rfl (fun b1469 b1470 => ?_))
  have k1472 : wKI H1461 m = wKI H m := (wKI_fr hW gm f1466 rfl)
  have k1473 : H1461 x 9 = H x 9 := (f1466 x 9 _ gx rfl)
  have k1474 : H1461 m 6 = H m 6 := (f1466 m 6 _ gm rfl)
  have k1475 : H1461 x 11 = H x 11 := (f1466 x 11 _ gx rfl)
  have k1476 : H1461 m 13 = H m 13 := (f1466 m 13 _ gm rfl)
  have k1477 : H1461 x 8 = H x 8 := (f1466 x 8 _ gx rfl)
  have k1478 : H1461 m 3 = H m 3 := (f1466 m 3 _ gm rfl)
  refine wl_of hX hb cL_398 (xc_V (pc' := 401) (r := m) (as := [vI (H1461 0 ((i + 1).toNat))]) (st := []) (lm_11_40) rfl rfl (Nat.le_of_ble_eq_true rfl) w1465 gm sh_42 (by decide) rfl (by decide) (s_212 w1465 gm ⟨by omega, by omega⟩ (by omega)) (fun R1479 T1480 H1481 p1482 => ?_))
  obtain ⟨e1483, w1485, f1486, z1488, e1484, b1489, p1487⟩ := p1482
  subst e1483
  subst e1484
  show WL _ _ _ _ 401 [(4, vI i), (3, .ref o), (2, .ref m), (1, .ref x), (0, .ref 0)] [vI z1488] _ H1481
  refine wl_of hX hb cL_401 (rw_pop (pc' := 402) rfl rfl ?_)
  refine wl_of hX hb cL_402 (rw_goto (p1 := 1653) (by decide) ?_)
  have k1490 : H1481 x 9 = H1461 x 9 := (f1486 x 9 _ gx rfl)
  have k1491 : H1481 m 6 = H1461 m 6 := (f1486 m 6 _ gm rfl)
  have k1492 : H1481 x 11 = H1461 x 11 := (f1486 x 11 _ gx rfl)
  have k1493 : H1481 m 13 = H1461 m 13 := (f1486 m 13 _ gm rfl)
  have k1494 : H1481 x 8 = H1461 x 8 := (f1486 x 8 _ gx rfl)
  have k1495 : H1481 m 3 = H1461 m 3 := (f1486 m 3 _ gm rfl)
  have h1496 : XI T H1481 x m := (XI_fr w1465 gx f1486 rfl (XI_fr hW gx f1466 rfl hXI))
  exact WL.loc hX (by simp) (next T H1481 ⟨⟨w1485, g0, gx, gm, go, by omega, by omega⟩, h1496, by omega, by omega⟩ (by omega) (by omega))
set_option maxHeartbeats 4000000 in
theorem wl_c5 {kt : Nat → Option mc_E} {CB SB : Nat} {X : mc_S → Prop} {T : wq_T} {H : wq_H} {Len x m o : Nat} {i : Int} (hX : wlX kt CB SB X) (hb : T.2.1 ≤ CB ∧ T.2.2.1 ≤ SB) (hI : wlJ Len x m o T H) (hL : Len ≤ 3072) (hi : 0 ≤ i ∧ i + 6 ≤ Len) (hb2 : T.2.1 + 20 ≤ CB ∧ T.2.2.1 + 500 ≤ SB)  (next : ∀ T' H', wlJ Len x m o T' H' → T'.2.1 ≤ T.2.1 + 20 → T'.2.2.1 ≤ T.2.2.1 + 500 → WL kt CB SB X 1653 (wlL i x m o) [] T' H') : WL kt CB SB X 405 (wlL i x m o) [] T H := by
  obtain ⟨⟨hW, g0, gx, gm, go, hK, hr⟩, hXI, hY1, hY2⟩ := hI
  refine wl_of hX hb cL_405 (rw_aload_n (pc' := 406) (v := .ref x) rfl rfl rfl ?_)
  refine wl_of hX hb cL_406 (rw_aload_n (pc' := 407) (v := .ref 0) rfl rfl rfl ?_)
  refine wl_of hX hb cL_407 (rw_iload (pc' := 409) (z := i) rfl rfl ?_)
  refine wl_of hX hb cL_409 (rw_iconst (pc' := 410) rfl ?_)
  refine wl_of hX hb cL_410 (rw_iadd (pc' := 411) rfl ?_)
  refine wl_of hX hb cL_411 (xa_I (so := 0) (pc' := 412) (a := 0) hW g0 (wsh_s _) (by omega) (wty_s _ _) (by omega) (by omega) rfl (fun b1497 b1498 => ?_))
  refine wl_of hX hb cL_412 (rw_aload_n (pc' := 413) (v := .ref 0) rfl rfl rfl ?_)
  refine wl_of hX hb cL_413 (rw_iload (pc' := 415) (z := i) rfl rfl ?_)
  refine wl_of hX hb cL_415 (rw_iconst (pc' := 416) rfl ?_)
  refine wl_of hX hb cL_416 (rw_iadd (pc' := 417) rfl ?_)
  refine wl_of hX hb cL_417 (xa_I (so := 0) (pc' := 418) (a := 0) hW g0 (wsh_s _) (by omega) (wty_s _ _) (by omega) (by omega) rfl (fun b1499 b1500 => ?_))
  refine wl_of hX hb cL_418 (rw_aload_n (pc' := 419) (v := .ref 0) rfl rfl rfl ?_)
  refine wl_of hX hb cL_419 (rw_iload (pc' := 421) (z := i) rfl rfl ?_)
  refine wl_of hX hb cL_421 (rw_iconst (pc' := 422) rfl ?_)
  refine wl_of hX hb cL_422 (rw_iadd (pc' := 423) rfl ?_)
  refine wl_of hX hb cL_423 (xa_I (so := 0) (pc' := 424) (a := 0) hW g0 (wsh_s _) (by omega) (wty_s _ _) (by omega) (by omega) rfl (fun b1501 b1502 => ?_))
  refine wl_of hX hb cL_424 (xc_V (pc' := 427) (r := x) (as := [vI (H 0 ((i + 1).toNat)), vI (H 0 ((i + 2).toNat)), vI (H 0 ((i + 3).toNat))]) (st := []) (lm_11_41) rfl rfl (Nat.le_of_ble_eq_true rfl) hW gx sh_1 (by decide) rfl (by decide) (s_56 hW gx ⟨by omega, by omega⟩ ⟨by omega, by omega⟩ ⟨by omega, by omega⟩) (fun R1503 T1504 H1505 p1506 => ?_))
  obtain ⟨e1507, w1509, f1510, z1511, e1508, b1512⟩ := p1506
  subst e1507
  subst e1508
  show WL _ _ _ _ 427 [(4, vI i), (3, .ref o), (2, .ref m), (1, .ref x), (0, .ref 0)] [vI z1511] _ H1505
  refine wl_of hX hb cL_427 (rw_pop (pc' := 428) rfl rfl ?_)
  refine wl_of hX hb cL_428 (rw_aload_n (pc' := 429) (v := .ref m) rfl rfl rfl ?_)
  refine wl_of hX hb cL_429 (rw_aload_n (pc' := 430) (v := .ref 0) rfl rfl rfl ?_)
  refine wl_of hX hb cL_430 (rw_iload (pc' := 432) (z := i) rfl rfl ?_)
  refine wl_of hX hb cL_432 (rw_iconst (pc' := 433) rfl ?_)
  refine wl_of hX hb cL_433 (rw_iadd (pc' := 434) rfl ?_)
  have k1515 : H1505 0 ((i + 1).toNat) = H 0 ((i + 1).toNat) := (f1510 0 ((i + 1).toNat) _ g0 (wmem_s rfl))
  refine wl_of hX hb cL_434 (xa_I (so := 0) (pc' := 435) (a := 0) w1509 g0 (wsh_s _) (by omega) (wty_s _ _) (by omega) (by omega) rfl (fun b1513 b1514 => ?_))
  refine wl_of hX hb cL_435 (rw_aload_n (pc' := 436) (v := .ref 0) rfl rfl rfl ?_)
  refine wl_of hX hb cL_436 (rw_iload (pc' := 438) (z := i) rfl rfl ?_)
  refine wl_of hX hb cL_438 (rw_iconst (pc' := 439) rfl ?_)
  refine wl_of hX hb cL_439 (rw_iadd (pc' := 440) rfl ?_)
  have k1518 : H1505 0 ((i + 2).toNat) = H 0 ((i + 2).toNat) := (f1510 0 ((i + 2).toNat) _ g0 (wmem_s rfl))
  refine wl_of hX hb cL_440 (xa_I (so := 0) (pc' := 441) (a := 0) w1509 g0 (wsh_s _) (by omega) (wty_s _ _) (by omega) (by omega) rfl (fun b1516 b1517 => ?_))
  refine wl_of hX hb cL_441 (rw_aload_n (pc' := 442) (v := .ref 0) rfl rfl rfl ?_)
  refine wl_of hX hb cL_442 (rw_iload (pc' := 444) (z := i) rfl rfl ?_)
  refine wl_of hX hb cL_444 (rw_iconst (pc' := 445) rfl ?_)
  refine wl_of hX hb cL_445 (rw_iadd (pc' := 446) rfl ?_)
  have k1521 : H1505 0 ((i + 3).toNat) = H 0 ((i + 3).toNat) := (f1510 0 ((i + 3).toNat) _ g0 (wmem_s rfl))
  refine wl_of hX hb cL_446 (xa_I (so := 0) (pc' := 447) (a := 0) w1509 g0 (wsh_s _) (by omega) (wty_s _ _) (by omega) (by omega) rfl (fun b1519 b1520 => ?_))
  have k1522 : wKI H1505 m = wKI H m := (wKI_fr hW gm f1510 rfl)
  have k1523 : H1505 x 9 = H x 9 := (f1510 x 9 _ gx rfl)
  have k1524 : H1505 m 6 = H m 6 := (f1510 m 6 _ gm rfl)
  have k1525 : H1505 x 11 = H x 11 := (f1510 x 11 _ gx rfl)
  have k1526 : H1505 m 13 = H m 13 := (f1510 m 13 _ gm rfl)
  have k1527 : H1505 x 8 = H x 8 := (f1510 x 8 _ gx rfl)
  have k1528 : H1505 m 3 = H m 3 := (f1510 m 3 _ gm rfl)
  refine wl_of hX hb cL_447 (xc_V (pc' := 450) (r := m) (as := [vI (H1505 0 ((i + 1).toNat)), vI (H1505 0 ((i + 2).toNat)), vI (H1505 0 ((i + 3).toNat))]) (st := []) (lm_11_45) rfl rfl (Nat.le_of_ble_eq_true rfl) w1509 gm sh_42 (by decide) rfl (by decide) (s_214 w1509 gm ⟨by omega, by omega⟩ ⟨by omega, by omega⟩ ⟨by omega, by omega⟩ (by omega)) (fun R1529 T1530 H1531 p1532 => ?_))
  obtain ⟨e1533, w1535, f1536, z1538, e1534, b1539, p1537⟩ := p1532
  subst e1533
  subst e1534
  show WL _ _ _ _ 450 [(4, vI i), (3, .ref o), (2, .ref m), (1, .ref x), (0, .ref 0)] [vI z1538] _ H1531
  refine wl_of hX hb cL_450 (rw_pop (pc' := 451) rfl rfl ?_)
  refine wl_of hX hb cL_451 (rw_goto (p1 := 1653) (by decide) ?_)
  have k1540 : H1531 x 9 = H1505 x 9 := (f1536 x 9 _ gx rfl)
  have k1541 : H1531 m 6 = H1505 m 6 := (f1536 m 6 _ gm rfl)
  have k1542 : H1531 x 11 = H1505 x 11 := (f1536 x 11 _ gx rfl)
  have k1543 : H1531 m 13 = H1505 m 13 := (f1536 m 13 _ gm rfl)
  have k1544 : H1531 x 8 = H1505 x 8 := (f1536 x 8 _ gx rfl)
  have k1545 : H1531 m 3 = H1505 m 3 := (f1536 m 3 _ gm rfl)
  have h1546 : XI T H1531 x m := (XI_fr w1509 gx f1536 rfl (XI_fr hW gx f1510 rfl hXI))
  exact WL.loc hX (by simp) (next T H1531 ⟨⟨w1535, g0, gx, gm, go, by omega, by omega⟩, h1546, by omega, by omega⟩ (by omega) (by omega))
set_option maxHeartbeats 4000000 in
theorem wl_c6 {kt : Nat → Option mc_E} {CB SB : Nat} {X : mc_S → Prop} {T : wq_T} {H : wq_H} {Len x m o : Nat} {i : Int} (hX : wlX kt CB SB X) (hb : T.2.1 ≤ CB ∧ T.2.2.1 ≤ SB) (hI : wlJ Len x m o T H) (hL : Len ≤ 3072) (hi : 0 ≤ i ∧ i + 6 ≤ Len) (hb2 : T.2.1 + 20 ≤ CB ∧ T.2.2.1 + 500 ≤ SB)  (next : ∀ T' H', wlJ Len x m o T' H' → T'.2.1 ≤ T.2.1 + 20 → T'.2.2.1 ≤ T.2.2.1 + 500 → WL kt CB SB X 1653 (wlL i x m o) [] T' H') : WL kt CB SB X 454 (wlL i x m o) [] T H := by
  obtain ⟨⟨hW, g0, gx, gm, go, hK, hr⟩, hXI, hY1, hY2⟩ := hI
  refine wl_of hX hb cL_454 (rw_aload_n (pc' := 455) (v := .ref x) rfl rfl rfl ?_)
  refine wl_of hX hb cL_455 (rw_aload_n (pc' := 456) (v := .ref 0) rfl rfl rfl ?_)
  refine wl_of hX hb cL_456 (rw_iload (pc' := 458) (z := i) rfl rfl ?_)
  refine wl_of hX hb cL_458 (rw_iconst (pc' := 459) rfl ?_)
  refine wl_of hX hb cL_459 (rw_iadd (pc' := 460) rfl ?_)
  refine wl_of hX hb cL_460 (xa_I (so := 0) (pc' := 461) (a := 0) hW g0 (wsh_s _) (by omega) (wty_s _ _) (by omega) (by omega) rfl (fun b1547 b1548 => ?_))
  refine wl_of hX hb cL_461 (rw_aload_n (pc' := 462) (v := .ref 0) rfl rfl rfl ?_)
  refine wl_of hX hb cL_462 (rw_iload (pc' := 464) (z := i) rfl rfl ?_)
  refine wl_of hX hb cL_464 (rw_iconst (pc' := 465) rfl ?_)
  refine wl_of hX hb cL_465 (rw_iadd (pc' := 466) rfl ?_)
  refine wl_of hX hb cL_466 (xa_I (so := 0) (pc' := 467) (a := 0) hW g0 (wsh_s _) (by omega) (wty_s _ _) (by omega) (by omega) rfl (fun b1549 b1550 => ?_))
  refine wl_of hX hb cL_467 (rw_aload_n (pc' := 468) (v := .ref 0) rfl rfl rfl ?_)
  refine wl_of hX hb cL_468 (rw_iload (pc' := 470) (z := i) rfl rfl ?_)
  refine wl_of hX hb cL_470 (rw_iconst (pc' := 471) rfl ?_)
  refine wl_of hX hb cL_471 (rw_iadd (pc' := 472) rfl ?_)
  refine wl_of hX hb cL_472 (xa_I (so := 0) (pc' := 473) (a := 0) hW g0 (wsh_s _) (by omega) (wty_s _ _) (by omega) (by omega) rfl (fun b1551 b1552 => ?_))
  refine wl_of hX hb cL_473 (xc_V (pc' := 476) (r := x) (as := [vI (H 0 ((i + 1).toNat)), vI (H 0 ((i + 2).toNat)), vI (H 0 ((i + 3).toNat))]) (st := []) (lm_11_46) rfl rfl (Nat.le_of_ble_eq_true rfl) hW gx sh_1 (by decide) rfl (by decide) (s_59 hW gx ⟨by omega, by omega⟩ ⟨by omega, by omega⟩ ⟨by omega, by omega⟩) (fun R1553 T1554 H1555 p1556 => ?_))
  obtain ⟨e1557, w1559, f1560, z1561, e1558, b1562⟩ := p1556
  subst e1557
  subst e1558
  show WL _ _ _ _ 476 [(4, vI i), (3, .ref o), (2, .ref m), (1, .ref x), (0, .ref 0)] [vI z1561] _ H1555
  refine wl_of hX hb cL_476 (rw_pop (pc' := 477) rfl rfl ?_)
  refine wl_of hX hb cL_477 (rw_aload_n (pc' := 478) (v := .ref m) rfl rfl rfl ?_)
  refine wl_of hX hb cL_478 (rw_aload_n (pc' := 479) (v := .ref 0) rfl rfl rfl ?_)
  refine wl_of hX hb cL_479 (rw_iload (pc' := 481) (z := i) rfl rfl ?_)
  refine wl_of hX hb cL_481 (rw_iconst (pc' := 482) rfl ?_)
  refine wl_of hX hb cL_482 (rw_iadd (pc' := 483) rfl ?_)
  have k1565 : H1555 0 ((i + 1).toNat) = H 0 ((i + 1).toNat) := (f1560 0 ((i + 1).toNat) _ g0 (wmem_s rfl))
  refine wl_of hX hb cL_483 (xa_I (so := 0) (pc' := 484) (a := 0) w1559 g0 (wsh_s _) (by omega) (wty_s _ _) (by omega) (by omega) rfl (fun b1563 b1564 => ?_))
  refine wl_of hX hb cL_484 (rw_aload_n (pc' := 485) (v := .ref 0) rfl rfl rfl ?_)
  refine wl_of hX hb cL_485 (rw_iload (pc' := 487) (z := i) rfl rfl ?_)
  refine wl_of hX hb cL_487 (rw_iconst (pc' := 488) rfl ?_)
  refine wl_of hX hb cL_488 (rw_iadd (pc' := 489) rfl ?_)
  have k1568 : H1555 0 ((i + 2).toNat) = H 0 ((i + 2).toNat) := (f1560 0 ((i + 2).toNat) _ g0 (wmem_s rfl))
  refine wl_of hX hb cL_489 (xa_I (so := 0) (pc' := 490) (a := 0) w1559 g0 (wsh_s _) (by omega) (wty_s _ _) (by omega) (by omega) rfl (fun b1566 b1567 => ?_))
  refine wl_of hX hb cL_490 (rw_aload_n (pc' := 491) (v := .ref 0) rfl rfl rfl ?_)
  refine wl_of hX hb cL_491 (rw_iload (pc' := 493) (z := i) rfl rfl ?_)
  refine wl_of hX hb cL_493 (rw_iconst (pc' := 494) rfl ?_)
  refine wl_of hX hb cL_494 (rw_iadd (pc' := 495) rfl ?_)
  have k1571 : H1555 0 ((i + 3).toNat) = H 0 ((i + 3).toNat) := (f1560 0 ((i + 3).toNat) _ g0 (wmem_s rfl))
  refine wl_of hX hb cL_495 (xa_I (so := 0) (pc' := 496) (a := 0) w1559 g0 (wsh_s _) (by omega) (wty_s _ _) (by omega) (by omega) rfl (fun b1569 b1570 => ?_))
  have k1572 : wKI H1555 m = wKI H m := (wKI_fr hW gm f1560 rfl)
  have k1573 : H1555 x 9 = H x 9 := (f1560 x 9 _ gx rfl)
  have k1574 : H1555 m 6 = H m 6 := (f1560 m 6 _ gm rfl)
  have k1575 : H1555 x 11 = H x 11 := (f1560 x 11 _ gx rfl)
  have k1576 : H1555 m 13 = H m 13 := (f1560 m 13 _ gm rfl)
  have k1577 : H1555 x 8 = H x 8 := (f1560 x 8 _ gx rfl)
  have k1578 : H1555 m 3 = H m 3 := (f1560 m 3 _ gm rfl)
  refine wl_of hX hb cL_496 (xc_V (pc' := 499) (r := m) (as := [vI (H1555 0 ((i + 1).toNat)), vI (H1555 0 ((i + 2).toNat)), vI (H1555 0 ((i + 3).toNat))]) (st := []) (lm_11_49) rfl rfl (Nat.le_of_ble_eq_true rfl) w1559 gm sh_42 (by decide) rfl (by decide) (s_217 w1559 gm ⟨by omega, by omega⟩ ⟨by omega, by omega⟩ ⟨by omega, by omega⟩ (by omega)) (fun R1579 T1580 H1581 p1582 => ?_))
  obtain ⟨e1583, w1585, f1586, z1588, e1584, b1589, p1587⟩ := p1582
  subst e1583
  subst e1584
  show WL _ _ _ _ 499 [(4, vI i), (3, .ref o), (2, .ref m), (1, .ref x), (0, .ref 0)] [vI z1588] _ H1581
  refine wl_of hX hb cL_499 (rw_pop (pc' := 500) rfl rfl ?_)
  refine wl_of hX hb cL_500 (rw_goto (p1 := 1653) (by decide) ?_)
  have k1590 : H1581 x 9 = H1555 x 9 := (f1586 x 9 _ gx rfl)
  have k1591 : H1581 m 6 = H1555 m 6 := (f1586 m 6 _ gm rfl)
  have k1592 : H1581 x 11 = H1555 x 11 := (f1586 x 11 _ gx rfl)
  have k1593 : H1581 m 13 = H1555 m 13 := (f1586 m 13 _ gm rfl)
  have k1594 : H1581 x 8 = H1555 x 8 := (f1586 x 8 _ gx rfl)
  have k1595 : H1581 m 3 = H1555 m 3 := (f1586 m 3 _ gm rfl)
  have h1596 : XI T H1581 x m := (XI_fr w1559 gx f1586 rfl (XI_fr hW gx f1560 rfl hXI))
  exact WL.loc hX (by simp) (next T H1581 ⟨⟨w1585, g0, gx, gm, go, by omega, by omega⟩, h1596, by omega, by omega⟩ (by omega) (by omega))
set_option maxHeartbeats 4000000 in
theorem wl_c7 {kt : Nat → Option mc_E} {CB SB : Nat} {X : mc_S → Prop} {T : wq_T} {H : wq_H} {Len x m o : Nat} {i : Int} (hX : wlX kt CB SB X) (hb : T.2.1 ≤ CB ∧ T.2.2.1 ≤ SB) (hI : wlJ Len x m o T H) (hL : Len ≤ 3072) (hi : 0 ≤ i ∧ i + 6 ≤ Len) (hb2 : T.2.1 + 20 ≤ CB ∧ T.2.2.1 + 500 ≤ SB)  (next : ∀ T' H', wlJ Len x m o T' H' → T'.2.1 ≤ T.2.1 + 20 → T'.2.2.1 ≤ T.2.2.1 + 500 → WL kt CB SB X 1653 (wlL i x m o) [] T' H') : WL kt CB SB X 503 (wlL i x m o) [] T H := by
  obtain ⟨⟨hW, g0, gx, gm, go, hK, hr⟩, hXI, hY1, hY2⟩ := hI
  refine wl_of hX hb cL_503 (rw_aload_n (pc' := 504) (v := .ref x) rfl rfl rfl ?_)
  refine wl_of hX hb cL_504 (xc_V (pc' := 507) (r := x) (as := []) (st := []) (lm_11_50) rfl rfl (Nat.le_of_ble_eq_true rfl) hW gx sh_1 (by decide) rfl (by decide) (s_61 hW gx) (fun R1597 T1598 H1599 p1600 => ?_))
  obtain ⟨e1601, w1603, f1604, z1605, e1602, b1606⟩ := p1600
  subst e1601
  subst e1602
  show WL _ _ _ _ 507 [(4, vI i), (3, .ref o), (2, .ref m), (1, .ref x), (0, .ref 0)] [vL z1605] _ H1599
  refine wl_of hX hb cL_507 (rw_pop2 (pc' := 508) rfl rfl ?_)
  refine wl_of hX hb cL_508 (rw_aload_n (pc' := 509) (v := .ref m) rfl rfl rfl ?_)
  have k1607 : wKI H1599 m = wKI H m := (wKI_fr hW gm f1604 rfl)
  have k1608 : H1599 x 9 = H x 9 := (f1604 x 9 _ gx rfl)
  have k1609 : H1599 m 6 = H m 6 := (f1604 m 6 _ gm rfl)
  have k1610 : H1599 x 11 = H x 11 := (f1604 x 11 _ gx rfl)
  have k1611 : H1599 m 13 = H m 13 := (f1604 m 13 _ gm rfl)
  have k1612 : H1599 x 8 = H x 8 := (f1604 x 8 _ gx rfl)
  have k1613 : H1599 m 3 = H m 3 := (f1604 m 3 _ gm rfl)
  refine wl_of hX hb cL_509 (xc_V (pc' := 512) (r := m) (as := []) (st := []) (lm_11_54) rfl rfl (Nat.le_of_ble_eq_true rfl) w1603 gm sh_42 (by decide) rfl (by decide) (s_219 w1603 gm (by omega)) (fun R1614 T1615 H1616 p1617 => ?_))
  obtain ⟨e1618, w1620, f1621, z1623, e1619, b1624, p1622⟩ := p1617
  subst e1618
  subst e1619
  show WL _ _ _ _ 512 [(4, vI i), (3, .ref o), (2, .ref m), (1, .ref x), (0, .ref 0)] [vL z1623] _ H1616
  refine wl_of hX hb cL_512 (rw_pop2 (pc' := 513) rfl rfl ?_)
  refine wl_of hX hb cL_513 (rw_goto (p1 := 1653) (by decide) ?_)
  have k1625 : H1616 x 9 = H1599 x 9 := (f1621 x 9 _ gx rfl)
  have k1626 : H1616 m 6 = H1599 m 6 := (f1621 m 6 _ gm rfl)
  have k1627 : H1616 x 11 = H1599 x 11 := (f1621 x 11 _ gx rfl)
  have k1628 : H1616 m 13 = H1599 m 13 := (f1621 m 13 _ gm rfl)
  have k1629 : H1616 x 8 = H1599 x 8 := (f1621 x 8 _ gx rfl)
  have k1630 : H1616 m 3 = H1599 m 3 := (f1621 m 3 _ gm rfl)
  have h1631 : XI T H1616 x m := (XI_fr w1603 gx f1621 rfl (XI_fr hW gx f1604 rfl hXI))
  exact WL.loc hX (by simp) (next T H1616 ⟨⟨w1620, g0, gx, gm, go, by omega, by omega⟩, h1631, by omega, by omega⟩ (by omega) (by omega))
set_option maxHeartbeats 4000000 in
theorem wl_c8 {kt : Nat → Option mc_E} {CB SB : Nat} {X : mc_S → Prop} {T : wq_T} {H : wq_H} {Len x m o : Nat} {i : Int} (hX : wlX kt CB SB X) (hb : T.2.1 ≤ CB ∧ T.2.2.1 ≤ SB) (hI : wlJ Len x m o T H) (hL : Len ≤ 3072) (hi : 0 ≤ i ∧ i + 6 ≤ Len) (hb2 : T.2.1 + 20 ≤ CB ∧ T.2.2.1 + 500 ≤ SB)  (next : ∀ T' H', wlJ Len x m o T' H' → T'.2.1 ≤ T.2.1 + 20 → T'.2.2.1 ≤ T.2.2.1 + 500 → WL kt CB SB X 1653 (wlL i x m o) [] T' H') : WL kt CB SB X 516 (wlL i x m o) [] T H := by
  obtain ⟨⟨hW, g0, gx, gm, go, hK, hr⟩, hXI, hY1, hY2⟩ := hI
  refine wl_of hX hb cL_516 (rw_aload_n (pc' := 517) (v := .ref x) rfl rfl rfl ?_)
  refine wl_of hX hb cL_517 (rw_aload_n (pc' := 518) (v := .ref 0) rfl rfl rfl ?_)
  refine wl_of hX hb cL_518 (rw_iload (pc' := 520) (z := i) rfl rfl ?_)
  refine wl_of hX hb cL_520 (rw_iconst (pc' := 521) rfl ?_)
  refine wl_of hX hb cL_521 (rw_iadd (pc' := 522) rfl ?_)
  refine wl_of hX hb cL_522 (xa_I (so := 0) (pc' := 523) (a := 0) hW g0 (wsh_s _) (by omega) (wty_s _ _) (by omega) (by omega) rfl (fun b1632 b1633 => ?_))
  refine wl_of hX hb cL_523 (rw_aload_n (pc' := 524) (v := .ref 0) rfl rfl rfl ?_)
  refine wl_of hX hb cL_524 (rw_iload (pc' := 526) (z := i) rfl rfl ?_)
  refine wl_of hX hb cL_526 (rw_iconst (pc' := 527) rfl ?_)
  refine wl_of hX hb cL_527 (rw_iadd (pc' := 528) rfl ?_)
  refine wl_of hX hb cL_528 (xa_I (so := 0) (pc' := 529) (a := 0) hW g0 (wsh_s _) (by omega) (wty_s _ _) (by omega) (by omega) rfl (fun b1634 b1635 => ?_))
  refine wl_of hX hb cL_529 (xc_V (pc' := 532) (r := x) (as := [vI (H 0 ((i + 1).toNat)), vI (H 0 ((i + 2).toNat))]) (st := []) (lm_11_55) rfl rfl (Nat.le_of_ble_eq_true rfl) hW gx sh_1 (by decide) rfl (by decide) (s_62 hW gx ⟨by omega, by omega⟩ ⟨by omega, by omega⟩) (fun R1636 T1637 H1638 p1639 => ?_))
  obtain ⟨e1640, w1642, f1643, z1644, e1641, b1645⟩ := p1639
  subst e1640
  subst e1641
  show WL _ _ _ _ 532 [(4, vI i), (3, .ref o), (2, .ref m), (1, .ref x), (0, .ref 0)] [vI z1644] _ H1638
  refine wl_of hX hb cL_532 (rw_pop (pc' := 533) rfl rfl ?_)
  refine wl_of hX hb cL_533 (rw_aload_n (pc' := 534) (v := .ref m) rfl rfl rfl ?_)
  refine wl_of hX hb cL_534 (rw_aload_n (pc' := 535) (v := .ref 0) rfl rfl rfl ?_)
  refine wl_of hX hb cL_535 (rw_iload (pc' := 537) (z := i) rfl rfl ?_)
  refine wl_of hX hb cL_537 (rw_iconst (pc' := 538) rfl ?_)
  refine wl_of hX hb cL_538 (rw_iadd (pc' := 539) rfl ?_)
  have k1648 : H1638 0 ((i + 1).toNat) = H 0 ((i + 1).toNat) := (f1643 0 ((i + 1).toNat) _ g0 (wmem_s rfl))
  refine wl_of hX hb cL_539 (xa_I (so := 0) (pc' := 540) (a := 0) w1642 g0 (wsh_s _) (by omega) (wty_s _ _) (by omega) (by omega) rfl (fun b1646 b1647 => ?_))
  refine wl_of hX hb cL_540 (rw_aload_n (pc' := 541) (v := .ref 0) rfl rfl rfl ?_)
  refine wl_of hX hb cL_541 (rw_iload (pc' := 543) (z := i) rfl rfl ?_)
  refine wl_of hX hb cL_543 (rw_iconst (pc' := 544) rfl ?_)
  refine wl_of hX hb cL_544 (rw_iadd (pc' := 545) rfl ?_)
  have k1651 : H1638 0 ((i + 2).toNat) = H 0 ((i + 2).toNat) := (f1643 0 ((i + 2).toNat) _ g0 (wmem_s rfl))
  refine wl_of hX hb cL_545 (xa_I (so := 0) (pc' := 546) (a := 0) w1642 g0 (wsh_s _) (by omega) (wty_s _ _) (by omega) (by omega) rfl (fun b1649 b1650 => ?_))
  have k1652 : wKI H1638 m = wKI H m := (wKI_fr hW gm f1643 rfl)
  have k1653 : H1638 x 9 = H x 9 := (f1643 x 9 _ gx rfl)
  have k1654 : H1638 m 6 = H m 6 := (f1643 m 6 _ gm rfl)
  have k1655 : H1638 x 11 = H x 11 := (f1643 x 11 _ gx rfl)
  have k1656 : H1638 m 13 = H m 13 := (f1643 m 13 _ gm rfl)
  have k1657 : H1638 x 8 = H x 8 := (f1643 x 8 _ gx rfl)
  have k1658 : H1638 m 3 = H m 3 := (f1643 m 3 _ gm rfl)
  refine wl_of hX hb cL_546 (xc_V (pc' := 549) (r := m) (as := [vI (H1638 0 ((i + 1).toNat)), vI (H1638 0 ((i + 2).toNat))]) (st := []) (lm_11_59) rfl rfl (Nat.le_of_ble_eq_true rfl) w1642 gm sh_42 (by decide) rfl (by decide) (s_222 w1642 gm ⟨by omega, by omega⟩ ⟨by omega, by omega⟩ (by omega)) (fun R1659 T1660 H1661 p1662 => ?_))
  obtain ⟨e1663, w1665, f1666, z1668, e1664, b1669, p1667⟩ := p1662
  subst e1663
  subst e1664
  show WL _ _ _ _ 549 [(4, vI i), (3, .ref o), (2, .ref m), (1, .ref x), (0, .ref 0)] [vI z1668] _ H1661
  refine wl_of hX hb cL_549 (rw_pop (pc' := 550) rfl rfl ?_)
  refine wl_of hX hb cL_550 (rw_goto (p1 := 1653) (by decide) ?_)
  have k1670 : H1661 x 9 = H1638 x 9 := (f1666 x 9 _ gx rfl)
  have k1671 : H1661 m 6 = H1638 m 6 := (f1666 m 6 _ gm rfl)
  have k1672 : H1661 x 11 = H1638 x 11 := (f1666 x 11 _ gx rfl)
  have k1673 : H1661 m 13 = H1638 m 13 := (f1666 m 13 _ gm rfl)
  have k1674 : H1661 x 8 = H1638 x 8 := (f1666 x 8 _ gx rfl)
  have k1675 : H1661 m 3 = H1638 m 3 := (f1666 m 3 _ gm rfl)
  have h1676 : XI T H1661 x m := (XI_fr w1642 gx f1666 rfl (XI_fr hW gx f1643 rfl hXI))
  exact WL.loc hX (by simp) (next T H1661 ⟨⟨w1665, g0, gx, gm, go, by omega, by omega⟩, h1676, by omega, by omega⟩ (by omega) (by omega))
set_option maxHeartbeats 4000000 in
theorem wl_c9 {kt : Nat → Option mc_E} {CB SB : Nat} {X : mc_S → Prop} {T : wq_T} {H : wq_H} {Len x m o : Nat} {i : Int} (hX : wlX kt CB SB X) (hb : T.2.1 ≤ CB ∧ T.2.2.1 ≤ SB) (hI : wlJ Len x m o T H) (hL : Len ≤ 3072) (hi : 0 ≤ i ∧ i + 6 ≤ Len) (hb2 : T.2.1 + 20 ≤ CB ∧ T.2.2.1 + 500 ≤ SB)  (next : ∀ T' H', wlJ Len x m o T' H' → T'.2.1 ≤ T.2.1 + 20 → T'.2.2.1 ≤ T.2.2.1 + 500 → WL kt CB SB X 1653 (wlL i x m o) [] T' H') : WL kt CB SB X 553 (wlL i x m o) [] T H := by
  obtain ⟨⟨hW, g0, gx, gm, go, hK, hr⟩, hXI, hY1, hY2⟩ := hI
  refine wl_of hX hb cL_553 (rw_aload_n (pc' := 554) (v := .ref x) rfl rfl rfl ?_)
  refine wl_of hX hb cL_554 (rw_aload_n (pc' := 555) (v := .ref 0) rfl rfl rfl ?_)
  refine wl_of hX hb cL_555 (rw_iload (pc' := 557) (z := i) rfl rfl ?_)
  refine wl_of hX hb cL_557 (rw_iconst (pc' := 558) rfl ?_)
  refine wl_of hX hb cL_558 (rw_iadd (pc' := 559) rfl ?_)
  refine wl_of hX hb cL_559 (xa_I (so := 0) (pc' := 560) (a := 0) hW g0 (wsh_s _) (by omega) (wty_s _ _) (by omega) (by omega) rfl (fun b1677 b1678 => ?_))
  refine wl_of hX hb cL_560 (xc_V (pc' := 563) (r := x) (as := [vI (H 0 ((i + 1).toNat))]) (st := []) (lm_11_60) rfl rfl (Nat.le_of_ble_eq_true rfl) hW gx sh_1 (by decide) rfl (by decide) (s_65 hW gx ⟨by omega, by omega⟩) (fun R1679 T1680 H1681 p1682 => ?_))
  obtain ⟨e1683, w1685, f1686, z1687, e1684, b1688⟩ := p1682
  subst e1683
  subst e1684
  show WL _ _ _ _ 563 [(4, vI i), (3, .ref o), (2, .ref m), (1, .ref x), (0, .ref 0)] [vI z1687] _ H1681
  refine wl_of hX hb cL_563 (rw_pop (pc' := 564) rfl rfl ?_)
  refine wl_of hX hb cL_564 (rw_aload_n (pc' := 565) (v := .ref m) rfl rfl rfl ?_)
  refine wl_of hX hb cL_565 (rw_aload_n (pc' := 566) (v := .ref 0) rfl rfl rfl ?_)
  refine wl_of hX hb cL_566 (rw_iload (pc' := 568) (z := i) rfl rfl ?_)
  refine wl_of hX hb cL_568 (rw_iconst (pc' := 569) rfl ?_)
  refine wl_of hX hb cL_569 (rw_iadd (pc' := 570) rfl ?_)
  have k1691 : H1681 0 ((i + 1).toNat) = H 0 ((i + 1).toNat) := (f1686 0 ((i + 1).toNat) _ g0 (wmem_s rfl))
  refine wl_of hX hb cL_570 (xa_I (so := 0) (pc' := 571) (a := 0) w1685 g0 (wsh_s _) (by omega) (wty_s _ _) (by omega) (by omega) rfl (fun b1689 b1690 => ?_))
  have k1692 : wKI H1681 m = wKI H m := (wKI_fr hW gm f1686 rfl)
  have k1693 : H1681 x 9 = H x 9 := (f1686 x 9 _ gx rfl)
  have k1694 : H1681 m 6 = H m 6 := (f1686 m 6 _ gm rfl)
  have k1695 : H1681 x 11 = H x 11 := (f1686 x 11 _ gx rfl)
  have k1696 : H1681 m 13 = H m 13 := (f1686 m 13 _ gm rfl)
  have k1697 : H1681 x 8 = H x 8 := (f1686 x 8 _ gx rfl)
  have k1698 : H1681 m 3 = H m 3 := (f1686 m 3 _ gm rfl)
  refine wl_of hX hb cL_571 (xc_V (pc' := 574) (r := m) (as := [vI (H1681 0 ((i + 1).toNat))]) (st := []) (lm_11_63) rfl rfl (Nat.le_of_ble_eq_true rfl) w1685 gm sh_42 (by decide) rfl (by decide) (s_225 w1685 gm ⟨by omega, by omega⟩ (by omega)) (fun R1699 T1700 H1701 p1702 => ?_))
  obtain ⟨e1703, w1705, f1706, z1708, e1704, b1709, p1707⟩ := p1702
  subst e1703
  subst e1704
  show WL _ _ _ _ 574 [(4, vI i), (3, .ref o), (2, .ref m), (1, .ref x), (0, .ref 0)] [vI z1708] _ H1701
  refine wl_of hX hb cL_574 (rw_pop (pc' := 575) rfl rfl ?_)
  refine wl_of hX hb cL_575 (rw_goto (p1 := 1653) (by decide) ?_)
  have k1710 : H1701 x 9 = H1681 x 9 := (f1706 x 9 _ gx rfl)
  have k1711 : H1701 m 6 = H1681 m 6 := (f1706 m 6 _ gm rfl)
  have k1712 : H1701 x 11 = H1681 x 11 := (f1706 x 11 _ gx rfl)
  have k1713 : H1701 m 13 = H1681 m 13 := (f1706 m 13 _ gm rfl)
  have k1714 : H1701 x 8 = H1681 x 8 := (f1706 x 8 _ gx rfl)
  have k1715 : H1701 m 3 = H1681 m 3 := (f1706 m 3 _ gm rfl)
  have h1716 : XI T H1701 x m := (XI_fr w1685 gx f1706 rfl (XI_fr hW gx f1686 rfl hXI))
  exact WL.loc hX (by simp) (next T H1701 ⟨⟨w1705, g0, gx, gm, go, by omega, by omega⟩, h1716, by omega, by omega⟩ (by omega) (by omega))
set_option maxHeartbeats 4000000 in
theorem wl_c10 {kt : Nat → Option mc_E} {CB SB : Nat} {X : mc_S → Prop} {T : wq_T} {H : wq_H} {Len x m o : Nat} {i : Int} (hX : wlX kt CB SB X) (hb : T.2.1 ≤ CB ∧ T.2.2.1 ≤ SB) (hI : wlJ Len x m o T H) (hL : Len ≤ 3072) (hi : 0 ≤ i ∧ i + 6 ≤ Len) (hb2 : T.2.1 + 20 ≤ CB ∧ T.2.2.1 + 500 ≤ SB)  (next : ∀ T' H', wlJ Len x m o T' H' → T'.2.1 ≤ T.2.1 + 20 → T'.2.2.1 ≤ T.2.2.1 + 500 → WL kt CB SB X 1653 (wlL i x m o) [] T' H') : WL kt CB SB X 578 (wlL i x m o) [] T H := by
  obtain ⟨⟨hW, g0, gx, gm, go, hK, hr⟩, hXI, hY1, hY2⟩ := hI
  refine wl_of hX hb cL_578 (rw_aload_n (pc' := 579) (v := .ref x) rfl rfl rfl ?_)
  refine wl_of hX hb cL_579 (rw_aload_n (pc' := 580) (v := .ref 0) rfl rfl rfl ?_)
  refine wl_of hX hb cL_580 (rw_iload (pc' := 582) (z := i) rfl rfl ?_)
  refine wl_of hX hb cL_582 (rw_iconst (pc' := 583) rfl ?_)
  refine wl_of hX hb cL_583 (rw_iadd (pc' := 584) rfl ?_)
  refine wl_of hX hb cL_584 (xa_I (so := 0) (pc' := 585) (a := 0) hW g0 (wsh_s _) (by omega) (wty_s _ _) (by omega) (by omega) rfl (fun b1717 b1718 => ?_))
  refine wl_of hX hb cL_585 (xc_V (pc' := 588) (r := x) (as := [vI (H 0 ((i + 1).toNat))]) (st := []) (lm_11_64) rfl rfl (Nat.le_of_ble_eq_true rfl) hW gx sh_1 (by decide) rfl (by decide) (s_66 hW gx ⟨by omega, by omega⟩) (fun R1719 T1720 H1721 p1722 => ?_))
  obtain ⟨e1723, w1725, f1726, z1727, e1724, b1728⟩ := p1722
  subst e1723
  subst e1724
  show WL _ _ _ _ 588 [(4, vI i), (3, .ref o), (2, .ref m), (1, .ref x), (0, .ref 0)] [vI z1727] _ H1721
  refine wl_of hX hb cL_588 (rw_pop (pc' := 589) rfl rfl ?_)
  refine wl_of hX hb cL_589 (rw_aload_n (pc' := 590) (v := .ref m) rfl rfl rfl ?_)
  refine wl_of hX hb cL_590 (rw_aload_n (pc' := 591) (v := .ref 0) rfl rfl rfl ?_)
  refine wl_of hX hb cL_591 (rw_iload (pc' := 593) (z := i) rfl rfl ?_)
  refine wl_of hX hb cL_593 (rw_iconst (pc' := 594) rfl ?_)
  refine wl_of hX hb cL_594 (rw_iadd (pc' := 595) rfl ?_)
  have k1731 : H1721 0 ((i + 1).toNat) = H 0 ((i + 1).toNat) := (f1726 0 ((i + 1).toNat) _ g0 (wmem_s rfl))
  refine wl_of hX hb cL_595 (xa_I (so := 0) (pc' := 596) (a := 0) w1725 g0 (wsh_s _) (by omega) (wty_s _ _) (by omega) (by omega) rfl (fun b1729 b1730 => ?_))
  have k1732 : wKI H1721 m = wKI H m := (wKI_fr hW gm f1726 rfl)
  have k1733 : H1721 x 9 = H x 9 := (f1726 x 9 _ gx rfl)
  have k1734 : H1721 m 6 = H m 6 := (f1726 m 6 _ gm rfl)
  have k1735 : H1721 x 11 = H x 11 := (f1726 x 11 _ gx rfl)
  have k1736 : H1721 m 13 = H m 13 := (f1726 m 13 _ gm rfl)
  have k1737 : H1721 x 8 = H x 8 := (f1726 x 8 _ gx rfl)
  have k1738 : H1721 m 3 = H m 3 := (f1726 m 3 _ gm rfl)
  refine wl_of hX hb cL_596 (xc_V (pc' := 599) (r := m) (as := [vI (H1721 0 ((i + 1).toNat))]) (st := []) (lm_11_67) rfl rfl (Nat.le_of_ble_eq_true rfl) w1725 gm sh_42 (by decide) rfl (by decide) (s_226 w1725 gm ⟨by omega, by omega⟩ (by omega)) (fun R1739 T1740 H1741 p1742 => ?_))
  obtain ⟨e1743, w1745, f1746, z1748, e1744, b1749, p1747⟩ := p1742
  subst e1743
  subst e1744
  show WL _ _ _ _ 599 [(4, vI i), (3, .ref o), (2, .ref m), (1, .ref x), (0, .ref 0)] [vI z1748] _ H1741
  refine wl_of hX hb cL_599 (rw_pop (pc' := 600) rfl rfl ?_)
  refine wl_of hX hb cL_600 (rw_goto (p1 := 1653) (by decide) ?_)
  have k1750 : H1741 x 9 = H1721 x 9 := (f1746 x 9 _ gx rfl)
  have k1751 : H1741 m 6 = H1721 m 6 := (f1746 m 6 _ gm rfl)
  have k1752 : H1741 x 11 = H1721 x 11 := (f1746 x 11 _ gx rfl)
  have k1753 : H1741 m 13 = H1721 m 13 := (f1746 m 13 _ gm rfl)
  have k1754 : H1741 x 8 = H1721 x 8 := (f1746 x 8 _ gx rfl)
  have k1755 : H1741 m 3 = H1721 m 3 := (f1746 m 3 _ gm rfl)
  have h1756 : XI T H1741 x m := (XI_fr w1725 gx f1746 rfl (XI_fr hW gx f1726 rfl hXI))
  exact WL.loc hX (by simp) (next T H1741 ⟨⟨w1745, g0, gx, gm, go, by omega, by omega⟩, h1756, by omega, by omega⟩ (by omega) (by omega))
set_option maxHeartbeats 4000000 in
theorem wl_c11 {kt : Nat → Option mc_E} {CB SB : Nat} {X : mc_S → Prop} {T : wq_T} {H : wq_H} {Len x m o : Nat} {i : Int} (hX : wlX kt CB SB X) (hb : T.2.1 ≤ CB ∧ T.2.2.1 ≤ SB) (hI : wlJ Len x m o T H) (hL : Len ≤ 3072) (hi : 0 ≤ i ∧ i + 6 ≤ Len) (hb2 : T.2.1 + 20 ≤ CB ∧ T.2.2.1 + 500 ≤ SB)  (next : ∀ T' H', wlJ Len x m o T' H' → T'.2.1 ≤ T.2.1 + 20 → T'.2.2.1 ≤ T.2.2.1 + 500 → WL kt CB SB X 1653 (wlL i x m o) [] T' H') : WL kt CB SB X 603 (wlL i x m o) [] T H := by
  obtain ⟨⟨hW, g0, gx, gm, go, hK, hr⟩, hXI, hY1, hY2⟩ := hI
  refine wl_of hX hb cL_603 (rw_aload_n (pc' := 604) (v := .ref x) rfl rfl rfl ?_)
  refine wl_of hX hb cL_604 (xc_V (pc' := 607) (r := x) (as := []) (st := []) (lm_11_68) rfl rfl (Nat.le_of_ble_eq_true rfl) hW gx sh_1 (by decide) rfl (by decide) (s_73 hW gx) (fun R1757 T1758 H1759 p1760 => ?_))
  obtain ⟨e1761, w1763, f1764, z1765, e1762, b1766⟩ := p1760
  subst e1761
  subst e1762
  show WL _ _ _ _ 607 [(4, vI i), (3, .ref o), (2, .ref m), (1, .ref x), (0, .ref 0)] [vI z1765] _ H1759
  refine wl_of hX hb cL_607 (rw_pop (pc' := 608) rfl rfl ?_)
  refine wl_of hX hb cL_608 (rw_aload_n (pc' := 609) (v := .ref m) rfl rfl rfl ?_)
  have k1767 : wKI H1759 m = wKI H m := (wKI_fr hW gm f1764 rfl)
  have k1768 : H1759 x 9 = H x 9 := (f1764 x 9 _ gx rfl)
  have k1769 : H1759 m 6 = H m 6 := (f1764 m 6 _ gm rfl)
  have k1770 : H1759 x 11 = H x 11 := (f1764 x 11 _ gx rfl)
  have k1771 : H1759 m 13 = H m 13 := (f1764 m 13 _ gm rfl)
  have k1772 : H1759 x 8 = H x 8 := (f1764 x 8 _ gx rfl)
  have k1773 : H1759 m 3 = H m 3 := (f1764 m 3 _ gm rfl)
  refine wl_of hX hb cL_609 (xc_V (pc' := 612) (r := m) (as := []) (st := []) (lm_11_71) rfl rfl (Nat.le_of_ble_eq_true rfl) w1763 gm sh_42 (by decide) rfl (by decide) (s_230 w1763 gm (by omega)) (fun R1774 T1775 H1776 p1777 => ?_))
  obtain ⟨e1778, w1780, f1781, z1783, e1779, b1784, p1782⟩ := p1777
  subst e1778
  subst e1779
  show WL _ _ _ _ 612 [(4, vI i), (3, .ref o), (2, .ref m), (1, .ref x), (0, .ref 0)] [vI z1783] _ H1776
  refine wl_of hX hb cL_612 (rw_pop (pc' := 613) rfl rfl ?_)
  refine wl_of hX hb cL_613 (rw_goto (p1 := 1653) (by decide) ?_)
  have k1785 : H1776 x 9 = H1759 x 9 := (f1781 x 9 _ gx rfl)
  have k1786 : H1776 m 6 = H1759 m 6 := (f1781 m 6 _ gm rfl)
  have k1787 : H1776 x 11 = H1759 x 11 := (f1781 x 11 _ gx rfl)
  have k1788 : H1776 m 13 = H1759 m 13 := (f1781 m 13 _ gm rfl)
  have k1789 : H1776 x 8 = H1759 x 8 := (f1781 x 8 _ gx rfl)
  have k1790 : H1776 m 3 = H1759 m 3 := (f1781 m 3 _ gm rfl)
  have h1791 : XI T H1776 x m := (XI_fr w1763 gx f1781 rfl (XI_fr hW gx f1764 rfl hXI))
  exact WL.loc hX (by simp) (next T H1776 ⟨⟨w1780, g0, gx, gm, go, by omega, by omega⟩, h1791, by omega, by omega⟩ (by omega) (by omega))
set_option maxHeartbeats 4000000 in
theorem wl_c12 {kt : Nat → Option mc_E} {CB SB : Nat} {X : mc_S → Prop} {T : wq_T} {H : wq_H} {Len x m o : Nat} {i : Int} (hX : wlX kt CB SB X) (hb : T.2.1 ≤ CB ∧ T.2.2.1 ≤ SB) (hI : wlJ Len x m o T H) (hL : Len ≤ 3072) (hi : 0 ≤ i ∧ i + 6 ≤ Len) (hb2 : T.2.1 + 20 ≤ CB ∧ T.2.2.1 + 500 ≤ SB)  (next : ∀ T' H', wlJ Len x m o T' H' → T'.2.1 ≤ T.2.1 + 20 → T'.2.2.1 ≤ T.2.2.1 + 500 → WL kt CB SB X 1653 (wlL i x m o) [] T' H') : WL kt CB SB X 616 (wlL i x m o) [] T H := by
  obtain ⟨⟨hW, g0, gx, gm, go, hK, hr⟩, hXI, hY1, hY2⟩ := hI
  refine wl_of hX hb cL_616 (rw_aload_n (pc' := 617) (v := .ref x) rfl rfl rfl ?_)
  refine wl_of hX hb cL_617 (xc_V (pc' := 620) (r := x) (as := []) (st := []) (lm_11_72) rfl rfl (Nat.le_of_ble_eq_true rfl) hW gx sh_1 (by decide) rfl (by decide) (s_77 hW gx) (fun R1792 T1793 H1794 p1795 => ?_))
  obtain ⟨e1796, w1798, f1799, z1800, e1797, b1801⟩ := p1795
  subst e1796
  subst e1797
  show WL _ _ _ _ 620 [(4, vI i), (3, .ref o), (2, .ref m), (1, .ref x), (0, .ref 0)] [vI z1800] _ H1794
  refine wl_of hX hb cL_620 (rw_pop (pc' := 621) rfl rfl ?_)
  refine wl_of hX hb cL_621 (rw_aload_n (pc' := 622) (v := .ref m) rfl rfl rfl ?_)
  have k1802 : wKI H1794 m = wKI H m := (wKI_fr hW gm f1799 rfl)
  have k1803 : H1794 x 9 = H x 9 := (f1799 x 9 _ gx rfl)
  have k1804 : H1794 m 6 = H m 6 := (f1799 m 6 _ gm rfl)
  have k1805 : H1794 x 11 = H x 11 := (f1799 x 11 _ gx rfl)
  have k1806 : H1794 m 13 = H m 13 := (f1799 m 13 _ gm rfl)
  have k1807 : H1794 x 8 = H x 8 := (f1799 x 8 _ gx rfl)
  have k1808 : H1794 m 3 = H m 3 := (f1799 m 3 _ gm rfl)
  refine wl_of hX hb cL_622 (xc_V (pc' := 625) (r := m) (as := []) (st := []) (lm_11_75) rfl rfl (Nat.le_of_ble_eq_true rfl) w1798 gm sh_42 (by decide) rfl (by decide) (s_236 w1798 gm (by omega)) (fun R1809 T1810 H1811 p1812 => ?_))
  obtain ⟨e1813, w1815, f1816, z1818, e1814, b1819, p1817⟩ := p1812
  subst e1813
  subst e1814
  show WL _ _ _ _ 625 [(4, vI i), (3, .ref o), (2, .ref m), (1, .ref x), (0, .ref 0)] [vI z1818] _ H1811
  refine wl_of hX hb cL_625 (rw_pop (pc' := 626) rfl rfl ?_)
  refine wl_of hX hb cL_626 (rw_goto (p1 := 1653) (by decide) ?_)
  have k1820 : H1811 x 9 = H1794 x 9 := (f1816 x 9 _ gx rfl)
  have k1821 : H1811 m 6 = H1794 m 6 := (f1816 m 6 _ gm rfl)
  have k1822 : H1811 x 11 = H1794 x 11 := (f1816 x 11 _ gx rfl)
  have k1823 : H1811 m 13 = H1794 m 13 := (f1816 m 13 _ gm rfl)
  have k1824 : H1811 x 8 = H1794 x 8 := (f1816 x 8 _ gx rfl)
  have k1825 : H1811 m 3 = H1794 m 3 := (f1816 m 3 _ gm rfl)
  have h1826 : XI T H1811 x m := (XI_fr w1798 gx f1816 rfl (XI_fr hW gx f1799 rfl hXI))
  exact WL.loc hX (by simp) (next T H1811 ⟨⟨w1815, g0, gx, gm, go, by omega, by omega⟩, h1826, by omega, by omega⟩ (by omega) (by omega))
set_option maxHeartbeats 4000000 in
theorem wl_c13 {kt : Nat → Option mc_E} {CB SB : Nat} {X : mc_S → Prop} {T : wq_T} {H : wq_H} {Len x m o : Nat} {i : Int} (hX : wlX kt CB SB X) (hb : T.2.1 ≤ CB ∧ T.2.2.1 ≤ SB) (hI : wlJ Len x m o T H) (hL : Len ≤ 3072) (hi : 0 ≤ i ∧ i + 6 ≤ Len) (hb2 : T.2.1 + 20 ≤ CB ∧ T.2.2.1 + 500 ≤ SB)  (next : ∀ T' H', wlJ Len x m o T' H' → T'.2.1 ≤ T.2.1 + 20 → T'.2.2.1 ≤ T.2.2.1 + 500 → WL kt CB SB X 1653 (wlL i x m o) [] T' H') : WL kt CB SB X 629 (wlL i x m o) [] T H := by
  obtain ⟨⟨hW, g0, gx, gm, go, hK, hr⟩, hXI, hY1, hY2⟩ := hI
  refine wl_of hX hb cL_629 (rw_aload_n (pc' := 630) (v := .ref x) rfl rfl rfl ?_)
  refine wl_of hX hb cL_630 (xc_V (pc' := 633) (r := x) (as := []) (st := []) (lm_11_76) rfl rfl (Nat.le_of_ble_eq_true rfl) hW gx sh_1 (by decide) rfl (by decide) (s_78 hW gx) (fun R1827 T1828 H1829 p1830 => ?_))
  obtain ⟨e1831, w1833, f1834, z1835, e1832, b1836⟩ := p1830
  subst e1831
  subst e1832
  show WL _ _ _ _ 633 [(4, vI i), (3, .ref o), (2, .ref m), (1, .ref x), (0, .ref 0)] [vI z1835] _ H1829
  refine wl_of hX hb cL_633 (rw_pop (pc' := 634) rfl rfl ?_)
  refine wl_of hX hb cL_634 (rw_aload_n (pc' := 635) (v := .ref m) rfl rfl rfl ?_)
  have k1837 : wKI H1829 m = wKI H m := (wKI_fr hW gm f1834 rfl)
  have k1838 : H1829 x 9 = H x 9 := (f1834 x 9 _ gx rfl)
  have k1839 : H1829 m 6 = H m 6 := (f1834 m 6 _ gm rfl)
  have k1840 : H1829 x 11 = H x 11 := (f1834 x 11 _ gx rfl)
  have k1841 : H1829 m 13 = H m 13 := (f1834 m 13 _ gm rfl)
  have k1842 : H1829 x 8 = H x 8 := (f1834 x 8 _ gx rfl)
  have k1843 : H1829 m 3 = H m 3 := (f1834 m 3 _ gm rfl)
  refine wl_of hX hb cL_635 (xc_V (pc' := 638) (r := m) (as := []) (st := []) (lm_11_79) rfl rfl (Nat.le_of_ble_eq_true rfl) w1833 gm sh_42 (by decide) rfl (by decide) (s_237 w1833 gm (by omega)) (fun R1844 T1845 H1846 p1847 => ?_))
  obtain ⟨e1848, w1850, f1851, z1853, e1849, b1854, p1852⟩ := p1847
  subst e1848
  subst e1849
  show WL _ _ _ _ 638 [(4, vI i), (3, .ref o), (2, .ref m), (1, .ref x), (0, .ref 0)] [vI z1853] _ H1846
  refine wl_of hX hb cL_638 (rw_pop (pc' := 639) rfl rfl ?_)
  refine wl_of hX hb cL_639 (rw_goto (p1 := 1653) (by decide) ?_)
  have k1855 : H1846 x 9 = H1829 x 9 := (f1851 x 9 _ gx rfl)
  have k1856 : H1846 m 6 = H1829 m 6 := (f1851 m 6 _ gm rfl)
  have k1857 : H1846 x 11 = H1829 x 11 := (f1851 x 11 _ gx rfl)
  have k1858 : H1846 m 13 = H1829 m 13 := (f1851 m 13 _ gm rfl)
  have k1859 : H1846 x 8 = H1829 x 8 := (f1851 x 8 _ gx rfl)
  have k1860 : H1846 m 3 = H1829 m 3 := (f1851 m 3 _ gm rfl)
  have h1861 : XI T H1846 x m := (XI_fr w1833 gx f1851 rfl (XI_fr hW gx f1834 rfl hXI))
  exact WL.loc hX (by simp) (next T H1846 ⟨⟨w1850, g0, gx, gm, go, by omega, by omega⟩, h1861, by omega, by omega⟩ (by omega) (by omega))
set_option maxHeartbeats 4000000 in
theorem wl_c14 {kt : Nat → Option mc_E} {CB SB : Nat} {X : mc_S → Prop} {T : wq_T} {H : wq_H} {Len x m o : Nat} {i : Int} (hX : wlX kt CB SB X) (hb : T.2.1 ≤ CB ∧ T.2.2.1 ≤ SB) (hI : wlJ Len x m o T H) (hL : Len ≤ 3072) (hi : 0 ≤ i ∧ i + 6 ≤ Len) (hb2 : T.2.1 + 20 ≤ CB ∧ T.2.2.1 + 500 ≤ SB)  (next : ∀ T' H', wlJ Len x m o T' H' → T'.2.1 ≤ T.2.1 + 20 → T'.2.2.1 ≤ T.2.2.1 + 500 → WL kt CB SB X 1653 (wlL i x m o) [] T' H') : WL kt CB SB X 642 (wlL i x m o) [] T H := by
  obtain ⟨⟨hW, g0, gx, gm, go, hK, hr⟩, hXI, hY1, hY2⟩ := hI
  refine wl_of hX hb cL_642 (rw_aload_n (pc' := 643) (v := .ref x) rfl rfl rfl ?_)
  refine wl_of hX hb cL_643 (xc_V (pc' := 646) (r := x) (as := []) (st := []) (lm_11_80) rfl rfl (Nat.le_of_ble_eq_true rfl) hW gx sh_1 (by decide) rfl (by decide) (s_82 hW gx) (fun R1862 T1863 H1864 p1865 => ?_))
  obtain ⟨e1866, w1868, f1869, z1870, e1867, b1871⟩ := p1865
  subst e1866
  subst e1867
  show WL _ _ _ _ 646 [(4, vI i), (3, .ref o), (2, .ref m), (1, .ref x), (0, .ref 0)] [vI z1870] _ H1864
  refine wl_of hX hb cL_646 (rw_pop (pc' := 647) rfl rfl ?_)
  refine wl_of hX hb cL_647 (rw_aload_n (pc' := 648) (v := .ref m) rfl rfl rfl ?_)
  have k1872 : wKI H1864 m = wKI H m := (wKI_fr hW gm f1869 rfl)
  have k1873 : H1864 x 9 = H x 9 := (f1869 x 9 _ gx rfl)
  have k1874 : H1864 m 6 = H m 6 := (f1869 m 6 _ gm rfl)
  have k1875 : H1864 x 11 = H x 11 := (f1869 x 11 _ gx rfl)
  have k1876 : H1864 m 13 = H m 13 := (f1869 m 13 _ gm rfl)
  have k1877 : H1864 x 8 = H x 8 := (f1869 x 8 _ gx rfl)
  have k1878 : H1864 m 3 = H m 3 := (f1869 m 3 _ gm rfl)
  refine wl_of hX hb cL_648 (xc_V (pc' := 651) (r := m) (as := []) (st := []) (lm_11_83) rfl rfl (Nat.le_of_ble_eq_true rfl) w1868 gm sh_42 (by decide) rfl (by decide) (s_240 w1868 gm (by omega)) (fun R1879 T1880 H1881 p1882 => ?_))
  obtain ⟨e1883, w1885, f1886, z1888, e1884, b1889, p1887⟩ := p1882
  subst e1883
  subst e1884
  show WL _ _ _ _ 651 [(4, vI i), (3, .ref o), (2, .ref m), (1, .ref x), (0, .ref 0)] [vI z1888] _ H1881
  refine wl_of hX hb cL_651 (rw_pop (pc' := 652) rfl rfl ?_)
  refine wl_of hX hb cL_652 (rw_goto (p1 := 1653) (by decide) ?_)
  have k1890 : H1881 x 9 = H1864 x 9 := (f1886 x 9 _ gx rfl)
  have k1891 : H1881 m 6 = H1864 m 6 := (f1886 m 6 _ gm rfl)
  have k1892 : H1881 x 11 = H1864 x 11 := (f1886 x 11 _ gx rfl)
  have k1893 : H1881 m 13 = H1864 m 13 := (f1886 m 13 _ gm rfl)
  have k1894 : H1881 x 8 = H1864 x 8 := (f1886 x 8 _ gx rfl)
  have k1895 : H1881 m 3 = H1864 m 3 := (f1886 m 3 _ gm rfl)
  have h1896 : XI T H1881 x m := (XI_fr w1868 gx f1886 rfl (XI_fr hW gx f1869 rfl hXI))
  exact WL.loc hX (by simp) (next T H1881 ⟨⟨w1885, g0, gx, gm, go, by omega, by omega⟩, h1896, by omega, by omega⟩ (by omega) (by omega))
set_option maxHeartbeats 4000000 in
theorem wl_c15 {kt : Nat → Option mc_E} {CB SB : Nat} {X : mc_S → Prop} {T : wq_T} {H : wq_H} {Len x m o : Nat} {i : Int} (hX : wlX kt CB SB X) (hb : T.2.1 ≤ CB ∧ T.2.2.1 ≤ SB) (hI : wlJ Len x m o T H) (hL : Len ≤ 3072) (hi : 0 ≤ i ∧ i + 6 ≤ Len) (hb2 : T.2.1 + 20 ≤ CB ∧ T.2.2.1 + 500 ≤ SB)  (next : ∀ T' H', wlJ Len x m o T' H' → T'.2.1 ≤ T.2.1 + 20 → T'.2.2.1 ≤ T.2.2.1 + 500 → WL kt CB SB X 1653 (wlL i x m o) [] T' H') : WL kt CB SB X 655 (wlL i x m o) [] T H := by
  obtain ⟨⟨hW, g0, gx, gm, go, hK, hr⟩, hXI, hY1, hY2⟩ := hI
  refine wl_of hX hb cL_655 (rw_aload_n (pc' := 656) (v := .ref x) rfl rfl rfl ?_)
  refine wl_of hX hb cL_656 (xc_V (pc' := 659) (r := x) (as := []) (st := []) (lm_11_84) rfl rfl (Nat.le_of_ble_eq_true rfl) hW gx sh_1 (by decide) rfl (by decide) (s_92 hW gx) (fun R1897 T1898 H1899 p1900 => ?_))
  obtain ⟨e1901, w1903, f1904, z1905, e1902, b1906⟩ := p1900
  subst e1901
  subst e1902
  show WL _ _ _ _ 659 [(4, vI i), (3, .ref o), (2, .ref m), (1, .ref x), (0, .ref 0)] [vI z1905] _ H1899
  refine wl_of hX hb cL_659 (rw_pop (pc' := 660) rfl rfl ?_)
  refine wl_of hX hb cL_660 (rw_aload_n (pc' := 661) (v := .ref m) rfl rfl rfl ?_)
  have k1907 : wKI H1899 m = wKI H m := (wKI_fr hW gm f1904 rfl)
  have k1908 : H1899 x 9 = H x 9 := (f1904 x 9 _ gx rfl)
  have k1909 : H1899 m 6 = H m 6 := (f1904 m 6 _ gm rfl)
  have k1910 : H1899 x 11 = H x 11 := (f1904 x 11 _ gx rfl)
  have k1911 : H1899 m 13 = H m 13 := (f1904 m 13 _ gm rfl)
  have k1912 : H1899 x 8 = H x 8 := (f1904 x 8 _ gx rfl)
  have k1913 : H1899 m 3 = H m 3 := (f1904 m 3 _ gm rfl)
  refine wl_of hX hb cL_661 (xc_V (pc' := 664) (r := m) (as := []) (st := []) (lm_11_87) rfl rfl (Nat.le_of_ble_eq_true rfl) w1903 gm sh_42 (by decide) rfl (by decide) (s_244 w1903 gm (by omega)) (fun R1914 T1915 H1916 p1917 => ?_))
  obtain ⟨e1918, w1920, f1921, z1923, e1919, b1924, p1922⟩ := p1917
  subst e1918
  subst e1919
  show WL _ _ _ _ 664 [(4, vI i), (3, .ref o), (2, .ref m), (1, .ref x), (0, .ref 0)] [vI z1923] _ H1916
  refine wl_of hX hb cL_664 (rw_pop (pc' := 665) rfl rfl ?_)
  refine wl_of hX hb cL_665 (rw_goto (p1 := 1653) (by decide) ?_)
  have k1925 : H1916 x 9 = H1899 x 9 := (f1921 x 9 _ gx rfl)
  have k1926 : H1916 m 6 = H1899 m 6 := (f1921 m 6 _ gm rfl)
  have k1927 : H1916 x 11 = H1899 x 11 := (f1921 x 11 _ gx rfl)
  have k1928 : H1916 m 13 = H1899 m 13 := (f1921 m 13 _ gm rfl)
  have k1929 : H1916 x 8 = H1899 x 8 := (f1921 x 8 _ gx rfl)
  have k1930 : H1916 m 3 = H1899 m 3 := (f1921 m 3 _ gm rfl)
  have h1931 : XI T H1916 x m := (XI_fr w1903 gx f1921 rfl (XI_fr hW gx f1904 rfl hXI))
  exact WL.loc hX (by simp) (next T H1916 ⟨⟨w1920, g0, gx, gm, go, by omega, by omega⟩, h1931, by omega, by omega⟩ (by omega) (by omega))
set_option maxHeartbeats 4000000 in
theorem wl_c16 {kt : Nat → Option mc_E} {CB SB : Nat} {X : mc_S → Prop} {T : wq_T} {H : wq_H} {Len x m o : Nat} {i : Int} (hX : wlX kt CB SB X) (hb : T.2.1 ≤ CB ∧ T.2.2.1 ≤ SB) (hI : wlJ Len x m o T H) (hL : Len ≤ 3072) (hi : 0 ≤ i ∧ i + 6 ≤ Len) (hb2 : T.2.1 + 20 ≤ CB ∧ T.2.2.1 + 500 ≤ SB)  (next : ∀ T' H', wlJ Len x m o T' H' → T'.2.1 ≤ T.2.1 + 20 → T'.2.2.1 ≤ T.2.2.1 + 500 → WL kt CB SB X 1653 (wlL i x m o) [] T' H') : WL kt CB SB X 668 (wlL i x m o) [] T H := by
  obtain ⟨⟨hW, g0, gx, gm, go, hK, hr⟩, hXI, hY1, hY2⟩ := hI
  refine wl_of hX hb cL_668 (rw_aload_n (pc' := 669) (v := .ref x) rfl rfl rfl ?_)
  refine wl_of hX hb cL_669 (rw_aload_n (pc' := 670) (v := .ref 0) rfl rfl rfl ?_)
  refine wl_of hX hb cL_670 (rw_iload (pc' := 672) (z := i) rfl rfl ?_)
  refine wl_of hX hb cL_672 (rw_iconst (pc' := 673) rfl ?_)
  refine wl_of hX hb cL_673 (rw_iadd (pc' := 674) rfl ?_)
  refine wl_of hX hb cL_674 (xa_I (so := 0) (pc' := 675) (a := 0) hW g0 (wsh_s _) (by omega) (wty_s _ _) (by omega) (by omega) rfl (fun b1932 b1933 => ?_))
  refine wl_of hX hb cL_675 (rw_aload_n (pc' := 676) (v := .ref 0) rfl rfl rfl ?_)
  refine wl_of hX hb cL_676 (rw_iload (pc' := 678) (z := i) rfl rfl ?_)
  refine wl_of hX hb cL_678 (rw_iconst (pc' := 679) rfl ?_)
  refine wl_of hX hb cL_679 (rw_iadd (pc' := 680) rfl ?_)
  refine wl_of hX hb cL_680 (xa_I (so := 0) (pc' := 681) (a := 0) hW g0 (wsh_s _) (by omega) (wty_s _ _) (by omega) (by omega) rfl (fun b1934 b1935 => ?_))
  refine wl_of hX hb cL_681 (xc_V (pc' := 684) (r := x) (as := [vI (H 0 ((i + 1).toNat)), vI (H 0 ((i + 2).toNat))]) (st := []) (lm_11_88) rfl rfl (Nat.le_of_ble_eq_true rfl) hW gx sh_1 (by decide) rfl (by decide) (s_93 hW gx ⟨by omega, by omega⟩ ⟨by omega, by omega⟩) (fun R1936 T1937 H1938 p1939 => ?_))
  obtain ⟨e1940, w1942, f1943, z1944, e1941, b1945⟩ := p1939
  subst e1940
  subst e1941
  show WL _ _ _ _ 684 [(4, vI i), (3, .ref o), (2, .ref m), (1, .ref x), (0, .ref 0)] [vI z1944] _ H1938
  refine wl_of hX hb cL_684 (rw_pop (pc' := 685) rfl rfl ?_)
  refine wl_of hX hb cL_685 (rw_aload_n (pc' := 686) (v := .ref m) rfl rfl rfl ?_)
  refine wl_of hX hb cL_686 (rw_aload_n (pc' := 687) (v := .ref 0) rfl rfl rfl ?_)
  refine wl_of hX hb cL_687 (rw_iload (pc' := 689) (z := i) rfl rfl ?_)
  refine wl_of hX hb cL_689 (rw_iconst (pc' := 690) rfl ?_)
  refine wl_of hX hb cL_690 (rw_iadd (pc' := 691) rfl ?_)
  have k1948 : H1938 0 ((i + 1).toNat) = H 0 ((i + 1).toNat) := (f1943 0 ((i + 1).toNat) _ g0 (wmem_s rfl))
  refine wl_of hX hb cL_691 (xa_I (so := 0) (pc' := 692) (a := 0) w1942 g0 (wsh_s _) (by omega) (wty_s _ _) (by omega) (by omega) rfl (fun b1946 b1947 => ?_))
  refine wl_of hX hb cL_692 (rw_aload_n (pc' := 693) (v := .ref 0) rfl rfl rfl ?_)
  refine wl_of hX hb cL_693 (rw_iload (pc' := 695) (z := i) rfl rfl ?_)
  refine wl_of hX hb cL_695 (rw_iconst (pc' := 696) rfl ?_)
  refine wl_of hX hb cL_696 (rw_iadd (pc' := 697) rfl ?_)
  have k1951 : H1938 0 ((i + 2).toNat) = H 0 ((i + 2).toNat) := (f1943 0 ((i + 2).toNat) _ g0 (wmem_s rfl))
  refine wl_of hX hb cL_697 (xa_I (so := 0) (pc' := 698) (a := 0) w1942 g0 (wsh_s _) (by omega) (wty_s _ _) (by omega) (by omega) rfl (fun b1949 b1950 => ?_))
  have k1952 : wKI H1938 m = wKI H m := (wKI_fr hW gm f1943 rfl)
  have k1953 : H1938 x 9 = H x 9 := (f1943 x 9 _ gx rfl)
  have k1954 : H1938 m 6 = H m 6 := (f1943 m 6 _ gm rfl)
  have k1955 : H1938 x 11 = H x 11 := (f1943 x 11 _ gx rfl)
  have k1956 : H1938 m 13 = H m 13 := (f1943 m 13 _ gm rfl)
  have k1957 : H1938 x 8 = H x 8 := (f1943 x 8 _ gx rfl)
  have k1958 : H1938 m 3 = H m 3 := (f1943 m 3 _ gm rfl)
  refine wl_of hX hb cL_698 (xc_V (pc' := 701) (r := m) (as := [vI (H1938 0 ((i + 1).toNat)), vI (H1938 0 ((i + 2).toNat))]) (st := []) (lm_11_92) rfl rfl (Nat.le_of_ble_eq_true rfl) w1942 gm sh_42 (by decide) rfl (by decide) (s_245 w1942 gm ⟨by omega, by omega⟩ ⟨by omega, by omega⟩ (by omega)) (fun R1959 T1960 H1961 p1962 => ?_))
  obtain ⟨e1963, w1965, f1966, z1968, e1964, b1969, p1967⟩ := p1962
  subst e1963
  subst e1964
  show WL _ _ _ _ 701 [(4, vI i), (3, .ref o), (2, .ref m), (1, .ref x), (0, .ref 0)] [vI z1968] _ H1961
  refine wl_of hX hb cL_701 (rw_pop (pc' := 702) rfl rfl ?_)
  refine wl_of hX hb cL_702 (rw_goto (p1 := 1653) (by decide) ?_)
  have k1970 : H1961 x 9 = H1938 x 9 := (f1966 x 9 _ gx rfl)
  have k1971 : H1961 m 6 = H1938 m 6 := (f1966 m 6 _ gm rfl)
  have k1972 : H1961 x 11 = H1938 x 11 := (f1966 x 11 _ gx rfl)
  have k1973 : H1961 m 13 = H1938 m 13 := (f1966 m 13 _ gm rfl)
  have k1974 : H1961 x 8 = H1938 x 8 := (f1966 x 8 _ gx rfl)
  have k1975 : H1961 m 3 = H1938 m 3 := (f1966 m 3 _ gm rfl)
  have h1976 : XI T H1961 x m := (XI_fr w1942 gx f1966 rfl (XI_fr hW gx f1943 rfl hXI))
  exact WL.loc hX (by simp) (next T H1961 ⟨⟨w1965, g0, gx, gm, go, by omega, by omega⟩, h1976, by omega, by omega⟩ (by omega) (by omega))
set_option maxHeartbeats 4000000 in
theorem wl_c17 {kt : Nat → Option mc_E} {CB SB : Nat} {X : mc_S → Prop} {T : wq_T} {H : wq_H} {Len x m o : Nat} {i : Int} (hX : wlX kt CB SB X) (hb : T.2.1 ≤ CB ∧ T.2.2.1 ≤ SB) (hI : wlJ Len x m o T H) (hL : Len ≤ 3072) (hi : 0 ≤ i ∧ i + 6 ≤ Len) (hb2 : T.2.1 + 20 ≤ CB ∧ T.2.2.1 + 500 ≤ SB)  (next : ∀ T' H', wlJ Len x m o T' H' → T'.2.1 ≤ T.2.1 + 20 → T'.2.2.1 ≤ T.2.2.1 + 500 → WL kt CB SB X 1653 (wlL i x m o) [] T' H') : WL kt CB SB X 705 (wlL i x m o) [] T H := by
  obtain ⟨⟨hW, g0, gx, gm, go, hK, hr⟩, hXI, hY1, hY2⟩ := hI
  refine wl_of hX hb cL_705 (rw_aload_n (pc' := 706) (v := .ref x) rfl rfl rfl ?_)
  refine wl_of hX hb cL_706 (xc_V (pc' := 709) (r := x) (as := []) (st := []) (lm_11_93) rfl rfl (Nat.le_of_ble_eq_true rfl) hW gx sh_1 (by decide) rfl (by decide) (s_97 hW gx) (fun R1977 T1978 H1979 p1980 => ?_))
  obtain ⟨e1981, w1983, f1984, z1985, e1982, b1986⟩ := p1980
  subst e1981
  subst e1982
  show WL _ _ _ _ 709 [(4, vI i), (3, .ref o), (2, .ref m), (1, .ref x), (0, .ref 0)] [vL z1985] _ H1979
  refine wl_of hX hb cL_709 (rw_pop2 (pc' := 710) rfl rfl ?_)
  refine wl_of hX hb cL_710 (rw_aload_n (pc' := 711) (v := .ref m) rfl rfl rfl ?_)
  have k1987 : wKI H1979 m = wKI H m := (wKI_fr hW gm f1984 rfl)
  have k1988 : H1979 x 9 = H x 9 := (f1984 x 9 _ gx rfl)
  have k1989 : H1979 m 6 = H m 6 := (f1984 m 6 _ gm rfl)
  have k1990 : H1979 x 11 = H x 11 := (f1984 x 11 _ gx rfl)
  have k1991 : H1979 m 13 = H m 13 := (f1984 m 13 _ gm rfl)
  have k1992 : H1979 x 8 = H x 8 := (f1984 x 8 _ gx rfl)
  have k1993 : H1979 m 3 = H m 3 := (f1984 m 3 _ gm rfl)
  refine wl_of hX hb cL_711 (xc_V (pc' := 714) (r := m) (as := []) (st := []) (lm_11_96) rfl rfl (Nat.le_of_ble_eq_true rfl) w1983 gm sh_42 (by decide) rfl (by decide) (s_246 w1983 gm (by omega)) (fun R1994 T1995 H1996 p1997 => ?_))
  obtain ⟨e1998, w2000, f2001, z2003, e1999, b2004, p2002⟩ := p1997
  subst e1998
  subst e1999
  show WL _ _ _ _ 714 [(4, vI i), (3, .ref o), (2, .ref m), (1, .ref x), (0, .ref 0)] [vL z2003] _ H1996
  refine wl_of hX hb cL_714 (rw_pop2 (pc' := 715) rfl rfl ?_)
  refine wl_of hX hb cL_715 (rw_goto (p1 := 1653) (by decide) ?_)
  have k2005 : H1996 x 9 = H1979 x 9 := (f2001 x 9 _ gx rfl)
  have k2006 : H1996 m 6 = H1979 m 6 := (f2001 m 6 _ gm rfl)
  have k2007 : H1996 x 11 = H1979 x 11 := (f2001 x 11 _ gx rfl)
  have k2008 : H1996 m 13 = H1979 m 13 := (f2001 m 13 _ gm rfl)
  have k2009 : H1996 x 8 = H1979 x 8 := (f2001 x 8 _ gx rfl)
  have k2010 : H1996 m 3 = H1979 m 3 := (f2001 m 3 _ gm rfl)
  have h2011 : XI T H1996 x m := (XI_fr w1983 gx f2001 rfl (XI_fr hW gx f1984 rfl hXI))
  exact WL.loc hX (by simp) (next T H1996 ⟨⟨w2000, g0, gx, gm, go, by omega, by omega⟩, h2011, by omega, by omega⟩ (by omega) (by omega))
set_option maxHeartbeats 4000000 in
theorem wl_c18 {kt : Nat → Option mc_E} {CB SB : Nat} {X : mc_S → Prop} {T : wq_T} {H : wq_H} {Len x m o : Nat} {i : Int} (hX : wlX kt CB SB X) (hb : T.2.1 ≤ CB ∧ T.2.2.1 ≤ SB) (hI : wlJ Len x m o T H) (hL : Len ≤ 3072) (hi : 0 ≤ i ∧ i + 6 ≤ Len) (hb2 : T.2.1 + 20 ≤ CB ∧ T.2.2.1 + 500 ≤ SB)  (next : ∀ T' H', wlJ Len x m o T' H' → T'.2.1 ≤ T.2.1 + 20 → T'.2.2.1 ≤ T.2.2.1 + 500 → WL kt CB SB X 1653 (wlL i x m o) [] T' H') : WL kt CB SB X 718 (wlL i x m o) [] T H := by
  obtain ⟨⟨hW, g0, gx, gm, go, hK, hr⟩, hXI, hY1, hY2⟩ := hI
  refine wl_of hX hb cL_718 (rw_aload_n (pc' := 719) (v := .ref x) rfl rfl rfl ?_)
  refine wl_of hX hb cL_719 (rw_aload_n (pc' := 720) (v := .ref 0) rfl rfl rfl ?_)
  refine wl_of hX hb cL_720 (rw_iload (pc' := 722) (z := i) rfl rfl ?_)
  refine wl_of hX hb cL_722 (rw_iconst (pc' := 723) rfl ?_)
  refine wl_of hX hb cL_723 (rw_iadd (pc' := 724) rfl ?_)
  refine wl_of hX hb cL_724 (xa_I (so := 0) (pc' := 725) (a := 0) hW g0 (wsh_s _) (by omega) (wty_s _ _) (by omega) (by omega) rfl (fun b2012 b2013 => ?_))
  refine wl_of hX hb cL_725 (rw_aload_n (pc' := 726) (v := .ref 0) rfl rfl rfl ?_)
  refine wl_of hX hb cL_726 (rw_iload (pc' := 728) (z := i) rfl rfl ?_)
  refine wl_of hX hb cL_728 (rw_iconst (pc' := 729) rfl ?_)
  refine wl_of hX hb cL_729 (rw_iadd (pc' := 730) rfl ?_)
  refine wl_of hX hb cL_730 (xa_I (so := 0) (pc' := 731) (a := 0) hW g0 (wsh_s _) (by omega) (wty_s _ _) (by omega) (by omega) rfl (fun b2014 b2015 => ?_))
  refine wl_of hX hb cL_731 (xc_V (pc' := 734) (r := x) (as := [vI (H 0 ((i + 1).toNat)), vI (H 0 ((i + 2).toNat))]) (st := []) (lm_11_97) rfl rfl (Nat.le_of_ble_eq_true rfl) hW gx sh_1 (by decide) rfl (by decide) (s_98 hW gx ⟨by omega, by omega⟩ ⟨by omega, by omega⟩) (fun R2016 T2017 H2018 p2019 => ?_))
  obtain ⟨e2020, w2022, f2023, z2024, e2021, b2025⟩ := p2019
  subst e2020
  subst e2021
  show WL _ _ _ _ 734 [(4, vI i), (3, .ref o), (2, .ref m), (1, .ref x), (0, .ref 0)] [vI z2024] _ H2018
  refine wl_of hX hb cL_734 (rw_pop (pc' := 735) rfl rfl ?_)
  refine wl_of hX hb cL_735 (rw_aload_n (pc' := 736) (v := .ref m) rfl rfl rfl ?_)
  refine wl_of hX hb cL_736 (rw_aload_n (pc' := 737) (v := .ref 0) rfl rfl rfl ?_)
  refine wl_of hX hb cL_737 (rw_iload (pc' := 739) (z := i) rfl rfl ?_)
  refine wl_of hX hb cL_739 (rw_iconst (pc' := 740) rfl ?_)
  refine wl_of hX hb cL_740 (rw_iadd (pc' := 741) rfl ?_)
  have k2028 : H2018 0 ((i + 1).toNat) = H 0 ((i + 1).toNat) := (f2023 0 ((i + 1).toNat) _ g0 (wmem_s rfl))
  refine wl_of hX hb cL_741 (xa_I (so := 0) (pc' := 742) (a := 0) w2022 g0 (wsh_s _) (by omega) (wty_s _ _) (by omega) (by omega) rfl (fun b2026 b2027 => ?_))
  refine wl_of hX hb cL_742 (rw_aload_n (pc' := 743) (v := .ref 0) rfl rfl rfl ?_)
  refine wl_of hX hb cL_743 (rw_iload (pc' := 745) (z := i) rfl rfl ?_)
  refine wl_of hX hb cL_745 (rw_iconst (pc' := 746) rfl ?_)
  refine wl_of hX hb cL_746 (rw_iadd (pc' := 747) rfl ?_)
  have k2031 : H2018 0 ((i + 2).toNat) = H 0 ((i + 2).toNat) := (f2023 0 ((i + 2).toNat) _ g0 (wmem_s rfl))
  refine wl_of hX hb cL_747 (xa_I (so := 0) (pc' := 748) (a := 0) w2022 g0 (wsh_s _) (by omega) (wty_s _ _) (by omega) (by omega) rfl (fun b2029 b2030 => ?_))
  have k2032 : wKI H2018 m = wKI H m := (wKI_fr hW gm f2023 rfl)
  have k2033 : H2018 x 9 = H x 9 := (f2023 x 9 _ gx rfl)
  have k2034 : H2018 m 6 = H m 6 := (f2023 m 6 _ gm rfl)
  have k2035 : H2018 x 11 = H x 11 := (f2023 x 11 _ gx rfl)
  have k2036 : H2018 m 13 = H m 13 := (f2023 m 13 _ gm rfl)
  have k2037 : H2018 x 8 = H x 8 := (f2023 x 8 _ gx rfl)
  have k2038 : H2018 m 3 = H m 3 := (f2023 m 3 _ gm rfl)
  refine wl_of hX hb cL_748 (xc_V (pc' := 751) (r := m) (as := [vI (H2018 0 ((i + 1).toNat)), vI (H2018 0 ((i + 2).toNat))]) (st := []) (lm_11_100) rfl rfl (Nat.le_of_ble_eq_true rfl) w2022 gm sh_42 (by decide) rfl (by decide) (s_249 w2022 gm ⟨by omega, by omega⟩ ⟨by omega, by omega⟩ (by omega)) (fun R2039 T2040 H2041 p2042 => ?_))
  obtain ⟨e2043, w2045, f2046, z2048, e2044, b2049, p2047⟩ := p2042
  subst e2043
  subst e2044
  show WL _ _ _ _ 751 [(4, vI i), (3, .ref o), (2, .ref m), (1, .ref x), (0, .ref 0)] [vI z2048] _ H2041
  refine wl_of hX hb cL_751 (rw_pop (pc' := 752) rfl rfl ?_)
  refine wl_of hX hb cL_752 (rw_goto (p1 := 1653) (by decide) ?_)
  have k2050 : H2041 x 9 = H2018 x 9 := (f2046 x 9 _ gx rfl)
  have k2051 : H2041 m 6 = H2018 m 6 := (f2046 m 6 _ gm rfl)
  have k2052 : H2041 x 11 = H2018 x 11 := (f2046 x 11 _ gx rfl)
  have k2053 : H2041 m 13 = H2018 m 13 := (f2046 m 13 _ gm rfl)
  have k2054 : H2041 x 8 = H2018 x 8 := (f2046 x 8 _ gx rfl)
  have k2055 : H2041 m 3 = H2018 m 3 := (f2046 m 3 _ gm rfl)
  have h2056 : XI T H2041 x m := (XI_fr w2022 gx f2046 rfl (XI_fr hW gx f2023 rfl hXI))
  exact WL.loc hX (by simp) (next T H2041 ⟨⟨w2045, g0, gx, gm, go, by omega, by omega⟩, h2056, by omega, by omega⟩ (by omega) (by omega))
set_option maxHeartbeats 4000000 in
theorem wl_c19 {kt : Nat → Option mc_E} {CB SB : Nat} {X : mc_S → Prop} {T : wq_T} {H : wq_H} {Len x m o : Nat} {i : Int} (hX : wlX kt CB SB X) (hb : T.2.1 ≤ CB ∧ T.2.2.1 ≤ SB) (hI : wlJ Len x m o T H) (hL : Len ≤ 3072) (hi : 0 ≤ i ∧ i + 6 ≤ Len) (hb2 : T.2.1 + 20 ≤ CB ∧ T.2.2.1 + 500 ≤ SB)  (next : ∀ T' H', wlJ Len x m o T' H' → T'.2.1 ≤ T.2.1 + 20 → T'.2.2.1 ≤ T.2.2.1 + 500 → WL kt CB SB X 1653 (wlL i x m o) [] T' H') : WL kt CB SB X 755 (wlL i x m o) [] T H := by
  obtain ⟨⟨hW, g0, gx, gm, go, hK, hr⟩, hXI, hY1, hY2⟩ := hI
  refine wl_of hX hb cL_755 (rw_aload_n (pc' := 756) (v := .ref x) rfl rfl rfl ?_)
  refine wl_of hX hb cL_756 (rw_aload_n (pc' := 757) (v := .ref 0) rfl rfl rfl ?_)
  refine wl_of hX hb cL_757 (rw_iload (pc' := 759) (z := i) rfl rfl ?_)
  refine wl_of hX hb cL_759 (rw_iconst (pc' := 760) rfl ?_)
  refine wl_of hX hb cL_760 (rw_iadd (pc' := 761) rfl ?_)
  refine wl_of hX hb cL_761 (xa_I (so := 0) (pc' := 762) (a := 0) hW g0 (wsh_s _) (by omega) (wty_s _ _) (by omega) (by omega) rfl (fun b2057 b2058 => ?_))
  refine wl_of hX hb cL_762 (rw_aload_n (pc' := 763) (v := .ref 0) rfl rfl rfl ?_)
  refine wl_of hX hb cL_763 (rw_iload (pc' := 765) (z := i) rfl rfl ?_)
  refine wl_of hX hb cL_765 (rw_iconst (pc' := 766) rfl ?_)
  refine wl_of hX hb cL_766 (rw_iadd (pc' := 767) rfl ?_)
  refine wl_of hX hb cL_767 (xa_I (so := 0) (pc' := 768) (a := 0) hW g0 (wsh_s _) (by omega) (wty_s _ _) (by omega) (by omega) rfl (fun b2059 b2060 => ?_))
  refine wl_of hX hb cL_768 (xc_V (pc' := 771) (r := x) (as := [vI (H 0 ((i + 1).toNat)), vI (H 0 ((i + 2).toNat))]) (st := []) (lm_11_101) rfl rfl (Nat.le_of_ble_eq_true rfl) hW gx sh_1 (by decide) rfl (by decide) (s_99 hW gx ⟨by omega, by omega⟩ ⟨by omega, by omega⟩) (fun R2061 T2062 H2063 p2064 => ?_))
  obtain ⟨e2065, w2067, f2068, z2069, e2066, b2070⟩ := p2064
  subst e2065
  subst e2066
  show WL _ _ _ _ 771 [(4, vI i), (3, .ref o), (2, .ref m), (1, .ref x), (0, .ref 0)] [vI z2069] _ H2063
  refine wl_of hX hb cL_771 (rw_pop (pc' := 772) rfl rfl ?_)
  refine wl_of hX hb cL_772 (rw_aload_n (pc' := 773) (v := .ref m) rfl rfl rfl ?_)
  refine wl_of hX hb cL_773 (rw_aload_n (pc' := 774) (v := .ref 0) rfl rfl rfl ?_)
  refine wl_of hX hb cL_774 (rw_iload (pc' := 776) (z := i) rfl rfl ?_)
  refine wl_of hX hb cL_776 (rw_iconst (pc' := 777) rfl ?_)
  refine wl_of hX hb cL_777 (rw_iadd (pc' := 778) rfl ?_)
  have k2073 : H2063 0 ((i + 1).toNat) = H 0 ((i + 1).toNat) := (f2068 0 ((i + 1).toNat) _ g0 (wmem_s rfl))
  refine wl_of hX hb cL_778 (xa_I (so := 0) (pc' := 779) (a := 0) w2067 g0 (wsh_s _) (by omega) (wty_s _ _) (by omega) (by omega) rfl (fun b2071 b2072 => ?_))
  refine wl_of hX hb cL_779 (rw_aload_n (pc' := 780) (v := .ref 0) rfl rfl rfl ?_)
  refine wl_of hX hb cL_780 (rw_iload (pc' := 782) (z := i) rfl rfl ?_)
  refine wl_of hX hb cL_782 (rw_iconst (pc' := 783) rfl ?_)
  refine wl_of hX hb cL_783 (rw_iadd (pc' := 784) rfl ?_)
  have k2076 : H2063 0 ((i + 2).toNat) = H 0 ((i + 2).toNat) := (f2068 0 ((i + 2).toNat) _ g0 (wmem_s rfl))
  refine wl_of hX hb cL_784 (xa_I (so := 0) (pc' := 785) (a := 0) w2067 g0 (wsh_s _) (by omega) (wty_s _ _) (by omega) (by omega) rfl (fun b2074 b2075 => ?_))
  have k2077 : wKI H2063 m = wKI H m := (wKI_fr hW gm f2068 rfl)
  have k2078 : H2063 x 9 = H x 9 := (f2068 x 9 _ gx rfl)
  have k2079 : H2063 m 6 = H m 6 := (f2068 m 6 _ gm rfl)
  have k2080 : H2063 x 11 = H x 11 := (f2068 x 11 _ gx rfl)
  have k2081 : H2063 m 13 = H m 13 := (f2068 m 13 _ gm rfl)
  have k2082 : H2063 x 8 = H x 8 := (f2068 x 8 _ gx rfl)
  have k2083 : H2063 m 3 = H m 3 := (f2068 m 3 _ gm rfl)
  refine wl_of hX hb cL_785 (xc_V (pc' := 788) (r := m) (as := [vI (H2063 0 ((i + 1).toNat)), vI (H2063 0 ((i + 2).toNat))]) (st := []) (lm_11_104) rfl rfl (Nat.le_of_ble_eq_true rfl) w2067 gm sh_42 (by decide) rfl (by decide) (s_250 w2067 gm ⟨by omega, by omega⟩ ⟨by omega, by omega⟩ (by omega)) (fun R2084 T2085 H2086 p2087 => ?_))
  obtain ⟨e2088, w2090, f2091, z2093, e2089, b2094, p2092⟩ := p2087
  subst e2088
  subst e2089
  show WL _ _ _ _ 788 [(4, vI i), (3, .ref o), (2, .ref m), (1, .ref x), (0, .ref 0)] [vI z2093] _ H2086
  refine wl_of hX hb cL_788 (rw_pop (pc' := 789) rfl rfl ?_)
  refine wl_of hX hb cL_789 (rw_goto (p1 := 1653) (by decide) ?_)
  have k2095 : H2086 x 9 = H2063 x 9 := (f2091 x 9 _ gx rfl)
  have k2096 : H2086 m 6 = H2063 m 6 := (f2091 m 6 _ gm rfl)
  have k2097 : H2086 x 11 = H2063 x 11 := (f2091 x 11 _ gx rfl)
  have k2098 : H2086 m 13 = H2063 m 13 := (f2091 m 13 _ gm rfl)
  have k2099 : H2086 x 8 = H2063 x 8 := (f2091 x 8 _ gx rfl)
  have k2100 : H2086 m 3 = H2063 m 3 := (f2091 m 3 _ gm rfl)
  have h2101 : XI T H2086 x m := (XI_fr w2067 gx f2091 rfl (XI_fr hW gx f2068 rfl hXI))
  exact WL.loc hX (by simp) (next T H2086 ⟨⟨w2090, g0, gx, gm, go, by omega, by omega⟩, h2101, by omega, by omega⟩ (by omega) (by omega))
set_option maxHeartbeats 4000000 in
theorem wl_c20 {kt : Nat → Option mc_E} {CB SB : Nat} {X : mc_S → Prop} {T : wq_T} {H : wq_H} {Len x m o : Nat} {i : Int} (hX : wlX kt CB SB X) (hb : T.2.1 ≤ CB ∧ T.2.2.1 ≤ SB) (hI : wlJ Len x m o T H) (hL : Len ≤ 3072) (hi : 0 ≤ i ∧ i + 6 ≤ Len) (hb2 : T.2.1 + 20 ≤ CB ∧ T.2.2.1 + 500 ≤ SB)  (next : ∀ T' H', wlJ Len x m o T' H' → T'.2.1 ≤ T.2.1 + 20 → T'.2.2.1 ≤ T.2.2.1 + 500 → WL kt CB SB X 1653 (wlL i x m o) [] T' H') : WL kt CB SB X 792 (wlL i x m o) [] T H := by
  obtain ⟨⟨hW, g0, gx, gm, go, hK, hr⟩, hXI, hY1, hY2⟩ := hI
  refine wl_of hX hb cL_792 (rw_aload_n (pc' := 793) (v := .ref x) rfl rfl rfl ?_)
  refine wl_of hX hb cL_793 (rw_aload_n (pc' := 794) (v := .ref 0) rfl rfl rfl ?_)
  refine wl_of hX hb cL_794 (rw_iload (pc' := 796) (z := i) rfl rfl ?_)
  refine wl_of hX hb cL_796 (rw_iconst (pc' := 797) rfl ?_)
  refine wl_of hX hb cL_797 (rw_iadd (pc' := 798) rfl ?_)
  refine wl_of hX hb cL_798 (xa_I (so := 0) (pc' := 799) (a := 0) hW g0 (wsh_s _) (by omega) (wty_s _ _) (by omega) (by omega) rfl (fun b2102 b2103 => ?_))
  refine wl_of hX hb cL_799 (rw_aload_n (pc' := 800) (v := .ref 0) rfl rfl rfl ?_)
  refine wl_of hX hb cL_800 (rw_iload (pc' := 802) (z := i) rfl rfl ?_)
  refine wl_of hX hb cL_802 (rw_iconst (pc' := 803) rfl ?_)
  refine wl_of hX hb cL_803 (rw_iadd (pc' := 804) rfl ?_)
  refine wl_of hX hb cL_804 (xa_I (so := 0) (pc' := 805) (a := 0) hW g0 (wsh_s _) (by omega) (wty_s _ _) (by omega) (by omega) rfl (fun b2104 b2105 => ?_))
  refine wl_of hX hb cL_805 (xc_V (pc' := 808) (r := x) (as := [vI (H 0 ((i + 1).toNat)), vI (H 0 ((i + 2).toNat))]) (st := []) (lm_11_105) rfl rfl (Nat.le_of_ble_eq_true rfl) hW gx sh_1 (by decide) rfl (by decide) (s_101 hW gx ⟨by omega, by omega⟩ ⟨by omega, by omega⟩) (fun R2106 T2107 H2108 p2109 => ?_))
  obtain ⟨e2110, w2112, f2113, z2114, e2111, b2115⟩ := p2109
  subst e2110
  subst e2111
  show WL _ _ _ _ 808 [(4, vI i), (3, .ref o), (2, .ref m), (1, .ref x), (0, .ref 0)] [vI z2114] _ H2108
  refine wl_of hX hb cL_808 (rw_pop (pc' := 809) rfl rfl ?_)
  refine wl_of hX hb cL_809 (rw_aload_n (pc' := 810) (v := .ref m) rfl rfl rfl ?_)
  refine wl_of hX hb cL_810 (rw_aload_n (pc' := 811) (v := .ref 0) rfl rfl rfl ?_)
  refine wl_of hX hb cL_811 (rw_iload (pc' := 813) (z := i) rfl rfl ?_)
  refine wl_of hX hb cL_813 (rw_iconst (pc' := 814) rfl ?_)
  refine wl_of hX hb cL_814 (rw_iadd (pc' := 815) rfl ?_)
  have k2118 : H2108 0 ((i + 1).toNat) = H 0 ((i + 1).toNat) := (f2113 0 ((i + 1).toNat) _ g0 (wmem_s rfl))
  refine wl_of hX hb cL_815 (xa_I (so := 0) (pc' := 816) (a := 0) w2112 g0 (wsh_s _) (by omega) (wty_s _ _) (by omega) (by omega) rfl (fun b2116 b2117 => ?_))
  refine wl_of hX hb cL_816 (rw_aload_n (pc' := 817) (v := .ref 0) rfl rfl rfl ?_)
  refine wl_of hX hb cL_817 (rw_iload (pc' := 819) (z := i) rfl rfl ?_)
  refine wl_of hX hb cL_819 (rw_iconst (pc' := 820) rfl ?_)
  refine wl_of hX hb cL_820 (rw_iadd (pc' := 821) rfl ?_)
  have k2121 : H2108 0 ((i + 2).toNat) = H 0 ((i + 2).toNat) := (f2113 0 ((i + 2).toNat) _ g0 (wmem_s rfl))
  refine wl_of hX hb cL_821 (xa_I (so := 0) (pc' := 822) (a := 0) w2112 g0 (wsh_s _) (by omega) (wty_s _ _) (by omega) (by omega) rfl (fun b2119 b2120 => ?_))
  have k2122 : wKI H2108 m = wKI H m := (wKI_fr hW gm f2113 rfl)
  have k2123 : H2108 x 9 = H x 9 := (f2113 x 9 _ gx rfl)
  have k2124 : H2108 m 6 = H m 6 := (f2113 m 6 _ gm rfl)
  have k2125 : H2108 x 11 = H x 11 := (f2113 x 11 _ gx rfl)
  have k2126 : H2108 m 13 = H m 13 := (f2113 m 13 _ gm rfl)
  have k2127 : H2108 x 8 = H x 8 := (f2113 x 8 _ gx rfl)
  have k2128 : H2108 m 3 = H m 3 := (f2113 m 3 _ gm rfl)
  refine wl_of hX hb cL_822 (xc_V (pc' := 825) (r := m) (as := [vI (H2108 0 ((i + 1).toNat)), vI (H2108 0 ((i + 2).toNat))]) (st := []) (lm_11_108) rfl rfl (Nat.le_of_ble_eq_true rfl) w2112 gm sh_42 (by decide) rfl (by decide) (s_252 w2112 gm ⟨by omega, by omega⟩ ⟨by omega, by omega⟩ (by omega)) (fun R2129 T2130 H2131 p2132 => ?_))
  obtain ⟨e2133, w2135, f2136, z2138, e2134, b2139, p2137⟩ := p2132
  subst e2133
  subst e2134
  show WL _ _ _ _ 825 [(4, vI i), (3, .ref o), (2, .ref m), (1, .ref x), (0, .ref 0)] [vI z2138] _ H2131
  refine wl_of hX hb cL_825 (rw_pop (pc' := 826) rfl rfl ?_)
  refine wl_of hX hb cL_826 (rw_goto (p1 := 1653) (by decide) ?_)
  have k2140 : H2131 x 9 = H2108 x 9 := (f2136 x 9 _ gx rfl)
  have k2141 : H2131 m 6 = H2108 m 6 := (f2136 m 6 _ gm rfl)
  have k2142 : H2131 x 11 = H2108 x 11 := (f2136 x 11 _ gx rfl)
  have k2143 : H2131 m 13 = H2108 m 13 := (f2136 m 13 _ gm rfl)
  have k2144 : H2131 x 8 = H2108 x 8 := (f2136 x 8 _ gx rfl)
  have k2145 : H2131 m 3 = H2108 m 3 := (f2136 m 3 _ gm rfl)
  have h2146 : XI T H2131 x m := (XI_fr w2112 gx f2136 rfl (XI_fr hW gx f2113 rfl hXI))
  exact WL.loc hX (by simp) (next T H2131 ⟨⟨w2135, g0, gx, gm, go, by omega, by omega⟩, h2146, by omega, by omega⟩ (by omega) (by omega))
set_option maxHeartbeats 4000000 in
theorem wl_c21 {kt : Nat → Option mc_E} {CB SB : Nat} {X : mc_S → Prop} {T : wq_T} {H : wq_H} {Len x m o : Nat} {i : Int} (hX : wlX kt CB SB X) (hb : T.2.1 ≤ CB ∧ T.2.2.1 ≤ SB) (hI : wlJ Len x m o T H) (hL : Len ≤ 3072) (hi : 0 ≤ i ∧ i + 6 ≤ Len) (hb2 : T.2.1 + 20 ≤ CB ∧ T.2.2.1 + 500 ≤ SB)  (next : ∀ T' H', wlJ Len x m o T' H' → T'.2.1 ≤ T.2.1 + 20 → T'.2.2.1 ≤ T.2.2.1 + 500 → WL kt CB SB X 1653 (wlL i x m o) [] T' H') : WL kt CB SB X 829 (wlL i x m o) [] T H := by
  obtain ⟨⟨hW, g0, gx, gm, go, hK, hr⟩, hXI, hY1, hY2⟩ := hI
  refine wl_of hX hb cL_829 (rw_aload_n (pc' := 830) (v := .ref x) rfl rfl rfl ?_)
  refine wl_of hX hb cL_830 (rw_aload_n (pc' := 831) (v := .ref 0) rfl rfl rfl ?_)
  refine wl_of hX hb cL_831 (rw_iload (pc' := 833) (z := i) rfl rfl ?_)
  refine wl_of hX hb cL_833 (rw_iconst (pc' := 834) rfl ?_)
  refine wl_of hX hb cL_834 (rw_iadd (pc' := 835) rfl ?_)
  refine wl_of hX hb cL_835 (xa_I (so := 0) (pc' := 836) (a := 0) hW g0 (wsh_s _) (by omega) (wty_s _ _) (by omega) (by omega) rfl (fun b2147 b2148 => ?_))
  refine wl_of hX hb cL_836 (rw_aload_n (pc' := 837) (v := .ref 0) rfl rfl rfl ?_)
  refine wl_of hX hb cL_837 (rw_iload (pc' := 839) (z := i) rfl rfl ?_)
  refine wl_of hX hb cL_839 (rw_iconst (pc' := 840) rfl ?_)
  refine wl_of hX hb cL_840 (rw_iadd (pc' := 841) rfl ?_)
  refine wl_of hX hb cL_841 (xa_I (so := 0) (pc' := 842) (a := 0) hW g0 (wsh_s _) (by omega) (wty_s _ _) (by omega) (by omega) rfl (fun b2149 b2150 => ?_))
  refine wl_of hX hb cL_842 (rw_if_eq (p1 := 849) (p2 := 845) (by decide) rfl ⟨by omega, by omega⟩ (fun c2151 => ?_) (fun c2151 => ?_))
  · refine wl_of hX hb cL_849 (rw_iconst (pc' := 850) rfl ?_)
    refine wl_of hX hb cL_850 (xc_V (pc' := 853) (r := x) (as := [vI (H 0 ((i + 1).toNat)), vI 0]) (st := []) (lm_11_109) rfl rfl (Nat.le_of_ble_eq_true rfl) hW gx sh_1 (by decide) rfl (by decide) (s_104 hW gx ⟨by omega, by omega⟩ ⟨by omega, by omega⟩) (fun R2152 T2153 H2154 p2155 => ?_))
    obtain ⟨e2156, w2158, f2159, z2160, e2157, b2161⟩ := p2155
    subst e2156
    subst e2157
    show WL _ _ _ _ 853 [(4, vI i), (3, .ref o), (2, .ref m), (1, .ref x), (0, .ref 0)] [vI z2160] _ H2154
    refine wl_of hX hb cL_853 (rw_pop (pc' := 854) rfl rfl ?_)
    refine wl_of hX hb cL_854 (rw_aload_n (pc' := 855) (v := .ref m) rfl rfl rfl ?_)
    refine wl_of hX hb cL_855 (rw_aload_n (pc' := 856) (v := .ref 0) rfl rfl rfl ?_)
    refine wl_of hX hb cL_856 (rw_iload (pc' := 858) (z := i) rfl rfl ?_)
    refine wl_of hX hb cL_858 (rw_iconst (pc' := 859) rfl ?_)
    refine wl_of hX hb cL_859 (rw_iadd (pc' := 860) rfl ?_)
    have k2164 : H2154 0 ((i + 1).toNat) = H 0 ((i + 1).toNat) := (f2159 0 ((i + 1).toNat) _ g0 (wmem_s rfl))
    refine wl_of hX hb cL_860 (xa_I (so := 0) (pc' := 861) (a := 0) w2158 g0 (wsh_s _) (by omega) (wty_s _ _) (by omega) (by omega) rfl (fun b2162 b2163 => ?_))
    refine wl_of hX hb cL_861 (rw_aload_n (pc' := 862) (v := .ref 0) rfl rfl rfl ?_)
    refine wl_of hX hb cL_862 (rw_iload (pc' := 864) (z := i) rfl rfl ?_)
    refine wl_of hX hb cL_864 (rw_iconst (pc' := 865) rfl ?_)
    refine wl_of hX hb cL_865 (rw_iadd (pc' := 866) rfl ?_)
    have k2167 : H2154 0 ((i + 2).toNat) = H 0 ((i + 2).toNat) := (f2159 0 ((i + 2).toNat) _ g0 (wmem_s rfl))
    refine wl_of hX hb cL_866 (xa_I (so := 0) (pc' := 867) (a := 0) w2158 g0 (wsh_s _) (by omega) (wty_s _ _) (by omega) (by omega) rfl (fun b2165 b2166 => ?_))
    refine wl_of hX hb cL_867 (rw_if_eq (p1 := 874) (p2 := 870) (by decide) rfl ⟨by omega, by omega⟩ (fun c2168 => ?_) (fun c2168 => ?_))
    · refine wl_of hX hb cL_874 (rw_iconst (pc' := 875) rfl ?_)
      have k2169 : wKI H2154 m = wKI H m := (wKI_fr hW gm f2159 rfl)
      have k2170 : H2154 x 9 = H x 9 := (f2159 x 9 _ gx rfl)
      have k2171 : H2154 m 6 = H m 6 := (f2159 m 6 _ gm rfl)
      have k2172 : H2154 x 11 = H x 11 := (f2159 x 11 _ gx rfl)
      have k2173 : H2154 m 13 = H m 13 := (f2159 m 13 _ gm rfl)
      have k2174 : H2154 x 8 = H x 8 := (f2159 x 8 _ gx rfl)
      have k2175 : H2154 m 3 = H m 3 := (f2159 m 3 _ gm rfl)
      refine wl_of hX hb cL_875 (xc_V (pc' := 878) (r := m) (as := [vI (H2154 0 ((i + 1).toNat)), vI 0]) (st := []) (lm_11_113) rfl rfl (Nat.le_of_ble_eq_true rfl) w2158 gm sh_42 (by decide) rfl (by decide) (s_254 w2158 gm ⟨by omega, by omega⟩ ⟨by omega, by omega⟩ (by omega)) (fun R2176 T2177 H2178 p2179 => ?_))
      obtain ⟨e2180, w2182, f2183, z2185, e2181, b2186, p2184⟩ := p2179
      subst e2180
      subst e2181
      show WL _ _ _ _ 878 [(4, vI i), (3, .ref o), (2, .ref m), (1, .ref x), (0, .ref 0)] [vI z2185] _ H2178
      refine wl_of hX hb cL_878 (rw_pop (pc' := 879) rfl rfl ?_)
      refine wl_of hX hb cL_879 (rw_goto (p1 := 1653) (by decide) ?_)
      have k2187 : H2178 x 9 = H2154 x 9 := (f2183 x 9 _ gx rfl)
      have k2188 : H2178 m 6 = H2154 m 6 := (f2183 m 6 _ gm rfl)
      have k2189 : H2178 x 11 = H2154 x 11 := (f2183 x 11 _ gx rfl)
      have k2190 : H2178 m 13 = H2154 m 13 := (f2183 m 13 _ gm rfl)
      have k2191 : H2178 x 8 = H2154 x 8 := (f2183 x 8 _ gx rfl)
      have k2192 : H2178 m 3 = H2154 m 3 := (f2183 m 3 _ gm rfl)
      have h2193 : XI T H2178 x m := (XI_fr w2158 gx f2183 rfl (XI_fr hW gx f2159 rfl hXI))
      exact WL.loc hX (by simp) (next T H2178 ⟨⟨w2182, g0, gx, gm, go, by omega, by omega⟩, h2193, by omega, by omega⟩ (by omega) (by omega))
    · exfalso
      omega
  · refine wl_of hX hb cL_845 (rw_iconst (pc' := 846) rfl ?_)
    refine wl_of hX hb cL_846 (rw_goto (p1 := 850) (by decide) ?_)
    refine wl_of hX hb cL_850 (xc_V (pc' := 853) (r := x) (as := [vI (H 0 ((i + 1).toNat)), vI 1]) (st := []) (lm_11_109) rfl rfl (Nat.le_of_ble_eq_true rfl) hW gx sh_1 (by decide) rfl (by decide) (s_104 hW gx ⟨by omega, by omega⟩ ⟨by omega, by omega⟩) (fun R2194 T2195 H2196 p2197 => ?_))
    obtain ⟨e2198, w2200, f2201, z2202, e2199, b2203⟩ := p2197
    subst e2198
    subst e2199
    show WL _ _ _ _ 853 [(4, vI i), (3, .ref o), (2, .ref m), (1, .ref x), (0, .ref 0)] [vI z2202] _ H2196
    refine wl_of hX hb cL_853 (rw_pop (pc' := 854) rfl rfl ?_)
    refine wl_of hX hb cL_854 (rw_aload_n (pc' := 855) (v := .ref m) rfl rfl rfl ?_)
    refine wl_of hX hb cL_855 (rw_aload_n (pc' := 856) (v := .ref 0) rfl rfl rfl ?_)
    refine wl_of hX hb cL_856 (rw_iload (pc' := 858) (z := i) rfl rfl ?_)
    refine wl_of hX hb cL_858 (rw_iconst (pc' := 859) rfl ?_)
    refine wl_of hX hb cL_859 (rw_iadd (pc' := 860) rfl ?_)
    have k2206 : H2196 0 ((i + 1).toNat) = H 0 ((i + 1).toNat) := (f2201 0 ((i + 1).toNat) _ g0 (wmem_s rfl))
    refine wl_of hX hb cL_860 (xa_I (so := 0) (pc' := 861) (a := 0) w2200 g0 (wsh_s _) (by omega) (wty_s _ _) (by omega) (by omega) rfl (fun b2204 b2205 => ?_))
    refine wl_of hX hb cL_861 (rw_aload_n (pc' := 862) (v := .ref 0) rfl rfl rfl ?_)
    refine wl_of hX hb cL_862 (rw_iload (pc' := 864) (z := i) rfl rfl ?_)
    refine wl_of hX hb cL_864 (rw_iconst (pc' := 865) rfl ?_)
    refine wl_of hX hb cL_865 (rw_iadd (pc' := 866) rfl ?_)
    have k2209 : H2196 0 ((i + 2).toNat) = H 0 ((i + 2).toNat) := (f2201 0 ((i + 2).toNat) _ g0 (wmem_s rfl))
    refine wl_of hX hb cL_866 (xa_I (so := 0) (pc' := 867) (a := 0) w2200 g0 (wsh_s _) (by omega) (wty_s _ _) (by omega) (by omega) rfl (fun b2207 b2208 => ?_))
    refine wl_of hX hb cL_867 (rw_if_eq (p1 := 874) (p2 := 870) (by decide) rfl ⟨by omega, by omega⟩ (fun c2210 => ?_) (fun c2210 => ?_))
    · refine wl_of hX hb cL_874 (rw_iconst (pc' := 875) rfl ?_)
      have k2211 : wKI H2196 m = wKI H m := (wKI_fr hW gm f2201 rfl)
      have k2212 : H2196 x 9 = H x 9 := (f2201 x 9 _ gx rfl)
      have k2213 : H2196 m 6 = H m 6 := (f2201 m 6 _ gm rfl)
      have k2214 : H2196 x 11 = H x 11 := (f2201 x 11 _ gx rfl)
      have k2215 : H2196 m 13 = H m 13 := (f2201 m 13 _ gm rfl)
      have k2216 : H2196 x 8 = H x 8 := (f2201 x 8 _ gx rfl)
      have k2217 : H2196 m 3 = H m 3 := (f2201 m 3 _ gm rfl)
      refine wl_of hX hb cL_875 (xc_V (pc' := 878) (r := m) (as := [vI (H2196 0 ((i + 1).toNat)), vI 0]) (st := []) (lm_11_113) rfl rfl (Nat.le_of_ble_eq_true rfl) w2200 gm sh_42 (by decide) rfl (by decide) (s_254 w2200 gm ⟨by omega, by omega⟩ ⟨by omega, by omega⟩ (by omega)) (fun R2218 T2219 H2220 p2221 => ?_))
      obtain ⟨e2222, w2224, f2225, z2227, e2223, b2228, p2226⟩ := p2221
      subst e2222
      subst e2223
      show WL _ _ _ _ 878 [(4, vI i), (3, .ref o), (2, .ref m), (1, .ref x), (0, .ref 0)] [vI z2227] _ H2220
      refine wl_of hX hb cL_878 (rw_pop (pc' := 879) rfl rfl ?_)
      refine wl_of hX hb cL_879 (rw_goto (p1 := 1653) (by decide) ?_)
      have k2229 : H2220 x 9 = H2196 x 9 := (f2225 x 9 _ gx rfl)
      have k2230 : H2220 m 6 = H2196 m 6 := (f2225 m 6 _ gm rfl)
      have k2231 : H2220 x 11 = H2196 x 11 := (f2225 x 11 _ gx rfl)
      have k2232 : H2220 m 13 = H2196 m 13 := (f2225 m 13 _ gm rfl)
      have k2233 : H2220 x 8 = H2196 x 8 := (f2225 x 8 _ gx rfl)
      have k2234 : H2220 m 3 = H2196 m 3 := (f2225 m 3 _ gm rfl)
      have h2235 : XI T H2220 x m := (XI_fr w2200 gx f2225 rfl (XI_fr hW gx f2201 rfl hXI))
      exact WL.loc hX (by simp) (next T H2220 ⟨⟨w2224, g0, gx, gm, go, by omega, by omega⟩, h2235, by omega, by omega⟩ (by omega) (by omega))
    · refine wl_of hX hb cL_870 (rw_iconst (pc' := 871) rfl ?_)
      refine wl_of hX hb cL_871 (rw_goto (p1 := 875) (by decide) ?_)
      have k2236 : wKI H2196 m = wKI H m := (wKI_fr hW gm f2201 rfl)
      have k2237 : H2196 x 9 = H x 9 := (f2201 x 9 _ gx rfl)
      have k2238 : H2196 m 6 = H m 6 := (f2201 m 6 _ gm rfl)
      have k2239 : H2196 x 11 = H x 11 := (f2201 x 11 _ gx rfl)
      have k2240 : H2196 m 13 = H m 13 := (f2201 m 13 _ gm rfl)
      have k2241 : H2196 x 8 = H x 8 := (f2201 x 8 _ gx rfl)
      have k2242 : H2196 m 3 = H m 3 := (f2201 m 3 _ gm rfl)
      refine wl_of hX hb cL_875 (xc_V (pc' := 878) (r := m) (as := [vI (H2196 0 ((i + 1).toNat)), vI 1]) (st := []) (lm_11_113) rfl rfl (Nat.le_of_ble_eq_true rfl) w2200 gm sh_42 (by decide) rfl (by decide) (s_254 w2200 gm ⟨by omega, by omega⟩ ⟨by omega, by omega⟩ (by omega)) (fun R2243 T2244 H2245 p2246 => ?_))
      obtain ⟨e2247, w2249, f2250, z2252, e2248, b2253, p2251⟩ := p2246
      subst e2247
      subst e2248
      show WL _ _ _ _ 878 [(4, vI i), (3, .ref o), (2, .ref m), (1, .ref x), (0, .ref 0)] [vI z2252] _ H2245
      refine wl_of hX hb cL_878 (rw_pop (pc' := 879) rfl rfl ?_)
      refine wl_of hX hb cL_879 (rw_goto (p1 := 1653) (by decide) ?_)
      have k2254 : H2245 x 9 = H2196 x 9 := (f2250 x 9 _ gx rfl)
      have k2255 : H2245 m 6 = H2196 m 6 := (f2250 m 6 _ gm rfl)
      have k2256 : H2245 x 11 = H2196 x 11 := (f2250 x 11 _ gx rfl)
      have k2257 : H2245 m 13 = H2196 m 13 := (f2250 m 13 _ gm rfl)
      have k2258 : H2245 x 8 = H2196 x 8 := (f2250 x 8 _ gx rfl)
      have k2259 : H2245 m 3 = H2196 m 3 := (f2250 m 3 _ gm rfl)
      have h2260 : XI T H2245 x m := (XI_fr w2200 gx f2250 rfl (XI_fr hW gx f2201 rfl hXI))
      exact WL.loc hX (by simp) (next T H2245 ⟨⟨w2249, g0, gx, gm, go, by omega, by omega⟩, h2260, by omega, by omega⟩ (by omega) (by omega))
set_option maxHeartbeats 4000000 in
theorem wl_c22 {kt : Nat → Option mc_E} {CB SB : Nat} {X : mc_S → Prop} {T : wq_T} {H : wq_H} {Len x m o : Nat} {i : Int} (hX : wlX kt CB SB X) (hb : T.2.1 ≤ CB ∧ T.2.2.1 ≤ SB) (hI : wlJ Len x m o T H) (hL : Len ≤ 3072) (hi : 0 ≤ i ∧ i + 6 ≤ Len) (hb2 : T.2.1 + 20 ≤ CB ∧ T.2.2.1 + 500 ≤ SB)  (next : ∀ T' H', wlJ Len x m o T' H' → T'.2.1 ≤ T.2.1 + 20 → T'.2.2.1 ≤ T.2.2.1 + 500 → WL kt CB SB X 1653 (wlL i x m o) [] T' H') : WL kt CB SB X 882 (wlL i x m o) [] T H := by
  obtain ⟨⟨hW, g0, gx, gm, go, hK, hr⟩, hXI, hY1, hY2⟩ := hI
  refine wl_of hX hb cL_882 (rw_aload_n (pc' := 883) (v := .ref x) rfl rfl rfl ?_)
  refine wl_of hX hb cL_883 (rw_aload_n (pc' := 884) (v := .ref 0) rfl rfl rfl ?_)
  refine wl_of hX hb cL_884 (rw_iload (pc' := 886) (z := i) rfl rfl ?_)
  refine wl_of hX hb cL_886 (rw_iconst (pc' := 887) rfl ?_)
  refine wl_of hX hb cL_887 (rw_iadd (pc' := 888) rfl ?_)
  refine wl_of hX hb cL_888 (xa_I (so := 0) (pc' := 889) (a := 0) hW g0 (wsh_s _) (by omega) (wty_s _ _) (by omega) (by omega) rfl (fun b2261 b2262 => ?_))
  refine wl_of hX hb cL_889 (rw_aload_n (pc' := 890) (v := .ref 0) rfl rfl rfl ?_)
  refine wl_of hX hb cL_890 (rw_iload (pc' := 892) (z := i) rfl rfl ?_)
  refine wl_of hX hb cL_892 (rw_iconst (pc' := 893) rfl ?_)
  refine wl_of hX hb cL_893 (rw_iadd (pc' := 894) rfl ?_)
  refine wl_of hX hb cL_894 (xa_I (so := 0) (pc' := 895) (a := 0) hW g0 (wsh_s _) (by omega) (wty_s _ _) (by omega) (by omega) rfl (fun b2263 b2264 => ?_))
  refine wl_of hX hb cL_895 (xc_V (pc' := 898) (r := x) (as := [vI (H 0 ((i + 1).toNat)), vI (H 0 ((i + 2).toNat))]) (st := []) (lm_11_114) rfl rfl (Nat.le_of_ble_eq_true rfl) hW gx sh_1 (by decide) rfl (by decide) (s_105 hW gx ⟨by omega, by omega⟩ ⟨by omega, by omega⟩) (fun R2265 T2266 H2267 p2268 => ?_))
  obtain ⟨e2269, w2271, f2272, z2273, e2270, b2274⟩ := p2268
  subst e2269
  subst e2270
  show WL _ _ _ _ 898 [(4, vI i), (3, .ref o), (2, .ref m), (1, .ref x), (0, .ref 0)] [vI z2273] _ H2267
  refine wl_of hX hb cL_898 (rw_pop (pc' := 899) rfl rfl ?_)
  refine wl_of hX hb cL_899 (rw_aload_n (pc' := 900) (v := .ref m) rfl rfl rfl ?_)
  refine wl_of hX hb cL_900 (rw_aload_n (pc' := 901) (v := .ref 0) rfl rfl rfl ?_)
  refine wl_of hX hb cL_901 (rw_iload (pc' := 903) (z := i) rfl rfl ?_)
  refine wl_of hX hb cL_903 (rw_iconst (pc' := 904) rfl ?_)
  refine wl_of hX hb cL_904 (rw_iadd (pc' := 905) rfl ?_)
  have k2277 : H2267 0 ((i + 1).toNat) = H 0 ((i + 1).toNat) := (f2272 0 ((i + 1).toNat) _ g0 (wmem_s rfl))
  refine wl_of hX hb cL_905 (xa_I (so := 0) (pc' := 906) (a := 0) w2271 g0 (wsh_s _) (by omega) (wty_s _ _) (by omega) (by omega) rfl (fun b2275 b2276 => ?_))
  refine wl_of hX hb cL_906 (rw_aload_n (pc' := 907) (v := .ref 0) rfl rfl rfl ?_)
  refine wl_of hX hb cL_907 (rw_iload (pc' := 909) (z := i) rfl rfl ?_)
  refine wl_of hX hb cL_909 (rw_iconst (pc' := 910) rfl ?_)
  refine wl_of hX hb cL_910 (rw_iadd (pc' := 911) rfl ?_)
  have k2280 : H2267 0 ((i + 2).toNat) = H 0 ((i + 2).toNat) := (f2272 0 ((i + 2).toNat) _ g0 (wmem_s rfl))
  refine wl_of hX hb cL_911 (xa_I (so := 0) (pc' := 912) (a := 0) w2271 g0 (wsh_s _) (by omega) (wty_s _ _) (by omega) (by omega) rfl (fun b2278 b2279 => ?_))
  have k2281 : wKI H2267 m = wKI H m := (wKI_fr hW gm f2272 rfl)
  have k2282 : H2267 x 9 = H x 9 := (f2272 x 9 _ gx rfl)
  have k2283 : H2267 m 6 = H m 6 := (f2272 m 6 _ gm rfl)
  have k2284 : H2267 x 11 = H x 11 := (f2272 x 11 _ gx rfl)
  have k2285 : H2267 m 13 = H m 13 := (f2272 m 13 _ gm rfl)
  have k2286 : H2267 x 8 = H x 8 := (f2272 x 8 _ gx rfl)
  have k2287 : H2267 m 3 = H m 3 := (f2272 m 3 _ gm rfl)
  refine wl_of hX hb cL_912 (xc_V (pc' := 915) (r := m) (as := [vI (H2267 0 ((i + 1).toNat)), vI (H2267 0 ((i + 2).toNat))]) (st := []) (lm_11_117) rfl rfl (Nat.le_of_ble_eq_true rfl) w2271 gm sh_42 (by decide) rfl (by decide) (s_255 w2271 gm ⟨by omega, by omega⟩ ⟨by omega, by omega⟩ (by omega)) (fun R2288 T2289 H2290 p2291 => ?_))
  obtain ⟨e2292, w2294, f2295, z2297, e2293, b2298, p2296⟩ := p2291
  subst e2292
  subst e2293
  show WL _ _ _ _ 915 [(4, vI i), (3, .ref o), (2, .ref m), (1, .ref x), (0, .ref 0)] [vI z2297] _ H2290
  refine wl_of hX hb cL_915 (rw_pop (pc' := 916) rfl rfl ?_)
  refine wl_of hX hb cL_916 (rw_goto (p1 := 1653) (by decide) ?_)
  have k2299 : H2290 x 9 = H2267 x 9 := (f2295 x 9 _ gx rfl)
  have k2300 : H2290 m 6 = H2267 m 6 := (f2295 m 6 _ gm rfl)
  have k2301 : H2290 x 11 = H2267 x 11 := (f2295 x 11 _ gx rfl)
  have k2302 : H2290 m 13 = H2267 m 13 := (f2295 m 13 _ gm rfl)
  have k2303 : H2290 x 8 = H2267 x 8 := (f2295 x 8 _ gx rfl)
  have k2304 : H2290 m 3 = H2267 m 3 := (f2295 m 3 _ gm rfl)
  have h2305 : XI T H2290 x m := (XI_fr w2271 gx f2295 rfl (XI_fr hW gx f2272 rfl hXI))
  exact WL.loc hX (by simp) (next T H2290 ⟨⟨w2294, g0, gx, gm, go, by omega, by omega⟩, h2305, by omega, by omega⟩ (by omega) (by omega))
set_option maxHeartbeats 4000000 in
theorem wl_c23 {kt : Nat → Option mc_E} {CB SB : Nat} {X : mc_S → Prop} {T : wq_T} {H : wq_H} {Len x m o : Nat} {i : Int} (hX : wlX kt CB SB X) (hb : T.2.1 ≤ CB ∧ T.2.2.1 ≤ SB) (hI : wlJ Len x m o T H) (hL : Len ≤ 3072) (hi : 0 ≤ i ∧ i + 6 ≤ Len) (hb2 : T.2.1 + 20 ≤ CB ∧ T.2.2.1 + 500 ≤ SB)  (next : ∀ T' H', wlJ Len x m o T' H' → T'.2.1 ≤ T.2.1 + 20 → T'.2.2.1 ≤ T.2.2.1 + 500 → WL kt CB SB X 1653 (wlL i x m o) [] T' H') : WL kt CB SB X 919 (wlL i x m o) [] T H := by
  obtain ⟨⟨hW, g0, gx, gm, go, hK, hr⟩, hXI, hY1, hY2⟩ := hI
  refine wl_of hX hb cL_919 (rw_aload_n (pc' := 920) (v := .ref x) rfl rfl rfl ?_)
  refine wl_of hX hb cL_920 (rw_aload_n (pc' := 921) (v := .ref 0) rfl rfl rfl ?_)
  refine wl_of hX hb cL_921 (rw_iload (pc' := 923) (z := i) rfl rfl ?_)
  refine wl_of hX hb cL_923 (rw_iconst (pc' := 924) rfl ?_)
  refine wl_of hX hb cL_924 (rw_iadd (pc' := 925) rfl ?_)
  refine wl_of hX hb cL_925 (xa_I (so := 0) (pc' := 926) (a := 0) hW g0 (wsh_s _) (by omega) (wty_s _ _) (by omega) (by omega) rfl (fun b2306 b2307 => ?_))
  refine wl_of hX hb cL_926 (xc_V (pc' := 929) (r := x) (as := [vI (H 0 ((i + 1).toNat))]) (st := []) (lm_11_118) rfl rfl (Nat.le_of_ble_eq_true rfl) hW gx sh_1 (by decide) rfl (by decide) (s_107 hW gx ⟨by omega, by omega⟩) (fun R2308 T2309 H2310 p2311 => ?_))
  obtain ⟨e2312, w2314, f2315, z2316, e2313, b2317⟩ := p2311
  subst e2312
  subst e2313
  show WL _ _ _ _ 929 [(4, vI i), (3, .ref o), (2, .ref m), (1, .ref x), (0, .ref 0)] [vI z2316] _ H2310
  refine wl_of hX hb cL_929 (rw_pop (pc' := 930) rfl rfl ?_)
  refine wl_of hX hb cL_930 (rw_aload_n (pc' := 931) (v := .ref m) rfl rfl rfl ?_)
  refine wl_of hX hb cL_931 (rw_aload_n (pc' := 932) (v := .ref 0) rfl rfl rfl ?_)
  refine wl_of hX hb cL_932 (rw_iload (pc' := 934) (z := i) rfl rfl ?_)
  refine wl_of hX hb cL_934 (rw_iconst (pc' := 935) rfl ?_)
  refine wl_of hX hb cL_935 (rw_iadd (pc' := 936) rfl ?_)
  have k2320 : H2310 0 ((i + 1).toNat) = H 0 ((i + 1).toNat) := (f2315 0 ((i + 1).toNat) _ g0 (wmem_s rfl))
  refine wl_of hX hb cL_936 (xa_I (so := 0) (pc' := 937) (a := 0) w2314 g0 (wsh_s _) (by omega) (wty_s _ _) (by omega) (by omega) rfl (fun b2318 b2319 => ?_))
  have k2321 : wKI H2310 m = wKI H m := (wKI_fr hW gm f2315 rfl)
  have k2322 : H2310 x 9 = H x 9 := (f2315 x 9 _ gx rfl)
  have k2323 : H2310 m 6 = H m 6 := (f2315 m 6 _ gm rfl)
  have k2324 : H2310 x 11 = H x 11 := (f2315 x 11 _ gx rfl)
  have k2325 : H2310 m 13 = H m 13 := (f2315 m 13 _ gm rfl)
  have k2326 : H2310 x 8 = H x 8 := (f2315 x 8 _ gx rfl)
  have k2327 : H2310 m 3 = H m 3 := (f2315 m 3 _ gm rfl)
  refine wl_of hX hb cL_937 (xc_V (pc' := 940) (r := m) (as := [vI (H2310 0 ((i + 1).toNat))]) (st := []) (lm_11_121) rfl rfl (Nat.le_of_ble_eq_true rfl) w2314 gm sh_42 (by decide) rfl (by decide) (s_256 w2314 gm ⟨by omega, by omega⟩ (by omega)) (fun R2328 T2329 H2330 p2331 => ?_))
  obtain ⟨e2332, w2334, f2335, z2337, e2333, b2338, p2336⟩ := p2331
  subst e2332
  subst e2333
  show WL _ _ _ _ 940 [(4, vI i), (3, .ref o), (2, .ref m), (1, .ref x), (0, .ref 0)] [vI z2337] _ H2330
  refine wl_of hX hb cL_940 (rw_pop (pc' := 941) rfl rfl ?_)
  refine wl_of hX hb cL_941 (rw_goto (p1 := 1653) (by decide) ?_)
  have k2339 : H2330 x 9 = H2310 x 9 := (f2335 x 9 _ gx rfl)
  have k2340 : H2330 m 6 = H2310 m 6 := (f2335 m 6 _ gm rfl)
  have k2341 : H2330 x 11 = H2310 x 11 := (f2335 x 11 _ gx rfl)
  have k2342 : H2330 m 13 = H2310 m 13 := (f2335 m 13 _ gm rfl)
  have k2343 : H2330 x 8 = H2310 x 8 := (f2335 x 8 _ gx rfl)
  have k2344 : H2330 m 3 = H2310 m 3 := (f2335 m 3 _ gm rfl)
  have h2345 : XI T H2330 x m := (XI_fr w2314 gx f2335 rfl (XI_fr hW gx f2315 rfl hXI))
  exact WL.loc hX (by simp) (next T H2330 ⟨⟨w2334, g0, gx, gm, go, by omega, by omega⟩, h2345, by omega, by omega⟩ (by omega) (by omega))
set_option maxHeartbeats 4000000 in
theorem wl_c24 {kt : Nat → Option mc_E} {CB SB : Nat} {X : mc_S → Prop} {T : wq_T} {H : wq_H} {Len x m o : Nat} {i : Int} (hX : wlX kt CB SB X) (hb : T.2.1 ≤ CB ∧ T.2.2.1 ≤ SB) (hI : wlJ Len x m o T H) (hL : Len ≤ 3072) (hi : 0 ≤ i ∧ i + 6 ≤ Len) (hb2 : T.2.1 + 20 ≤ CB ∧ T.2.2.1 + 500 ≤ SB)  (next : ∀ T' H', wlJ Len x m o T' H' → T'.2.1 ≤ T.2.1 + 20 → T'.2.2.1 ≤ T.2.2.1 + 500 → WL kt CB SB X 1653 (wlL i x m o) [] T' H') : WL kt CB SB X 944 (wlL i x m o) [] T H := by
  obtain ⟨⟨hW, g0, gx, gm, go, hK, hr⟩, hXI, hY1, hY2⟩ := hI
  refine wl_of hX hb cL_944 (rw_aload_n (pc' := 945) (v := .ref x) rfl rfl rfl ?_)
  refine wl_of hX hb cL_945 (xc_V (pc' := 948) (r := x) (as := []) (st := []) (lm_11_122) rfl rfl (Nat.le_of_ble_eq_true rfl) hW gx sh_1 (by decide) rfl (by decide) (s_108 hW gx) (fun R2346 T2347 H2348 p2349 => ?_))
  obtain ⟨e2350, w2352, f2353, z2354, e2351, b2355⟩ := p2349
  subst e2350
  subst e2351
  show WL _ _ _ _ 948 [(4, vI i), (3, .ref o), (2, .ref m), (1, .ref x), (0, .ref 0)] [vL z2354] _ H2348
  refine wl_of hX hb cL_948 (rw_pop2 (pc' := 949) rfl rfl ?_)
  refine wl_of hX hb cL_949 (rw_aload_n (pc' := 950) (v := .ref m) rfl rfl rfl ?_)
  have k2356 : wKI H2348 m = wKI H m := (wKI_fr hW gm f2353 rfl)
  have k2357 : H2348 x 9 = H x 9 := (f2353 x 9 _ gx rfl)
  have k2358 : H2348 m 6 = H m 6 := (f2353 m 6 _ gm rfl)
  have k2359 : H2348 x 11 = H x 11 := (f2353 x 11 _ gx rfl)
  have k2360 : H2348 m 13 = H m 13 := (f2353 m 13 _ gm rfl)
  have k2361 : H2348 x 8 = H x 8 := (f2353 x 8 _ gx rfl)
  have k2362 : H2348 m 3 = H m 3 := (f2353 m 3 _ gm rfl)
  refine wl_of hX hb cL_950 (xc_V (pc' := 953) (r := m) (as := []) (st := []) (lm_11_125) rfl rfl (Nat.le_of_ble_eq_true rfl) w2352 gm sh_42 (by decide) rfl (by decide) (s_258 w2352 gm (by omega)) (fun R2363 T2364 H2365 p2366 => ?_))
  obtain ⟨e2367, w2369, f2370, z2372, e2368, b2373, p2371⟩ := p2366
  subst e2367
  subst e2368
  show WL _ _ _ _ 953 [(4, vI i), (3, .ref o), (2, .ref m), (1, .ref x), (0, .ref 0)] [vL z2372] _ H2365
  refine wl_of hX hb cL_953 (rw_pop2 (pc' := 954) rfl rfl ?_)
  refine wl_of hX hb cL_954 (rw_goto (p1 := 1653) (by decide) ?_)
  have k2374 : H2365 x 9 = H2348 x 9 := (f2370 x 9 _ gx rfl)
  have k2375 : H2365 m 6 = H2348 m 6 := (f2370 m 6 _ gm rfl)
  have k2376 : H2365 x 11 = H2348 x 11 := (f2370 x 11 _ gx rfl)
  have k2377 : H2365 m 13 = H2348 m 13 := (f2370 m 13 _ gm rfl)
  have k2378 : H2365 x 8 = H2348 x 8 := (f2370 x 8 _ gx rfl)
  have k2379 : H2365 m 3 = H2348 m 3 := (f2370 m 3 _ gm rfl)
  have h2380 : XI T H2365 x m := (XI_fr w2352 gx f2370 rfl (XI_fr hW gx f2353 rfl hXI))
  exact WL.loc hX (by simp) (next T H2365 ⟨⟨w2369, g0, gx, gm, go, by omega, by omega⟩, h2380, by omega, by omega⟩ (by omega) (by omega))
set_option maxHeartbeats 4000000 in
theorem wl_c25 {kt : Nat → Option mc_E} {CB SB : Nat} {X : mc_S → Prop} {T : wq_T} {H : wq_H} {Len x m o : Nat} {i : Int} (hX : wlX kt CB SB X) (hb : T.2.1 ≤ CB ∧ T.2.2.1 ≤ SB) (hI : wlJ Len x m o T H) (hL : Len ≤ 3072) (hi : 0 ≤ i ∧ i + 6 ≤ Len) (hb2 : T.2.1 + 20 ≤ CB ∧ T.2.2.1 + 500 ≤ SB)  (next : ∀ T' H', wlJ Len x m o T' H' → T'.2.1 ≤ T.2.1 + 20 → T'.2.2.1 ≤ T.2.2.1 + 500 → WL kt CB SB X 1653 (wlL i x m o) [] T' H') : WL kt CB SB X 957 (wlL i x m o) [] T H := by
  obtain ⟨⟨hW, g0, gx, gm, go, hK, hr⟩, hXI, hY1, hY2⟩ := hI
  refine wl_of hX hb cL_957 (rw_aload_n (pc' := 958) (v := .ref x) rfl rfl rfl ?_)
  refine wl_of hX hb cL_958 (rw_aload_n (pc' := 959) (v := .ref 0) rfl rfl rfl ?_)
  refine wl_of hX hb cL_959 (rw_iload (pc' := 961) (z := i) rfl rfl ?_)
  refine wl_of hX hb cL_961 (rw_iconst (pc' := 962) rfl ?_)
  refine wl_of hX hb cL_962 (rw_iadd (pc' := 963) rfl ?_)
  refine wl_of hX hb cL_963 (xa_I (so := 0) (pc' := 964) (a := 0) hW g0 (wsh_s _) (by omega) (wty_s _ _) (by omega) (by omega) rfl (fun b2381 b2382 => ?_))
  refine wl_of hX hb cL_964 (rw_aload_n (pc' := 965) (v := .ref 0) rfl rfl rfl ?_)
  refine wl_of hX hb cL_965 (rw_iload (pc' := 967) (z := i) rfl rfl ?_)
  refine wl_of hX hb cL_967 (rw_iconst (pc' := 968) rfl ?_)
  refine wl_of hX hb cL_968 (rw_iadd (pc' := 969) rfl ?_)
  refine wl_of hX hb cL_969 (xa_I (so := 0) (pc' := 970) (a := 0) hW g0 (wsh_s _) (by omega) (wty_s _ _) (by omega) (by omega) rfl (fun b2383 b2384 => ?_))
  refine wl_of hX hb cL_970 (xc_V (pc' := 973) (r := x) (as := [vI (H 0 ((i + 1).toNat)), vI (H 0 ((i + 2).toNat))]) (st := []) (lm_11_126) rfl rfl (Nat.le_of_ble_eq_true rfl) hW gx sh_1 (by decide) rfl (by decide) (s_109 hW gx ⟨by omega, by omega⟩ ⟨by omega, by omega⟩) (fun R2385 T2386 H2387 p2388 => ?_))
  obtain ⟨e2389, w2391, f2392, z2393, e2390, b2394⟩ := p2388
  subst e2389
  subst e2390
  show WL _ _ _ _ 973 [(4, vI i), (3, .ref o), (2, .ref m), (1, .ref x), (0, .ref 0)] [vI z2393] _ H2387
  refine wl_of hX hb cL_973 (rw_pop (pc' := 974) rfl rfl ?_)
  refine wl_of hX hb cL_974 (rw_aload_n (pc' := 975) (v := .ref m) rfl rfl rfl ?_)
  refine wl_of hX hb cL_975 (rw_aload_n (pc' := 976) (v := .ref 0) rfl rfl rfl ?_)
  refine wl_of hX hb cL_976 (rw_iload (pc' := 978) (z := i) rfl rfl ?_)
  refine wl_of hX hb cL_978 (rw_iconst (pc' := 979) rfl ?_)
  refine wl_of hX hb cL_979 (rw_iadd (pc' := 980) rfl ?_)
  have k2397 : H2387 0 ((i + 1).toNat) = H 0 ((i + 1).toNat) := (f2392 0 ((i + 1).toNat) _ g0 (wmem_s rfl))
  refine wl_of hX hb cL_980 (xa_I (so := 0) (pc' := 981) (a := 0) w2391 g0 (wsh_s _) (by omega) (wty_s _ _) (by omega) (by omega) rfl (fun b2395 b2396 => ?_))
  refine wl_of hX hb cL_981 (rw_aload_n (pc' := 982) (v := .ref 0) rfl rfl rfl ?_)
  refine wl_of hX hb cL_982 (rw_iload (pc' := 984) (z := i) rfl rfl ?_)
  refine wl_of hX hb cL_984 (rw_iconst (pc' := 985) rfl ?_)
  refine wl_of hX hb cL_985 (rw_iadd (pc' := 986) rfl ?_)
  have k2400 : H2387 0 ((i + 2).toNat) = H 0 ((i + 2).toNat) := (f2392 0 ((i + 2).toNat) _ g0 (wmem_s rfl))
  refine wl_of hX hb cL_986 (xa_I (so := 0) (pc' := 987) (a := 0) w2391 g0 (wsh_s _) (by omega) (wty_s _ _) (by omega) (by omega) rfl (fun b2398 b2399 => ?_))
  have k2401 : wKI H2387 m = wKI H m := (wKI_fr hW gm f2392 rfl)
  have k2402 : H2387 x 9 = H x 9 := (f2392 x 9 _ gx rfl)
  have k2403 : H2387 m 6 = H m 6 := (f2392 m 6 _ gm rfl)
  have k2404 : H2387 x 11 = H x 11 := (f2392 x 11 _ gx rfl)
  have k2405 : H2387 m 13 = H m 13 := (f2392 m 13 _ gm rfl)
  have k2406 : H2387 x 8 = H x 8 := (f2392 x 8 _ gx rfl)
  have k2407 : H2387 m 3 = H m 3 := (f2392 m 3 _ gm rfl)
  refine wl_of hX hb cL_987 (xc_V (pc' := 990) (r := m) (as := [vI (H2387 0 ((i + 1).toNat)), vI (H2387 0 ((i + 2).toNat))]) (st := []) (lm_11_129) rfl rfl (Nat.le_of_ble_eq_true rfl) w2391 gm sh_42 (by decide) rfl (by decide) (s_259 w2391 gm ⟨by omega, by omega⟩ ⟨by omega, by omega⟩ (by omega)) (fun R2408 T2409 H2410 p2411 => ?_))
  obtain ⟨e2412, w2414, f2415, z2417, e2413, b2418, p2416⟩ := p2411
  subst e2412
  subst e2413
  show WL _ _ _ _ 990 [(4, vI i), (3, .ref o), (2, .ref m), (1, .ref x), (0, .ref 0)] [vI z2417] _ H2410
  refine wl_of hX hb cL_990 (rw_pop (pc' := 991) rfl rfl ?_)
  refine wl_of hX hb cL_991 (rw_goto (p1 := 1653) (by decide) ?_)
  have k2419 : H2410 x 9 = H2387 x 9 := (f2415 x 9 _ gx rfl)
  have k2420 : H2410 m 6 = H2387 m 6 := (f2415 m 6 _ gm rfl)
  have k2421 : H2410 x 11 = H2387 x 11 := (f2415 x 11 _ gx rfl)
  have k2422 : H2410 m 13 = H2387 m 13 := (f2415 m 13 _ gm rfl)
  have k2423 : H2410 x 8 = H2387 x 8 := (f2415 x 8 _ gx rfl)
  have k2424 : H2410 m 3 = H2387 m 3 := (f2415 m 3 _ gm rfl)
  have h2425 : XI T H2410 x m := (XI_fr w2391 gx f2415 rfl (XI_fr hW gx f2392 rfl hXI))
  exact WL.loc hX (by simp) (next T H2410 ⟨⟨w2414, g0, gx, gm, go, by omega, by omega⟩, h2425, by omega, by omega⟩ (by omega) (by omega))
set_option maxHeartbeats 4000000 in
theorem wl_c26 {kt : Nat → Option mc_E} {CB SB : Nat} {X : mc_S → Prop} {T : wq_T} {H : wq_H} {Len x m o : Nat} {i : Int} (hX : wlX kt CB SB X) (hb : T.2.1 ≤ CB ∧ T.2.2.1 ≤ SB) (hI : wlJ Len x m o T H) (hL : Len ≤ 3072) (hi : 0 ≤ i ∧ i + 6 ≤ Len) (hb2 : T.2.1 + 20 ≤ CB ∧ T.2.2.1 + 500 ≤ SB)  (next : ∀ T' H', wlJ Len x m o T' H' → T'.2.1 ≤ T.2.1 + 20 → T'.2.2.1 ≤ T.2.2.1 + 500 → WL kt CB SB X 1653 (wlL i x m o) [] T' H') : WL kt CB SB X 994 (wlL i x m o) [] T H := by
  obtain ⟨⟨hW, g0, gx, gm, go, hK, hr⟩, hXI, hY1, hY2⟩ := hI
  refine wl_of hX hb cL_994 (rw_aload_n (pc' := 995) (v := .ref x) rfl rfl rfl ?_)
  refine wl_of hX hb cL_995 (rw_aload_n (pc' := 996) (v := .ref 0) rfl rfl rfl ?_)
  refine wl_of hX hb cL_996 (rw_iload (pc' := 998) (z := i) rfl rfl ?_)
  refine wl_of hX hb cL_998 (rw_iconst (pc' := 999) rfl ?_)
  refine wl_of hX hb cL_999 (rw_iadd (pc' := 1000) rfl ?_)
  refine wl_of hX hb cL_1000 (xa_I (so := 0) (pc' := 1001) (a := 0) hW g0 (wsh_s _) (by omega) (wty_s _ _) (by omega) (by omega) rfl (fun b2426 b2427 => ?_))
  refine wl_of hX hb cL_1001 (xc_V (pc' := 1004) (r := x) (as := [vI (H 0 ((i + 1).toNat))]) (st := []) (lm_11_130) rfl rfl (Nat.le_of_ble_eq_true rfl) hW gx sh_1 (by decide) rfl (by decide) (s_112 hW gx ⟨by omega, by omega⟩) (fun R2428 T2429 H2430 p2431 => ?_))
  obtain ⟨e2432, w2434, f2435, z2436, e2433, b2437⟩ := p2431
  subst e2432
  subst e2433
  show WL _ _ _ _ 1004 [(4, vI i), (3, .ref o), (2, .ref m), (1, .ref x), (0, .ref 0)] [vL z2436] _ H2430
  refine wl_of hX hb cL_1004 (rw_pop2 (pc' := 1005) rfl rfl ?_)
  refine wl_of hX hb cL_1005 (rw_aload_n (pc' := 1006) (v := .ref m) rfl rfl rfl ?_)
  refine wl_of hX hb cL_1006 (rw_aload_n (pc' := 1007) (v := .ref 0) rfl rfl rfl ?_)
  refine wl_of hX hb cL_1007 (rw_iload (pc' := 1009) (z := i) rfl rfl ?_)
  refine wl_of hX hb cL_1009 (rw_iconst (pc' := 1010) rfl ?_)
  refine wl_of hX hb cL_1010 (rw_iadd (pc' := 1011) rfl ?_)
  have k2440 : H2430 0 ((i + 1).toNat) = H 0 ((i + 1).toNat) := (f2435 0 ((i + 1).toNat) _ g0 (wmem_s rfl))
  refine wl_of hX hb cL_1011 (xa_I (so := 0) (pc' := 1012) (a := 0) w2434 g0 (wsh_s _) (by omega) (wty_s _ _) (by omega) (by omega) rfl (fun b2438 b2439 => ?_))
  have k2441 : wKI H2430 m = wKI H m := (wKI_fr hW gm f2435 rfl)
  have k2442 : H2430 x 9 = H x 9 := (f2435 x 9 _ gx rfl)
  have k2443 : H2430 m 6 = H m 6 := (f2435 m 6 _ gm rfl)
  have k2444 : H2430 x 11 = H x 11 := (f2435 x 11 _ gx rfl)
  have k2445 : H2430 m 13 = H m 13 := (f2435 m 13 _ gm rfl)
  have k2446 : H2430 x 8 = H x 8 := (f2435 x 8 _ gx rfl)
  have k2447 : H2430 m 3 = H m 3 := (f2435 m 3 _ gm rfl)
  refine wl_of hX hb cL_1012 (xc_V (pc' := 1015) (r := m) (as := [vI (H2430 0 ((i + 1).toNat))]) (st := []) (lm_11_134) rfl rfl (Nat.le_of_ble_eq_true rfl) w2434 gm sh_42 (by decide) rfl (by decide) (s_260 w2434 gm ⟨by omega, by omega⟩ (by omega)) (fun R2448 T2449 H2450 p2451 => ?_))
  obtain ⟨e2452, w2454, f2455, z2457, e2453, b2458, p2456⟩ := p2451
  subst e2452
  subst e2453
  show WL _ _ _ _ 1015 [(4, vI i), (3, .ref o), (2, .ref m), (1, .ref x), (0, .ref 0)] [vL z2457] _ H2450
  refine wl_of hX hb cL_1015 (rw_pop2 (pc' := 1016) rfl rfl ?_)
  refine wl_of hX hb cL_1016 (rw_goto (p1 := 1653) (by decide) ?_)
  have k2459 : H2450 x 9 = H2430 x 9 := (f2455 x 9 _ gx rfl)
  have k2460 : H2450 m 6 = H2430 m 6 := (f2455 m 6 _ gm rfl)
  have k2461 : H2450 x 11 = H2430 x 11 := (f2455 x 11 _ gx rfl)
  have k2462 : H2450 m 13 = H2430 m 13 := (f2455 m 13 _ gm rfl)
  have k2463 : H2450 x 8 = H2430 x 8 := (f2455 x 8 _ gx rfl)
  have k2464 : H2450 m 3 = H2430 m 3 := (f2455 m 3 _ gm rfl)
  have h2465 : XI T H2450 x m := (XI_fr w2434 gx f2455 rfl (XI_fr hW gx f2435 rfl hXI))
  exact WL.loc hX (by simp) (next T H2450 ⟨⟨w2454, g0, gx, gm, go, by omega, by omega⟩, h2465, by omega, by omega⟩ (by omega) (by omega))
set_option maxHeartbeats 4000000 in
theorem wl_c27 {kt : Nat → Option mc_E} {CB SB : Nat} {X : mc_S → Prop} {T : wq_T} {H : wq_H} {Len x m o : Nat} {i : Int} (hX : wlX kt CB SB X) (hb : T.2.1 ≤ CB ∧ T.2.2.1 ≤ SB) (hI : wlJ Len x m o T H) (hL : Len ≤ 3072) (hi : 0 ≤ i ∧ i + 6 ≤ Len) (hb2 : T.2.1 + 20 ≤ CB ∧ T.2.2.1 + 500 ≤ SB)  (next : ∀ T' H', wlJ Len x m o T' H' → T'.2.1 ≤ T.2.1 + 20 → T'.2.2.1 ≤ T.2.2.1 + 500 → WL kt CB SB X 1653 (wlL i x m o) [] T' H') : WL kt CB SB X 1019 (wlL i x m o) [] T H := by
  obtain ⟨⟨hW, g0, gx, gm, go, hK, hr⟩, hXI, hY1, hY2⟩ := hI
  refine wl_of hX hb cL_1019 (rw_aload_n (pc' := 1020) (v := .ref x) rfl rfl rfl ?_)
  refine wl_of hX hb cL_1020 (rw_aload_n (pc' := 1021) (v := .ref 0) rfl rfl rfl ?_)
  refine wl_of hX hb cL_1021 (rw_iload (pc' := 1023) (z := i) rfl rfl ?_)
  refine wl_of hX hb cL_1023 (rw_iconst (pc' := 1024) rfl ?_)
  refine wl_of hX hb cL_1024 (rw_iadd (pc' := 1025) rfl ?_)
  refine wl_of hX hb cL_1025 (xa_I (so := 0) (pc' := 1026) (a := 0) hW g0 (wsh_s _) (by omega) (wty_s _ _) (by omega) (by omega) rfl (fun b2466 b2467 => ?_))
  refine wl_of hX hb cL_1026 (rw_aload_n (pc' := 1027) (v := .ref 0) rfl rfl rfl ?_)
  refine wl_of hX hb cL_1027 (rw_iload (pc' := 1029) (z := i) rfl rfl ?_)
  refine wl_of hX hb cL_1029 (rw_iconst (pc' := 1030) rfl ?_)
  refine wl_of hX hb cL_1030 (rw_iadd (pc' := 1031) rfl ?_)
  refine wl_of hX hb cL_1031 (xa_I (so := 0) (pc' := 1032) (a := 0) hW g0 (wsh_s _) (by omega) (wty_s _ _) (by omega) (by omega) rfl (fun b2468 b2469 => ?_))
  refine wl_of hX hb cL_1032 (xc_V (pc' := 1035) (r := x) (as := [vI (H 0 ((i + 1).toNat)), vI (H 0 ((i + 2).toNat))]) (st := []) (lm_11_135) rfl rfl (Nat.le_of_ble_eq_true rfl) hW gx sh_1 (by decide) rfl (by decide) (s_114 hW gx ⟨by omega, by omega⟩ ⟨by omega, by omega⟩) (fun R2470 T2471 H2472 p2473 => ?_))
  obtain ⟨e2474, w2476, f2477, z2478, e2475, b2479⟩ := p2473
  subst e2474
  subst e2475
  show WL _ _ _ _ 1035 [(4, vI i), (3, .ref o), (2, .ref m), (1, .ref x), (0, .ref 0)] [vI z2478] _ H2472
  refine wl_of hX hb cL_1035 (rw_pop (pc' := 1036) rfl rfl ?_)
  refine wl_of hX hb cL_1036 (rw_aload_n (pc' := 1037) (v := .ref m) rfl rfl rfl ?_)
  refine wl_of hX hb cL_1037 (rw_aload_n (pc' := 1038) (v := .ref 0) rfl rfl rfl ?_)
  refine wl_of hX hb cL_1038 (rw_iload (pc' := 1040) (z := i) rfl rfl ?_)
  refine wl_of hX hb cL_1040 (rw_iconst (pc' := 1041) rfl ?_)
  refine wl_of hX hb cL_1041 (rw_iadd (pc' := 1042) rfl ?_)
  have k2482 : H2472 0 ((i + 1).toNat) = H 0 ((i + 1).toNat) := (f2477 0 ((i + 1).toNat) _ g0 (wmem_s rfl))
  refine wl_of hX hb cL_1042 (xa_I (so := 0) (pc' := 1043) (a := 0) w2476 g0 (wsh_s _) (by omega) (wty_s _ _) (by omega) (by omega) rfl (fun b2480 b2481 => ?_))
  refine wl_of hX hb cL_1043 (rw_aload_n (pc' := 1044) (v := .ref 0) rfl rfl rfl ?_)
  refine wl_of hX hb cL_1044 (rw_iload (pc' := 1046) (z := i) rfl rfl ?_)
  refine wl_of hX hb cL_1046 (rw_iconst (pc' := 1047) rfl ?_)
  refine wl_of hX hb cL_1047 (rw_iadd (pc' := 1048) rfl ?_)
  have k2485 : H2472 0 ((i + 2).toNat) = H 0 ((i + 2).toNat) := (f2477 0 ((i + 2).toNat) _ g0 (wmem_s rfl))
  refine wl_of hX hb cL_1048 (xa_I (so := 0) (pc' := 1049) (a := 0) w2476 g0 (wsh_s _) (by omega) (wty_s _ _) (by omega) (by omega) rfl (fun b2483 b2484 => ?_))
  have k2486 : wKI H2472 m = wKI H m := (wKI_fr hW gm f2477 rfl)
  have k2487 : H2472 x 9 = H x 9 := (f2477 x 9 _ gx rfl)
  have k2488 : H2472 m 6 = H m 6 := (f2477 m 6 _ gm rfl)
  have k2489 : H2472 x 11 = H x 11 := (f2477 x 11 _ gx rfl)
  have k2490 : H2472 m 13 = H m 13 := (f2477 m 13 _ gm rfl)
  have k2491 : H2472 x 8 = H x 8 := (f2477 x 8 _ gx rfl)
  have k2492 : H2472 m 3 = H m 3 := (f2477 m 3 _ gm rfl)
  refine wl_of hX hb cL_1049 (xc_V (pc' := 1052) (r := m) (as := [vI (H2472 0 ((i + 1).toNat)), vI (H2472 0 ((i + 2).toNat))]) (st := []) (lm_11_138) rfl rfl (Nat.le_of_ble_eq_true rfl) w2476 gm sh_42 (by decide) rfl (by decide) (s_261 w2476 gm ⟨by omega, by omega⟩ ⟨by omega, by omega⟩ (by omega)) (fun R2493 T2494 H2495 p2496 => ?_))
  obtain ⟨e2497, w2499, f2500, z2502, e2498, b2503, p2501⟩ := p2496
  subst e2497
  subst e2498
  show WL _ _ _ _ 1052 [(4, vI i), (3, .ref o), (2, .ref m), (1, .ref x), (0, .ref 0)] [vI z2502] _ H2495
  refine wl_of hX hb cL_1052 (rw_pop (pc' := 1053) rfl rfl ?_)
  refine wl_of hX hb cL_1053 (rw_goto (p1 := 1653) (by decide) ?_)
  have k2504 : H2495 x 9 = H2472 x 9 := (f2500 x 9 _ gx rfl)
  have k2505 : H2495 m 6 = H2472 m 6 := (f2500 m 6 _ gm rfl)
  have k2506 : H2495 x 11 = H2472 x 11 := (f2500 x 11 _ gx rfl)
  have k2507 : H2495 m 13 = H2472 m 13 := (f2500 m 13 _ gm rfl)
  have k2508 : H2495 x 8 = H2472 x 8 := (f2500 x 8 _ gx rfl)
  have k2509 : H2495 m 3 = H2472 m 3 := (f2500 m 3 _ gm rfl)
  have h2510 : XI T H2495 x m := (XI_fr w2476 gx f2500 rfl (XI_fr hW gx f2477 rfl hXI))
  exact WL.loc hX (by simp) (next T H2495 ⟨⟨w2499, g0, gx, gm, go, by omega, by omega⟩, h2510, by omega, by omega⟩ (by omega) (by omega))
set_option maxHeartbeats 4000000 in
theorem wl_c28 {kt : Nat → Option mc_E} {CB SB : Nat} {X : mc_S → Prop} {T : wq_T} {H : wq_H} {Len x m o : Nat} {i : Int} (hX : wlX kt CB SB X) (hb : T.2.1 ≤ CB ∧ T.2.2.1 ≤ SB) (hI : wlJ Len x m o T H) (hL : Len ≤ 3072) (hi : 0 ≤ i ∧ i + 6 ≤ Len) (hb2 : T.2.1 + 20 ≤ CB ∧ T.2.2.1 + 500 ≤ SB)  (next : ∀ T' H', wlJ Len x m o T' H' → T'.2.1 ≤ T.2.1 + 20 → T'.2.2.1 ≤ T.2.2.1 + 500 → WL kt CB SB X 1653 (wlL i x m o) [] T' H') : WL kt CB SB X 1056 (wlL i x m o) [] T H := by
  obtain ⟨⟨hW, g0, gx, gm, go, hK, hr⟩, hXI, hY1, hY2⟩ := hI
  refine wl_of hX hb cL_1056 (rw_aload_n (pc' := 1057) (v := .ref x) rfl rfl rfl ?_)
  refine wl_of hX hb cL_1057 (rw_aload_n (pc' := 1058) (v := .ref 0) rfl rfl rfl ?_)
  refine wl_of hX hb cL_1058 (rw_iload (pc' := 1060) (z := i) rfl rfl ?_)
  refine wl_of hX hb cL_1060 (rw_iconst (pc' := 1061) rfl ?_)
  refine wl_of hX hb cL_1061 (rw_iadd (pc' := 1062) rfl ?_)
  refine wl_of hX hb cL_1062 (xa_I (so := 0) (pc' := 1063) (a := 0) hW g0 (wsh_s _) (by omega) (wty_s _ _) (by omega) (by omega) rfl (fun b2511 b2512 => ?_))
  refine wl_of hX hb cL_1063 (rw_aload_n (pc' := 1064) (v := .ref 0) rfl rfl rfl ?_)
  refine wl_of hX hb cL_1064 (rw_iload (pc' := 1066) (z := i) rfl rfl ?_)
  refine wl_of hX hb cL_1066 (rw_iconst (pc' := 1067) rfl ?_)
  refine wl_of hX hb cL_1067 (rw_iadd (pc' := 1068) rfl ?_)
  refine wl_of hX hb cL_1068 (xa_I (so := 0) (pc' := 1069) (a := 0) hW g0 (wsh_s _) (by omega) (wty_s _ _) (by omega) (by omega) rfl (fun b2513 b2514 => ?_))
  refine wl_of hX hb cL_1069 (rw_if_eq (p1 := 1076) (p2 := 1072) (by decide) rfl ⟨by omega, by omega⟩ (fun c2515 => ?_) (fun c2515 => ?_))
  · refine wl_of hX hb cL_1076 (rw_iconst (pc' := 1077) rfl ?_)
    refine wl_of hX hb cL_1077 (xc_V (pc' := 1080) (r := x) (as := [vI (H 0 ((i + 1).toNat)), vI 0]) (st := []) (lm_11_139) rfl rfl (Nat.le_of_ble_eq_true rfl) hW gx sh_1 (by decide) rfl (by decide) (s_117 hW gx ⟨by omega, by omega⟩ ⟨by omega, by omega⟩) (fun R2516 T2517 H2518 p2519 => ?_))
    obtain ⟨e2520, w2522, f2523, z2524, e2521, b2525⟩ := p2519
    subst e2520
    subst e2521
    show WL _ _ _ _ 1080 [(4, vI i), (3, .ref o), (2, .ref m), (1, .ref x), (0, .ref 0)] [vI z2524] _ H2518
    refine wl_of hX hb cL_1080 (rw_pop (pc' := 1081) rfl rfl ?_)
    refine wl_of hX hb cL_1081 (rw_aload_n (pc' := 1082) (v := .ref m) rfl rfl rfl ?_)
    refine wl_of hX hb cL_1082 (rw_aload_n (pc' := 1083) (v := .ref 0) rfl rfl rfl ?_)
    refine wl_of hX hb cL_1083 (rw_iload (pc' := 1085) (z := i) rfl rfl ?_)
    refine wl_of hX hb cL_1085 (rw_iconst (pc' := 1086) rfl ?_)
    refine wl_of hX hb cL_1086 (rw_iadd (pc' := 1087) rfl ?_)
    have k2528 : H2518 0 ((i + 1).toNat) = H 0 ((i + 1).toNat) := (f2523 0 ((i + 1).toNat) _ g0 (wmem_s rfl))
    refine wl_of hX hb cL_1087 (xa_I (so := 0) (pc' := 1088) (a := 0) w2522 g0 (wsh_s _) (by omega) (wty_s _ _) (by omega) (by omega) rfl (fun b2526 b2527 => ?_))
    refine wl_of hX hb cL_1088 (rw_aload_n (pc' := 1089) (v := .ref 0) rfl rfl rfl ?_)
    refine wl_of hX hb cL_1089 (rw_iload (pc' := 1091) (z := i) rfl rfl ?_)
    refine wl_of hX hb cL_1091 (rw_iconst (pc' := 1092) rfl ?_)
    refine wl_of hX hb cL_1092 (rw_iadd (pc' := 1093) rfl ?_)
    have k2531 : H2518 0 ((i + 2).toNat) = H 0 ((i + 2).toNat) := (f2523 0 ((i + 2).toNat) _ g0 (wmem_s rfl))
    refine wl_of hX hb cL_1093 (xa_I (so := 0) (pc' := 1094) (a := 0) w2522 g0 (wsh_s _) (by omega) (wty_s _ _) (by omega) (by omega) rfl (fun b2529 b2530 => ?_))
    refine wl_of hX hb cL_1094 (rw_if_eq (p1 := 1101) (p2 := 1097) (by decide) rfl ⟨by omega, by omega⟩ (fun c2532 => ?_) (fun c2532 => ?_))
    · refine wl_of hX hb cL_1101 (rw_iconst (pc' := 1102) rfl ?_)
      have k2533 : wKI H2518 m = wKI H m := (wKI_fr hW gm f2523 rfl)
      have k2534 : H2518 x 9 = H x 9 := (f2523 x 9 _ gx rfl)
      have k2535 : H2518 m 6 = H m 6 := (f2523 m 6 _ gm rfl)
      have k2536 : H2518 x 11 = H x 11 := (f2523 x 11 _ gx rfl)
      have k2537 : H2518 m 13 = H m 13 := (f2523 m 13 _ gm rfl)
      have k2538 : H2518 x 8 = H x 8 := (f2523 x 8 _ gx rfl)
      have k2539 : H2518 m 3 = H m 3 := (f2523 m 3 _ gm rfl)
      refine wl_of hX hb cL_1102 (xc_V (pc' := 1105) (r := m) (as := [vI (H2518 0 ((i + 1).toNat)), vI 0]) (st := []) (lm_11_142) rfl rfl (Nat.le_of_ble_eq_true rfl) w2522 gm sh_42 (by decide) rfl (by decide) (s_263 w2522 gm ⟨by omega, by omega⟩ ⟨by omega, by omega⟩ (by omega)) (fun R2540 T2541 H2542 p2543 => ?_))
      obtain ⟨e2544, w2546, f2547, z2549, e2545, b2550, p2548⟩ := p2543
      subst e2544
      subst e2545
      show WL _ _ _ _ 1105 [(4, vI i), (3, .ref o), (2, .ref m), (1, .ref x), (0, .ref 0)] [vI z2549] _ H2542
      refine wl_of hX hb cL_1105 (rw_pop (pc' := 1106) rfl rfl ?_)
      refine wl_of hX hb cL_1106 (rw_goto (p1 := 1653) (by decide) ?_)
      have k2551 : H2542 x 9 = H2518 x 9 := (f2547 x 9 _ gx rfl)
      have k2552 : H2542 m 6 = H2518 m 6 := (f2547 m 6 _ gm rfl)
      have k2553 : H2542 x 11 = H2518 x 11 := (f2547 x 11 _ gx rfl)
      have k2554 : H2542 m 13 = H2518 m 13 := (f2547 m 13 _ gm rfl)
      have k2555 : H2542 x 8 = H2518 x 8 := (f2547 x 8 _ gx rfl)
      have k2556 : H2542 m 3 = H2518 m 3 := (f2547 m 3 _ gm rfl)
      have h2557 : XI T H2542 x m := (XI_fr w2522 gx f2547 rfl (XI_fr hW gx f2523 rfl hXI))
      exact WL.loc hX (by simp) (next T H2542 ⟨⟨w2546, g0, gx, gm, go, by omega, by omega⟩, h2557, by omega, by omega⟩ (by omega) (by omega))
    · exfalso
      omega
  · refine wl_of hX hb cL_1072 (rw_iconst (pc' := 1073) rfl ?_)
    refine wl_of hX hb cL_1073 (rw_goto (p1 := 1077) (by decide) ?_)
    refine wl_of hX hb cL_1077 (xc_V (pc' := 1080) (r := x) (as := [vI (H 0 ((i + 1).toNat)), vI 1]) (st := []) (lm_11_139) rfl rfl (Nat.le_of_ble_eq_true rfl) hW gx sh_1 (by decide) rfl (by decide) (s_117 hW gx ⟨by omega, by omega⟩ ⟨by omega, by omega⟩) (fun R2558 T2559 H2560 p2561 => ?_))
    obtain ⟨e2562, w2564, f2565, z2566, e2563, b2567⟩ := p2561
    subst e2562
    subst e2563
    show WL _ _ _ _ 1080 [(4, vI i), (3, .ref o), (2, .ref m), (1, .ref x), (0, .ref 0)] [vI z2566] _ H2560
    refine wl_of hX hb cL_1080 (rw_pop (pc' := 1081) rfl rfl ?_)
    refine wl_of hX hb cL_1081 (rw_aload_n (pc' := 1082) (v := .ref m) rfl rfl rfl ?_)
    refine wl_of hX hb cL_1082 (rw_aload_n (pc' := 1083) (v := .ref 0) rfl rfl rfl ?_)
    refine wl_of hX hb cL_1083 (rw_iload (pc' := 1085) (z := i) rfl rfl ?_)
    refine wl_of hX hb cL_1085 (rw_iconst (pc' := 1086) rfl ?_)
    refine wl_of hX hb cL_1086 (rw_iadd (pc' := 1087) rfl ?_)
    have k2570 : H2560 0 ((i + 1).toNat) = H 0 ((i + 1).toNat) := (f2565 0 ((i + 1).toNat) _ g0 (wmem_s rfl))
    refine wl_of hX hb cL_1087 (xa_I (so := 0) (pc' := 1088) (a := 0) w2564 g0 (wsh_s _) (by omega) (wty_s _ _) (by omega) (by omega) rfl (fun b2568 b2569 => ?_))
    refine wl_of hX hb cL_1088 (rw_aload_n (pc' := 1089) (v := .ref 0) rfl rfl rfl ?_)
    refine wl_of hX hb cL_1089 (rw_iload (pc' := 1091) (z := i) rfl rfl ?_)
    refine wl_of hX hb cL_1091 (rw_iconst (pc' := 1092) rfl ?_)
    refine wl_of hX hb cL_1092 (rw_iadd (pc' := 1093) rfl ?_)
    have k2573 : H2560 0 ((i + 2).toNat) = H 0 ((i + 2).toNat) := (f2565 0 ((i + 2).toNat) _ g0 (wmem_s rfl))
    refine wl_of hX hb cL_1093 (xa_I (so := 0) (pc' := 1094) (a := 0) w2564 g0 (wsh_s _) (by omega) (wty_s _ _) (by omega) (by omega) rfl (fun b2571 b2572 => ?_))
    refine wl_of hX hb cL_1094 (rw_if_eq (p1 := 1101) (p2 := 1097) (by decide) rfl ⟨by omega, by omega⟩ (fun c2574 => ?_) (fun c2574 => ?_))
    · refine wl_of hX hb cL_1101 (rw_iconst (pc' := 1102) rfl ?_)
      have k2575 : wKI H2560 m = wKI H m := (wKI_fr hW gm f2565 rfl)
      have k2576 : H2560 x 9 = H x 9 := (f2565 x 9 _ gx rfl)
      have k2577 : H2560 m 6 = H m 6 := (f2565 m 6 _ gm rfl)
      have k2578 : H2560 x 11 = H x 11 := (f2565 x 11 _ gx rfl)
      have k2579 : H2560 m 13 = H m 13 := (f2565 m 13 _ gm rfl)
      have k2580 : H2560 x 8 = H x 8 := (f2565 x 8 _ gx rfl)
      have k2581 : H2560 m 3 = H m 3 := (f2565 m 3 _ gm rfl)
      refine wl_of hX hb cL_1102 (xc_V (pc' := 1105) (r := m) (as := [vI (H2560 0 ((i + 1).toNat)), vI 0]) (st := []) (lm_11_142) rfl rfl (Nat.le_of_ble_eq_true rfl) w2564 gm sh_42 (by decide) rfl (by decide) (s_263 w2564 gm ⟨by omega, by omega⟩ ⟨by omega, by omega⟩ (by omega)) (fun R2582 T2583 H2584 p2585 => ?_))
      obtain ⟨e2586, w2588, f2589, z2591, e2587, b2592, p2590⟩ := p2585
      subst e2586
      subst e2587
      show WL _ _ _ _ 1105 [(4, vI i), (3, .ref o), (2, .ref m), (1, .ref x), (0, .ref 0)] [vI z2591] _ H2584
      refine wl_of hX hb cL_1105 (rw_pop (pc' := 1106) rfl rfl ?_)
      refine wl_of hX hb cL_1106 (rw_goto (p1 := 1653) (by decide) ?_)
      have k2593 : H2584 x 9 = H2560 x 9 := (f2589 x 9 _ gx rfl)
      have k2594 : H2584 m 6 = H2560 m 6 := (f2589 m 6 _ gm rfl)
      have k2595 : H2584 x 11 = H2560 x 11 := (f2589 x 11 _ gx rfl)
      have k2596 : H2584 m 13 = H2560 m 13 := (f2589 m 13 _ gm rfl)
      have k2597 : H2584 x 8 = H2560 x 8 := (f2589 x 8 _ gx rfl)
      have k2598 : H2584 m 3 = H2560 m 3 := (f2589 m 3 _ gm rfl)
      have h2599 : XI T H2584 x m := (XI_fr w2564 gx f2589 rfl (XI_fr hW gx f2565 rfl hXI))
      exact WL.loc hX (by simp) (next T H2584 ⟨⟨w2588, g0, gx, gm, go, by omega, by omega⟩, h2599, by omega, by omega⟩ (by omega) (by omega))
    · refine wl_of hX hb cL_1097 (rw_iconst (pc' := 1098) rfl ?_)
      refine wl_of hX hb cL_1098 (rw_goto (p1 := 1102) (by decide) ?_)
      have k2600 : wKI H2560 m = wKI H m := (wKI_fr hW gm f2565 rfl)
      have k2601 : H2560 x 9 = H x 9 := (f2565 x 9 _ gx rfl)
      have k2602 : H2560 m 6 = H m 6 := (f2565 m 6 _ gm rfl)
      have k2603 : H2560 x 11 = H x 11 := (f2565 x 11 _ gx rfl)
      have k2604 : H2560 m 13 = H m 13 := (f2565 m 13 _ gm rfl)
      have k2605 : H2560 x 8 = H x 8 := (f2565 x 8 _ gx rfl)
      have k2606 : H2560 m 3 = H m 3 := (f2565 m 3 _ gm rfl)
      refine wl_of hX hb cL_1102 (xc_V (pc' := 1105) (r := m) (as := [vI (H2560 0 ((i + 1).toNat)), vI 1]) (st := []) (lm_11_142) rfl rfl (Nat.le_of_ble_eq_true rfl) w2564 gm sh_42 (by decide) rfl (by decide) (s_263 w2564 gm ⟨by omega, by omega⟩ ⟨by omega, by omega⟩ (by omega)) (fun R2607 T2608 H2609 p2610 => ?_))
      obtain ⟨e2611, w2613, f2614, z2616, e2612, b2617, p2615⟩ := p2610
      subst e2611
      subst e2612
      show WL _ _ _ _ 1105 [(4, vI i), (3, .ref o), (2, .ref m), (1, .ref x), (0, .ref 0)] [vI z2616] _ H2609
      refine wl_of hX hb cL_1105 (rw_pop (pc' := 1106) rfl rfl ?_)
      refine wl_of hX hb cL_1106 (rw_goto (p1 := 1653) (by decide) ?_)
      have k2618 : H2609 x 9 = H2560 x 9 := (f2614 x 9 _ gx rfl)
      have k2619 : H2609 m 6 = H2560 m 6 := (f2614 m 6 _ gm rfl)
      have k2620 : H2609 x 11 = H2560 x 11 := (f2614 x 11 _ gx rfl)
      have k2621 : H2609 m 13 = H2560 m 13 := (f2614 m 13 _ gm rfl)
      have k2622 : H2609 x 8 = H2560 x 8 := (f2614 x 8 _ gx rfl)
      have k2623 : H2609 m 3 = H2560 m 3 := (f2614 m 3 _ gm rfl)
      have h2624 : XI T H2609 x m := (XI_fr w2564 gx f2614 rfl (XI_fr hW gx f2565 rfl hXI))
      exact WL.loc hX (by simp) (next T H2609 ⟨⟨w2613, g0, gx, gm, go, by omega, by omega⟩, h2624, by omega, by omega⟩ (by omega) (by omega))
set_option maxHeartbeats 4000000 in
theorem wl_c29 {kt : Nat → Option mc_E} {CB SB : Nat} {X : mc_S → Prop} {T : wq_T} {H : wq_H} {Len x m o : Nat} {i : Int} (hX : wlX kt CB SB X) (hb : T.2.1 ≤ CB ∧ T.2.2.1 ≤ SB) (hI : wlJ Len x m o T H) (hL : Len ≤ 3072) (hi : 0 ≤ i ∧ i + 6 ≤ Len) (hb2 : T.2.1 + 20 ≤ CB ∧ T.2.2.1 + 500 ≤ SB)  (next : ∀ T' H', wlJ Len x m o T' H' → T'.2.1 ≤ T.2.1 + 20 → T'.2.2.1 ≤ T.2.2.1 + 500 → WL kt CB SB X 1653 (wlL i x m o) [] T' H') : WL kt CB SB X 1109 (wlL i x m o) [] T H := by
  obtain ⟨⟨hW, g0, gx, gm, go, hK, hr⟩, hXI, hY1, hY2⟩ := hI
  refine wl_of hX hb cL_1109 (rw_aload_n (pc' := 1110) (v := .ref x) rfl rfl rfl ?_)
  refine wl_of hX hb cL_1110 (rw_aload_n (pc' := 1111) (v := .ref 0) rfl rfl rfl ?_)
  refine wl_of hX hb cL_1111 (rw_iload (pc' := 1113) (z := i) rfl rfl ?_)
  refine wl_of hX hb cL_1113 (rw_iconst (pc' := 1114) rfl ?_)
  refine wl_of hX hb cL_1114 (rw_iadd (pc' := 1115) rfl ?_)
  refine wl_of hX hb cL_1115 (xa_I (so := 0) (pc' := 1116) (a := 0) hW g0 (wsh_s _) (by omega) (wty_s _ _) (by omega) (by omega) rfl (fun b2625 b2626 => ?_))
  refine wl_of hX hb cL_1116 (rw_aload_n (pc' := 1117) (v := .ref 0) rfl rfl rfl ?_)
  refine wl_of hX hb cL_1117 (rw_iload (pc' := 1119) (z := i) rfl rfl ?_)
  refine wl_of hX hb cL_1119 (rw_iconst (pc' := 1120) rfl ?_)
  refine wl_of hX hb cL_1120 (rw_iadd (pc' := 1121) rfl ?_)
  refine wl_of hX hb cL_1121 (xa_I (so := 0) (pc' := 1122) (a := 0) hW g0 (wsh_s _) (by omega) (wty_s _ _) (by omega) (by omega) rfl (fun b2627 b2628 => ?_))
  refine wl_of hX hb cL_1122 (rw_if_eq (p1 := 1129) (p2 := 1125) (by decide) rfl ⟨by omega, by omega⟩ (fun c2629 => ?_) (fun c2629 => ?_))
  · refine wl_of hX hb cL_1129 (rw_iconst (pc' := 1130) rfl ?_)
    refine wl_of hX hb cL_1130 (xc_V (pc' := 1133) (r := x) (as := [vI (H 0 ((i + 1).toNat)), vI 0]) (st := []) (lm_11_143) rfl rfl (Nat.le_of_ble_eq_true rfl) hW gx sh_1 (by decide) rfl (by decide) (s_119 hW gx ⟨by omega, by omega⟩ ⟨by omega, by omega⟩) (fun R2630 T2631 H2632 p2633 => ?_))
    obtain ⟨e2634, w2636, f2637, z2638, e2635, b2639⟩ := p2633
    subst e2634
    subst e2635
    show WL _ _ _ _ 1133 [(4, vI i), (3, .ref o), (2, .ref m), (1, .ref x), (0, .ref 0)] [vI z2638] _ H2632
    refine wl_of hX hb cL_1133 (rw_pop (pc' := 1134) rfl rfl ?_)
    refine wl_of hX hb cL_1134 (rw_aload_n (pc' := 1135) (v := .ref m) rfl rfl rfl ?_)
    refine wl_of hX hb cL_1135 (rw_aload_n (pc' := 1136) (v := .ref 0) rfl rfl rfl ?_)
    refine wl_of hX hb cL_1136 (rw_iload (pc' := 1138) (z := i) rfl rfl ?_)
    refine wl_of hX hb cL_1138 (rw_iconst (pc' := 1139) rfl ?_)
    refine wl_of hX hb cL_1139 (rw_iadd (pc' := 1140) rfl ?_)
    have k2642 : H2632 0 ((i + 1).toNat) = H 0 ((i + 1).toNat) := (f2637 0 ((i + 1).toNat) _ g0 (wmem_s rfl))
    refine wl_of hX hb cL_1140 (xa_I (so := 0) (pc' := 1141) (a := 0) w2636 g0 (wsh_s _) (by omega) (wty_s _ _) (by omega) (by omega) rfl (fun b2640 b2641 => ?_))
    refine wl_of hX hb cL_1141 (rw_aload_n (pc' := 1142) (v := .ref 0) rfl rfl rfl ?_)
    refine wl_of hX hb cL_1142 (rw_iload (pc' := 1144) (z := i) rfl rfl ?_)
    refine wl_of hX hb cL_1144 (rw_iconst (pc' := 1145) rfl ?_)
    refine wl_of hX hb cL_1145 (rw_iadd (pc' := 1146) rfl ?_)
    have k2645 : H2632 0 ((i + 2).toNat) = H 0 ((i + 2).toNat) := (f2637 0 ((i + 2).toNat) _ g0 (wmem_s rfl))
    refine wl_of hX hb cL_1146 (xa_I (so := 0) (pc' := 1147) (a := 0) w2636 g0 (wsh_s _) (by omega) (wty_s _ _) (by omega) (by omega) rfl (fun b2643 b2644 => ?_))
    refine wl_of hX hb cL_1147 (rw_if_eq (p1 := 1154) (p2 := 1150) (by decide) rfl ⟨by omega, by omega⟩ (fun c2646 => ?_) (fun c2646 => ?_))
    · refine wl_of hX hb cL_1154 (rw_iconst (pc' := 1155) rfl ?_)
      have k2647 : wKI H2632 m = wKI H m := (wKI_fr hW gm f2637 rfl)
      have k2648 : H2632 x 9 = H x 9 := (f2637 x 9 _ gx rfl)
      have k2649 : H2632 m 6 = H m 6 := (f2637 m 6 _ gm rfl)
      have k2650 : H2632 x 11 = H x 11 := (f2637 x 11 _ gx rfl)
      have k2651 : H2632 m 13 = H m 13 := (f2637 m 13 _ gm rfl)
      have k2652 : H2632 x 8 = H x 8 := (f2637 x 8 _ gx rfl)
      have k2653 : H2632 m 3 = H m 3 := (f2637 m 3 _ gm rfl)
      refine wl_of hX hb cL_1155 (xc_V (pc' := 1158) (r := m) (as := [vI (H2632 0 ((i + 1).toNat)), vI 0]) (st := []) (lm_11_146) rfl rfl (Nat.le_of_ble_eq_true rfl) w2636 gm sh_42 (by decide) rfl (by decide) (s_265 w2636 gm ⟨by omega, by omega⟩ ⟨by omega, by omega⟩ (by omega)) (fun R2654 T2655 H2656 p2657 => ?_))
      obtain ⟨e2658, w2660, f2661, z2663, e2659, b2664, p2662⟩ := p2657
      subst e2658
      subst e2659
      show WL _ _ _ _ 1158 [(4, vI i), (3, .ref o), (2, .ref m), (1, .ref x), (0, .ref 0)] [vI z2663] _ H2656
      refine wl_of hX hb cL_1158 (rw_pop (pc' := 1159) rfl rfl ?_)
      refine wl_of hX hb cL_1159 (rw_goto (p1 := 1653) (by decide) ?_)
      have k2665 : H2656 x 9 = H2632 x 9 := (f2661 x 9 _ gx rfl)
      have k2666 : H2656 m 6 = H2632 m 6 := (f2661 m 6 _ gm rfl)
      have k2667 : H2656 x 11 = H2632 x 11 := (f2661 x 11 _ gx rfl)
      have k2668 : H2656 m 13 = H2632 m 13 := (f2661 m 13 _ gm rfl)
      have k2669 : H2656 x 8 = H2632 x 8 := (f2661 x 8 _ gx rfl)
      have k2670 : H2656 m 3 = H2632 m 3 := (f2661 m 3 _ gm rfl)
      have h2671 : XI T H2656 x m := (XI_fr w2636 gx f2661 rfl (XI_fr hW gx f2637 rfl hXI))
      exact WL.loc hX (by simp) (next T H2656 ⟨⟨w2660, g0, gx, gm, go, by omega, by omega⟩, h2671, by omega, by omega⟩ (by omega) (by omega))
    · exfalso
      omega
  · refine wl_of hX hb cL_1125 (rw_iconst (pc' := 1126) rfl ?_)
    refine wl_of hX hb cL_1126 (rw_goto (p1 := 1130) (by decide) ?_)
    refine wl_of hX hb cL_1130 (xc_V (pc' := 1133) (r := x) (as := [vI (H 0 ((i + 1).toNat)), vI 1]) (st := []) (lm_11_143) rfl rfl (Nat.le_of_ble_eq_true rfl) hW gx sh_1 (by decide) rfl (by decide) (s_119 hW gx ⟨by omega, by omega⟩ ⟨by omega, by omega⟩) (fun R2672 T2673 H2674 p2675 => ?_))
    obtain ⟨e2676, w2678, f2679, z2680, e2677, b2681⟩ := p2675
    subst e2676
    subst e2677
    show WL _ _ _ _ 1133 [(4, vI i), (3, .ref o), (2, .ref m), (1, .ref x), (0, .ref 0)] [vI z2680] _ H2674
    refine wl_of hX hb cL_1133 (rw_pop (pc' := 1134) rfl rfl ?_)
    refine wl_of hX hb cL_1134 (rw_aload_n (pc' := 1135) (v := .ref m) rfl rfl rfl ?_)
    refine wl_of hX hb cL_1135 (rw_aload_n (pc' := 1136) (v := .ref 0) rfl rfl rfl ?_)
    refine wl_of hX hb cL_1136 (rw_iload (pc' := 1138) (z := i) rfl rfl ?_)
    refine wl_of hX hb cL_1138 (rw_iconst (pc' := 1139) rfl ?_)
    refine wl_of hX hb cL_1139 (rw_iadd (pc' := 1140) rfl ?_)
    have k2684 : H2674 0 ((i + 1).toNat) = H 0 ((i + 1).toNat) := (f2679 0 ((i + 1).toNat) _ g0 (wmem_s rfl))
    refine wl_of hX hb cL_1140 (xa_I (so := 0) (pc' := 1141) (a := 0) w2678 g0 (wsh_s _) (by omega) (wty_s _ _) (by omega) (by omega) rfl (fun b2682 b2683 => ?_))
    refine wl_of hX hb cL_1141 (rw_aload_n (pc' := 1142) (v := .ref 0) rfl rfl rfl ?_)
    refine wl_of hX hb cL_1142 (rw_iload (pc' := 1144) (z := i) rfl rfl ?_)
    refine wl_of hX hb cL_1144 (rw_iconst (pc' := 1145) rfl ?_)
    refine wl_of hX hb cL_1145 (rw_iadd (pc' := 1146) rfl ?_)
    have k2687 : H2674 0 ((i + 2).toNat) = H 0 ((i + 2).toNat) := (f2679 0 ((i + 2).toNat) _ g0 (wmem_s rfl))
    refine wl_of hX hb cL_1146 (xa_I (so := 0) (pc' := 1147) (a := 0) w2678 g0 (wsh_s _) (by omega) (wty_s _ _) (by omega) (by omega) rfl (fun b2685 b2686 => ?_))
    refine wl_of hX hb cL_1147 (rw_if_eq (p1 := 1154) (p2 := 1150) (by decide) rfl ⟨by omega, by omega⟩ (fun c2688 => ?_) (fun c2688 => ?_))
    · refine wl_of hX hb cL_1154 (rw_iconst (pc' := 1155) rfl ?_)
      have k2689 : wKI H2674 m = wKI H m := (wKI_fr hW gm f2679 rfl)
      have k2690 : H2674 x 9 = H x 9 := (f2679 x 9 _ gx rfl)
      have k2691 : H2674 m 6 = H m 6 := (f2679 m 6 _ gm rfl)
      have k2692 : H2674 x 11 = H x 11 := (f2679 x 11 _ gx rfl)
      have k2693 : H2674 m 13 = H m 13 := (f2679 m 13 _ gm rfl)
      have k2694 : H2674 x 8 = H x 8 := (f2679 x 8 _ gx rfl)
      have k2695 : H2674 m 3 = H m 3 := (f2679 m 3 _ gm rfl)
      refine wl_of hX hb cL_1155 (xc_V (pc' := 1158) (r := m) (as := [vI (H2674 0 ((i + 1).toNat)), vI 0]) (st := []) (lm_11_146) rfl rfl (Nat.le_of_ble_eq_true rfl) w2678 gm sh_42 (by decide) rfl (by decide) (s_265 w2678 gm ⟨by omega, by omega⟩ ⟨by omega, by omega⟩ (by omega)) (fun R2696 T2697 H2698 p2699 => ?_))
      obtain ⟨e2700, w2702, f2703, z2705, e2701, b2706, p2704⟩ := p2699
      subst e2700
      subst e2701
      show WL _ _ _ _ 1158 [(4, vI i), (3, .ref o), (2, .ref m), (1, .ref x), (0, .ref 0)] [vI z2705] _ H2698
      refine wl_of hX hb cL_1158 (rw_pop (pc' := 1159) rfl rfl ?_)
      refine wl_of hX hb cL_1159 (rw_goto (p1 := 1653) (by decide) ?_)
      have k2707 : H2698 x 9 = H2674 x 9 := (f2703 x 9 _ gx rfl)
      have k2708 : H2698 m 6 = H2674 m 6 := (f2703 m 6 _ gm rfl)
      have k2709 : H2698 x 11 = H2674 x 11 := (f2703 x 11 _ gx rfl)
      have k2710 : H2698 m 13 = H2674 m 13 := (f2703 m 13 _ gm rfl)
      have k2711 : H2698 x 8 = H2674 x 8 := (f2703 x 8 _ gx rfl)
      have k2712 : H2698 m 3 = H2674 m 3 := (f2703 m 3 _ gm rfl)
      have h2713 : XI T H2698 x m := (XI_fr w2678 gx f2703 rfl (XI_fr hW gx f2679 rfl hXI))
      exact WL.loc hX (by simp) (next T H2698 ⟨⟨w2702, g0, gx, gm, go, by omega, by omega⟩, h2713, by omega, by omega⟩ (by omega) (by omega))
    · refine wl_of hX hb cL_1150 (rw_iconst (pc' := 1151) rfl ?_)
      refine wl_of hX hb cL_1151 (rw_goto (p1 := 1155) (by decide) ?_)
      have k2714 : wKI H2674 m = wKI H m := (wKI_fr hW gm f2679 rfl)
      have k2715 : H2674 x 9 = H x 9 := (f2679 x 9 _ gx rfl)
      have k2716 : H2674 m 6 = H m 6 := (f2679 m 6 _ gm rfl)
      have k2717 : H2674 x 11 = H x 11 := (f2679 x 11 _ gx rfl)
      have k2718 : H2674 m 13 = H m 13 := (f2679 m 13 _ gm rfl)
      have k2719 : H2674 x 8 = H x 8 := (f2679 x 8 _ gx rfl)
      have k2720 : H2674 m 3 = H m 3 := (f2679 m 3 _ gm rfl)
      refine wl_of hX hb cL_1155 (xc_V (pc' := 1158) (r := m) (as := [vI (H2674 0 ((i + 1).toNat)), vI 1]) (st := []) (lm_11_146) rfl rfl (Nat.le_of_ble_eq_true rfl) w2678 gm sh_42 (by decide) rfl (by decide) (s_265 w2678 gm ⟨by omega, by omega⟩ ⟨by omega, by omega⟩ (by omega)) (fun R2721 T2722 H2723 p2724 => ?_))
      obtain ⟨e2725, w2727, f2728, z2730, e2726, b2731, p2729⟩ := p2724
      subst e2725
      subst e2726
      show WL _ _ _ _ 1158 [(4, vI i), (3, .ref o), (2, .ref m), (1, .ref x), (0, .ref 0)] [vI z2730] _ H2723
      refine wl_of hX hb cL_1158 (rw_pop (pc' := 1159) rfl rfl ?_)
      refine wl_of hX hb cL_1159 (rw_goto (p1 := 1653) (by decide) ?_)
      have k2732 : H2723 x 9 = H2674 x 9 := (f2728 x 9 _ gx rfl)
      have k2733 : H2723 m 6 = H2674 m 6 := (f2728 m 6 _ gm rfl)
      have k2734 : H2723 x 11 = H2674 x 11 := (f2728 x 11 _ gx rfl)
      have k2735 : H2723 m 13 = H2674 m 13 := (f2728 m 13 _ gm rfl)
      have k2736 : H2723 x 8 = H2674 x 8 := (f2728 x 8 _ gx rfl)
      have k2737 : H2723 m 3 = H2674 m 3 := (f2728 m 3 _ gm rfl)
      have h2738 : XI T H2723 x m := (XI_fr w2678 gx f2728 rfl (XI_fr hW gx f2679 rfl hXI))
      exact WL.loc hX (by simp) (next T H2723 ⟨⟨w2727, g0, gx, gm, go, by omega, by omega⟩, h2738, by omega, by omega⟩ (by omega) (by omega))
set_option maxHeartbeats 4000000 in
theorem wl_c30 {kt : Nat → Option mc_E} {CB SB : Nat} {X : mc_S → Prop} {T : wq_T} {H : wq_H} {Len x m o : Nat} {i : Int} (hX : wlX kt CB SB X) (hb : T.2.1 ≤ CB ∧ T.2.2.1 ≤ SB) (hI : wlJ Len x m o T H) (hL : Len ≤ 3072) (hi : 0 ≤ i ∧ i + 6 ≤ Len) (hb2 : T.2.1 + 20 ≤ CB ∧ T.2.2.1 + 500 ≤ SB)  (next : ∀ T' H', wlJ Len x m o T' H' → T'.2.1 ≤ T.2.1 + 20 → T'.2.2.1 ≤ T.2.2.1 + 500 → WL kt CB SB X 1653 (wlL i x m o) [] T' H') : WL kt CB SB X 1162 (wlL i x m o) [] T H := by
  obtain ⟨⟨hW, g0, gx, gm, go, hK, hr⟩, hXI, hY1, hY2⟩ := hI
  refine wl_of hX hb cL_1162 (rw_aload_n (pc' := 1163) (v := .ref x) rfl rfl rfl ?_)
  refine wl_of hX hb cL_1163 (xc_V (pc' := 1166) (r := x) (as := []) (st := []) (lm_11_147) rfl rfl (Nat.le_of_ble_eq_true rfl) hW gx sh_1 (by decide) rfl (by decide) (s_120 hW gx) (fun R2739 T2740 H2741 p2742 => ?_))
  obtain ⟨e2743, w2745, f2746, z2747, e2744, b2748⟩ := p2742
  subst e2743
  subst e2744
  show WL _ _ _ _ 1166 [(4, vI i), (3, .ref o), (2, .ref m), (1, .ref x), (0, .ref 0)] [vI z2747] _ H2741
  refine wl_of hX hb cL_1166 (rw_pop (pc' := 1167) rfl rfl ?_)
  refine wl_of hX hb cL_1167 (rw_aload_n (pc' := 1168) (v := .ref m) rfl rfl rfl ?_)
  have k2749 : wKI H2741 m = wKI H m := (wKI_fr hW gm f2746 rfl)
  have k2750 : H2741 x 9 = H x 9 := (f2746 x 9 _ gx rfl)
  have k2751 : H2741 m 6 = H m 6 := (f2746 m 6 _ gm rfl)
  have k2752 : H2741 x 11 = H x 11 := (f2746 x 11 _ gx rfl)
  have k2753 : H2741 m 13 = H m 13 := (f2746 m 13 _ gm rfl)
  have k2754 : H2741 x 8 = H x 8 := (f2746 x 8 _ gx rfl)
  have k2755 : H2741 m 3 = H m 3 := (f2746 m 3 _ gm rfl)
  refine wl_of hX hb cL_1168 (xc_V (pc' := 1171) (r := m) (as := []) (st := []) (lm_11_150) rfl rfl (Nat.le_of_ble_eq_true rfl) w2745 gm sh_42 (by decide) rfl (by decide) (s_266 w2745 gm (by omega)) (fun R2756 T2757 H2758 p2759 => ?_))
  obtain ⟨e2760, w2762, f2763, z2765, e2761, b2766, p2764⟩ := p2759
  subst e2760
  subst e2761
  show WL _ _ _ _ 1171 [(4, vI i), (3, .ref o), (2, .ref m), (1, .ref x), (0, .ref 0)] [vI z2765] _ H2758
  refine wl_of hX hb cL_1171 (rw_pop (pc' := 1172) rfl rfl ?_)
  refine wl_of hX hb cL_1172 (rw_goto (p1 := 1653) (by decide) ?_)
  have k2767 : H2758 x 9 = H2741 x 9 := (f2763 x 9 _ gx rfl)
  have k2768 : H2758 m 6 = H2741 m 6 := (f2763 m 6 _ gm rfl)
  have k2769 : H2758 x 11 = H2741 x 11 := (f2763 x 11 _ gx rfl)
  have k2770 : H2758 m 13 = H2741 m 13 := (f2763 m 13 _ gm rfl)
  have k2771 : H2758 x 8 = H2741 x 8 := (f2763 x 8 _ gx rfl)
  have k2772 : H2758 m 3 = H2741 m 3 := (f2763 m 3 _ gm rfl)
  have h2773 : XI T H2758 x m := (XI_fr w2745 gx f2763 rfl (XI_fr hW gx f2746 rfl hXI))
  exact WL.loc hX (by simp) (next T H2758 ⟨⟨w2762, g0, gx, gm, go, by omega, by omega⟩, h2773, by omega, by omega⟩ (by omega) (by omega))
set_option maxHeartbeats 4000000 in
theorem wl_c31 {kt : Nat → Option mc_E} {CB SB : Nat} {X : mc_S → Prop} {T : wq_T} {H : wq_H} {Len x m o : Nat} {i : Int} (hX : wlX kt CB SB X) (hb : T.2.1 ≤ CB ∧ T.2.2.1 ≤ SB) (hI : wlJ Len x m o T H) (hL : Len ≤ 3072) (hi : 0 ≤ i ∧ i + 6 ≤ Len) (hb2 : T.2.1 + 20 ≤ CB ∧ T.2.2.1 + 500 ≤ SB)  (next : ∀ T' H', wlJ Len x m o T' H' → T'.2.1 ≤ T.2.1 + 20 → T'.2.2.1 ≤ T.2.2.1 + 500 → WL kt CB SB X 1653 (wlL i x m o) [] T' H') : WL kt CB SB X 1175 (wlL i x m o) [] T H := by
  obtain ⟨⟨hW, g0, gx, gm, go, hK, hr⟩, hXI, hY1, hY2⟩ := hI
  refine wl_of hX hb cL_1175 (rw_aload_n (pc' := 1176) (v := .ref x) rfl rfl rfl ?_)
  refine wl_of hX hb cL_1176 (rw_aload_n (pc' := 1177) (v := .ref 0) rfl rfl rfl ?_)
  refine wl_of hX hb cL_1177 (rw_iload (pc' := 1179) (z := i) rfl rfl ?_)
  refine wl_of hX hb cL_1179 (rw_iconst (pc' := 1180) rfl ?_)
  refine wl_of hX hb cL_1180 (rw_iadd (pc' := 1181) rfl ?_)
  refine wl_of hX hb cL_1181 (xa_I (so := 0) (pc' := 1182) (a := 0) hW g0 (wsh_s _) (by omega) (wty_s _ _) (by omega) (by omega) rfl (fun b2774 b2775 => ?_))
  refine wl_of hX hb cL_1182 (xc_V (pc' := 1185) (r := x) (as := [vI (H 0 ((i + 1).toNat))]) (st := []) (lm_11_151) rfl rfl (Nat.le_of_ble_eq_true rfl) hW gx sh_1 (by decide) rfl (by decide) (s_130 hW gx ⟨by omega, by omega⟩) (fun R2776 T2777 H2778 p2779 => ?_))
  obtain ⟨e2780, w2782, f2783, z2784, e2781, b2785⟩ := p2779
  subst e2780
  subst e2781
  show WL _ _ _ _ 1185 [(4, vI i), (3, .ref o), (2, .ref m), (1, .ref x), (0, .ref 0)] [vI z2784] _ H2778
  refine wl_of hX hb cL_1185 (rw_pop (pc' := 1186) rfl rfl ?_)
  refine wl_of hX hb cL_1186 (rw_aload_n (pc' := 1187) (v := .ref m) rfl rfl rfl ?_)
  refine wl_of hX hb cL_1187 (rw_aload_n (pc' := 1188) (v := .ref 0) rfl rfl rfl ?_)
  refine wl_of hX hb cL_1188 (rw_iload (pc' := 1190) (z := i) rfl rfl ?_)
  refine wl_of hX hb cL_1190 (rw_iconst (pc' := 1191) rfl ?_)
  refine wl_of hX hb cL_1191 (rw_iadd (pc' := 1192) rfl ?_)
  have k2788 : H2778 0 ((i + 1).toNat) = H 0 ((i + 1).toNat) := (f2783 0 ((i + 1).toNat) _ g0 (wmem_s rfl))
  refine wl_of hX hb cL_1192 (xa_I (so := 0) (pc' := 1193) (a := 0) w2782 g0 (wsh_s _) (by omega) (wty_s _ _) (by omega) (by omega) rfl (fun b2786 b2787 => ?_))
  have k2789 : wKI H2778 m = wKI H m := (wKI_fr hW gm f2783 rfl)
  have k2790 : H2778 x 9 = H x 9 := (f2783 x 9 _ gx rfl)
  have k2791 : H2778 m 6 = H m 6 := (f2783 m 6 _ gm rfl)
  have k2792 : H2778 x 11 = H x 11 := (f2783 x 11 _ gx rfl)
  have k2793 : H2778 m 13 = H m 13 := (f2783 m 13 _ gm rfl)
  have k2794 : H2778 x 8 = H x 8 := (f2783 x 8 _ gx rfl)
  have k2795 : H2778 m 3 = H m 3 := (f2783 m 3 _ gm rfl)
  refine wl_of hX hb cL_1193 (xc_V (pc' := 1196) (r := m) (as := [vI (H2778 0 ((i + 1).toNat))]) (st := []) (lm_11_154) rfl rfl (Nat.le_of_ble_eq_true rfl) w2782 gm sh_42 (by decide) rfl (by decide) (s_271 w2782 gm ⟨by omega, by omega⟩ (by omega)) (fun R2796 T2797 H2798 p2799 => ?_))
  obtain ⟨e2800, w2802, f2803, z2805, e2801, b2806, p2804⟩ := p2799
  subst e2800
  subst e2801
  show WL _ _ _ _ 1196 [(4, vI i), (3, .ref o), (2, .ref m), (1, .ref x), (0, .ref 0)] [vI z2805] _ H2798
  refine wl_of hX hb cL_1196 (rw_pop (pc' := 1197) rfl rfl ?_)
  refine wl_of hX hb cL_1197 (rw_goto (p1 := 1653) (by decide) ?_)
  have k2807 : H2798 x 9 = H2778 x 9 := (f2803 x 9 _ gx rfl)
  have k2808 : H2798 m 6 = H2778 m 6 := (f2803 m 6 _ gm rfl)
  have k2809 : H2798 x 11 = H2778 x 11 := (f2803 x 11 _ gx rfl)
  have k2810 : H2798 m 13 = H2778 m 13 := (f2803 m 13 _ gm rfl)
  have k2811 : H2798 x 8 = H2778 x 8 := (f2803 x 8 _ gx rfl)
  have k2812 : H2798 m 3 = H2778 m 3 := (f2803 m 3 _ gm rfl)
  have h2813 : XI T H2798 x m := (XI_fr w2782 gx f2803 rfl (XI_fr hW gx f2783 rfl hXI))
  exact WL.loc hX (by simp) (next T H2798 ⟨⟨w2802, g0, gx, gm, go, by omega, by omega⟩, h2813, by omega, by omega⟩ (by omega) (by omega))
set_option maxHeartbeats 4000000 in
theorem wl_c32 {kt : Nat → Option mc_E} {CB SB : Nat} {X : mc_S → Prop} {T : wq_T} {H : wq_H} {Len x m o : Nat} {i : Int} (hX : wlX kt CB SB X) (hb : T.2.1 ≤ CB ∧ T.2.2.1 ≤ SB) (hI : wlJ Len x m o T H) (hL : Len ≤ 3072) (hi : 0 ≤ i ∧ i + 6 ≤ Len) (hb2 : T.2.1 + 20 ≤ CB ∧ T.2.2.1 + 500 ≤ SB)  (next : ∀ T' H', wlJ Len x m o T' H' → T'.2.1 ≤ T.2.1 + 20 → T'.2.2.1 ≤ T.2.2.1 + 500 → WL kt CB SB X 1653 (wlL i x m o) [] T' H') : WL kt CB SB X 1200 (wlL i x m o) [] T H := by
  obtain ⟨⟨hW, g0, gx, gm, go, hK, hr⟩, hXI, hY1, hY2⟩ := hI
  refine wl_of hX hb cL_1200 (rw_aload_n (pc' := 1201) (v := .ref x) rfl rfl rfl ?_)
  refine wl_of hX hb cL_1201 (rw_aload_n (pc' := 1202) (v := .ref 0) rfl rfl rfl ?_)
  refine wl_of hX hb cL_1202 (rw_iload (pc' := 1204) (z := i) rfl rfl ?_)
  refine wl_of hX hb cL_1204 (rw_iconst (pc' := 1205) rfl ?_)
  refine wl_of hX hb cL_1205 (rw_iadd (pc' := 1206) rfl ?_)
  refine wl_of hX hb cL_1206 (xa_I (so := 0) (pc' := 1207) (a := 0) hW g0 (wsh_s _) (by omega) (wty_s _ _) (by omega) (by omega) rfl (fun b2814 b2815 => ?_))
  refine wl_of hX hb cL_1207 (xc_V (pc' := 1210) (r := x) (as := [vI (H 0 ((i + 1).toNat))]) (st := []) (lm_11_155) rfl rfl (Nat.le_of_ble_eq_true rfl) hW gx sh_1 (by decide) rfl (by decide) (s_132 hW gx ⟨by omega, by omega⟩) (fun R2816 T2817 H2818 p2819 => ?_))
  obtain ⟨e2820, w2822, f2823, z2824, e2821, b2825⟩ := p2819
  subst e2820
  subst e2821
  show WL _ _ _ _ 1210 [(4, vI i), (3, .ref o), (2, .ref m), (1, .ref x), (0, .ref 0)] [vI z2824] _ H2818
  refine wl_of hX hb cL_1210 (rw_pop (pc' := 1211) rfl rfl ?_)
  refine wl_of hX hb cL_1211 (rw_aload_n (pc' := 1212) (v := .ref m) rfl rfl rfl ?_)
  refine wl_of hX hb cL_1212 (rw_aload_n (pc' := 1213) (v := .ref 0) rfl rfl rfl ?_)
  refine wl_of hX hb cL_1213 (rw_iload (pc' := 1215) (z := i) rfl rfl ?_)
  refine wl_of hX hb cL_1215 (rw_iconst (pc' := 1216) rfl ?_)
  refine wl_of hX hb cL_1216 (rw_iadd (pc' := 1217) rfl ?_)
  have k2828 : H2818 0 ((i + 1).toNat) = H 0 ((i + 1).toNat) := (f2823 0 ((i + 1).toNat) _ g0 (wmem_s rfl))
  refine wl_of hX hb cL_1217 (xa_I (so := 0) (pc' := 1218) (a := 0) w2822 g0 (wsh_s _) (by omega) (wty_s _ _) (by omega) (by omega) rfl (fun b2826 b2827 => ?_))
  have k2829 : wKI H2818 m = wKI H m := (wKI_fr hW gm f2823 rfl)
  have k2830 : H2818 x 9 = H x 9 := (f2823 x 9 _ gx rfl)
  have k2831 : H2818 m 6 = H m 6 := (f2823 m 6 _ gm rfl)
  have k2832 : H2818 x 11 = H x 11 := (f2823 x 11 _ gx rfl)
  have k2833 : H2818 m 13 = H m 13 := (f2823 m 13 _ gm rfl)
  have k2834 : H2818 x 8 = H x 8 := (f2823 x 8 _ gx rfl)
  have k2835 : H2818 m 3 = H m 3 := (f2823 m 3 _ gm rfl)
  refine wl_of hX hb cL_1218 (xc_V (pc' := 1221) (r := m) (as := [vI (H2818 0 ((i + 1).toNat))]) (st := []) (lm_11_158) rfl rfl (Nat.le_of_ble_eq_true rfl) w2822 gm sh_42 (by decide) rfl (by decide) (s_272 w2822 gm ⟨by omega, by omega⟩ (by omega)) (fun R2836 T2837 H2838 p2839 => ?_))
  obtain ⟨e2840, w2842, f2843, z2845, e2841, b2846, p2844⟩ := p2839
  subst e2840
  subst e2841
  show WL _ _ _ _ 1221 [(4, vI i), (3, .ref o), (2, .ref m), (1, .ref x), (0, .ref 0)] [vI z2845] _ H2838
  refine wl_of hX hb cL_1221 (rw_pop (pc' := 1222) rfl rfl ?_)
  refine wl_of hX hb cL_1222 (rw_goto (p1 := 1653) (by decide) ?_)
  have k2847 : H2838 x 9 = H2818 x 9 := (f2843 x 9 _ gx rfl)
  have k2848 : H2838 m 6 = H2818 m 6 := (f2843 m 6 _ gm rfl)
  have k2849 : H2838 x 11 = H2818 x 11 := (f2843 x 11 _ gx rfl)
  have k2850 : H2838 m 13 = H2818 m 13 := (f2843 m 13 _ gm rfl)
  have k2851 : H2838 x 8 = H2818 x 8 := (f2843 x 8 _ gx rfl)
  have k2852 : H2838 m 3 = H2818 m 3 := (f2843 m 3 _ gm rfl)
  have h2853 : XI T H2838 x m := (XI_fr w2822 gx f2843 rfl (XI_fr hW gx f2823 rfl hXI))
  exact WL.loc hX (by simp) (next T H2838 ⟨⟨w2842, g0, gx, gm, go, by omega, by omega⟩, h2853, by omega, by omega⟩ (by omega) (by omega))
set_option maxHeartbeats 4000000 in
theorem wl_c33 {kt : Nat → Option mc_E} {CB SB : Nat} {X : mc_S → Prop} {T : wq_T} {H : wq_H} {Len x m o : Nat} {i : Int} (hX : wlX kt CB SB X) (hb : T.2.1 ≤ CB ∧ T.2.2.1 ≤ SB) (hI : wlJ Len x m o T H) (hL : Len ≤ 3072) (hi : 0 ≤ i ∧ i + 6 ≤ Len) (hb2 : T.2.1 + 20 ≤ CB ∧ T.2.2.1 + 500 ≤ SB)  (next : ∀ T' H', wlJ Len x m o T' H' → T'.2.1 ≤ T.2.1 + 20 → T'.2.2.1 ≤ T.2.2.1 + 500 → WL kt CB SB X 1653 (wlL i x m o) [] T' H') : WL kt CB SB X 1225 (wlL i x m o) [] T H := by
  obtain ⟨⟨hW, g0, gx, gm, go, hK, hr⟩, hXI, hY1, hY2⟩ := hI
  refine wl_of hX hb cL_1225 (rw_aload_n (pc' := 1226) (v := .ref x) rfl rfl rfl ?_)
  refine wl_of hX hb cL_1226 (rw_aload_n (pc' := 1227) (v := .ref 0) rfl rfl rfl ?_)
  refine wl_of hX hb cL_1227 (rw_iload (pc' := 1229) (z := i) rfl rfl ?_)
  refine wl_of hX hb cL_1229 (rw_iconst (pc' := 1230) rfl ?_)
  refine wl_of hX hb cL_1230 (rw_iadd (pc' := 1231) rfl ?_)
  refine wl_of hX hb cL_1231 (xa_I (so := 0) (pc' := 1232) (a := 0) hW g0 (wsh_s _) (by omega) (wty_s _ _) (by omega) (by omega) rfl (fun b2854 b2855 => ?_))
  refine wl_of hX hb cL_1232 (xc_V (pc' := 1235) (r := x) (as := [vI (H 0 ((i + 1).toNat))]) (st := []) (lm_11_159) rfl rfl (Nat.le_of_ble_eq_true rfl) hW gx sh_1 (by decide) rfl (by decide) (s_135 hW gx ⟨by omega, by omega⟩) (fun R2856 T2857 H2858 p2859 => ?_))
  obtain ⟨e2860, w2862, f2863, z2864, e2861, b2865⟩ := p2859
  subst e2860
  subst e2861
  show WL _ _ _ _ 1235 [(4, vI i), (3, .ref o), (2, .ref m), (1, .ref x), (0, .ref 0)] [vI z2864] _ H2858
  refine wl_of hX hb cL_1235 (rw_pop (pc' := 1236) rfl rfl ?_)
  refine wl_of hX hb cL_1236 (rw_aload_n (pc' := 1237) (v := .ref m) rfl rfl rfl ?_)
  refine wl_of hX hb cL_1237 (rw_aload_n (pc' := 1238) (v := .ref 0) rfl rfl rfl ?_)
  refine wl_of hX hb cL_1238 (rw_iload (pc' := 1240) (z := i) rfl rfl ?_)
  refine wl_of hX hb cL_1240 (rw_iconst (pc' := 1241) rfl ?_)
  refine wl_of hX hb cL_1241 (rw_iadd (pc' := 1242) rfl ?_)
  have k2868 : H2858 0 ((i + 1).toNat) = H 0 ((i + 1).toNat) := (f2863 0 ((i + 1).toNat) _ g0 (wmem_s rfl))
  refine wl_of hX hb cL_1242 (xa_I (so := 0) (pc' := 1243) (a := 0) w2862 g0 (wsh_s _) (by omega) (wty_s _ _) (by omega) (by omega) rfl (fun b2866 b2867 => ?_))
  have k2869 : wKI H2858 m = wKI H m := (wKI_fr hW gm f2863 rfl)
  have k2870 : H2858 x 9 = H x 9 := (f2863 x 9 _ gx rfl)
  have k2871 : H2858 m 6 = H m 6 := (f2863 m 6 _ gm rfl)
  have k2872 : H2858 x 11 = H x 11 := (f2863 x 11 _ gx rfl)
  have k2873 : H2858 m 13 = H m 13 := (f2863 m 13 _ gm rfl)
  have k2874 : H2858 x 8 = H x 8 := (f2863 x 8 _ gx rfl)
  have k2875 : H2858 m 3 = H m 3 := (f2863 m 3 _ gm rfl)
  refine wl_of hX hb cL_1243 (xc_V (pc' := 1246) (r := m) (as := [vI (H2858 0 ((i + 1).toNat))]) (st := []) (lm_11_162) rfl rfl (Nat.le_of_ble_eq_true rfl) w2862 gm sh_42 (by decide) rfl (by decide) (s_275 w2862 gm ⟨by omega, by omega⟩ (by omega)) (fun R2876 T2877 H2878 p2879 => ?_))
  obtain ⟨e2880, w2882, f2883, z2885, e2881, b2886, p2884⟩ := p2879
  subst e2880
  subst e2881
  show WL _ _ _ _ 1246 [(4, vI i), (3, .ref o), (2, .ref m), (1, .ref x), (0, .ref 0)] [vI z2885] _ H2878
  refine wl_of hX hb cL_1246 (rw_pop (pc' := 1247) rfl rfl ?_)
  refine wl_of hX hb cL_1247 (rw_goto (p1 := 1653) (by decide) ?_)
  have k2887 : H2878 x 9 = H2858 x 9 := (f2883 x 9 _ gx rfl)
  have k2888 : H2878 m 6 = H2858 m 6 := (f2883 m 6 _ gm rfl)
  have k2889 : H2878 x 11 = H2858 x 11 := (f2883 x 11 _ gx rfl)
  have k2890 : H2878 m 13 = H2858 m 13 := (f2883 m 13 _ gm rfl)
  have k2891 : H2878 x 8 = H2858 x 8 := (f2883 x 8 _ gx rfl)
  have k2892 : H2878 m 3 = H2858 m 3 := (f2883 m 3 _ gm rfl)
  have h2893 : XI T H2878 x m := (XI_fr w2862 gx f2883 rfl (XI_fr hW gx f2863 rfl hXI))
  exact WL.loc hX (by simp) (next T H2878 ⟨⟨w2882, g0, gx, gm, go, by omega, by omega⟩, h2893, by omega, by omega⟩ (by omega) (by omega))
set_option maxHeartbeats 4000000 in
theorem wl_c34 {kt : Nat → Option mc_E} {CB SB : Nat} {X : mc_S → Prop} {T : wq_T} {H : wq_H} {Len x m o : Nat} {i : Int} (hX : wlX kt CB SB X) (hb : T.2.1 ≤ CB ∧ T.2.2.1 ≤ SB) (hI : wlJ Len x m o T H) (hL : Len ≤ 3072) (hi : 0 ≤ i ∧ i + 6 ≤ Len) (hb2 : T.2.1 + 20 ≤ CB ∧ T.2.2.1 + 500 ≤ SB)  (next : ∀ T' H', wlJ Len x m o T' H' → T'.2.1 ≤ T.2.1 + 20 → T'.2.2.1 ≤ T.2.2.1 + 500 → WL kt CB SB X 1653 (wlL i x m o) [] T' H') : WL kt CB SB X 1250 (wlL i x m o) [] T H := by
  obtain ⟨⟨hW, g0, gx, gm, go, hK, hr⟩, hXI, hY1, hY2⟩ := hI
  refine wl_of hX hb cL_1250 (rw_aload_n (pc' := 1251) (v := .ref x) rfl rfl rfl ?_)
  refine wl_of hX hb cL_1251 (xc_V (pc' := 1254) (r := x) (as := []) (st := []) (lm_11_163) rfl rfl (Nat.le_of_ble_eq_true rfl) hW gx sh_1 (by decide) rfl (by decide) (s_137 hW gx) (fun R2894 T2895 H2896 p2897 => ?_))
  obtain ⟨e2898, w2900, f2901, z2902, e2899, b2903⟩ := p2897
  subst e2898
  subst e2899
  show WL _ _ _ _ 1254 [(4, vI i), (3, .ref o), (2, .ref m), (1, .ref x), (0, .ref 0)] [vI z2902] _ H2896
  refine wl_of hX hb cL_1254 (rw_pop (pc' := 1255) rfl rfl ?_)
  refine wl_of hX hb cL_1255 (rw_aload_n (pc' := 1256) (v := .ref m) rfl rfl rfl ?_)
  have k2904 : wKI H2896 m = wKI H m := (wKI_fr hW gm f2901 rfl)
  have k2905 : H2896 x 9 = H x 9 := (f2901 x 9 _ gx rfl)
  have k2906 : H2896 m 6 = H m 6 := (f2901 m 6 _ gm rfl)
  have k2907 : H2896 x 11 = H x 11 := (f2901 x 11 _ gx rfl)
  have k2908 : H2896 m 13 = H m 13 := (f2901 m 13 _ gm rfl)
  have k2909 : H2896 x 8 = H x 8 := (f2901 x 8 _ gx rfl)
  have k2910 : H2896 m 3 = H m 3 := (f2901 m 3 _ gm rfl)
  refine wl_of hX hb cL_1256 (xc_V (pc' := 1259) (r := m) (as := []) (st := []) (lm_11_166) rfl rfl (Nat.le_of_ble_eq_true rfl) w2900 gm sh_42 (by decide) rfl (by decide) (s_276 w2900 gm (by omega)) (fun R2911 T2912 H2913 p2914 => ?_))
  obtain ⟨e2915, w2917, f2918, z2920, e2916, b2921, p2919⟩ := p2914
  subst e2915
  subst e2916
  show WL _ _ _ _ 1259 [(4, vI i), (3, .ref o), (2, .ref m), (1, .ref x), (0, .ref 0)] [vI z2920] _ H2913
  refine wl_of hX hb cL_1259 (rw_pop (pc' := 1260) rfl rfl ?_)
  refine wl_of hX hb cL_1260 (rw_goto (p1 := 1653) (by decide) ?_)
  have k2922 : H2913 x 9 = H2896 x 9 := (f2918 x 9 _ gx rfl)
  have k2923 : H2913 m 6 = H2896 m 6 := (f2918 m 6 _ gm rfl)
  have k2924 : H2913 x 11 = H2896 x 11 := (f2918 x 11 _ gx rfl)
  have k2925 : H2913 m 13 = H2896 m 13 := (f2918 m 13 _ gm rfl)
  have k2926 : H2913 x 8 = H2896 x 8 := (f2918 x 8 _ gx rfl)
  have k2927 : H2913 m 3 = H2896 m 3 := (f2918 m 3 _ gm rfl)
  have h2928 : XI T H2913 x m := (XI_fr w2900 gx f2918 rfl (XI_fr hW gx f2901 rfl hXI))
  exact WL.loc hX (by simp) (next T H2913 ⟨⟨w2917, g0, gx, gm, go, by omega, by omega⟩, h2928, by omega, by omega⟩ (by omega) (by omega))
set_option maxHeartbeats 4000000 in
theorem wl_c35 {kt : Nat → Option mc_E} {CB SB : Nat} {X : mc_S → Prop} {T : wq_T} {H : wq_H} {Len x m o : Nat} {i : Int} (hX : wlX kt CB SB X) (hb : T.2.1 ≤ CB ∧ T.2.2.1 ≤ SB) (hI : wlJ Len x m o T H) (hL : Len ≤ 3072) (hi : 0 ≤ i ∧ i + 6 ≤ Len) (hb2 : T.2.1 + 20 ≤ CB ∧ T.2.2.1 + 500 ≤ SB)  (next : ∀ T' H', wlJ Len x m o T' H' → T'.2.1 ≤ T.2.1 + 20 → T'.2.2.1 ≤ T.2.2.1 + 500 → WL kt CB SB X 1653 (wlL i x m o) [] T' H') : WL kt CB SB X 1263 (wlL i x m o) [] T H := by
  obtain ⟨⟨hW, g0, gx, gm, go, hK, hr⟩, hXI, hY1, hY2⟩ := hI
  refine wl_of hX hb cL_1263 (rw_aload_n (pc' := 1264) (v := .ref x) rfl rfl rfl ?_)
  refine wl_of hX hb cL_1264 (rw_aload_n (pc' := 1265) (v := .ref 0) rfl rfl rfl ?_)
  refine wl_of hX hb cL_1265 (rw_iload (pc' := 1267) (z := i) rfl rfl ?_)
  refine wl_of hX hb cL_1267 (rw_iconst (pc' := 1268) rfl ?_)
  refine wl_of hX hb cL_1268 (rw_iadd (pc' := 1269) rfl ?_)
  refine wl_of hX hb cL_1269 (xa_I (so := 0) (pc' := 1270) (a := 0) hW g0 (wsh_s _) (by omega) (wty_s _ _) (by omega) (by omega) rfl (fun b2929 b2930 => ?_))
  refine wl_of hX hb cL_1270 (rw_aload_n (pc' := 1271) (v := .ref 0) rfl rfl rfl ?_)
  refine wl_of hX hb cL_1271 (rw_iload (pc' := 1273) (z := i) rfl rfl ?_)
  refine wl_of hX hb cL_1273 (rw_iconst (pc' := 1274) rfl ?_)
  refine wl_of hX hb cL_1274 (rw_iadd (pc' := 1275) rfl ?_)
  refine wl_of hX hb cL_1275 (xa_I (so := 0) (pc' := 1276) (a := 0) hW g0 (wsh_s _) (by omega) (wty_s _ _) (by omega) (by omega) rfl (fun b2931 b2932 => ?_))
  refine wl_of hX hb cL_1276 (rw_if_eq (p1 := 1283) (p2 := 1279) (by decide) rfl ⟨by omega, by omega⟩ (fun c2933 => ?_) (fun c2933 => ?_))
  · refine wl_of hX hb cL_1283 (rw_iconst (pc' := 1284) rfl ?_)
    refine wl_of hX hb cL_1284 (xc_V (pc' := 1287) (r := x) (as := [vI (H 0 ((i + 1).toNat)), vI 0]) (st := []) (lm_11_167) rfl rfl (Nat.le_of_ble_eq_true rfl) hW gx sh_1 (by decide) rfl (by decide) (s_146 hW gx ⟨by omega, by omega⟩ ⟨by omega, by omega⟩) (fun R2934 T2935 H2936 p2937 => ?_))
    obtain ⟨e2938, w2940, f2941, z2942, e2939, b2943⟩ := p2937
    subst e2938
    subst e2939
    show WL _ _ _ _ 1287 [(4, vI i), (3, .ref o), (2, .ref m), (1, .ref x), (0, .ref 0)] [vI z2942] _ H2936
    refine wl_of hX hb cL_1287 (rw_pop (pc' := 1288) rfl rfl ?_)
    refine wl_of hX hb cL_1288 (rw_aload_n (pc' := 1289) (v := .ref m) rfl rfl rfl ?_)
    refine wl_of hX hb cL_1289 (rw_aload_n (pc' := 1290) (v := .ref 0) rfl rfl rfl ?_)
    refine wl_of hX hb cL_1290 (rw_iload (pc' := 1292) (z := i) rfl rfl ?_)
    refine wl_of hX hb cL_1292 (rw_iconst (pc' := 1293) rfl ?_)
    refine wl_of hX hb cL_1293 (rw_iadd (pc' := 1294) rfl ?_)
    have k2946 : H2936 0 ((i + 1).toNat) = H 0 ((i + 1).toNat) := (f2941 0 ((i + 1).toNat) _ g0 (wmem_s rfl))
    refine wl_of hX hb cL_1294 (xa_I (so := 0) (pc' := 1295) (a := 0) w2940 g0 (wsh_s _) (by omega) (wty_s _ _) (by omega) (by omega) rfl (fun b2944 b2945 => ?_))
    refine wl_of hX hb cL_1295 (rw_aload_n (pc' := 1296) (v := .ref 0) rfl rfl rfl ?_)
    refine wl_of hX hb cL_1296 (rw_iload (pc' := 1298) (z := i) rfl rfl ?_)
    refine wl_of hX hb cL_1298 (rw_iconst (pc' := 1299) rfl ?_)
    refine wl_of hX hb cL_1299 (rw_iadd (pc' := 1300) rfl ?_)
    have k2949 : H2936 0 ((i + 2).toNat) = H 0 ((i + 2).toNat) := (f2941 0 ((i + 2).toNat) _ g0 (wmem_s rfl))
    refine wl_of hX hb cL_1300 (xa_I (so := 0) (pc' := 1301) (a := 0) w2940 g0 (wsh_s _) (by omega) (wty_s _ _) (by omega) (by omega) rfl (fun b2947 b2948 => ?_))
    refine wl_of hX hb cL_1301 (rw_if_eq (p1 := 1308) (p2 := 1304) (by decide) rfl ⟨by omega, by omega⟩ (fun c2950 => ?_) (fun c2950 => ?_))
    · refine wl_of hX hb cL_1308 (rw_iconst (pc' := 1309) rfl ?_)
      have k2951 : wKI H2936 m = wKI H m := (wKI_fr hW gm f2941 rfl)
      have k2952 : H2936 x 9 = H x 9 := (f2941 x 9 _ gx rfl)
      have k2953 : H2936 m 6 = H m 6 := (f2941 m 6 _ gm rfl)
      have k2954 : H2936 x 11 = H x 11 := (f2941 x 11 _ gx rfl)
      have k2955 : H2936 m 13 = H m 13 := (f2941 m 13 _ gm rfl)
      have k2956 : H2936 x 8 = H x 8 := (f2941 x 8 _ gx rfl)
      have k2957 : H2936 m 3 = H m 3 := (f2941 m 3 _ gm rfl)
      refine wl_of hX hb cL_1309 (xc_V (pc' := 1312) (r := m) (as := [vI (H2936 0 ((i + 1).toNat)), vI 0]) (st := []) (lm_11_170) rfl rfl (Nat.le_of_ble_eq_true rfl) w2940 gm sh_42 (by decide) rfl (by decide) (s_279 w2940 gm ⟨by omega, by omega⟩ ⟨by omega, by omega⟩ (by omega)) (fun R2958 T2959 H2960 p2961 => ?_))
      obtain ⟨e2962, w2964, f2965, z2967, e2963, b2968, p2966⟩ := p2961
      subst e2962
      subst e2963
      show WL _ _ _ _ 1312 [(4, vI i), (3, .ref o), (2, .ref m), (1, .ref x), (0, .ref 0)] [vI z2967] _ H2960
      refine wl_of hX hb cL_1312 (rw_pop (pc' := 1313) rfl rfl ?_)
      refine wl_of hX hb cL_1313 (rw_goto (p1 := 1653) (by decide) ?_)
      have k2969 : H2960 x 9 = H2936 x 9 := (f2965 x 9 _ gx rfl)
      have k2970 : H2960 m 6 = H2936 m 6 := (f2965 m 6 _ gm rfl)
      have k2971 : H2960 x 11 = H2936 x 11 := (f2965 x 11 _ gx rfl)
      have k2972 : H2960 m 13 = H2936 m 13 := (f2965 m 13 _ gm rfl)
      have k2973 : H2960 x 8 = H2936 x 8 := (f2965 x 8 _ gx rfl)
      have k2974 : H2960 m 3 = H2936 m 3 := (f2965 m 3 _ gm rfl)
      have h2975 : XI T H2960 x m := (XI_fr w2940 gx f2965 rfl (XI_fr hW gx f2941 rfl hXI))
      exact WL.loc hX (by simp) (next T H2960 ⟨⟨w2964, g0, gx, gm, go, by omega, by omega⟩, h2975, by omega, by omega⟩ (by omega) (by omega))
    · exfalso
      omega
  · refine wl_of hX hb cL_1279 (rw_iconst (pc' := 1280) rfl ?_)
    refine wl_of hX hb cL_1280 (rw_goto (p1 := 1284) (by decide) ?_)
    refine wl_of hX hb cL_1284 (xc_V (pc' := 1287) (r := x) (as := [vI (H 0 ((i + 1).toNat)), vI 1]) (st := []) (lm_11_167) rfl rfl (Nat.le_of_ble_eq_true rfl) hW gx sh_1 (by decide) rfl (by decide) (s_146 hW gx ⟨by omega, by omega⟩ ⟨by omega, by omega⟩) (fun R2976 T2977 H2978 p2979 => ?_))
    obtain ⟨e2980, w2982, f2983, z2984, e2981, b2985⟩ := p2979
    subst e2980
    subst e2981
    show WL _ _ _ _ 1287 [(4, vI i), (3, .ref o), (2, .ref m), (1, .ref x), (0, .ref 0)] [vI z2984] _ H2978
    refine wl_of hX hb cL_1287 (rw_pop (pc' := 1288) rfl rfl ?_)
    refine wl_of hX hb cL_1288 (rw_aload_n (pc' := 1289) (v := .ref m) rfl rfl rfl ?_)
    refine wl_of hX hb cL_1289 (rw_aload_n (pc' := 1290) (v := .ref 0) rfl rfl rfl ?_)
    refine wl_of hX hb cL_1290 (rw_iload (pc' := 1292) (z := i) rfl rfl ?_)
    refine wl_of hX hb cL_1292 (rw_iconst (pc' := 1293) rfl ?_)
    refine wl_of hX hb cL_1293 (rw_iadd (pc' := 1294) rfl ?_)
    have k2988 : H2978 0 ((i + 1).toNat) = H 0 ((i + 1).toNat) := (f2983 0 ((i + 1).toNat) _ g0 (wmem_s rfl))
    refine wl_of hX hb cL_1294 (xa_I (so := 0) (pc' := 1295) (a := 0) w2982 g0 (wsh_s _) (by omega) (wty_s _ _) (by omega) (by omega) rfl (fun b2986 b2987 => ?_))
    refine wl_of hX hb cL_1295 (rw_aload_n (pc' := 1296) (v := .ref 0) rfl rfl rfl ?_)
    refine wl_of hX hb cL_1296 (rw_iload (pc' := 1298) (z := i) rfl rfl ?_)
    refine wl_of hX hb cL_1298 (rw_iconst (pc' := 1299) rfl ?_)
    refine wl_of hX hb cL_1299 (rw_iadd (pc' := 1300) rfl ?_)
    have k2991 : H2978 0 ((i + 2).toNat) = H 0 ((i + 2).toNat) := (f2983 0 ((i + 2).toNat) _ g0 (wmem_s rfl))
    refine wl_of hX hb cL_1300 (xa_I (so := 0) (pc' := 1301) (a := 0) w2982 g0 (wsh_s _) (by omega) (wty_s _ _) (by omega) (by omega) rfl (fun b2989 b2990 => ?_))
    refine wl_of hX hb cL_1301 (rw_if_eq (p1 := 1308) (p2 := 1304) (by decide) rfl ⟨by omega, by omega⟩ (fun c2992 => ?_) (fun c2992 => ?_))
    · refine wl_of hX hb cL_1308 (rw_iconst (pc' := 1309) rfl ?_)
      have k2993 : wKI H2978 m = wKI H m := (wKI_fr hW gm f2983 rfl)
      have k2994 : H2978 x 9 = H x 9 := (f2983 x 9 _ gx rfl)
      have k2995 : H2978 m 6 = H m 6 := (f2983 m 6 _ gm rfl)
      have k2996 : H2978 x 11 = H x 11 := (f2983 x 11 _ gx rfl)
      have k2997 : H2978 m 13 = H m 13 := (f2983 m 13 _ gm rfl)
      have k2998 : H2978 x 8 = H x 8 := (f2983 x 8 _ gx rfl)
      have k2999 : H2978 m 3 = H m 3 := (f2983 m 3 _ gm rfl)
      refine wl_of hX hb cL_1309 (xc_V (pc' := 1312) (r := m) (as := [vI (H2978 0 ((i + 1).toNat)), vI 0]) (st := []) (lm_11_170) rfl rfl (Nat.le_of_ble_eq_true rfl) w2982 gm sh_42 (by decide) rfl (by decide) (s_279 w2982 gm ⟨by omega, by omega⟩ ⟨by omega, by omega⟩ (by omega)) (fun R3000 T3001 H3002 p3003 => ?_))
      obtain ⟨e3004, w3006, f3007, z3009, e3005, b3010, p3008⟩ := p3003
      subst e3004
      subst e3005
      show WL _ _ _ _ 1312 [(4, vI i), (3, .ref o), (2, .ref m), (1, .ref x), (0, .ref 0)] [vI z3009] _ H3002
      refine wl_of hX hb cL_1312 (rw_pop (pc' := 1313) rfl rfl ?_)
      refine wl_of hX hb cL_1313 (rw_goto (p1 := 1653) (by decide) ?_)
      have k3011 : H3002 x 9 = H2978 x 9 := (f3007 x 9 _ gx rfl)
      have k3012 : H3002 m 6 = H2978 m 6 := (f3007 m 6 _ gm rfl)
      have k3013 : H3002 x 11 = H2978 x 11 := (f3007 x 11 _ gx rfl)
      have k3014 : H3002 m 13 = H2978 m 13 := (f3007 m 13 _ gm rfl)
      have k3015 : H3002 x 8 = H2978 x 8 := (f3007 x 8 _ gx rfl)
      have k3016 : H3002 m 3 = H2978 m 3 := (f3007 m 3 _ gm rfl)
      have h3017 : XI T H3002 x m := (XI_fr w2982 gx f3007 rfl (XI_fr hW gx f2983 rfl hXI))
      exact WL.loc hX (by simp) (next T H3002 ⟨⟨w3006, g0, gx, gm, go, by omega, by omega⟩, h3017, by omega, by omega⟩ (by omega) (by omega))
    · refine wl_of hX hb cL_1304 (rw_iconst (pc' := 1305) rfl ?_)
      refine wl_of hX hb cL_1305 (rw_goto (p1 := 1309) (by decide) ?_)
      have k3018 : wKI H2978 m = wKI H m := (wKI_fr hW gm f2983 rfl)
      have k3019 : H2978 x 9 = H x 9 := (f2983 x 9 _ gx rfl)
      have k3020 : H2978 m 6 = H m 6 := (f2983 m 6 _ gm rfl)
      have k3021 : H2978 x 11 = H x 11 := (f2983 x 11 _ gx rfl)
      have k3022 : H2978 m 13 = H m 13 := (f2983 m 13 _ gm rfl)
      have k3023 : H2978 x 8 = H x 8 := (f2983 x 8 _ gx rfl)
      have k3024 : H2978 m 3 = H m 3 := (f2983 m 3 _ gm rfl)
      refine wl_of hX hb cL_1309 (xc_V (pc' := 1312) (r := m) (as := [vI (H2978 0 ((i + 1).toNat)), vI 1]) (st := []) (lm_11_170) rfl rfl (Nat.le_of_ble_eq_true rfl) w2982 gm sh_42 (by decide) rfl (by decide) (s_279 w2982 gm ⟨by omega, by omega⟩ ⟨by omega, by omega⟩ (by omega)) (fun R3025 T3026 H3027 p3028 => ?_))
      obtain ⟨e3029, w3031, f3032, z3034, e3030, b3035, p3033⟩ := p3028
      subst e3029
      subst e3030
      show WL _ _ _ _ 1312 [(4, vI i), (3, .ref o), (2, .ref m), (1, .ref x), (0, .ref 0)] [vI z3034] _ H3027
      refine wl_of hX hb cL_1312 (rw_pop (pc' := 1313) rfl rfl ?_)
      refine wl_of hX hb cL_1313 (rw_goto (p1 := 1653) (by decide) ?_)
      have k3036 : H3027 x 9 = H2978 x 9 := (f3032 x 9 _ gx rfl)
      have k3037 : H3027 m 6 = H2978 m 6 := (f3032 m 6 _ gm rfl)
      have k3038 : H3027 x 11 = H2978 x 11 := (f3032 x 11 _ gx rfl)
      have k3039 : H3027 m 13 = H2978 m 13 := (f3032 m 13 _ gm rfl)
      have k3040 : H3027 x 8 = H2978 x 8 := (f3032 x 8 _ gx rfl)
      have k3041 : H3027 m 3 = H2978 m 3 := (f3032 m 3 _ gm rfl)
      have h3042 : XI T H3027 x m := (XI_fr w2982 gx f3032 rfl (XI_fr hW gx f2983 rfl hXI))
      exact WL.loc hX (by simp) (next T H3027 ⟨⟨w3031, g0, gx, gm, go, by omega, by omega⟩, h3042, by omega, by omega⟩ (by omega) (by omega))
set_option maxHeartbeats 4000000 in
theorem wl_c36 {kt : Nat → Option mc_E} {CB SB : Nat} {X : mc_S → Prop} {T : wq_T} {H : wq_H} {Len x m o : Nat} {i : Int} (hX : wlX kt CB SB X) (hb : T.2.1 ≤ CB ∧ T.2.2.1 ≤ SB) (hI : wlJ Len x m o T H) (hL : Len ≤ 3072) (hi : 0 ≤ i ∧ i + 6 ≤ Len) (hb2 : T.2.1 + 20 ≤ CB ∧ T.2.2.1 + 500 ≤ SB)  (next : ∀ T' H', wlJ Len x m o T' H' → T'.2.1 ≤ T.2.1 + 20 → T'.2.2.1 ≤ T.2.2.1 + 500 → WL kt CB SB X 1653 (wlL i x m o) [] T' H') : WL kt CB SB X 1316 (wlL i x m o) [] T H := by
  obtain ⟨⟨hW, g0, gx, gm, go, hK, hr⟩, hXI, hY1, hY2⟩ := hI
  refine wl_of hX hb cL_1316 (rw_aload_n (pc' := 1317) (v := .ref x) rfl rfl rfl ?_)
  refine wl_of hX hb cL_1317 (xc_V (pc' := 1320) (r := x) (as := []) (st := []) (lm_11_171) rfl rfl (Nat.le_of_ble_eq_true rfl) hW gx sh_1 (by decide) rfl (by decide) (s_147 hW gx) (fun R3043 T3044 H3045 p3046 => ?_))
  obtain ⟨e3047, w3049, f3050, z3051, e3048, b3052⟩ := p3046
  subst e3047
  subst e3048
  show WL _ _ _ _ 1320 [(4, vI i), (3, .ref o), (2, .ref m), (1, .ref x), (0, .ref 0)] [vI z3051] _ H3045
  refine wl_of hX hb cL_1320 (rw_pop (pc' := 1321) rfl rfl ?_)
  refine wl_of hX hb cL_1321 (rw_aload_n (pc' := 1322) (v := .ref m) rfl rfl rfl ?_)
  have k3053 : wKI H3045 m = wKI H m := (wKI_fr hW gm f3050 rfl)
  have k3054 : H3045 x 9 = H x 9 := (f3050 x 9 _ gx rfl)
  have k3055 : H3045 m 6 = H m 6 := (f3050 m 6 _ gm rfl)
  have k3056 : H3045 x 11 = H x 11 := (f3050 x 11 _ gx rfl)
  have k3057 : H3045 m 13 = H m 13 := (f3050 m 13 _ gm rfl)
  have k3058 : H3045 x 8 = H x 8 := (f3050 x 8 _ gx rfl)
  have k3059 : H3045 m 3 = H m 3 := (f3050 m 3 _ gm rfl)
  refine wl_of hX hb cL_1322 (xc_V (pc' := 1325) (r := m) (as := []) (st := []) (lm_11_174) rfl rfl (Nat.le_of_ble_eq_true rfl) w3049 gm sh_42 (by decide) rfl (by decide) (s_282 w3049 gm (by omega)) (fun R3060 T3061 H3062 p3063 => ?_))
  obtain ⟨e3064, w3066, f3067, z3069, e3065, b3070, p3068⟩ := p3063
  subst e3064
  subst e3065
  show WL _ _ _ _ 1325 [(4, vI i), (3, .ref o), (2, .ref m), (1, .ref x), (0, .ref 0)] [vI z3069] _ H3062
  refine wl_of hX hb cL_1325 (rw_pop (pc' := 1326) rfl rfl ?_)
  refine wl_of hX hb cL_1326 (rw_goto (p1 := 1653) (by decide) ?_)
  have k3071 : H3062 x 9 = H3045 x 9 := (f3067 x 9 _ gx rfl)
  have k3072 : H3062 m 6 = H3045 m 6 := (f3067 m 6 _ gm rfl)
  have k3073 : H3062 x 11 = H3045 x 11 := (f3067 x 11 _ gx rfl)
  have k3074 : H3062 m 13 = H3045 m 13 := (f3067 m 13 _ gm rfl)
  have k3075 : H3062 x 8 = H3045 x 8 := (f3067 x 8 _ gx rfl)
  have k3076 : H3062 m 3 = H3045 m 3 := (f3067 m 3 _ gm rfl)
  have h3077 : XI T H3062 x m := (XI_fr w3049 gx f3067 rfl (XI_fr hW gx f3050 rfl hXI))
  exact WL.loc hX (by simp) (next T H3062 ⟨⟨w3066, g0, gx, gm, go, by omega, by omega⟩, h3077, by omega, by omega⟩ (by omega) (by omega))
set_option maxHeartbeats 4000000 in
theorem wl_c37 {kt : Nat → Option mc_E} {CB SB : Nat} {X : mc_S → Prop} {T : wq_T} {H : wq_H} {Len x m o : Nat} {i : Int} (hX : wlX kt CB SB X) (hb : T.2.1 ≤ CB ∧ T.2.2.1 ≤ SB) (hI : wlJ Len x m o T H) (hL : Len ≤ 3072) (hi : 0 ≤ i ∧ i + 6 ≤ Len) (hb2 : T.2.1 + 20 ≤ CB ∧ T.2.2.1 + 500 ≤ SB)  (next : ∀ T' H', wlJ Len x m o T' H' → T'.2.1 ≤ T.2.1 + 20 → T'.2.2.1 ≤ T.2.2.1 + 500 → WL kt CB SB X 1653 (wlL i x m o) [] T' H') : WL kt CB SB X 1329 (wlL i x m o) [] T H := by
  obtain ⟨⟨hW, g0, gx, gm, go, hK, hr⟩, hXI, hY1, hY2⟩ := hI
  refine wl_of hX hb cL_1329 (rw_aload_n (pc' := 1330) (v := .ref x) rfl rfl rfl ?_)
  refine wl_of hX hb cL_1330 (xc_V (pc' := 1333) (r := x) (as := []) (st := []) (lm_11_175) rfl rfl (Nat.le_of_ble_eq_true rfl) hW gx sh_1 (by decide) rfl (by decide) (s_149 hW gx) (fun R3078 T3079 H3080 p3081 => ?_))
  obtain ⟨e3082, w3084, f3085, z3086, e3083, b3087⟩ := p3081
  subst e3082
  subst e3083
  show WL _ _ _ _ 1333 [(4, vI i), (3, .ref o), (2, .ref m), (1, .ref x), (0, .ref 0)] [vI z3086] _ H3080
  refine wl_of hX hb cL_1333 (rw_pop (pc' := 1334) rfl rfl ?_)
  refine wl_of hX hb cL_1334 (rw_aload_n (pc' := 1335) (v := .ref m) rfl rfl rfl ?_)
  have k3088 : wKI H3080 m = wKI H m := (wKI_fr hW gm f3085 rfl)
  have k3089 : H3080 x 9 = H x 9 := (f3085 x 9 _ gx rfl)
  have k3090 : H3080 m 6 = H m 6 := (f3085 m 6 _ gm rfl)
  have k3091 : H3080 x 11 = H x 11 := (f3085 x 11 _ gx rfl)
  have k3092 : H3080 m 13 = H m 13 := (f3085 m 13 _ gm rfl)
  have k3093 : H3080 x 8 = H x 8 := (f3085 x 8 _ gx rfl)
  have k3094 : H3080 m 3 = H m 3 := (f3085 m 3 _ gm rfl)
  refine wl_of hX hb cL_1335 (xc_V (pc' := 1338) (r := m) (as := []) (st := []) (lm_11_178) rfl rfl (Nat.le_of_ble_eq_true rfl) w3084 gm sh_42 (by decide) rfl (by decide) (s_283 w3084 gm (by omega)) (fun R3095 T3096 H3097 p3098 => ?_))
  obtain ⟨e3099, w3101, f3102, z3104, e3100, b3105, p3103⟩ := p3098
  subst e3099
  subst e3100
  show WL _ _ _ _ 1338 [(4, vI i), (3, .ref o), (2, .ref m), (1, .ref x), (0, .ref 0)] [vI z3104] _ H3097
  refine wl_of hX hb cL_1338 (rw_pop (pc' := 1339) rfl rfl ?_)
  refine wl_of hX hb cL_1339 (rw_goto (p1 := 1653) (by decide) ?_)
  have k3106 : H3097 x 9 = H3080 x 9 := (f3102 x 9 _ gx rfl)
  have k3107 : H3097 m 6 = H3080 m 6 := (f3102 m 6 _ gm rfl)
  have k3108 : H3097 x 11 = H3080 x 11 := (f3102 x 11 _ gx rfl)
  have k3109 : H3097 m 13 = H3080 m 13 := (f3102 m 13 _ gm rfl)
  have k3110 : H3097 x 8 = H3080 x 8 := (f3102 x 8 _ gx rfl)
  have k3111 : H3097 m 3 = H3080 m 3 := (f3102 m 3 _ gm rfl)
  have h3112 : XI T H3097 x m := (XI_fr w3084 gx f3102 rfl (XI_fr hW gx f3085 rfl hXI))
  exact WL.loc hX (by simp) (next T H3097 ⟨⟨w3101, g0, gx, gm, go, by omega, by omega⟩, h3112, by omega, by omega⟩ (by omega) (by omega))
set_option maxHeartbeats 4000000 in
theorem wl_c38 {kt : Nat → Option mc_E} {CB SB : Nat} {X : mc_S → Prop} {T : wq_T} {H : wq_H} {Len x m o : Nat} {i : Int} (hX : wlX kt CB SB X) (hb : T.2.1 ≤ CB ∧ T.2.2.1 ≤ SB) (hI : wlJ Len x m o T H) (hL : Len ≤ 3072) (hi : 0 ≤ i ∧ i + 6 ≤ Len) (hb2 : T.2.1 + 20 ≤ CB ∧ T.2.2.1 + 500 ≤ SB)  (next : ∀ T' H', wlJ Len x m o T' H' → T'.2.1 ≤ T.2.1 + 20 → T'.2.2.1 ≤ T.2.2.1 + 500 → WL kt CB SB X 1653 (wlL i x m o) [] T' H') : WL kt CB SB X 1342 (wlL i x m o) [] T H := by
  obtain ⟨⟨hW, g0, gx, gm, go, hK, hr⟩, hXI, hY1, hY2⟩ := hI
  refine wl_of hX hb cL_1342 (rw_aload_n (pc' := 1343) (v := .ref x) rfl rfl rfl ?_)
  refine wl_of hX hb cL_1343 (rw_aload_n (pc' := 1344) (v := .ref 0) rfl rfl rfl ?_)
  refine wl_of hX hb cL_1344 (rw_iload (pc' := 1346) (z := i) rfl rfl ?_)
  refine wl_of hX hb cL_1346 (rw_iconst (pc' := 1347) rfl ?_)
  refine wl_of hX hb cL_1347 (rw_iadd (pc' := 1348) rfl ?_)
  refine wl_of hX hb cL_1348 (xa_I (so := 0) (pc' := 1349) (a := 0) hW g0 (wsh_s _) (by omega) (wty_s _ _) (by omega) (by omega) rfl (fun b3113 b3114 => ?_))
  refine wl_of hX hb cL_1349 (xc_V (pc' := 1352) (r := x) (as := [vI (H 0 ((i + 1).toNat))]) (st := []) (lm_11_179) rfl rfl (Nat.le_of_ble_eq_true rfl) hW gx sh_1 (by decide) rfl (by decide) (s_152 hW gx ⟨by omega, by omega⟩) (fun R3115 T3116 H3117 p3118 => ?_))
  obtain ⟨e3119, w3121, f3122, z3123, e3120, b3124⟩ := p3118
  subst e3119
  subst e3120
  show WL _ _ _ _ 1352 [(4, vI i), (3, .ref o), (2, .ref m), (1, .ref x), (0, .ref 0)] [vI z3123] _ H3117
  refine wl_of hX hb cL_1352 (rw_pop (pc' := 1353) rfl rfl ?_)
  refine wl_of hX hb cL_1353 (rw_aload_n (pc' := 1354) (v := .ref m) rfl rfl rfl ?_)
  refine wl_of hX hb cL_1354 (rw_aload_n (pc' := 1355) (v := .ref 0) rfl rfl rfl ?_)
  refine wl_of hX hb cL_1355 (rw_iload (pc' := 1357) (z := i) rfl rfl ?_)
  refine wl_of hX hb cL_1357 (rw_iconst (pc' := 1358) rfl ?_)
  refine wl_of hX hb cL_1358 (rw_iadd (pc' := 1359) rfl ?_)
  have k3127 : H3117 0 ((i + 1).toNat) = H 0 ((i + 1).toNat) := (f3122 0 ((i + 1).toNat) _ g0 (wmem_s rfl))
  refine wl_of hX hb cL_1359 (xa_I (so := 0) (pc' := 1360) (a := 0) w3121 g0 (wsh_s _) (by omega) (wty_s _ _) (by omega) (by omega) rfl (fun b3125 b3126 => ?_))
  have k3128 : wKI H3117 m = wKI H m := (wKI_fr hW gm f3122 rfl)
  have k3129 : H3117 x 9 = H x 9 := (f3122 x 9 _ gx rfl)
  have k3130 : H3117 m 6 = H m 6 := (f3122 m 6 _ gm rfl)
  have k3131 : H3117 x 11 = H x 11 := (f3122 x 11 _ gx rfl)
  have k3132 : H3117 m 13 = H m 13 := (f3122 m 13 _ gm rfl)
  have k3133 : H3117 x 8 = H x 8 := (f3122 x 8 _ gx rfl)
  have k3134 : H3117 m 3 = H m 3 := (f3122 m 3 _ gm rfl)
  refine wl_of hX hb cL_1360 (xc_V (pc' := 1363) (r := m) (as := [vI (H3117 0 ((i + 1).toNat))]) (st := []) (lm_11_182) rfl rfl (Nat.le_of_ble_eq_true rfl) w3121 gm sh_42 (by decide) rfl (by decide) (s_284 w3121 gm ⟨by omega, by omega⟩ (by omega)) (fun R3135 T3136 H3137 p3138 => ?_))
  obtain ⟨e3139, w3141, f3142, z3144, e3140, b3145, p3143⟩ := p3138
  subst e3139
  subst e3140
  show WL _ _ _ _ 1363 [(4, vI i), (3, .ref o), (2, .ref m), (1, .ref x), (0, .ref 0)] [vI z3144] _ H3137
  refine wl_of hX hb cL_1363 (rw_pop (pc' := 1364) rfl rfl ?_)
  refine wl_of hX hb cL_1364 (rw_goto (p1 := 1653) (by decide) ?_)
  have k3146 : H3137 x 9 = H3117 x 9 := (f3142 x 9 _ gx rfl)
  have k3147 : H3137 m 6 = H3117 m 6 := (f3142 m 6 _ gm rfl)
  have k3148 : H3137 x 11 = H3117 x 11 := (f3142 x 11 _ gx rfl)
  have k3149 : H3137 m 13 = H3117 m 13 := (f3142 m 13 _ gm rfl)
  have k3150 : H3137 x 8 = H3117 x 8 := (f3142 x 8 _ gx rfl)
  have k3151 : H3137 m 3 = H3117 m 3 := (f3142 m 3 _ gm rfl)
  have h3152 : XI T H3137 x m := (XI_fr w3121 gx f3142 rfl (XI_fr hW gx f3122 rfl hXI))
  exact WL.loc hX (by simp) (next T H3137 ⟨⟨w3141, g0, gx, gm, go, by omega, by omega⟩, h3152, by omega, by omega⟩ (by omega) (by omega))
set_option maxHeartbeats 4000000 in
theorem wl_c39 {kt : Nat → Option mc_E} {CB SB : Nat} {X : mc_S → Prop} {T : wq_T} {H : wq_H} {Len x m o : Nat} {i : Int} (hX : wlX kt CB SB X) (hb : T.2.1 ≤ CB ∧ T.2.2.1 ≤ SB) (hI : wlJ Len x m o T H) (hL : Len ≤ 3072) (hi : 0 ≤ i ∧ i + 6 ≤ Len) (hb2 : T.2.1 + 20 ≤ CB ∧ T.2.2.1 + 500 ≤ SB)  (next : ∀ T' H', wlJ Len x m o T' H' → T'.2.1 ≤ T.2.1 + 20 → T'.2.2.1 ≤ T.2.2.1 + 500 → WL kt CB SB X 1653 (wlL i x m o) [] T' H') : WL kt CB SB X 1367 (wlL i x m o) [] T H := by
  obtain ⟨⟨hW, g0, gx, gm, go, hK, hr⟩, hXI, hY1, hY2⟩ := hI
  refine wl_of hX hb cL_1367 (rw_aload_n (pc' := 1368) (v := .ref x) rfl rfl rfl ?_)
  refine wl_of hX hb cL_1368 (rw_aload_n (pc' := 1369) (v := .ref 0) rfl rfl rfl ?_)
  refine wl_of hX hb cL_1369 (rw_iload (pc' := 1371) (z := i) rfl rfl ?_)
  refine wl_of hX hb cL_1371 (rw_iconst (pc' := 1372) rfl ?_)
  refine wl_of hX hb cL_1372 (rw_iadd (pc' := 1373) rfl ?_)
  refine wl_of hX hb cL_1373 (xa_I (so := 0) (pc' := 1374) (a := 0) hW g0 (wsh_s _) (by omega) (wty_s _ _) (by omega) (by omega) rfl (fun b3153 b3154 => ?_))
  refine wl_of hX hb cL_1374 (rw_aload_n (pc' := 1375) (v := .ref 0) rfl rfl rfl ?_)
  refine wl_of hX hb cL_1375 (rw_iload (pc' := 1377) (z := i) rfl rfl ?_)
  refine wl_of hX hb cL_1377 (rw_iconst (pc' := 1378) rfl ?_)
  refine wl_of hX hb cL_1378 (rw_iadd (pc' := 1379) rfl ?_)
  refine wl_of hX hb cL_1379 (xa_I (so := 0) (pc' := 1380) (a := 0) hW g0 (wsh_s _) (by omega) (wty_s _ _) (by omega) (by omega) rfl (fun b3155 b3156 => ?_))
  refine wl_of hX hb cL_1380 (xc_V (pc' := 1383) (r := x) (as := [vI (H 0 ((i + 1).toNat)), vI (H 0 ((i + 2).toNat))]) (st := []) (lm_11_183) rfl rfl (Nat.le_of_ble_eq_true rfl) hW gx sh_1 (by decide) rfl (by decide) (s_153 hW gx ⟨by omega, by omega⟩ ⟨by omega, by omega⟩) (fun R3157 T3158 H3159 p3160 => ?_))
  obtain ⟨e3161, w3163, f3164, z3165, e3162, b3166⟩ := p3160
  subst e3161
  subst e3162
  show WL _ _ _ _ 1383 [(4, vI i), (3, .ref o), (2, .ref m), (1, .ref x), (0, .ref 0)] [vI z3165] _ H3159
  refine wl_of hX hb cL_1383 (rw_pop (pc' := 1384) rfl rfl ?_)
  refine wl_of hX hb cL_1384 (rw_aload_n (pc' := 1385) (v := .ref m) rfl rfl rfl ?_)
  refine wl_of hX hb cL_1385 (rw_aload_n (pc' := 1386) (v := .ref 0) rfl rfl rfl ?_)
  refine wl_of hX hb cL_1386 (rw_iload (pc' := 1388) (z := i) rfl rfl ?_)
  refine wl_of hX hb cL_1388 (rw_iconst (pc' := 1389) rfl ?_)
  refine wl_of hX hb cL_1389 (rw_iadd (pc' := 1390) rfl ?_)
  have k3169 : H3159 0 ((i + 1).toNat) = H 0 ((i + 1).toNat) := (f3164 0 ((i + 1).toNat) _ g0 (wmem_s rfl))
  refine wl_of hX hb cL_1390 (xa_I (so := 0) (pc' := 1391) (a := 0) w3163 g0 (wsh_s _) (by omega) (wty_s _ _) (by omega) (by omega) rfl (fun b3167 b3168 => ?_))
  refine wl_of hX hb cL_1391 (rw_aload_n (pc' := 1392) (v := .ref 0) rfl rfl rfl ?_)
  refine wl_of hX hb cL_1392 (rw_iload (pc' := 1394) (z := i) rfl rfl ?_)
  refine wl_of hX hb cL_1394 (rw_iconst (pc' := 1395) rfl ?_)
  refine wl_of hX hb cL_1395 (rw_iadd (pc' := 1396) rfl ?_)
  have k3172 : H3159 0 ((i + 2).toNat) = H 0 ((i + 2).toNat) := (f3164 0 ((i + 2).toNat) _ g0 (wmem_s rfl))
  refine wl_of hX hb cL_1396 (xa_I (so := 0) (pc' := 1397) (a := 0) w3163 g0 (wsh_s _) (by omega) (wty_s _ _) (by omega) (by omega) rfl (fun b3170 b3171 => ?_))
  have k3173 : wKI H3159 m = wKI H m := (wKI_fr hW gm f3164 rfl)
  have k3174 : H3159 x 9 = H x 9 := (f3164 x 9 _ gx rfl)
  have k3175 : H3159 m 6 = H m 6 := (f3164 m 6 _ gm rfl)
  have k3176 : H3159 x 11 = H x 11 := (f3164 x 11 _ gx rfl)
  have k3177 : H3159 m 13 = H m 13 := (f3164 m 13 _ gm rfl)
  have k3178 : H3159 x 8 = H x 8 := (f3164 x 8 _ gx rfl)
  have k3179 : H3159 m 3 = H m 3 := (f3164 m 3 _ gm rfl)
  refine wl_of hX hb cL_1397 (xc_V (pc' := 1400) (r := m) (as := [vI (H3159 0 ((i + 1).toNat)), vI (H3159 0 ((i + 2).toNat))]) (st := []) (lm_11_186) rfl rfl (Nat.le_of_ble_eq_true rfl) w3163 gm sh_42 (by decide) rfl (by decide) (s_285 w3163 gm ⟨by omega, by omega⟩ ⟨by omega, by omega⟩ (by omega)) (fun R3180 T3181 H3182 p3183 => ?_))
  obtain ⟨e3184, w3186, f3187, z3189, e3185, b3190, p3188⟩ := p3183
  subst e3184
  subst e3185
  show WL _ _ _ _ 1400 [(4, vI i), (3, .ref o), (2, .ref m), (1, .ref x), (0, .ref 0)] [vI z3189] _ H3182
  refine wl_of hX hb cL_1400 (rw_pop (pc' := 1401) rfl rfl ?_)
  refine wl_of hX hb cL_1401 (rw_goto (p1 := 1653) (by decide) ?_)
  have k3191 : H3182 x 9 = H3159 x 9 := (f3187 x 9 _ gx rfl)
  have k3192 : H3182 m 6 = H3159 m 6 := (f3187 m 6 _ gm rfl)
  have k3193 : H3182 x 11 = H3159 x 11 := (f3187 x 11 _ gx rfl)
  have k3194 : H3182 m 13 = H3159 m 13 := (f3187 m 13 _ gm rfl)
  have k3195 : H3182 x 8 = H3159 x 8 := (f3187 x 8 _ gx rfl)
  have k3196 : H3182 m 3 = H3159 m 3 := (f3187 m 3 _ gm rfl)
  have h3197 : XI T H3182 x m := (XI_fr w3163 gx f3187 rfl (XI_fr hW gx f3164 rfl hXI))
  exact WL.loc hX (by simp) (next T H3182 ⟨⟨w3186, g0, gx, gm, go, by omega, by omega⟩, h3197, by omega, by omega⟩ (by omega) (by omega))
set_option maxHeartbeats 4000000 in
theorem wl_c40 {kt : Nat → Option mc_E} {CB SB : Nat} {X : mc_S → Prop} {T : wq_T} {H : wq_H} {Len x m o : Nat} {i : Int} (hX : wlX kt CB SB X) (hb : T.2.1 ≤ CB ∧ T.2.2.1 ≤ SB) (hI : wlJ Len x m o T H) (hL : Len ≤ 3072) (hi : 0 ≤ i ∧ i + 6 ≤ Len) (hb2 : T.2.1 + 20 ≤ CB ∧ T.2.2.1 + 500 ≤ SB)  (next : ∀ T' H', wlJ Len x m o T' H' → T'.2.1 ≤ T.2.1 + 20 → T'.2.2.1 ≤ T.2.2.1 + 500 → WL kt CB SB X 1653 (wlL i x m o) [] T' H') : WL kt CB SB X 1404 (wlL i x m o) [] T H := by
  obtain ⟨⟨hW, g0, gx, gm, go, hK, hr⟩, hXI, hY1, hY2⟩ := hI
  refine wl_of hX hb cL_1404 (rw_aload_n (pc' := 1405) (v := .ref x) rfl rfl rfl ?_)
  refine wl_of hX hb cL_1405 (rw_aload_n (pc' := 1406) (v := .ref 0) rfl rfl rfl ?_)
  refine wl_of hX hb cL_1406 (rw_iload (pc' := 1408) (z := i) rfl rfl ?_)
  refine wl_of hX hb cL_1408 (rw_iconst (pc' := 1409) rfl ?_)
  refine wl_of hX hb cL_1409 (rw_iadd (pc' := 1410) rfl ?_)
  refine wl_of hX hb cL_1410 (xa_I (so := 0) (pc' := 1411) (a := 0) hW g0 (wsh_s _) (by omega) (wty_s _ _) (by omega) (by omega) rfl (fun b3198 b3199 => ?_))
  refine wl_of hX hb cL_1411 (xc_V (pc' := 1414) (r := x) (as := [vI (H 0 ((i + 1).toNat))]) (st := []) (lm_11_187) rfl rfl (Nat.le_of_ble_eq_true rfl) hW gx sh_1 (by decide) rfl (by decide) (s_154 hW gx ⟨by omega, by omega⟩) (fun R3200 T3201 H3202 p3203 => ?_))
  obtain ⟨e3204, w3206, f3207, z3208, e3205, b3209⟩ := p3203
  subst e3204
  subst e3205
  show WL _ _ _ _ 1414 [(4, vI i), (3, .ref o), (2, .ref m), (1, .ref x), (0, .ref 0)] [vI z3208] _ H3202
  refine wl_of hX hb cL_1414 (rw_pop (pc' := 1415) rfl rfl ?_)
  refine wl_of hX hb cL_1415 (rw_aload_n (pc' := 1416) (v := .ref m) rfl rfl rfl ?_)
  refine wl_of hX hb cL_1416 (rw_aload_n (pc' := 1417) (v := .ref 0) rfl rfl rfl ?_)
  refine wl_of hX hb cL_1417 (rw_iload (pc' := 1419) (z := i) rfl rfl ?_)
  refine wl_of hX hb cL_1419 (rw_iconst (pc' := 1420) rfl ?_)
  refine wl_of hX hb cL_1420 (rw_iadd (pc' := 1421) rfl ?_)
  have k3212 : H3202 0 ((i + 1).toNat) = H 0 ((i + 1).toNat) := (f3207 0 ((i + 1).toNat) _ g0 (wmem_s rfl))
  refine wl_of hX hb cL_1421 (xa_I (so := 0) (pc' := 1422) (a := 0) w3206 g0 (wsh_s _) (by omega) (wty_s _ _) (by omega) (by omega) rfl (fun b3210 b3211 => ?_))
  have k3213 : wKI H3202 m = wKI H m := (wKI_fr hW gm f3207 rfl)
  have k3214 : H3202 x 9 = H x 9 := (f3207 x 9 _ gx rfl)
  have k3215 : H3202 m 6 = H m 6 := (f3207 m 6 _ gm rfl)
  have k3216 : H3202 x 11 = H x 11 := (f3207 x 11 _ gx rfl)
  have k3217 : H3202 m 13 = H m 13 := (f3207 m 13 _ gm rfl)
  have k3218 : H3202 x 8 = H x 8 := (f3207 x 8 _ gx rfl)
  have k3219 : H3202 m 3 = H m 3 := (f3207 m 3 _ gm rfl)
  refine wl_of hX hb cL_1422 (xc_V (pc' := 1425) (r := m) (as := [vI (H3202 0 ((i + 1).toNat))]) (st := []) (lm_11_191) rfl rfl (Nat.le_of_ble_eq_true rfl) w3206 gm sh_42 (by decide) rfl (by decide) (s_286 w3206 gm ⟨by omega, by omega⟩ (by omega)) (fun R3220 T3221 H3222 p3223 => ?_))
  obtain ⟨e3224, w3226, f3227, z3229, e3225, b3230, p3228⟩ := p3223
  subst e3224
  subst e3225
  show WL _ _ _ _ 1425 [(4, vI i), (3, .ref o), (2, .ref m), (1, .ref x), (0, .ref 0)] [vI z3229] _ H3222
  refine wl_of hX hb cL_1425 (rw_pop (pc' := 1426) rfl rfl ?_)
  refine wl_of hX hb cL_1426 (rw_goto (p1 := 1653) (by decide) ?_)
  have k3231 : H3222 x 9 = H3202 x 9 := (f3227 x 9 _ gx rfl)
  have k3232 : H3222 m 6 = H3202 m 6 := (f3227 m 6 _ gm rfl)
  have k3233 : H3222 x 11 = H3202 x 11 := (f3227 x 11 _ gx rfl)
  have k3234 : H3222 m 13 = H3202 m 13 := (f3227 m 13 _ gm rfl)
  have k3235 : H3222 x 8 = H3202 x 8 := (f3227 x 8 _ gx rfl)
  have k3236 : H3222 m 3 = H3202 m 3 := (f3227 m 3 _ gm rfl)
  have h3237 : XI T H3222 x m := (XI_fr w3206 gx f3227 rfl (XI_fr hW gx f3207 rfl hXI))
  exact WL.loc hX (by simp) (next T H3222 ⟨⟨w3226, g0, gx, gm, go, by omega, by omega⟩, h3237, by omega, by omega⟩ (by omega) (by omega))
set_option maxHeartbeats 4000000 in
theorem wl_c41 {kt : Nat → Option mc_E} {CB SB : Nat} {X : mc_S → Prop} {T : wq_T} {H : wq_H} {Len x m o : Nat} {i : Int} (hX : wlX kt CB SB X) (hb : T.2.1 ≤ CB ∧ T.2.2.1 ≤ SB) (hI : wlJ Len x m o T H) (hL : Len ≤ 3072) (hi : 0 ≤ i ∧ i + 6 ≤ Len) (hb2 : T.2.1 + 20 ≤ CB ∧ T.2.2.1 + 500 ≤ SB)  (next : ∀ T' H', wlJ Len x m o T' H' → T'.2.1 ≤ T.2.1 + 20 → T'.2.2.1 ≤ T.2.2.1 + 500 → WL kt CB SB X 1653 (wlL i x m o) [] T' H') : WL kt CB SB X 1429 (wlL i x m o) [] T H := by
  obtain ⟨⟨hW, g0, gx, gm, go, hK, hr⟩, hXI, hY1, hY2⟩ := hI
  refine wl_of hX hb cL_1429 (rw_aload_n (pc' := 1430) (v := .ref x) rfl rfl rfl ?_)
  refine wl_of hX hb cL_1430 (rw_aload_n (pc' := 1431) (v := .ref 0) rfl rfl rfl ?_)
  refine wl_of hX hb cL_1431 (rw_iload (pc' := 1433) (z := i) rfl rfl ?_)
  refine wl_of hX hb cL_1433 (rw_iconst (pc' := 1434) rfl ?_)
  refine wl_of hX hb cL_1434 (rw_iadd (pc' := 1435) rfl ?_)
  refine wl_of hX hb cL_1435 (xa_I (so := 0) (pc' := 1436) (a := 0) hW g0 (wsh_s _) (by omega) (wty_s _ _) (by omega) (by omega) rfl (fun b3238 b3239 => ?_))
  refine wl_of hX hb cL_1436 (xc_V (pc' := 1439) (r := x) (as := [vI (H 0 ((i + 1).toNat))]) (st := []) (lm_11_192) rfl rfl (Nat.le_of_ble_eq_true rfl) hW gx sh_1 (by decide) rfl (by decide) (s_155 hW gx ⟨by omega, by omega⟩) (fun R3240 T3241 H3242 p3243 => ?_))
  obtain ⟨e3244, w3246, f3247, z3248, e3245, b3249⟩ := p3243
  subst e3244
  subst e3245
  show WL _ _ _ _ 1439 [(4, vI i), (3, .ref o), (2, .ref m), (1, .ref x), (0, .ref 0)] [vI z3248] _ H3242
  refine wl_of hX hb cL_1439 (rw_pop (pc' := 1440) rfl rfl ?_)
  refine wl_of hX hb cL_1440 (rw_aload_n (pc' := 1441) (v := .ref m) rfl rfl rfl ?_)
  refine wl_of hX hb cL_1441 (rw_aload_n (pc' := 1442) (v := .ref 0) rfl rfl rfl ?_)
  refine wl_of hX hb cL_1442 (rw_iload (pc' := 1444) (z := i) rfl rfl ?_)
  refine wl_of hX hb cL_1444 (rw_iconst (pc' := 1445) rfl ?_)
  refine wl_of hX hb cL_1445 (rw_iadd (pc' := 1446) rfl ?_)
  have k3252 : H3242 0 ((i + 1).toNat) = H 0 ((i + 1).toNat) := (f3247 0 ((i + 1).toNat) _ g0 (wmem_s rfl))
  refine wl_of hX hb cL_1446 (xa_I (so := 0) (pc' := 1447) (a := 0) w3246 g0 (wsh_s _) (by omega) (wty_s _ _) (by omega) (by omega) rfl (fun b3250 b3251 => ?_))
  have k3253 : wKI H3242 m = wKI H m := (wKI_fr hW gm f3247 rfl)
  have k3254 : H3242 x 9 = H x 9 := (f3247 x 9 _ gx rfl)
  have k3255 : H3242 m 6 = H m 6 := (f3247 m 6 _ gm rfl)
  have k3256 : H3242 x 11 = H x 11 := (f3247 x 11 _ gx rfl)
  have k3257 : H3242 m 13 = H m 13 := (f3247 m 13 _ gm rfl)
  have k3258 : H3242 x 8 = H x 8 := (f3247 x 8 _ gx rfl)
  have k3259 : H3242 m 3 = H m 3 := (f3247 m 3 _ gm rfl)
  refine wl_of hX hb cL_1447 (xc_V (pc' := 1450) (r := m) (as := [vI (H3242 0 ((i + 1).toNat))]) (st := []) (lm_11_195) rfl rfl (Nat.le_of_ble_eq_true rfl) w3246 gm sh_42 (by decide) rfl (by decide) (s_287 w3246 gm ⟨by omega, by omega⟩ (by omega)) (fun R3260 T3261 H3262 p3263 => ?_))
  obtain ⟨e3264, w3266, f3267, z3269, e3265, b3270, p3268⟩ := p3263
  subst e3264
  subst e3265
  show WL _ _ _ _ 1450 [(4, vI i), (3, .ref o), (2, .ref m), (1, .ref x), (0, .ref 0)] [vI z3269] _ H3262
  refine wl_of hX hb cL_1450 (rw_pop (pc' := 1451) rfl rfl ?_)
  refine wl_of hX hb cL_1451 (rw_goto (p1 := 1653) (by decide) ?_)
  have k3271 : H3262 x 9 = H3242 x 9 := (f3267 x 9 _ gx rfl)
  have k3272 : H3262 m 6 = H3242 m 6 := (f3267 m 6 _ gm rfl)
  have k3273 : H3262 x 11 = H3242 x 11 := (f3267 x 11 _ gx rfl)
  have k3274 : H3262 m 13 = H3242 m 13 := (f3267 m 13 _ gm rfl)
  have k3275 : H3262 x 8 = H3242 x 8 := (f3267 x 8 _ gx rfl)
  have k3276 : H3262 m 3 = H3242 m 3 := (f3267 m 3 _ gm rfl)
  have h3277 : XI T H3262 x m := (XI_fr w3246 gx f3267 rfl (XI_fr hW gx f3247 rfl hXI))
  exact WL.loc hX (by simp) (next T H3262 ⟨⟨w3266, g0, gx, gm, go, by omega, by omega⟩, h3277, by omega, by omega⟩ (by omega) (by omega))
set_option maxHeartbeats 4000000 in
theorem wl_c42 {kt : Nat → Option mc_E} {CB SB : Nat} {X : mc_S → Prop} {T : wq_T} {H : wq_H} {Len x m o : Nat} {i : Int} (hX : wlX kt CB SB X) (hb : T.2.1 ≤ CB ∧ T.2.2.1 ≤ SB) (hI : wlJ Len x m o T H) (hL : Len ≤ 3072) (hi : 0 ≤ i ∧ i + 6 ≤ Len) (hb2 : T.2.1 + 20 ≤ CB ∧ T.2.2.1 + 500 ≤ SB)  (next : ∀ T' H', wlJ Len x m o T' H' → T'.2.1 ≤ T.2.1 + 20 → T'.2.2.1 ≤ T.2.2.1 + 500 → WL kt CB SB X 1653 (wlL i x m o) [] T' H') : WL kt CB SB X 1454 (wlL i x m o) [] T H := by
  obtain ⟨⟨hW, g0, gx, gm, go, hK, hr⟩, hXI, hY1, hY2⟩ := hI
  refine wl_of hX hb cL_1454 (rw_aload_n (pc' := 1455) (v := .ref x) rfl rfl rfl ?_)
  refine wl_of hX hb cL_1455 (xc_V (pc' := 1458) (r := x) (as := []) (st := []) (lm_11_196) rfl rfl (Nat.le_of_ble_eq_true rfl) hW gx sh_1 (by decide) rfl (by decide) (s_156 hW gx) (fun R3278 T3279 H3280 p3281 => ?_))
  obtain ⟨e3282, w3284, f3285, z3286, e3283, b3287⟩ := p3281
  subst e3282
  subst e3283
  show WL _ _ _ _ 1458 [(4, vI i), (3, .ref o), (2, .ref m), (1, .ref x), (0, .ref 0)] [vI z3286] _ H3280
  refine wl_of hX hb cL_1458 (rw_pop (pc' := 1459) rfl rfl ?_)
  refine wl_of hX hb cL_1459 (rw_aload_n (pc' := 1460) (v := .ref m) rfl rfl rfl ?_)
  have k3288 : wKI H3280 m = wKI H m := (wKI_fr hW gm f3285 rfl)
  have k3289 : H3280 x 9 = H x 9 := (f3285 x 9 _ gx rfl)
  have k3290 : H3280 m 6 = H m 6 := (f3285 m 6 _ gm rfl)
  have k3291 : H3280 x 11 = H x 11 := (f3285 x 11 _ gx rfl)
  have k3292 : H3280 m 13 = H m 13 := (f3285 m 13 _ gm rfl)
  have k3293 : H3280 x 8 = H x 8 := (f3285 x 8 _ gx rfl)
  have k3294 : H3280 m 3 = H m 3 := (f3285 m 3 _ gm rfl)
  refine wl_of hX hb cL_1460 (xc_V (pc' := 1463) (r := m) (as := []) (st := []) (lm_11_199) rfl rfl (Nat.le_of_ble_eq_true rfl) w3284 gm sh_42 (by decide) rfl (by decide) (s_288 w3284 gm (by omega)) (fun R3295 T3296 H3297 p3298 => ?_))
  obtain ⟨e3299, w3301, f3302, z3304, e3300, b3305, p3303⟩ := p3298
  subst e3299
  subst e3300
  show WL _ _ _ _ 1463 [(4, vI i), (3, .ref o), (2, .ref m), (1, .ref x), (0, .ref 0)] [vI z3304] _ H3297
  refine wl_of hX hb cL_1463 (rw_pop (pc' := 1464) rfl rfl ?_)
  refine wl_of hX hb cL_1464 (rw_goto (p1 := 1653) (by decide) ?_)
  have k3306 : H3297 x 9 = H3280 x 9 := (f3302 x 9 _ gx rfl)
  have k3307 : H3297 m 6 = H3280 m 6 := (f3302 m 6 _ gm rfl)
  have k3308 : H3297 x 11 = H3280 x 11 := (f3302 x 11 _ gx rfl)
  have k3309 : H3297 m 13 = H3280 m 13 := (f3302 m 13 _ gm rfl)
  have k3310 : H3297 x 8 = H3280 x 8 := (f3302 x 8 _ gx rfl)
  have k3311 : H3297 m 3 = H3280 m 3 := (f3302 m 3 _ gm rfl)
  have h3312 : XI T H3297 x m := (XI_fr w3284 gx f3302 rfl (XI_fr hW gx f3285 rfl hXI))
  exact WL.loc hX (by simp) (next T H3297 ⟨⟨w3301, g0, gx, gm, go, by omega, by omega⟩, h3312, by omega, by omega⟩ (by omega) (by omega))
set_option maxHeartbeats 4000000 in
theorem wl_c43 {kt : Nat → Option mc_E} {CB SB : Nat} {X : mc_S → Prop} {T : wq_T} {H : wq_H} {Len x m o : Nat} {i : Int} (hX : wlX kt CB SB X) (hb : T.2.1 ≤ CB ∧ T.2.2.1 ≤ SB) (hI : wlJ Len x m o T H) (hL : Len ≤ 3072) (hi : 0 ≤ i ∧ i + 6 ≤ Len) (hb2 : T.2.1 + 20 ≤ CB ∧ T.2.2.1 + 500 ≤ SB)  (next : ∀ T' H', wlJ Len x m o T' H' → T'.2.1 ≤ T.2.1 + 20 → T'.2.2.1 ≤ T.2.2.1 + 500 → WL kt CB SB X 1653 (wlL i x m o) [] T' H') : WL kt CB SB X 1467 (wlL i x m o) [] T H := by
  obtain ⟨⟨hW, g0, gx, gm, go, hK, hr⟩, hXI, hY1, hY2⟩ := hI
  refine wl_of hX hb cL_1467 (rw_aload_n (pc' := 1468) (v := .ref x) rfl rfl rfl ?_)
  refine wl_of hX hb cL_1468 (rw_aload_n (pc' := 1469) (v := .ref 0) rfl rfl rfl ?_)
  refine wl_of hX hb cL_1469 (rw_iload (pc' := 1471) (z := i) rfl rfl ?_)
  refine wl_of hX hb cL_1471 (rw_iconst (pc' := 1472) rfl ?_)
  refine wl_of hX hb cL_1472 (rw_iadd (pc' := 1473) rfl ?_)
  refine wl_of hX hb cL_1473 (xa_I (so := 0) (pc' := 1474) (a := 0) hW g0 (wsh_s _) (by omega) (wty_s _ _) (by omega) (by omega) rfl (fun b3313 b3314 => ?_))
  refine wl_of hX hb cL_1474 (rw_aload_n (pc' := 1475) (v := .ref 0) rfl rfl rfl ?_)
  refine wl_of hX hb cL_1475 (rw_iload (pc' := 1477) (z := i) rfl rfl ?_)
  refine wl_of hX hb cL_1477 (rw_iconst (pc' := 1478) rfl ?_)
  refine wl_of hX hb cL_1478 (rw_iadd (pc' := 1479) rfl ?_)
  refine wl_of hX hb cL_1479 (xa_I (so := 0) (pc' := 1480) (a := 0) hW g0 (wsh_s _) (by omega) (wty_s _ _) (by omega) (by omega) rfl (fun b3315 b3316 => ?_))
  refine wl_of hX hb cL_1480 (xc_V (pc' := 1483) (r := x) (as := [vI (H 0 ((i + 1).toNat)), vI (H 0 ((i + 2).toNat))]) (st := []) (lm_11_200) rfl rfl (Nat.le_of_ble_eq_true rfl) hW gx sh_1 (by decide) rfl (by decide) (s_157 hW gx ⟨by omega, by omega⟩ ⟨by omega, by omega⟩) (fun R3317 T3318 H3319 p3320 => ?_))
  obtain ⟨e3321, w3323, f3324, z3325, e3322, b3326⟩ := p3320
  subst e3321
  subst e3322
  show WL _ _ _ _ 1483 [(4, vI i), (3, .ref o), (2, .ref m), (1, .ref x), (0, .ref 0)] [vI z3325] _ H3319
  refine wl_of hX hb cL_1483 (rw_pop (pc' := 1484) rfl rfl ?_)
  refine wl_of hX hb cL_1484 (rw_aload_n (pc' := 1485) (v := .ref m) rfl rfl rfl ?_)
  refine wl_of hX hb cL_1485 (rw_aload_n (pc' := 1486) (v := .ref 0) rfl rfl rfl ?_)
  refine wl_of hX hb cL_1486 (rw_iload (pc' := 1488) (z := i) rfl rfl ?_)
  refine wl_of hX hb cL_1488 (rw_iconst (pc' := 1489) rfl ?_)
  refine wl_of hX hb cL_1489 (rw_iadd (pc' := 1490) rfl ?_)
  have k3329 : H3319 0 ((i + 1).toNat) = H 0 ((i + 1).toNat) := (f3324 0 ((i + 1).toNat) _ g0 (wmem_s rfl))
  refine wl_of hX hb cL_1490 (xa_I (so := 0) (pc' := 1491) (a := 0) w3323 g0 (wsh_s _) (by omega) (wty_s _ _) (by omega) (by omega) rfl (fun b3327 b3328 => ?_))
  refine wl_of hX hb cL_1491 (rw_aload_n (pc' := 1492) (v := .ref 0) rfl rfl rfl ?_)
  refine wl_of hX hb cL_1492 (rw_iload (pc' := 1494) (z := i) rfl rfl ?_)
  refine wl_of hX hb cL_1494 (rw_iconst (pc' := 1495) rfl ?_)
  refine wl_of hX hb cL_1495 (rw_iadd (pc' := 1496) rfl ?_)
  have k3332 : H3319 0 ((i + 2).toNat) = H 0 ((i + 2).toNat) := (f3324 0 ((i + 2).toNat) _ g0 (wmem_s rfl))
  refine wl_of hX hb cL_1496 (xa_I (so := 0) (pc' := 1497) (a := 0) w3323 g0 (wsh_s _) (by omega) (wty_s _ _) (by omega) (by omega) rfl (fun b3330 b3331 => ?_))
  have k3333 : wKI H3319 m = wKI H m := (wKI_fr hW gm f3324 rfl)
  have k3334 : H3319 x 9 = H x 9 := (f3324 x 9 _ gx rfl)
  have k3335 : H3319 m 6 = H m 6 := (f3324 m 6 _ gm rfl)
  have k3336 : H3319 x 11 = H x 11 := (f3324 x 11 _ gx rfl)
  have k3337 : H3319 m 13 = H m 13 := (f3324 m 13 _ gm rfl)
  have k3338 : H3319 x 8 = H x 8 := (f3324 x 8 _ gx rfl)
  have k3339 : H3319 m 3 = H m 3 := (f3324 m 3 _ gm rfl)
  refine wl_of hX hb cL_1497 (xc_V (pc' := 1500) (r := m) (as := [vI (H3319 0 ((i + 1).toNat)), vI (H3319 0 ((i + 2).toNat))]) (st := []) (lm_11_203) rfl rfl (Nat.le_of_ble_eq_true rfl) w3323 gm sh_42 (by decide) rfl (by decide) (s_289 w3323 gm ⟨by omega, by omega⟩ ⟨by omega, by omega⟩ (by omega)) (fun R3340 T3341 H3342 p3343 => ?_))
  obtain ⟨e3344, w3346, f3347, z3349, e3345, b3350, p3348⟩ := p3343
  subst e3344
  subst e3345
  show WL _ _ _ _ 1500 [(4, vI i), (3, .ref o), (2, .ref m), (1, .ref x), (0, .ref 0)] [vI z3349] _ H3342
  refine wl_of hX hb cL_1500 (rw_pop (pc' := 1501) rfl rfl ?_)
  refine wl_of hX hb cL_1501 (rw_goto (p1 := 1653) (by decide) ?_)
  have k3351 : H3342 x 9 = H3319 x 9 := (f3347 x 9 _ gx rfl)
  have k3352 : H3342 m 6 = H3319 m 6 := (f3347 m 6 _ gm rfl)
  have k3353 : H3342 x 11 = H3319 x 11 := (f3347 x 11 _ gx rfl)
  have k3354 : H3342 m 13 = H3319 m 13 := (f3347 m 13 _ gm rfl)
  have k3355 : H3342 x 8 = H3319 x 8 := (f3347 x 8 _ gx rfl)
  have k3356 : H3342 m 3 = H3319 m 3 := (f3347 m 3 _ gm rfl)
  have h3357 : XI T H3342 x m := (XI_fr w3323 gx f3347 rfl (XI_fr hW gx f3324 rfl hXI))
  exact WL.loc hX (by simp) (next T H3342 ⟨⟨w3346, g0, gx, gm, go, by omega, by omega⟩, h3357, by omega, by omega⟩ (by omega) (by omega))
set_option maxHeartbeats 4000000 in
theorem wl_c44 {kt : Nat → Option mc_E} {CB SB : Nat} {X : mc_S → Prop} {T : wq_T} {H : wq_H} {Len x m o : Nat} {i : Int} (hX : wlX kt CB SB X) (hb : T.2.1 ≤ CB ∧ T.2.2.1 ≤ SB) (hI : wlJ Len x m o T H) (hL : Len ≤ 3072) (hi : 0 ≤ i ∧ i + 6 ≤ Len) (hb2 : T.2.1 + 20 ≤ CB ∧ T.2.2.1 + 500 ≤ SB)  (next : ∀ T' H', wlJ Len x m o T' H' → T'.2.1 ≤ T.2.1 + 20 → T'.2.2.1 ≤ T.2.2.1 + 500 → WL kt CB SB X 1653 (wlL i x m o) [] T' H') : WL kt CB SB X 1504 (wlL i x m o) [] T H := by
  obtain ⟨⟨hW, g0, gx, gm, go, hK, hr⟩, hXI, hY1, hY2⟩ := hI
  refine wl_of hX hb cL_1504 (rw_aload_n (pc' := 1505) (v := .ref x) rfl rfl rfl ?_)
  refine wl_of hX hb cL_1505 (xc_V (pc' := 1508) (r := x) (as := []) (st := []) (lm_11_204) rfl rfl (Nat.le_of_ble_eq_true rfl) hW gx sh_1 (by decide) rfl (by decide) (s_158 hW gx) (fun R3358 T3359 H3360 p3361 => ?_))
  obtain ⟨e3362, w3364, f3365, z3366, e3363, b3367⟩ := p3361
  subst e3362
  subst e3363
  show WL _ _ _ _ 1508 [(4, vI i), (3, .ref o), (2, .ref m), (1, .ref x), (0, .ref 0)] [vI z3366] _ H3360
  refine wl_of hX hb cL_1508 (rw_pop (pc' := 1509) rfl rfl ?_)
  refine wl_of hX hb cL_1509 (rw_aload_n (pc' := 1510) (v := .ref m) rfl rfl rfl ?_)
  have k3368 : wKI H3360 m = wKI H m := (wKI_fr hW gm f3365 rfl)
  have k3369 : H3360 x 9 = H x 9 := (f3365 x 9 _ gx rfl)
  have k3370 : H3360 m 6 = H m 6 := (f3365 m 6 _ gm rfl)
  have k3371 : H3360 x 11 = H x 11 := (f3365 x 11 _ gx rfl)
  have k3372 : H3360 m 13 = H m 13 := (f3365 m 13 _ gm rfl)
  have k3373 : H3360 x 8 = H x 8 := (f3365 x 8 _ gx rfl)
  have k3374 : H3360 m 3 = H m 3 := (f3365 m 3 _ gm rfl)
  refine wl_of hX hb cL_1510 (xc_V (pc' := 1513) (r := m) (as := []) (st := []) (lm_11_208) rfl rfl (Nat.le_of_ble_eq_true rfl) w3364 gm sh_42 (by decide) rfl (by decide) (s_290 w3364 gm (by omega)) (fun R3375 T3376 H3377 p3378 => ?_))
  obtain ⟨e3379, w3381, f3382, z3384, e3380, b3385, p3383⟩ := p3378
  subst e3379
  subst e3380
  show WL _ _ _ _ 1513 [(4, vI i), (3, .ref o), (2, .ref m), (1, .ref x), (0, .ref 0)] [vI z3384] _ H3377
  refine wl_of hX hb cL_1513 (rw_pop (pc' := 1514) rfl rfl ?_)
  refine wl_of hX hb cL_1514 (rw_goto (p1 := 1653) (by decide) ?_)
  have k3386 : H3377 x 9 = H3360 x 9 := (f3382 x 9 _ gx rfl)
  have k3387 : H3377 m 6 = H3360 m 6 := (f3382 m 6 _ gm rfl)
  have k3388 : H3377 x 11 = H3360 x 11 := (f3382 x 11 _ gx rfl)
  have k3389 : H3377 m 13 = H3360 m 13 := (f3382 m 13 _ gm rfl)
  have k3390 : H3377 x 8 = H3360 x 8 := (f3382 x 8 _ gx rfl)
  have k3391 : H3377 m 3 = H3360 m 3 := (f3382 m 3 _ gm rfl)
  have h3392 : XI T H3377 x m := (XI_fr w3364 gx f3382 rfl (XI_fr hW gx f3365 rfl hXI))
  exact WL.loc hX (by simp) (next T H3377 ⟨⟨w3381, g0, gx, gm, go, by omega, by omega⟩, h3392, by omega, by omega⟩ (by omega) (by omega))
set_option maxHeartbeats 4000000 in
theorem wl_c45 {kt : Nat → Option mc_E} {CB SB : Nat} {X : mc_S → Prop} {T : wq_T} {H : wq_H} {Len x m o : Nat} {i : Int} (hX : wlX kt CB SB X) (hb : T.2.1 ≤ CB ∧ T.2.2.1 ≤ SB) (hI : wlJ Len x m o T H) (hL : Len ≤ 3072) (hi : 0 ≤ i ∧ i + 6 ≤ Len) (hb2 : T.2.1 + 20 ≤ CB ∧ T.2.2.1 + 500 ≤ SB)  (next : ∀ T' H', wlJ Len x m o T' H' → T'.2.1 ≤ T.2.1 + 20 → T'.2.2.1 ≤ T.2.2.1 + 500 → WL kt CB SB X 1653 (wlL i x m o) [] T' H') : WL kt CB SB X 1517 (wlL i x m o) [] T H := by
  obtain ⟨⟨hW, g0, gx, gm, go, hK, hr⟩, hXI, hY1, hY2⟩ := hI
  refine wl_of hX hb cL_1517 (rw_aload_n (pc' := 1518) (v := .ref x) rfl rfl rfl ?_)
  refine wl_of hX hb cL_1518 (xc_V (pc' := 1521) (r := x) (as := []) (st := []) (lm_11_209) rfl rfl (Nat.le_of_ble_eq_true rfl) hW gx sh_1 (by decide) rfl (by decide) (s_159 hW gx) (fun R3393 T3394 H3395 p3396 => ?_))
  obtain ⟨e3397, w3399, f3400, z3401, e3398, b3402⟩ := p3396
  subst e3397
  subst e3398
  show WL _ _ _ _ 1521 [(4, vI i), (3, .ref o), (2, .ref m), (1, .ref x), (0, .ref 0)] [vL z3401] _ H3395
  refine wl_of hX hb cL_1521 (rw_pop2 (pc' := 1522) rfl rfl ?_)
  refine wl_of hX hb cL_1522 (rw_aload_n (pc' := 1523) (v := .ref m) rfl rfl rfl ?_)
  have k3403 : wKI H3395 m = wKI H m := (wKI_fr hW gm f3400 rfl)
  have k3404 : H3395 x 9 = H x 9 := (f3400 x 9 _ gx rfl)
  have k3405 : H3395 m 6 = H m 6 := (f3400 m 6 _ gm rfl)
  have k3406 : H3395 x 11 = H x 11 := (f3400 x 11 _ gx rfl)
  have k3407 : H3395 m 13 = H m 13 := (f3400 m 13 _ gm rfl)
  have k3408 : H3395 x 8 = H x 8 := (f3400 x 8 _ gx rfl)
  have k3409 : H3395 m 3 = H m 3 := (f3400 m 3 _ gm rfl)
  refine wl_of hX hb cL_1523 (xc_V (pc' := 1526) (r := m) (as := []) (st := []) (lm_11_212) rfl rfl (Nat.le_of_ble_eq_true rfl) w3399 gm sh_42 (by decide) rfl (by decide) (s_291 w3399 gm (by omega)) (fun R3410 T3411 H3412 p3413 => ?_))
  obtain ⟨e3414, w3416, f3417, z3419, e3415, b3420, p3418⟩ := p3413
  subst e3414
  subst e3415
  show WL _ _ _ _ 1526 [(4, vI i), (3, .ref o), (2, .ref m), (1, .ref x), (0, .ref 0)] [vL z3419] _ H3412
  refine wl_of hX hb cL_1526 (rw_pop2 (pc' := 1527) rfl rfl ?_)
  refine wl_of hX hb cL_1527 (rw_goto (p1 := 1653) (by decide) ?_)
  have k3421 : H3412 x 9 = H3395 x 9 := (f3417 x 9 _ gx rfl)
  have k3422 : H3412 m 6 = H3395 m 6 := (f3417 m 6 _ gm rfl)
  have k3423 : H3412 x 11 = H3395 x 11 := (f3417 x 11 _ gx rfl)
  have k3424 : H3412 m 13 = H3395 m 13 := (f3417 m 13 _ gm rfl)
  have k3425 : H3412 x 8 = H3395 x 8 := (f3417 x 8 _ gx rfl)
  have k3426 : H3412 m 3 = H3395 m 3 := (f3417 m 3 _ gm rfl)
  have h3427 : XI T H3412 x m := (XI_fr w3399 gx f3417 rfl (XI_fr hW gx f3400 rfl hXI))
  exact WL.loc hX (by simp) (next T H3412 ⟨⟨w3416, g0, gx, gm, go, by omega, by omega⟩, h3427, by omega, by omega⟩ (by omega) (by omega))
set_option maxHeartbeats 4000000 in
theorem wl_c46 {kt : Nat → Option mc_E} {CB SB : Nat} {X : mc_S → Prop} {T : wq_T} {H : wq_H} {Len x m o : Nat} {i : Int} (hX : wlX kt CB SB X) (hb : T.2.1 ≤ CB ∧ T.2.2.1 ≤ SB) (hI : wlJ Len x m o T H) (hL : Len ≤ 3072) (hi : 0 ≤ i ∧ i + 6 ≤ Len) (hb2 : T.2.1 + 20 ≤ CB ∧ T.2.2.1 + 500 ≤ SB)  (next : ∀ T' H', wlJ Len x m o T' H' → T'.2.1 ≤ T.2.1 + 20 → T'.2.2.1 ≤ T.2.2.1 + 500 → WL kt CB SB X 1653 (wlL i x m o) [] T' H') : WL kt CB SB X 1530 (wlL i x m o) [] T H := by
  obtain ⟨⟨hW, g0, gx, gm, go, hK, hr⟩, hXI, hY1, hY2⟩ := hI
  refine wl_of hX hb cL_1530 (rw_aload_n (pc' := 1531) (v := .ref x) rfl rfl rfl ?_)
  refine wl_of hX hb cL_1531 (rw_aload_n (pc' := 1532) (v := .ref 0) rfl rfl rfl ?_)
  refine wl_of hX hb cL_1532 (rw_iload (pc' := 1534) (z := i) rfl rfl ?_)
  refine wl_of hX hb cL_1534 (rw_iconst (pc' := 1535) rfl ?_)
  refine wl_of hX hb cL_1535 (rw_iadd (pc' := 1536) rfl ?_)
  refine wl_of hX hb cL_1536 (xa_I (so := 0) (pc' := 1537) (a := 0) hW g0 (wsh_s _) (by omega) (wty_s _ _) (by omega) (by omega) rfl (fun b3428 b3429 => ?_))
  refine wl_of hX hb cL_1537 (rw_i2l (pc' := 1538) rfl ⟨by omega, by omega⟩ ?_)
  refine wl_of hX hb cL_1538 (rw_bipush (pc' := 1540) (z := 32) rfl (by decide) ?_)
  refine wl_of hX hb cL_1540 (rw_lshl (pc' := 1541) rfl ?_)
  obtain ⟨v3430, e3431⟩ : ∃ x : Int, x = wl_shl (H 0 ((i + 1).toNat)) 32 := ⟨_, rfl⟩
  rw [← e3431]
  have b3432 : -9223372036854775808 ≤ v3430 ∧ v3430 ≤ 9223372036854775807 := by
    rw [e3431]
    exact wL_shl _ _
  refine wl_of hX hb cL_1541 (rw_aload_n (pc' := 1542) (v := .ref 0) rfl rfl rfl ?_)
  refine wl_of hX hb cL_1542 (rw_iload (pc' := 1544) (z := i) rfl rfl ?_)
  refine wl_of hX hb cL_1544 (rw_iconst (pc' := 1545) rfl ?_)
  refine wl_of hX hb cL_1545 (rw_iadd (pc' := 1546) rfl ?_)
  refine wl_of hX hb cL_1546 (xa_I (so := 0) (pc' := 1547) (a := 0) hW g0 (wsh_s _) (by omega) (wty_s _ _) (by omega) (by omega) rfl (fun b3433 b3434 => ?_))
  refine wl_of hX hb cL_1547 (rw_i2l (pc' := 1548) rfl ⟨by omega, by omega⟩ ?_)
  refine wl_of hX hb cL_1548 (rw_ldc2 (pc' := 1551) (z := 4294967295) rfl rfl rfl ?_)
  refine wl_of hX hb cL_1551 (rw_land (pc' := 1552) rfl ?_)
  obtain ⟨v3435, e3436⟩ : ∃ x : Int, x = wl_and (H 0 ((i + 2).toNat)) 4294967295 := ⟨_, rfl⟩
  rw [← e3436]
  have b3437 : -9223372036854775808 ≤ v3435 ∧ v3435 ≤ 9223372036854775807 := by
    rw [e3436]
    exact wL_and _ _
  refine wl_of hX hb cL_1552 (rw_lor (pc' := 1553) rfl ?_)
  obtain ⟨v3438, e3439⟩ : ∃ x : Int, x = wl_or v3430 v3435 := ⟨_, rfl⟩
  rw [← e3439]
  have b3440 : -9223372036854775808 ≤ v3438 ∧ v3438 ≤ 9223372036854775807 := by
    rw [e3439]
    exact wL_or _ _
  refine wl_of hX hb cL_1553 (xc_V (pc' := 1556) (r := x) (as := [vL v3438]) (st := []) (lm_11_215) rfl rfl (Nat.le_of_ble_eq_true rfl) hW gx sh_1 (by decide) rfl (by decide) (s_161 hW gx ⟨by omega, by omega⟩) (fun R3441 T3442 H3443 p3444 => ?_))
  obtain ⟨e3445, w3447, f3448, z3449, e3446, b3450⟩ := p3444
  subst e3445
  subst e3446
  show WL _ _ _ _ 1556 [(4, vI i), (3, .ref o), (2, .ref m), (1, .ref x), (0, .ref 0)] [vI z3449] _ H3443
  refine wl_of hX hb cL_1556 (rw_pop (pc' := 1557) rfl rfl ?_)
  refine wl_of hX hb cL_1557 (rw_aload_n (pc' := 1558) (v := .ref m) rfl rfl rfl ?_)
  refine wl_of hX hb cL_1558 (rw_aload_n (pc' := 1559) (v := .ref 0) rfl rfl rfl ?_)
  refine wl_of hX hb cL_1559 (rw_iload (pc' := 1561) (z := i) rfl rfl ?_)
  refine wl_of hX hb cL_1561 (rw_iconst (pc' := 1562) rfl ?_)
  refine wl_of hX hb cL_1562 (rw_iadd (pc' := 1563) rfl ?_)
  have k3453 : H3443 0 ((i + 1).toNat) = H 0 ((i + 1).toNat) := (f3448 0 ((i + 1).toNat) _ g0 (wmem_s rfl))
  refine wl_of hX hb cL_1563 (xa_I (so := 0) (pc' := 1564) (a := 0) w3447 g0 (wsh_s _) (by omega) (wty_s _ _) (by omega) (by omega) rfl (fun b3451 b3452 => ?_))
  refine wl_of hX hb cL_1564 (rw_i2l (pc' := 1565) rfl ⟨by omega, by omega⟩ ?_)
  refine wl_of hX hb cL_1565 (rw_bipush (pc' := 1567) (z := 32) rfl (by decide) ?_)
  refine wl_of hX hb cL_1567 (rw_lshl (pc' := 1568) rfl ?_)
  obtain ⟨v3454, e3455⟩ : ∃ x : Int, x = wl_shl (H3443 0 ((i + 1).toNat)) 32 := ⟨_, rfl⟩
  rw [← e3455]
  have b3456 : -9223372036854775808 ≤ v3454 ∧ v3454 ≤ 9223372036854775807 := by
    rw [e3455]
    exact wL_shl _ _
  refine wl_of hX hb cL_1568 (rw_aload_n (pc' := 1569) (v := .ref 0) rfl rfl rfl ?_)
  refine wl_of hX hb cL_1569 (rw_iload (pc' := 1571) (z := i) rfl rfl ?_)
  refine wl_of hX hb cL_1571 (rw_iconst (pc' := 1572) rfl ?_)
  refine wl_of hX hb cL_1572 (rw_iadd (pc' := 1573) rfl ?_)
  have k3459 : H3443 0 ((i + 2).toNat) = H 0 ((i + 2).toNat) := (f3448 0 ((i + 2).toNat) _ g0 (wmem_s rfl))
  refine wl_of hX hb cL_1573 (xa_I (so := 0) (pc' := 1574) (a := 0) w3447 g0 (wsh_s _) (by omega) (wty_s _ _) (by omega) (by omega) rfl (fun b3457 b3458 => ?_))
  refine wl_of hX hb cL_1574 (rw_i2l (pc' := 1575) rfl ⟨by omega, by omega⟩ ?_)
  refine wl_of hX hb cL_1575 (rw_ldc2 (pc' := 1578) (z := 4294967295) rfl rfl rfl ?_)
  refine wl_of hX hb cL_1578 (rw_land (pc' := 1579) rfl ?_)
  obtain ⟨v3460, e3461⟩ : ∃ x : Int, x = wl_and (H3443 0 ((i + 2).toNat)) 4294967295 := ⟨_, rfl⟩
  rw [← e3461]
  have b3462 : -9223372036854775808 ≤ v3460 ∧ v3460 ≤ 9223372036854775807 := by
    rw [e3461]
    exact wL_and _ _
  refine wl_of hX hb cL_1579 (rw_lor (pc' := 1580) rfl ?_)
  obtain ⟨v3463, e3464⟩ : ∃ x : Int, x = wl_or v3454 v3460 := ⟨_, rfl⟩
  rw [← e3464]
  have b3465 : -9223372036854775808 ≤ v3463 ∧ v3463 ≤ 9223372036854775807 := by
    rw [e3464]
    exact wL_or _ _
  have k3466 : wKI H3443 m = wKI H m := (wKI_fr hW gm f3448 rfl)
  have k3467 : H3443 x 9 = H x 9 := (f3448 x 9 _ gx rfl)
  have k3468 : H3443 m 6 = H m 6 := (f3448 m 6 _ gm rfl)
  have k3469 : H3443 x 11 = H x 11 := (f3448 x 11 _ gx rfl)
  have k3470 : H3443 m 13 = H m 13 := (f3448 m 13 _ gm rfl)
  have k3471 : H3443 x 8 = H x 8 := (f3448 x 8 _ gx rfl)
  have k3472 : H3443 m 3 = H m 3 := (f3448 m 3 _ gm rfl)
  refine wl_of hX hb cL_1580 (xc_V (pc' := 1583) (r := m) (as := [vL v3463]) (st := []) (lm_11_219) rfl rfl (Nat.le_of_ble_eq_true rfl) w3447 gm sh_42 (by decide) rfl (by decide) (s_292 w3447 gm ⟨by omega, by omega⟩ (by omega)) (fun R3473 T3474 H3475 p3476 => ?_))
  obtain ⟨e3477, w3479, f3480, z3482, e3478, b3483, p3481⟩ := p3476
  subst e3477
  subst e3478
  show WL _ _ _ _ 1583 [(4, vI i), (3, .ref o), (2, .ref m), (1, .ref x), (0, .ref 0)] [vI z3482] _ H3475
  refine wl_of hX hb cL_1583 (rw_pop (pc' := 1584) rfl rfl ?_)
  refine wl_of hX hb cL_1584 (rw_goto (p1 := 1653) (by decide) ?_)
  have k3484 : H3475 x 9 = H3443 x 9 := (f3480 x 9 _ gx rfl)
  have k3485 : H3475 m 6 = H3443 m 6 := (f3480 m 6 _ gm rfl)
  have k3486 : H3475 x 11 = H3443 x 11 := (f3480 x 11 _ gx rfl)
  have k3487 : H3475 m 13 = H3443 m 13 := (f3480 m 13 _ gm rfl)
  have k3488 : H3475 x 8 = H3443 x 8 := (f3480 x 8 _ gx rfl)
  have k3489 : H3475 m 3 = H3443 m 3 := (f3480 m 3 _ gm rfl)
  have h3490 : XI T H3475 x m := (XI_fr w3447 gx f3480 rfl (XI_fr hW gx f3448 rfl hXI))
  exact WL.loc hX (by simp) (next T H3475 ⟨⟨w3479, g0, gx, gm, go, by omega, by omega⟩, h3490, by omega, by omega⟩ (by omega) (by omega))
set_option maxHeartbeats 4000000 in
theorem wl_c47 {kt : Nat → Option mc_E} {CB SB : Nat} {X : mc_S → Prop} {T : wq_T} {H : wq_H} {Len x m o : Nat} {i : Int} (hX : wlX kt CB SB X) (hb : T.2.1 ≤ CB ∧ T.2.2.1 ≤ SB) (hI : wlJ Len x m o T H) (hL : Len ≤ 3072) (hi : 0 ≤ i ∧ i + 6 ≤ Len) (hb2 : T.2.1 + 20 ≤ CB ∧ T.2.2.1 + 500 ≤ SB) (hled : ∀ {z : Int}, wI z → T.2.1 ≤ CB ∧ T.2.2.1 ≤ SB → wlJ Len x m o T H → (∀ (z' : Int), wI z' → ∀ (T' : wq_T) (H' : wq_H), wlJ Len x m o T' H' → T'.2.1 ≤ T.2.1 + 20 → T'.2.2.1 ≤ T.2.2.1 + 500 → WL kt CB SB X 1598 (wlL i x m o) [vI z'] T' H') → WL kt CB SB X 1595 (wlL i x m o) [.ref o, vI z, .ref x] T H) (next : ∀ T' H', wlJ Len x m o T' H' → T'.2.1 ≤ T.2.1 + 20 → T'.2.2.1 ≤ T.2.2.1 + 500 → WL kt CB SB X 1653 (wlL i x m o) [] T' H') : WL kt CB SB X 1587 (wlL i x m o) [] T H := by
  obtain ⟨⟨hW, g0, gx, gm, go, hK, hr⟩, hXI, hY1, hY2⟩ := hI
  refine wl_of hX hb cL_1587 (rw_aload_n (pc' := 1588) (v := .ref x) rfl rfl rfl ?_)
  refine wl_of hX hb cL_1588 (rw_aload_n (pc' := 1589) (v := .ref 0) rfl rfl rfl ?_)
  refine wl_of hX hb cL_1589 (rw_iload (pc' := 1591) (z := i) rfl rfl ?_)
  refine wl_of hX hb cL_1591 (rw_iconst (pc' := 1592) rfl ?_)
  refine wl_of hX hb cL_1592 (rw_iadd (pc' := 1593) rfl ?_)
  refine wl_of hX hb cL_1593 (xa_I (so := 0) (pc' := 1594) (a := 0) hW g0 (wsh_s _) (by omega) (wty_s _ _) (by omega) (by omega) rfl (fun b3491 b3492 => ?_))
  refine wl_of hX hb cL_1594 (rw_aload_n (pc' := 1595) (v := .ref o) rfl rfl rfl ?_)
  refine hled ⟨by omega, by omega⟩ hb ⟨⟨hW, g0, gx, gm, go, by omega, by omega⟩, hXI, by omega, by omega⟩ (fun z9 b9 T9 H9 hI9 n9 s9 => ?_)
  obtain ⟨⟨w9, g0, gx, gm, go, hK, hr⟩, hXI, hY1, hY2⟩ := hI9
  have hb : T9.2.1 ≤ CB ∧ T9.2.2.1 ≤ SB := ⟨by omega, by omega⟩
  refine wl_of hX hb cL_1598 (rw_istore (pc' := 1600) (z := z9) (L' := [(5, vI z9), (4, vI i), (3, .ref o), (2, .ref m), (1, .ref x), (0, .ref 0)]) rfl rfl rfl ?_)
  refine wl_of hX hb cL_1600 (rw_aload_n (pc' := 1601) (v := .ref m) rfl rfl rfl ?_)
  refine wl_of hX hb cL_1601 (rw_aload_n (pc' := 1602) (v := .ref 0) rfl rfl rfl ?_)
  refine wl_of hX hb cL_1602 (rw_iload (pc' := 1604) (z := i) rfl rfl ?_)
  refine wl_of hX hb cL_1604 (rw_iconst (pc' := 1605) rfl ?_)
  refine wl_of hX hb cL_1605 (rw_iadd (pc' := 1606) rfl ?_)
  refine wl_of hX hb cL_1606 (xa_I (so := 0) (pc' := 1607) (a := 0) w9 g0 (wsh_s _) (by omega) (wty_s _ _) (by omega) (by omega) rfl (fun b3493 b3494 => ?_))
  refine wl_of hX hb cL_1607 (xc_V (pc' := 1610) (r := m) (as := [vI (H9 0 ((i + 1).toNat))]) (st := []) (lm_11_225) rfl rfl (Nat.le_of_ble_eq_true rfl) w9 gm sh_42 (by decide) rfl (by decide) (s_293 w9 gm ⟨by omega, by omega⟩ (by omega)) (fun R3495 T3496 H3497 p3498 => ?_))
  obtain ⟨e3499, w3501, f3502, z3504, e3500, b3505, p3503⟩ := p3498
  subst e3499
  subst e3500
  show WL _ _ _ _ 1610 [(5, vI z9), (4, vI i), (3, .ref o), (2, .ref m), (1, .ref x), (0, .ref 0)] [vI z3504] _ H3497
  refine wl_of hX hb cL_1610 (rw_istore (pc' := 1612) (z := z3504) (L' := [(6, vI z3504), (5, vI z9), (4, vI i), (3, .ref o), (2, .ref m), (1, .ref x), (0, .ref 0)]) rfl rfl rfl ?_)
  refine wl_of hX hb cL_1612 (rw_goto (p1 := 1653) (by decide) ?_)
  have k3506 : H3497 x 9 = H9 x 9 := (f3502 x 9 _ gx rfl)
  have k3507 : H3497 m 6 = H9 m 6 := (f3502 m 6 _ gm rfl)
  have k3508 : H3497 x 11 = H9 x 11 := (f3502 x 11 _ gx rfl)
  have k3509 : H3497 m 13 = H9 m 13 := (f3502 m 13 _ gm rfl)
  have k3510 : H3497 x 8 = H9 x 8 := (f3502 x 8 _ gx rfl)
  have k3511 : H3497 m 3 = H9 m 3 := (f3502 m 3 _ gm rfl)
  have h3512 : XI T9 H3497 x m := (XI_fr w9 gx f3502 rfl hXI)
  exact WL.loc hX (by simp) (next T9 H3497 ⟨⟨w3501, g0, gx, gm, go, by omega, by omega⟩, h3512, by omega, by omega⟩ (by omega) (by omega))
set_option maxHeartbeats 4000000 in
theorem wl_c48 {kt : Nat → Option mc_E} {CB SB : Nat} {X : mc_S → Prop} {T : wq_T} {H : wq_H} {Len x m o : Nat} {i : Int} (hX : wlX kt CB SB X) (hb : T.2.1 ≤ CB ∧ T.2.2.1 ≤ SB) (hI : wlJ Len x m o T H) (hL : Len ≤ 3072) (hi : 0 ≤ i ∧ i + 6 ≤ Len) (hb2 : T.2.1 + 20 ≤ CB ∧ T.2.2.1 + 500 ≤ SB)  (next : ∀ T' H', wlJ Len x m o T' H' → T'.2.1 ≤ T.2.1 + 20 → T'.2.2.1 ≤ T.2.2.1 + 500 → WL kt CB SB X 1653 (wlL i x m o) [] T' H') : WL kt CB SB X 1615 (wlL i x m o) [] T H := by
  obtain ⟨⟨hW, g0, gx, gm, go, hK, hr⟩, hXI, hY1, hY2⟩ := hI
  refine wl_of hX hb cL_1615 (rw_aload_n (pc' := 1616) (v := .ref x) rfl rfl rfl ?_)
  refine wl_of hX hb cL_1616 (rw_aload_n (pc' := 1617) (v := .ref 0) rfl rfl rfl ?_)
  refine wl_of hX hb cL_1617 (rw_iload (pc' := 1619) (z := i) rfl rfl ?_)
  refine wl_of hX hb cL_1619 (rw_iconst (pc' := 1620) rfl ?_)
  refine wl_of hX hb cL_1620 (rw_iadd (pc' := 1621) rfl ?_)
  refine wl_of hX hb cL_1621 (xa_I (so := 0) (pc' := 1622) (a := 0) hW g0 (wsh_s _) (by omega) (wty_s _ _) (by omega) (by omega) rfl (fun b3513 b3514 => ?_))
  refine wl_of hX hb cL_1622 (xc_V (pc' := 1625) (r := x) (as := [vI (H 0 ((i + 1).toNat))]) (st := []) (lm_11_226) rfl rfl (Nat.le_of_ble_eq_true rfl) hW gx sh_1 (by decide) rfl (by decide) (s_164 hW gx ⟨by omega, by omega⟩) (fun R3515 T3516 H3517 p3518 => ?_))
  obtain ⟨e3519, e3521, z3522, e3520, b3523⟩ := p3518
  subst e3519
  subst e3520
  subst e3521
  show WL _ _ _ _ 1625 [(4, vI i), (3, .ref o), (2, .ref m), (1, .ref x), (0, .ref 0)] [vI z3522] _ H
  refine wl_of hX hb cL_1625 (rw_pop (pc' := 1626) rfl rfl ?_)
  refine wl_of hX hb cL_1626 (rw_aload_n (pc' := 1627) (v := .ref m) rfl rfl rfl ?_)
  refine wl_of hX hb cL_1627 (rw_aload_n (pc' := 1628) (v := .ref 0) rfl rfl rfl ?_)
  refine wl_of hX hb cL_1628 (rw_iload (pc' := 1630) (z := i) rfl rfl ?_)
  refine wl_of hX hb cL_1630 (rw_iconst (pc' := 1631) rfl ?_)
  refine wl_of hX hb cL_1631 (rw_iadd (pc' := 1632) rfl ?_)
  refine wl_of hX hb cL_1632 (xa_I (so := 0) (pc' := 1633) (a := 0) hW g0 (wsh_s _) (by omega) (wty_s _ _) (by omega) (by omega) rfl (fun b3524 b3525 => ?_))
  refine wl_of hX hb cL_1633 (xc_V (pc' := 1636) (r := m) (as := [vI (H 0 ((i + 1).toNat))]) (st := []) (lm_11_229) rfl rfl (Nat.le_of_ble_eq_true rfl) hW gm sh_42 (by decide) rfl (by decide) (s_294 hW gm ⟨by omega, by omega⟩ (by omega)) (fun R3526 T3527 H3528 p3529 => ?_))
  obtain ⟨e3530, w3532, f3533, z3535, e3531, b3536, p3534⟩ := p3529
  subst e3530
  subst e3531
  show WL _ _ _ _ 1636 [(4, vI i), (3, .ref o), (2, .ref m), (1, .ref x), (0, .ref 0)] [vI z3535] _ H3528
  refine wl_of hX hb cL_1636 (rw_pop (pc' := 1637) rfl rfl ?_)
  refine wl_of hX hb cL_1637 (rw_goto (p1 := 1653) (by decide) ?_)
  have k3537 : H3528 x 9 = H x 9 := (f3533 x 9 _ gx rfl)
  have k3538 : H3528 m 6 = H m 6 := (f3533 m 6 _ gm rfl)
  have k3539 : H3528 x 11 = H x 11 := (f3533 x 11 _ gx rfl)
  have k3540 : H3528 m 13 = H m 13 := (f3533 m 13 _ gm rfl)
  have k3541 : H3528 x 8 = H x 8 := (f3533 x 8 _ gx rfl)
  have k3542 : H3528 m 3 = H m 3 := (f3533 m 3 _ gm rfl)
  have h3543 : XI T H3528 x m := (XI_fr hW gx f3533 rfl hXI)
  exact WL.loc hX (by simp) (next T H3528 ⟨⟨w3532, g0, gx, gm, go, by omega, by omega⟩, h3543, by omega, by omega⟩ (by omega) (by omega))
set_option maxHeartbeats 4000000 in
theorem wl_c49 {kt : Nat → Option mc_E} {CB SB : Nat} {X : mc_S → Prop} {T : wq_T} {H : wq_H} {Len x m o : Nat} {i : Int} (hX : wlX kt CB SB X) (hb : T.2.1 ≤ CB ∧ T.2.2.1 ≤ SB) (hI : wlJ Len x m o T H) (hL : Len ≤ 3072) (hi : 0 ≤ i ∧ i + 6 ≤ Len) (hb2 : T.2.1 + 20 ≤ CB ∧ T.2.2.1 + 500 ≤ SB)  (next : ∀ T' H', wlJ Len x m o T' H' → T'.2.1 ≤ T.2.1 + 20 → T'.2.2.1 ≤ T.2.2.1 + 500 → WL kt CB SB X 1653 (wlL i x m o) [] T' H') : WL kt CB SB X 1640 (wlL i x m o) [] T H := by
  obtain ⟨⟨hW, g0, gx, gm, go, hK, hr⟩, hXI, hY1, hY2⟩ := hI
  refine wl_of hX hb cL_1640 (rw_aload_n (pc' := 1641) (v := .ref x) rfl rfl rfl ?_)
  refine wl_of hX hb cL_1641 (xc_V (pc' := 1644) (r := x) (as := []) (st := []) (lm_11_230) rfl rfl (Nat.le_of_ble_eq_true rfl) hW gx sh_1 (by decide) rfl (by decide) (s_165 hW gx) (fun R3544 T3545 H3546 p3547 => ?_))
  obtain ⟨e3548, e3550, z3551, e3549, b3552⟩ := p3547
  subst e3548
  subst e3549
  subst e3550
  show WL _ _ _ _ 1644 [(4, vI i), (3, .ref o), (2, .ref m), (1, .ref x), (0, .ref 0)] [vI z3551] _ H
  refine wl_of hX hb cL_1644 (rw_pop (pc' := 1645) rfl rfl ?_)
  refine wl_of hX hb cL_1645 (rw_aload_n (pc' := 1646) (v := .ref m) rfl rfl rfl ?_)
  refine wl_of hX hb cL_1646 (xc_V (pc' := 1649) (r := m) (as := []) (st := []) (lm_11_233) rfl rfl (Nat.le_of_ble_eq_true rfl) hW gm sh_42 (by decide) rfl (by decide) (s_295 hW gm (by omega)) (fun R3553 T3554 H3555 p3556 => ?_))
  obtain ⟨e3557, w3559, f3560, z3562, e3558, b3563, p3561⟩ := p3556
  subst e3557
  subst e3558
  show WL _ _ _ _ 1649 [(4, vI i), (3, .ref o), (2, .ref m), (1, .ref x), (0, .ref 0)] [vI z3562] _ H3555
  refine wl_of hX hb cL_1649 (rw_pop (pc' := 1650) rfl rfl ?_)
  refine wl_of hX hb cL_1650 (rw_goto (p1 := 1653) (by decide) ?_)
  have k3564 : H3555 x 9 = H x 9 := (f3560 x 9 _ gx rfl)
  have k3565 : H3555 m 6 = H m 6 := (f3560 m 6 _ gm rfl)
  have k3566 : H3555 x 11 = H x 11 := (f3560 x 11 _ gx rfl)
  have k3567 : H3555 m 13 = H m 13 := (f3560 m 13 _ gm rfl)
  have k3568 : H3555 x 8 = H x 8 := (f3560 x 8 _ gx rfl)
  have k3569 : H3555 m 3 = H m 3 := (f3560 m 3 _ gm rfl)
  have h3570 : XI T H3555 x m := (XI_fr hW gx f3560 rfl hXI)
  exact WL.loc hX (by simp) (next T H3555 ⟨⟨w3559, g0, gx, gm, go, by omega, by omega⟩, h3570, by omega, by omega⟩ (by omega) (by omega))
set_option maxHeartbeats 4000000 in
theorem wl_head {kt : Nat → Option mc_E} {CB SB : Nat} {X : mc_S → Prop} {T : wq_T} {H : wq_H} {Len x m o : Nat} {i : Int} (hX : wlX kt CB SB X) (hb : T.2.1 ≤ CB ∧ T.2.2.1 ≤ SB) (hI : wlJ Len x m o T H) (hL : Len ≤ 3072) (hi : 0 ≤ i ∧ i ≤ Len) (cases : ∀ t, t ∈ [256, 329, 354, 367, 380, 405, 454, 503, 516, 553, 578, 603, 616, 629, 642, 655, 668, 705, 718, 755, 792, 829, 882, 919, 944, 957, 994, 1019, 1056, 1109, 1162, 1175, 1200, 1225, 1250, 1263, 1316, 1329, 1342, 1367, 1404, 1429, 1454, 1467, 1504, 1517, 1530, 1587, 1615, 1640] → i + 6 ≤ Len → WL kt CB SB X t (wlL i x m o) [] T H) (next : i + 6 ≤ Len → WL kt CB SB X 1653 (wlL i x m o) [] T H) : WL kt CB SB X 23 (wlL i x m o) [] T H := by
  obtain ⟨⟨hW, g0, gx, gm, go, hK, hr⟩, hXI, hY1, hY2⟩ := hI
  refine wl_of hX hb cL_23 (rw_iload (pc' := 25) (z := i) rfl rfl ?_)
  refine wl_of hX hb cL_25 (rw_aload_n (pc' := 26) (v := .ref 0) rfl rfl rfl ?_)
  refine wl_of hX hb cL_26 (xa_N (pc' := 27) (a := 0) (n := Len) hW g0 (wsh_s _) (by decide) rfl ?_)
  refine wl_of hX hb cL_27 (rw_bipush (pc' := 29) (z := 6) rfl (by decide) ?_)
  refine wl_of hX hb cL_29 (rw_isub (pc' := 30) rfl ?_)
  refine wl_of hX hb cL_30 (rw_icmp_gt (p1 := 1659) (p2 := 33) (by decide) rfl ⟨by omega, by omega⟩ ⟨by omega, by omega⟩ (fun c3571 => ?_) (fun c3571 => ?_))
  · refine wl_of hX hb cL_1659 (rw_iconst (pc' := 1660) rfl ?_)
    exact WL.fin hX hb
  · refine wl_of hX hb cL_33 (rw_aload_n (pc' := 34) (v := .ref 0) rfl rfl rfl ?_)
    refine wl_of hX hb cL_34 (rw_iload (pc' := 36) (z := i) rfl rfl ?_)
    refine wl_of hX hb cL_36 (xa_I (so := 0) (pc' := 37) (a := 0) hW g0 (wsh_s _) (by omega) (wty_s _ _) (by omega) (by omega) rfl (fun b3572 b3573 => ?_))
    refine wl_of hX hb cL_37 (rw_bipush (pc' := 39) (z := 63) rfl (by decide) ?_)
    refine wl_of hX hb cL_39 (rw_iand (pc' := 40) rfl ?_)
    obtain ⟨v3574, e3575⟩ : ∃ x : Int, x = wq_and (H 0 (i.toNat)) 63 := ⟨_, rfl⟩
    rw [← e3575]
    have b3576 : 0 ≤ v3574 ∧ v3574 ≤ 63 := by
      rw [e3575]
      exact wq_and_b _ (by omega) (by omega)
    have c3577 : v3574 = 0 ∨ v3574 = 1 ∨ v3574 = 2 ∨ v3574 = 3 ∨ v3574 = 4 ∨ v3574 = 5 ∨ v3574 = 6 ∨ v3574 = 7 ∨ v3574 = 8 ∨ v3574 = 9 ∨ v3574 = 10 ∨ v3574 = 11 ∨ v3574 = 12 ∨ v3574 = 13 ∨ v3574 = 14 ∨ v3574 = 15 ∨ v3574 = 16 ∨ v3574 = 17 ∨ v3574 = 18 ∨ v3574 = 19 ∨ v3574 = 20 ∨ v3574 = 21 ∨ v3574 = 22 ∨ v3574 = 23 ∨ v3574 = 24 ∨ v3574 = 25 ∨ v3574 = 26 ∨ v3574 = 27 ∨ v3574 = 28 ∨ v3574 = 29 ∨ v3574 = 30 ∨ v3574 = 31 ∨ v3574 = 32 ∨ v3574 = 33 ∨ v3574 = 34 ∨ v3574 = 35 ∨ v3574 = 36 ∨ v3574 = 37 ∨ v3574 = 38 ∨ v3574 = 39 ∨ v3574 = 40 ∨ v3574 = 41 ∨ v3574 = 42 ∨ v3574 = 43 ∨ v3574 = 44 ∨ v3574 = 45 ∨ v3574 = 46 ∨ v3574 = 47 ∨ v3574 = 48 ∨ v3574 = 49 ∨ (v3574 < 0 ∨ 49 < v3574) := by omega
    rcases c3577 with c3577 | c3577 | c3577 | c3577 | c3577 | c3577 | c3577 | c3577 | c3577 | c3577 | c3577 | c3577 | c3577 | c3577 | c3577 | c3577 | c3577 | c3577 | c3577 | c3577 | c3577 | c3577 | c3577 | c3577 | c3577 | c3577 | c3577 | c3577 | c3577 | c3577 | c3577 | c3577 | c3577 | c3577 | c3577 | c3577 | c3577 | c3577 | c3577 | c3577 | c3577 | c3577 | c3577 | c3577 | c3577 | c3577 | c3577 | c3577 | c3577 | c3577 | c3577
    · refine wl_of hX hb cL_40 (rw_tsw (p1 := 256) ⟨by omega, by omega⟩ (by rw [c3577]; decide) ?_)
      exact cases 256 (by decide) (by omega)
    · refine wl_of hX hb cL_40 (rw_tsw (p1 := 329) ⟨by omega, by omega⟩ (by rw [c3577]; decide) ?_)
      exact cases 329 (by decide) (by omega)
    · refine wl_of hX hb cL_40 (rw_tsw (p1 := 354) ⟨by omega, by omega⟩ (by rw [c3577]; decide) ?_)
      exact cases 354 (by decide) (by omega)
    · refine wl_of hX hb cL_40 (rw_tsw (p1 := 367) ⟨by omega, by omega⟩ (by rw [c3577]; decide) ?_)
      exact cases 367 (by decide) (by omega)
    · refine wl_of hX hb cL_40 (rw_tsw (p1 := 380) ⟨by omega, by omega⟩ (by rw [c3577]; decide) ?_)
      exact cases 380 (by decide) (by omega)
    · refine wl_of hX hb cL_40 (rw_tsw (p1 := 405) ⟨by omega, by omega⟩ (by rw [c3577]; decide) ?_)
      exact cases 405 (by decide) (by omega)
    · refine wl_of hX hb cL_40 (rw_tsw (p1 := 454) ⟨by omega, by omega⟩ (by rw [c3577]; decide) ?_)
      exact cases 454 (by decide) (by omega)
    · refine wl_of hX hb cL_40 (rw_tsw (p1 := 503) ⟨by omega, by omega⟩ (by rw [c3577]; decide) ?_)
      exact cases 503 (by decide) (by omega)
    · refine wl_of hX hb cL_40 (rw_tsw (p1 := 516) ⟨by omega, by omega⟩ (by rw [c3577]; decide) ?_)
      exact cases 516 (by decide) (by omega)
    · refine wl_of hX hb cL_40 (rw_tsw (p1 := 553) ⟨by omega, by omega⟩ (by rw [c3577]; decide) ?_)
      exact cases 553 (by decide) (by omega)
    · refine wl_of hX hb cL_40 (rw_tsw (p1 := 578) ⟨by omega, by omega⟩ (by rw [c3577]; decide) ?_)
      exact cases 578 (by decide) (by omega)
    · refine wl_of hX hb cL_40 (rw_tsw (p1 := 603) ⟨by omega, by omega⟩ (by rw [c3577]; decide) ?_)
      exact cases 603 (by decide) (by omega)
    · refine wl_of hX hb cL_40 (rw_tsw (p1 := 616) ⟨by omega, by omega⟩ (by rw [c3577]; decide) ?_)
      exact cases 616 (by decide) (by omega)
    · refine wl_of hX hb cL_40 (rw_tsw (p1 := 629) ⟨by omega, by omega⟩ (by rw [c3577]; decide) ?_)
      exact cases 629 (by decide) (by omega)
    · refine wl_of hX hb cL_40 (rw_tsw (p1 := 642) ⟨by omega, by omega⟩ (by rw [c3577]; decide) ?_)
      exact cases 642 (by decide) (by omega)
    · refine wl_of hX hb cL_40 (rw_tsw (p1 := 655) ⟨by omega, by omega⟩ (by rw [c3577]; decide) ?_)
      exact cases 655 (by decide) (by omega)
    · refine wl_of hX hb cL_40 (rw_tsw (p1 := 668) ⟨by omega, by omega⟩ (by rw [c3577]; decide) ?_)
      exact cases 668 (by decide) (by omega)
    · refine wl_of hX hb cL_40 (rw_tsw (p1 := 705) ⟨by omega, by omega⟩ (by rw [c3577]; decide) ?_)
      exact cases 705 (by decide) (by omega)
    · refine wl_of hX hb cL_40 (rw_tsw (p1 := 718) ⟨by omega, by omega⟩ (by rw [c3577]; decide) ?_)
      exact cases 718 (by decide) (by omega)
    · refine wl_of hX hb cL_40 (rw_tsw (p1 := 755) ⟨by omega, by omega⟩ (by rw [c3577]; decide) ?_)
      exact cases 755 (by decide) (by omega)
    · refine wl_of hX hb cL_40 (rw_tsw (p1 := 792) ⟨by omega, by omega⟩ (by rw [c3577]; decide) ?_)
      exact cases 792 (by decide) (by omega)
    · refine wl_of hX hb cL_40 (rw_tsw (p1 := 829) ⟨by omega, by omega⟩ (by rw [c3577]; decide) ?_)
      exact cases 829 (by decide) (by omega)
    · refine wl_of hX hb cL_40 (rw_tsw (p1 := 882) ⟨by omega, by omega⟩ (by rw [c3577]; decide) ?_)
      exact cases 882 (by decide) (by omega)
    · refine wl_of hX hb cL_40 (rw_tsw (p1 := 919) ⟨by omega, by omega⟩ (by rw [c3577]; decide) ?_)
      exact cases 919 (by decide) (by omega)
    · refine wl_of hX hb cL_40 (rw_tsw (p1 := 944) ⟨by omega, by omega⟩ (by rw [c3577]; decide) ?_)
      exact cases 944 (by decide) (by omega)
    · refine wl_of hX hb cL_40 (rw_tsw (p1 := 957) ⟨by omega, by omega⟩ (by rw [c3577]; decide) ?_)
      exact cases 957 (by decide) (by omega)
    · refine wl_of hX hb cL_40 (rw_tsw (p1 := 994) ⟨by omega, by omega⟩ (by rw [c3577]; decide) ?_)
      exact cases 994 (by decide) (by omega)
    · refine wl_of hX hb cL_40 (rw_tsw (p1 := 1019) ⟨by omega, by omega⟩ (by rw [c3577]; decide) ?_)
      exact cases 1019 (by decide) (by omega)
    · refine wl_of hX hb cL_40 (rw_tsw (p1 := 1056) ⟨by omega, by omega⟩ (by rw [c3577]; decide) ?_)
      exact cases 1056 (by decide) (by omega)
    · refine wl_of hX hb cL_40 (rw_tsw (p1 := 1109) ⟨by omega, by omega⟩ (by rw [c3577]; decide) ?_)
      exact cases 1109 (by decide) (by omega)
    · refine wl_of hX hb cL_40 (rw_tsw (p1 := 1162) ⟨by omega, by omega⟩ (by rw [c3577]; decide) ?_)
      exact cases 1162 (by decide) (by omega)
    · refine wl_of hX hb cL_40 (rw_tsw (p1 := 1175) ⟨by omega, by omega⟩ (by rw [c3577]; decide) ?_)
      exact cases 1175 (by decide) (by omega)
    · refine wl_of hX hb cL_40 (rw_tsw (p1 := 1200) ⟨by omega, by omega⟩ (by rw [c3577]; decide) ?_)
      exact cases 1200 (by decide) (by omega)
    · refine wl_of hX hb cL_40 (rw_tsw (p1 := 1225) ⟨by omega, by omega⟩ (by rw [c3577]; decide) ?_)
      exact cases 1225 (by decide) (by omega)
    · refine wl_of hX hb cL_40 (rw_tsw (p1 := 1250) ⟨by omega, by omega⟩ (by rw [c3577]; decide) ?_)
      exact cases 1250 (by decide) (by omega)
    · refine wl_of hX hb cL_40 (rw_tsw (p1 := 1263) ⟨by omega, by omega⟩ (by rw [c3577]; decide) ?_)
      exact cases 1263 (by decide) (by omega)
    · refine wl_of hX hb cL_40 (rw_tsw (p1 := 1316) ⟨by omega, by omega⟩ (by rw [c3577]; decide) ?_)
      exact cases 1316 (by decide) (by omega)
    · refine wl_of hX hb cL_40 (rw_tsw (p1 := 1329) ⟨by omega, by omega⟩ (by rw [c3577]; decide) ?_)
      exact cases 1329 (by decide) (by omega)
    · refine wl_of hX hb cL_40 (rw_tsw (p1 := 1342) ⟨by omega, by omega⟩ (by rw [c3577]; decide) ?_)
      exact cases 1342 (by decide) (by omega)
    · refine wl_of hX hb cL_40 (rw_tsw (p1 := 1367) ⟨by omega, by omega⟩ (by rw [c3577]; decide) ?_)
      exact cases 1367 (by decide) (by omega)
    · refine wl_of hX hb cL_40 (rw_tsw (p1 := 1404) ⟨by omega, by omega⟩ (by rw [c3577]; decide) ?_)
      exact cases 1404 (by decide) (by omega)
    · refine wl_of hX hb cL_40 (rw_tsw (p1 := 1429) ⟨by omega, by omega⟩ (by rw [c3577]; decide) ?_)
      exact cases 1429 (by decide) (by omega)
    · refine wl_of hX hb cL_40 (rw_tsw (p1 := 1454) ⟨by omega, by omega⟩ (by rw [c3577]; decide) ?_)
      exact cases 1454 (by decide) (by omega)
    · refine wl_of hX hb cL_40 (rw_tsw (p1 := 1467) ⟨by omega, by omega⟩ (by rw [c3577]; decide) ?_)
      exact cases 1467 (by decide) (by omega)
    · refine wl_of hX hb cL_40 (rw_tsw (p1 := 1504) ⟨by omega, by omega⟩ (by rw [c3577]; decide) ?_)
      exact cases 1504 (by decide) (by omega)
    · refine wl_of hX hb cL_40 (rw_tsw (p1 := 1517) ⟨by omega, by omega⟩ (by rw [c3577]; decide) ?_)
      exact cases 1517 (by decide) (by omega)
    · refine wl_of hX hb cL_40 (rw_tsw (p1 := 1530) ⟨by omega, by omega⟩ (by rw [c3577]; decide) ?_)
      exact cases 1530 (by decide) (by omega)
    · refine wl_of hX hb cL_40 (rw_tsw (p1 := 1587) ⟨by omega, by omega⟩ (by rw [c3577]; decide) ?_)
      exact cases 1587 (by decide) (by omega)
    · refine wl_of hX hb cL_40 (rw_tsw (p1 := 1615) ⟨by omega, by omega⟩ (by rw [c3577]; decide) ?_)
      exact cases 1615 (by decide) (by omega)
    · refine wl_of hX hb cL_40 (rw_tsw (p1 := 1640) ⟨by omega, by omega⟩ (by rw [c3577]; decide) ?_)
      exact cases 1640 (by decide) (by omega)
    · refine wl_of hX hb cL_40 (rw_tsw (p1 := 1653) ⟨by omega, by omega⟩ (by rw [if_pos c3577]; decide) ?_)
      exact next (by omega)
theorem wl_back {kt : Nat → Option mc_E} {CB SB : Nat} {X : mc_S → Prop} {T : wq_T} {H : wq_H} {Len x m o : Nat} {i : Int} (hX : wlX kt CB SB X) (hb : T.2.1 ≤ CB ∧ T.2.2.1 ≤ SB) (hI : wlJ Len x m o T H) (hL : Len ≤ 3072) (hi : 0 ≤ i ∧ i + 6 ≤ Len) (next : WL kt CB SB X 23 (wlL (i + 6) x m o) [] T H) : WL kt CB SB X 1653 (wlL i x m o) [] T H := by
  obtain ⟨⟨hW, g0, gx, gm, go, hK, hr⟩, hXI, hY1, hY2⟩ := hI
  refine wl_of hX hb cL_1653 (rw_iinc (pc' := 1656) (z := i) (L' := [(4, vI (i + 6)), (3, .ref o), (2, .ref m), (1, .ref x), (0, .ref 0)]) rfl rfl rfl rfl ?_)
  refine wl_of hX hb cL_1656 (rw_goto (p1 := 23) (by decide) ?_)
  exact next
/-- the call that may throw, as the loop wants it -/
def wlLed (kt : Nat → Option mc_E) (CB SB : Nat) (X : mc_S → Prop) (Len x m o : Nat) : Prop := ∀ (T : wq_T) (H : wq_H) (i z : Int), T.2.1 + 20 ≤ CB ∧ T.2.2.1 + 500 ≤ SB → wI z → wlJ Len x m o T H → (∀ (z' : Int), wI z' → ∀ (T' : wq_T) (H' : wq_H), wlJ Len x m o T' H' → T'.2.1 ≤ T.2.1 + 20 → T'.2.2.1 ≤ T.2.2.1 + 500 → WL kt CB SB X 1598 (wlL i x m o) [vI z'] T' H') → WL kt CB SB X 1595 (wlL i x m o) [.ref o, vI z, .ref x] T H
set_option maxRecDepth 40000 in
theorem wl_loopL {kt : Nat → Option mc_E} {CB SB : Nat} {X : mc_S → Prop} {Len x m o : Nat} (hX : wlX kt CB SB X) (hL : Len ≤ 3072) (hled : wlLed kt CB SB X Len x m o) : ∀ (n : Nat) (T : wq_T) (H : wq_H) (i : Int), 0 ≤ i ∧ i ≤ Len → (Len - i).toNat = n → T.2.1 + 4 * (n + 6) ≤ CB → T.2.2.1 + 100 * (n + 6) ≤ SB → wlJ Len x m o T H → WL kt CB SB X 23 (wlL i x m o) [] T H := by
  intro n
  induction n using Nat.strongRecOn with
  | _ n ih =>
    intro T H i hi hn hc hs hI
    have hb : T.2.1 ≤ CB ∧ T.2.2.1 ≤ SB := ⟨by omega, by omega⟩
    have hb2 : T.2.1 + 20 ≤ CB ∧ T.2.2.1 + 500 ≤ SB := ⟨by omega, by omega⟩
    refine wl_head hX hb hI hL hi (fun t ht h6 => ?_) (fun h6 => wl_back hX hb hI hL ⟨hi.1, h6⟩ (ih (Len - (i + 6)).toNat (by omega) T H (i + 6) ⟨by omega, by omega⟩ rfl (by omega) (by omega) hI))
    have next : ∀ T' H', wlJ Len x m o T' H' → T'.2.1 ≤ T.2.1 + 20 → T'.2.2.1 ≤ T.2.2.1 + 500 → WL kt CB SB X 1653 (wlL i x m o) [] T' H' := fun T' H' hI' h1 h2 => wl_back hX ⟨by omega, by omega⟩ hI' hL ⟨hi.1, h6⟩ (ih (Len - (i + 6)).toNat (by omega) T' H' (i + 6) ⟨by omega, by omega⟩ rfl (by omega) (by omega) hI')
    rcases List.mem_cons.mp ht with rfl | ht
    · exact wl_c0 hX hb hI hL ⟨hi.1, h6⟩ hb2 next
    rcases List.mem_cons.mp ht with rfl | ht
    · exact wl_c1 hX hb hI hL ⟨hi.1, h6⟩ hb2 next
    rcases List.mem_cons.mp ht with rfl | ht
    · exact wl_c2 hX hb hI hL ⟨hi.1, h6⟩ hb2 next
    rcases List.mem_cons.mp ht with rfl | ht
    · exact wl_c3 hX hb hI hL ⟨hi.1, h6⟩ hb2 next
    rcases List.mem_cons.mp ht with rfl | ht
    · exact wl_c4 hX hb hI hL ⟨hi.1, h6⟩ hb2 next
    rcases List.mem_cons.mp ht with rfl | ht
    · exact wl_c5 hX hb hI hL ⟨hi.1, h6⟩ hb2 next
    rcases List.mem_cons.mp ht with rfl | ht
    · exact wl_c6 hX hb hI hL ⟨hi.1, h6⟩ hb2 next
    rcases List.mem_cons.mp ht with rfl | ht
    · exact wl_c7 hX hb hI hL ⟨hi.1, h6⟩ hb2 next
    rcases List.mem_cons.mp ht with rfl | ht
    · exact wl_c8 hX hb hI hL ⟨hi.1, h6⟩ hb2 next
    rcases List.mem_cons.mp ht with rfl | ht
    · exact wl_c9 hX hb hI hL ⟨hi.1, h6⟩ hb2 next
    rcases List.mem_cons.mp ht with rfl | ht
    · exact wl_c10 hX hb hI hL ⟨hi.1, h6⟩ hb2 next
    rcases List.mem_cons.mp ht with rfl | ht
    · exact wl_c11 hX hb hI hL ⟨hi.1, h6⟩ hb2 next
    rcases List.mem_cons.mp ht with rfl | ht
    · exact wl_c12 hX hb hI hL ⟨hi.1, h6⟩ hb2 next
    rcases List.mem_cons.mp ht with rfl | ht
    · exact wl_c13 hX hb hI hL ⟨hi.1, h6⟩ hb2 next
    rcases List.mem_cons.mp ht with rfl | ht
    · exact wl_c14 hX hb hI hL ⟨hi.1, h6⟩ hb2 next
    rcases List.mem_cons.mp ht with rfl | ht
    · exact wl_c15 hX hb hI hL ⟨hi.1, h6⟩ hb2 next
    rcases List.mem_cons.mp ht with rfl | ht
    · exact wl_c16 hX hb hI hL ⟨hi.1, h6⟩ hb2 next
    rcases List.mem_cons.mp ht with rfl | ht
    · exact wl_c17 hX hb hI hL ⟨hi.1, h6⟩ hb2 next
    rcases List.mem_cons.mp ht with rfl | ht
    · exact wl_c18 hX hb hI hL ⟨hi.1, h6⟩ hb2 next
    rcases List.mem_cons.mp ht with rfl | ht
    · exact wl_c19 hX hb hI hL ⟨hi.1, h6⟩ hb2 next
    rcases List.mem_cons.mp ht with rfl | ht
    · exact wl_c20 hX hb hI hL ⟨hi.1, h6⟩ hb2 next
    rcases List.mem_cons.mp ht with rfl | ht
    · exact wl_c21 hX hb hI hL ⟨hi.1, h6⟩ hb2 next
    rcases List.mem_cons.mp ht with rfl | ht
    · exact wl_c22 hX hb hI hL ⟨hi.1, h6⟩ hb2 next
    rcases List.mem_cons.mp ht with rfl | ht
    · exact wl_c23 hX hb hI hL ⟨hi.1, h6⟩ hb2 next
    rcases List.mem_cons.mp ht with rfl | ht
    · exact wl_c24 hX hb hI hL ⟨hi.1, h6⟩ hb2 next
    rcases List.mem_cons.mp ht with rfl | ht
    · exact wl_c25 hX hb hI hL ⟨hi.1, h6⟩ hb2 next
    rcases List.mem_cons.mp ht with rfl | ht
    · exact wl_c26 hX hb hI hL ⟨hi.1, h6⟩ hb2 next
    rcases List.mem_cons.mp ht with rfl | ht
    · exact wl_c27 hX hb hI hL ⟨hi.1, h6⟩ hb2 next
    rcases List.mem_cons.mp ht with rfl | ht
    · exact wl_c28 hX hb hI hL ⟨hi.1, h6⟩ hb2 next
    rcases List.mem_cons.mp ht with rfl | ht
    · exact wl_c29 hX hb hI hL ⟨hi.1, h6⟩ hb2 next
    rcases List.mem_cons.mp ht with rfl | ht
    · exact wl_c30 hX hb hI hL ⟨hi.1, h6⟩ hb2 next
    rcases List.mem_cons.mp ht with rfl | ht
    · exact wl_c31 hX hb hI hL ⟨hi.1, h6⟩ hb2 next
    rcases List.mem_cons.mp ht with rfl | ht
    · exact wl_c32 hX hb hI hL ⟨hi.1, h6⟩ hb2 next
    rcases List.mem_cons.mp ht with rfl | ht
    · exact wl_c33 hX hb hI hL ⟨hi.1, h6⟩ hb2 next
    rcases List.mem_cons.mp ht with rfl | ht
    · exact wl_c34 hX hb hI hL ⟨hi.1, h6⟩ hb2 next
    rcases List.mem_cons.mp ht with rfl | ht
    · exact wl_c35 hX hb hI hL ⟨hi.1, h6⟩ hb2 next
    rcases List.mem_cons.mp ht with rfl | ht
    · exact wl_c36 hX hb hI hL ⟨hi.1, h6⟩ hb2 next
    rcases List.mem_cons.mp ht with rfl | ht
    · exact wl_c37 hX hb hI hL ⟨hi.1, h6⟩ hb2 next
    rcases List.mem_cons.mp ht with rfl | ht
    · exact wl_c38 hX hb hI hL ⟨hi.1, h6⟩ hb2 next
    rcases List.mem_cons.mp ht with rfl | ht
    · exact wl_c39 hX hb hI hL ⟨hi.1, h6⟩ hb2 next
    rcases List.mem_cons.mp ht with rfl | ht
    · exact wl_c40 hX hb hI hL ⟨hi.1, h6⟩ hb2 next
    rcases List.mem_cons.mp ht with rfl | ht
    · exact wl_c41 hX hb hI hL ⟨hi.1, h6⟩ hb2 next
    rcases List.mem_cons.mp ht with rfl | ht
    · exact wl_c42 hX hb hI hL ⟨hi.1, h6⟩ hb2 next
    rcases List.mem_cons.mp ht with rfl | ht
    · exact wl_c43 hX hb hI hL ⟨hi.1, h6⟩ hb2 next
    rcases List.mem_cons.mp ht with rfl | ht
    · exact wl_c44 hX hb hI hL ⟨hi.1, h6⟩ hb2 next
    rcases List.mem_cons.mp ht with rfl | ht
    · exact wl_c45 hX hb hI hL ⟨hi.1, h6⟩ hb2 next
    rcases List.mem_cons.mp ht with rfl | ht
    · exact wl_c46 hX hb hI hL ⟨hi.1, h6⟩ hb2 next
    rcases List.mem_cons.mp ht with rfl | ht
    · exact wl_c47 hX hb hI hL ⟨hi.1, h6⟩ hb2 (fun hz _ hI2 k => hled T H i _ hb2 hz hI2 k) next
    rcases List.mem_cons.mp ht with rfl | ht
    · exact wl_c48 hX hb hI hL ⟨hi.1, h6⟩ hb2 next
    rcases List.mem_cons.mp ht with rfl | ht
    · exact wl_c49 hX hb hI hL ⟨hi.1, h6⟩ hb2 next
    cases ht
