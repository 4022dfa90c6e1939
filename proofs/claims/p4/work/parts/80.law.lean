/-! THE LAW'S LOOP OVER PURE MEMORY (own work): X is any property of states that one instruction carries backwards; WL: from this place on it is good -/
def wlX (kt : Nat → Option mc_E) (CB SB : Nat) (X : mc_S → Prop) : Prop :=
  (∀ (F : Nat) (x : Instr) (n : Nat) (S0 S : mc_S), mc_lawcd S0.1 = some (x, n) → mc_step kt (mc_call kt F 11) 11 7 false (some .boolean) x n S0 = some (.inl S) → S.2.2.2.length ≤ CB ∧ mc_sz S.2.2.2 ≤ SB → X S → X S0) ∧
  (∀ (pc : Nat) (L L' : List (Nat × Value)) (st : List Value) (M : mc_M), (∀ q ∈ L, q ∈ L') → X (pc, L, st, M) → X (pc, L', st, M)) ∧
  ∀ (L : List (Nat × Value)) (M : mc_M), M.length ≤ CB → mc_sz M ≤ SB → X (1660, L, [.int 1], M)
theorem wmem_s {l : List (Nat × Nat)} {n j : Nat} (h : l.all (fun q => decide (q.1 < 1000)) = true) : wmem l (1000 + n) j = false := wmem_no (fun q hq hh => by
  have h1 := of_decide_eq_true (List.all_eq_true.mp h q hq)
  have h2 := hh.1
  omega)
def WL (kt : Nat → Option mc_E) (CB SB : Nat) (X : mc_S → Prop) (pc : Nat) (L : List (Nat × Value)) (st : List Value) (T : wq_T) (H : wq_H) : Prop := (T.2.1 ≤ CB ∧ T.2.2.1 ≤ SB) ∧ ∀ M, wq_R kt M T H → X (pc, L, st, M)
theorem wl_of {kt : Nat → Option mc_E} {CB SB : Nat} {X : mc_S → Prop} (hX : wlX kt CB SB X) {pc : Nat} {L : List (Nat × Value)} {st : List Value} {T : wq_T} {H : wq_H} (hb : T.2.1 ≤ CB ∧ T.2.2.1 ≤ SB) {x : Instr} {n : Nat} (hd : mc_lawcd pc = some (x, n)) (h : wq_s kt 11 (11, 7, false, some .boolean) x n pc L st T H (WL kt CB SB X)) : WL kt CB SB X pc L st T H := ⟨hb, fun M hM => by
  obtain ⟨F, pc', L', st', M', T', H', h1, h2, h3⟩ := h M hM
  have hl := h2.1
  have hz := h2.2.1
  have hb' := h3.1
  exact hX.1 F x n (pc, L, st, M) (pc', L', st', M') hd h1 ⟨by show M'.length ≤ CB; omega, by show mc_sz M' ≤ SB; omega⟩ (h3.2 M' h2)⟩
theorem WL.loc {kt : Nat → Option mc_E} {CB SB : Nat} {X : mc_S → Prop} (hX : wlX kt CB SB X) {pc : Nat} {L L' : List (Nat × Value)} {st : List Value} {T : wq_T} {H : wq_H} (hq : ∀ q ∈ L, q ∈ L') (h : WL kt CB SB X pc L st T H) : WL kt CB SB X pc L' st T H := ⟨h.1, fun M hM => hX.2.1 pc L L' st M hq (h.2 M hM)⟩
theorem WL.fin {kt : Nat → Option mc_E} {CB SB : Nat} {X : mc_S → Prop} (hX : wlX kt CB SB X) {L : List (Nat × Value)} {T : wq_T} {H : wq_H} (hb : T.2.1 ≤ CB ∧ T.2.2.1 ≤ SB) : WL kt CB SB X 1660 L [vI 1] T H := ⟨hb, fun M hM => hX.2.2 L M (by have := hM.1; omega) (by have := hM.2.1; omega)⟩
/-- what holds at the head of the law's loop -/
def wlI (Len x m o : Nat) (T : wq_T) (H : wq_H) : Prop := WT T H ∧ T.2.2.2 0 = some (1000 + Len) ∧ T.2.2.2 x = some 1 ∧ T.2.2.2 m = some 42 ∧ T.2.2.2 o = some 73 ∧ wKI H m = 1 ∧ H x 9 = H m 6
abbrev wlL (i : Int) (x m o : Nat) : List (Nat × Value) := [(4, vI i), (3, .ref o), (2, .ref m), (1, .ref x), (0, .ref 0)]
/-- and what the two have in common: THE TAPE; two PARISHES with six persons each; the FAULT's number; whether there is a PARISH -/
def wlJ (Len x m o : Nat) (T : wq_T) (H : wq_H) : Prop := wlI Len x m o T H ∧ XI T H x m ∧ H x 11 = H m 13 ∧ ((H x 8 = 0 ∧ H m 3 = -1) ∨ (H x 8 = 1 ∧ H m 3 ≠ -1))

theorem cL_20 : mc_lawcd 20 = some (.iconst 0, 1) := by decide +kernel
theorem cL_21 : mc_lawcd 21 = some (.istore 4, 2) := by decide +kernel
theorem cL_23 : mc_lawcd 23 = some (.iload 4, 2) := by decide +kernel
theorem cL_25 : mc_lawcd 25 = some (.aload_n 0, 1) := by decide +kernel
theorem cL_26 : mc_lawcd 26 = some (.arraylength, 1) := by decide +kernel
theorem cL_27 : mc_lawcd 27 = some (.bipush 6, 2) := by decide +kernel
theorem cL_29 : mc_lawcd 29 = some (.isub, 1) := by decide +kernel
theorem cL_30 : mc_lawcd 30 = some (.if_icmp .gt 1629, 3) := by decide +kernel
theorem cL_33 : mc_lawcd 33 = some (.aload_n 0, 1) := by decide +kernel
theorem cL_34 : mc_lawcd 34 = some (.iload 4, 2) := by decide +kernel
theorem cL_36 : mc_lawcd 36 = some (.iaload, 1) := by decide +kernel
theorem cL_37 : mc_lawcd 37 = some (.bipush 63, 2) := by decide +kernel
theorem cL_39 : mc_lawcd 39 = some (.iand, 1) := by decide +kernel
theorem cL_40 : mc_lawcd 40 = some (.tableswitch 1613 0 49 #[216, 289, 314, 327, 340, 365, 414, 463, 476, 513, 538, 563, 576, 589, 602, 615, 628, 665, 678, 715, 752, 789, 842, 879, 904, 917, 954, 979, 1016, 1069, 1122, 1135, 1160, 1185, 1210, 1223, 1276, 1289, 1302, 1327, 1364, 1389, 1414, 1427, 1464, 1477, 1490, 1547, 1575, 1600], 216) := by decide +kernel
theorem cL_256 : mc_lawcd 256 = some (.aload_n 1, 1) := by decide +kernel
theorem cL_257 : mc_lawcd 257 = some (.aload_n 0, 1) := by decide +kernel
theorem cL_258 : mc_lawcd 258 = some (.iload 4, 2) := by decide +kernel
theorem cL_260 : mc_lawcd 260 = some (.iconst 1, 1) := by decide +kernel
theorem cL_261 : mc_lawcd 261 = some (.iadd, 1) := by decide +kernel
theorem cL_262 : mc_lawcd 262 = some (.iaload, 1) := by decide +kernel
theorem cL_263 : mc_lawcd 263 = some (.aload_n 0, 1) := by decide +kernel
theorem cL_264 : mc_lawcd 264 = some (.iload 4, 2) := by decide +kernel
theorem cL_266 : mc_lawcd 266 = some (.iconst 2, 1) := by decide +kernel
theorem cL_267 : mc_lawcd 267 = some (.iadd, 1) := by decide +kernel
theorem cL_268 : mc_lawcd 268 = some (.iaload, 1) := by decide +kernel
theorem cL_269 : mc_lawcd 269 = some (.aload_n 0, 1) := by decide +kernel
theorem cL_270 : mc_lawcd 270 = some (.iload 4, 2) := by decide +kernel
theorem cL_272 : mc_lawcd 272 = some (.iconst 3, 1) := by decide +kernel
theorem cL_273 : mc_lawcd 273 = some (.iadd, 1) := by decide +kernel
theorem cL_274 : mc_lawcd 274 = some (.iaload, 1) := by decide +kernel
theorem cL_275 : mc_lawcd 275 = some (.aload_n 0, 1) := by decide +kernel
theorem cL_276 : mc_lawcd 276 = some (.iload 4, 2) := by decide +kernel
theorem cL_278 : mc_lawcd 278 = some (.iconst 4, 1) := by decide +kernel
theorem cL_279 : mc_lawcd 279 = some (.iadd, 1) := by decide +kernel
theorem cL_280 : mc_lawcd 280 = some (.iaload, 1) := by decide +kernel
theorem cL_281 : mc_lawcd 281 = some (.aload_n 0, 1) := by decide +kernel
theorem cL_282 : mc_lawcd 282 = some (.iload 4, 2) := by decide +kernel
theorem cL_284 : mc_lawcd 284 = some (.iconst 5, 1) := by decide +kernel
theorem cL_285 : mc_lawcd 285 = some (.iadd, 1) := by decide +kernel
theorem cL_286 : mc_lawcd 286 = some (.iaload, 1) := by decide +kernel
theorem cL_287 : mc_lawcd 287 = some (.invokevirtual 19, 3) := by decide +kernel
theorem cL_290 : mc_lawcd 290 = some (.pop, 1) := by decide +kernel
theorem cL_291 : mc_lawcd 291 = some (.aload_n 2, 1) := by decide +kernel
theorem cL_292 : mc_lawcd 292 = some (.aload_n 0, 1) := by decide +kernel
theorem cL_293 : mc_lawcd 293 = some (.iload 4, 2) := by decide +kernel
theorem cL_295 : mc_lawcd 295 = some (.iconst 1, 1) := by decide +kernel
theorem cL_296 : mc_lawcd 296 = some (.iadd, 1) := by decide +kernel
theorem cL_297 : mc_lawcd 297 = some (.iaload, 1) := by decide +kernel
theorem cL_298 : mc_lawcd 298 = some (.aload_n 0, 1) := by decide +kernel
theorem cL_299 : mc_lawcd 299 = some (.iload 4, 2) := by decide +kernel
theorem cL_301 : mc_lawcd 301 = some (.iconst 2, 1) := by decide +kernel
theorem cL_302 : mc_lawcd 302 = some (.iadd, 1) := by decide +kernel
theorem cL_303 : mc_lawcd 303 = some (.iaload, 1) := by decide +kernel
theorem cL_304 : mc_lawcd 304 = some (.aload_n 0, 1) := by decide +kernel
theorem cL_305 : mc_lawcd 305 = some (.iload 4, 2) := by decide +kernel
theorem cL_307 : mc_lawcd 307 = some (.iconst 3, 1) := by decide +kernel
theorem cL_308 : mc_lawcd 308 = some (.iadd, 1) := by decide +kernel
theorem cL_309 : mc_lawcd 309 = some (.iaload, 1) := by decide +kernel
theorem cL_310 : mc_lawcd 310 = some (.aload_n 0, 1) := by decide +kernel
theorem cL_311 : mc_lawcd 311 = some (.iload 4, 2) := by decide +kernel
theorem cL_313 : mc_lawcd 313 = some (.iconst 4, 1) := by decide +kernel
theorem cL_314 : mc_lawcd 314 = some (.iadd, 1) := by decide +kernel
theorem cL_315 : mc_lawcd 315 = some (.iaload, 1) := by decide +kernel
theorem cL_316 : mc_lawcd 316 = some (.aload_n 0, 1) := by decide +kernel
theorem cL_317 : mc_lawcd 317 = some (.iload 4, 2) := by decide +kernel
theorem cL_319 : mc_lawcd 319 = some (.iconst 5, 1) := by decide +kernel
theorem cL_320 : mc_lawcd 320 = some (.iadd, 1) := by decide +kernel
theorem cL_321 : mc_lawcd 321 = some (.iaload, 1) := by decide +kernel
theorem cL_322 : mc_lawcd 322 = some (.invokevirtual 23, 3) := by decide +kernel
theorem cL_325 : mc_lawcd 325 = some (.pop, 1) := by decide +kernel
theorem cL_326 : mc_lawcd 326 = some (.goto 1327, 3) := by decide +kernel
theorem cL_329 : mc_lawcd 329 = some (.aload_n 1, 1) := by decide +kernel
theorem cL_330 : mc_lawcd 330 = some (.aload_n 0, 1) := by decide +kernel
theorem cL_331 : mc_lawcd 331 = some (.iload 4, 2) := by decide +kernel
theorem cL_333 : mc_lawcd 333 = some (.iconst 1, 1) := by decide +kernel
theorem cL_334 : mc_lawcd 334 = some (.iadd, 1) := by decide +kernel
theorem cL_335 : mc_lawcd 335 = some (.iaload, 1) := by decide +kernel
theorem cL_336 : mc_lawcd 336 = some (.invokevirtual 24, 3) := by decide +kernel
theorem cL_339 : mc_lawcd 339 = some (.pop, 1) := by decide +kernel
theorem cL_340 : mc_lawcd 340 = some (.aload_n 2, 1) := by decide +kernel
theorem cL_341 : mc_lawcd 341 = some (.aload_n 0, 1) := by decide +kernel
theorem cL_342 : mc_lawcd 342 = some (.iload 4, 2) := by decide +kernel
theorem cL_344 : mc_lawcd 344 = some (.iconst 1, 1) := by decide +kernel
theorem cL_345 : mc_lawcd 345 = some (.iadd, 1) := by decide +kernel
theorem cL_346 : mc_lawcd 346 = some (.iaload, 1) := by decide +kernel
theorem cL_347 : mc_lawcd 347 = some (.invokevirtual 27, 3) := by decide +kernel
theorem cL_350 : mc_lawcd 350 = some (.pop, 1) := by decide +kernel
theorem cL_351 : mc_lawcd 351 = some (.goto 1302, 3) := by decide +kernel
theorem cL_354 : mc_lawcd 354 = some (.aload_n 1, 1) := by decide +kernel
theorem cL_355 : mc_lawcd 355 = some (.invokevirtual 28, 3) := by decide +kernel
theorem cL_358 : mc_lawcd 358 = some (.aload_n 2, 1) := by decide +kernel
theorem cL_359 : mc_lawcd 359 = some (.invokevirtual 32, 3) := by decide +kernel
theorem cL_362 : mc_lawcd 362 = some (.if_icmp .eq 1291, 3) := by decide +kernel
theorem cL_365 : mc_lawcd 365 = some (.iconst 0, 1) := by decide +kernel
theorem cL_366 : mc_lawcd 366 = some (.ireturn, 1) := by decide +kernel
theorem cL_367 : mc_lawcd 367 = some (.aload_n 1, 1) := by decide +kernel
theorem cL_368 : mc_lawcd 368 = some (.invokevirtual 33, 3) := by decide +kernel
theorem cL_371 : mc_lawcd 371 = some (.pop, 1) := by decide +kernel
theorem cL_372 : mc_lawcd 372 = some (.aload_n 2, 1) := by decide +kernel
theorem cL_373 : mc_lawcd 373 = some (.invokevirtual 36, 3) := by decide +kernel
theorem cL_376 : mc_lawcd 376 = some (.pop, 1) := by decide +kernel
theorem cL_377 : mc_lawcd 377 = some (.goto 1276, 3) := by decide +kernel
theorem cL_380 : mc_lawcd 380 = some (.aload_n 1, 1) := by decide +kernel
theorem cL_381 : mc_lawcd 381 = some (.aload_n 0, 1) := by decide +kernel
theorem cL_382 : mc_lawcd 382 = some (.iload 4, 2) := by decide +kernel
theorem cL_384 : mc_lawcd 384 = some (.iconst 1, 1) := by decide +kernel
theorem cL_385 : mc_lawcd 385 = some (.iadd, 1) := by decide +kernel
theorem cL_386 : mc_lawcd 386 = some (.iaload, 1) := by decide +kernel
theorem cL_387 : mc_lawcd 387 = some (.invokevirtual 37, 3) := by decide +kernel
theorem cL_390 : mc_lawcd 390 = some (.pop, 1) := by decide +kernel
theorem cL_391 : mc_lawcd 391 = some (.aload_n 2, 1) := by decide +kernel
theorem cL_392 : mc_lawcd 392 = some (.aload_n 0, 1) := by decide +kernel
theorem cL_393 : mc_lawcd 393 = some (.iload 4, 2) := by decide +kernel
theorem cL_395 : mc_lawcd 395 = some (.iconst 1, 1) := by decide +kernel
theorem cL_396 : mc_lawcd 396 = some (.iadd, 1) := by decide +kernel
theorem cL_397 : mc_lawcd 397 = some (.iaload, 1) := by decide +kernel
theorem cL_398 : mc_lawcd 398 = some (.invokevirtual 40, 3) := by decide +kernel
theorem cL_401 : mc_lawcd 401 = some (.pop, 1) := by decide +kernel
theorem cL_402 : mc_lawcd 402 = some (.goto 1251, 3) := by decide +kernel
theorem cL_405 : mc_lawcd 405 = some (.aload_n 1, 1) := by decide +kernel
theorem cL_406 : mc_lawcd 406 = some (.aload_n 0, 1) := by decide +kernel
theorem cL_407 : mc_lawcd 407 = some (.iload 4, 2) := by decide +kernel
theorem cL_409 : mc_lawcd 409 = some (.iconst 1, 1) := by decide +kernel
theorem cL_410 : mc_lawcd 410 = some (.iadd, 1) := by decide +kernel
theorem cL_411 : mc_lawcd 411 = some (.iaload, 1) := by decide +kernel
theorem cL_412 : mc_lawcd 412 = some (.aload_n 0, 1) := by decide +kernel
theorem cL_413 : mc_lawcd 413 = some (.iload 4, 2) := by decide +kernel
theorem cL_415 : mc_lawcd 415 = some (.iconst 2, 1) := by decide +kernel
theorem cL_416 : mc_lawcd 416 = some (.iadd, 1) := by decide +kernel
theorem cL_417 : mc_lawcd 417 = some (.iaload, 1) := by decide +kernel
theorem cL_418 : mc_lawcd 418 = some (.aload_n 0, 1) := by decide +kernel
theorem cL_419 : mc_lawcd 419 = some (.iload 4, 2) := by decide +kernel
theorem cL_421 : mc_lawcd 421 = some (.iconst 3, 1) := by decide +kernel
theorem cL_422 : mc_lawcd 422 = some (.iadd, 1) := by decide +kernel
theorem cL_423 : mc_lawcd 423 = some (.iaload, 1) := by decide +kernel
theorem cL_424 : mc_lawcd 424 = some (.invokevirtual 41, 3) := by decide +kernel
theorem cL_427 : mc_lawcd 427 = some (.pop, 1) := by decide +kernel
theorem cL_428 : mc_lawcd 428 = some (.aload_n 2, 1) := by decide +kernel
theorem cL_429 : mc_lawcd 429 = some (.aload_n 0, 1) := by decide +kernel
theorem cL_430 : mc_lawcd 430 = some (.iload 4, 2) := by decide +kernel
theorem cL_432 : mc_lawcd 432 = some (.iconst 1, 1) := by decide +kernel
theorem cL_433 : mc_lawcd 433 = some (.iadd, 1) := by decide +kernel
theorem cL_434 : mc_lawcd 434 = some (.iaload, 1) := by decide +kernel
theorem cL_435 : mc_lawcd 435 = some (.aload_n 0, 1) := by decide +kernel
theorem cL_436 : mc_lawcd 436 = some (.iload 4, 2) := by decide +kernel
theorem cL_438 : mc_lawcd 438 = some (.iconst 2, 1) := by decide +kernel
theorem cL_439 : mc_lawcd 439 = some (.iadd, 1) := by decide +kernel
theorem cL_440 : mc_lawcd 440 = some (.iaload, 1) := by decide +kernel
theorem cL_441 : mc_lawcd 441 = some (.aload_n 0, 1) := by decide +kernel
theorem cL_442 : mc_lawcd 442 = some (.iload 4, 2) := by decide +kernel
theorem cL_444 : mc_lawcd 444 = some (.iconst 3, 1) := by decide +kernel
theorem cL_445 : mc_lawcd 445 = some (.iadd, 1) := by decide +kernel
theorem cL_446 : mc_lawcd 446 = some (.iaload, 1) := by decide +kernel
theorem cL_447 : mc_lawcd 447 = some (.invokevirtual 45, 3) := by decide +kernel
theorem cL_450 : mc_lawcd 450 = some (.pop, 1) := by decide +kernel
theorem cL_451 : mc_lawcd 451 = some (.goto 1202, 3) := by decide +kernel
theorem cL_454 : mc_lawcd 454 = some (.aload_n 1, 1) := by decide +kernel
theorem cL_455 : mc_lawcd 455 = some (.aload_n 0, 1) := by decide +kernel
theorem cL_456 : mc_lawcd 456 = some (.iload 4, 2) := by decide +kernel
theorem cL_458 : mc_lawcd 458 = some (.iconst 1, 1) := by decide +kernel
theorem cL_459 : mc_lawcd 459 = some (.iadd, 1) := by decide +kernel
theorem cL_460 : mc_lawcd 460 = some (.iaload, 1) := by decide +kernel
theorem cL_461 : mc_lawcd 461 = some (.aload_n 0, 1) := by decide +kernel
theorem cL_462 : mc_lawcd 462 = some (.iload 4, 2) := by decide +kernel
theorem cL_464 : mc_lawcd 464 = some (.iconst 2, 1) := by decide +kernel
theorem cL_465 : mc_lawcd 465 = some (.iadd, 1) := by decide +kernel
theorem cL_466 : mc_lawcd 466 = some (.iaload, 1) := by decide +kernel
theorem cL_467 : mc_lawcd 467 = some (.aload_n 0, 1) := by decide +kernel
theorem cL_468 : mc_lawcd 468 = some (.iload 4, 2) := by decide +kernel
theorem cL_470 : mc_lawcd 470 = some (.iconst 3, 1) := by decide +kernel
theorem cL_471 : mc_lawcd 471 = some (.iadd, 1) := by decide +kernel
theorem cL_472 : mc_lawcd 472 = some (.iaload, 1) := by decide +kernel
theorem cL_473 : mc_lawcd 473 = some (.invokevirtual 46, 3) := by decide +kernel
theorem cL_476 : mc_lawcd 476 = some (.pop, 1) := by decide +kernel
theorem cL_477 : mc_lawcd 477 = some (.aload_n 2, 1) := by decide +kernel
theorem cL_478 : mc_lawcd 478 = some (.aload_n 0, 1) := by decide +kernel
theorem cL_479 : mc_lawcd 479 = some (.iload 4, 2) := by decide +kernel
theorem cL_481 : mc_lawcd 481 = some (.iconst 1, 1) := by decide +kernel
theorem cL_482 : mc_lawcd 482 = some (.iadd, 1) := by decide +kernel
theorem cL_483 : mc_lawcd 483 = some (.iaload, 1) := by decide +kernel
theorem cL_484 : mc_lawcd 484 = some (.aload_n 0, 1) := by decide +kernel
theorem cL_485 : mc_lawcd 485 = some (.iload 4, 2) := by decide +kernel
theorem cL_487 : mc_lawcd 487 = some (.iconst 2, 1) := by decide +kernel
theorem cL_488 : mc_lawcd 488 = some (.iadd, 1) := by decide +kernel
theorem cL_489 : mc_lawcd 489 = some (.iaload, 1) := by decide +kernel
theorem cL_490 : mc_lawcd 490 = some (.aload_n 0, 1) := by decide +kernel
theorem cL_491 : mc_lawcd 491 = some (.iload 4, 2) := by decide +kernel
theorem cL_493 : mc_lawcd 493 = some (.iconst 3, 1) := by decide +kernel
theorem cL_494 : mc_lawcd 494 = some (.iadd, 1) := by decide +kernel
theorem cL_495 : mc_lawcd 495 = some (.iaload, 1) := by decide +kernel
theorem cL_496 : mc_lawcd 496 = some (.invokevirtual 49, 3) := by decide +kernel
theorem cL_499 : mc_lawcd 499 = some (.pop, 1) := by decide +kernel
theorem cL_500 : mc_lawcd 500 = some (.goto 1153, 3) := by decide +kernel
theorem cL_503 : mc_lawcd 503 = some (.aload_n 1, 1) := by decide +kernel
theorem cL_504 : mc_lawcd 504 = some (.invokevirtual 50, 3) := by decide +kernel
theorem cL_507 : mc_lawcd 507 = some (.pop2, 1) := by decide +kernel
theorem cL_508 : mc_lawcd 508 = some (.aload_n 2, 1) := by decide +kernel
theorem cL_509 : mc_lawcd 509 = some (.invokevirtual 54, 3) := by decide +kernel
theorem cL_512 : mc_lawcd 512 = some (.pop2, 1) := by decide +kernel
theorem cL_513 : mc_lawcd 513 = some (.goto 1140, 3) := by decide +kernel
theorem cL_516 : mc_lawcd 516 = some (.aload_n 1, 1) := by decide +kernel
theorem cL_517 : mc_lawcd 517 = some (.aload_n 0, 1) := by decide +kernel
theorem cL_518 : mc_lawcd 518 = some (.iload 4, 2) := by decide +kernel
theorem cL_520 : mc_lawcd 520 = some (.iconst 1, 1) := by decide +kernel
theorem cL_521 : mc_lawcd 521 = some (.iadd, 1) := by decide +kernel
theorem cL_522 : mc_lawcd 522 = some (.iaload, 1) := by decide +kernel
theorem cL_523 : mc_lawcd 523 = some (.aload_n 0, 1) := by decide +kernel
theorem cL_524 : mc_lawcd 524 = some (.iload 4, 2) := by decide +kernel
theorem cL_526 : mc_lawcd 526 = some (.iconst 2, 1) := by decide +kernel
theorem cL_527 : mc_lawcd 527 = some (.iadd, 1) := by decide +kernel
theorem cL_528 : mc_lawcd 528 = some (.iaload, 1) := by decide +kernel
theorem cL_529 : mc_lawcd 529 = some (.invokevirtual 55, 3) := by decide +kernel
theorem cL_532 : mc_lawcd 532 = some (.pop, 1) := by decide +kernel
theorem cL_533 : mc_lawcd 533 = some (.aload_n 2, 1) := by decide +kernel
theorem cL_534 : mc_lawcd 534 = some (.aload_n 0, 1) := by decide +kernel
theorem cL_535 : mc_lawcd 535 = some (.iload 4, 2) := by decide +kernel
theorem cL_537 : mc_lawcd 537 = some (.iconst 1, 1) := by decide +kernel
theorem cL_538 : mc_lawcd 538 = some (.iadd, 1) := by decide +kernel
theorem cL_539 : mc_lawcd 539 = some (.iaload, 1) := by decide +kernel
theorem cL_540 : mc_lawcd 540 = some (.aload_n 0, 1) := by decide +kernel
theorem cL_541 : mc_lawcd 541 = some (.iload 4, 2) := by decide +kernel
theorem cL_543 : mc_lawcd 543 = some (.iconst 2, 1) := by decide +kernel
theorem cL_544 : mc_lawcd 544 = some (.iadd, 1) := by decide +kernel
theorem cL_545 : mc_lawcd 545 = some (.iaload, 1) := by decide +kernel
theorem cL_546 : mc_lawcd 546 = some (.invokevirtual 59, 3) := by decide +kernel
theorem cL_549 : mc_lawcd 549 = some (.pop, 1) := by decide +kernel
theorem cL_550 : mc_lawcd 550 = some (.goto 1103, 3) := by decide +kernel
theorem cL_553 : mc_lawcd 553 = some (.aload_n 1, 1) := by decide +kernel
theorem cL_554 : mc_lawcd 554 = some (.aload_n 0, 1) := by decide +kernel
theorem cL_555 : mc_lawcd 555 = some (.iload 4, 2) := by decide +kernel
theorem cL_557 : mc_lawcd 557 = some (.iconst 1, 1) := by decide +kernel
theorem cL_558 : mc_lawcd 558 = some (.iadd, 1) := by decide +kernel
theorem cL_559 : mc_lawcd 559 = some (.iaload, 1) := by decide +kernel
theorem cL_560 : mc_lawcd 560 = some (.invokevirtual 60, 3) := by decide +kernel
theorem cL_563 : mc_lawcd 563 = some (.pop, 1) := by decide +kernel
theorem cL_564 : mc_lawcd 564 = some (.aload_n 2, 1) := by decide +kernel
theorem cL_565 : mc_lawcd 565 = some (.aload_n 0, 1) := by decide +kernel
theorem cL_566 : mc_lawcd 566 = some (.iload 4, 2) := by decide +kernel
theorem cL_568 : mc_lawcd 568 = some (.iconst 1, 1) := by decide +kernel
theorem cL_569 : mc_lawcd 569 = some (.iadd, 1) := by decide +kernel
theorem cL_570 : mc_lawcd 570 = some (.iaload, 1) := by decide +kernel
theorem cL_571 : mc_lawcd 571 = some (.invokevirtual 63, 3) := by decide +kernel
theorem cL_574 : mc_lawcd 574 = some (.pop, 1) := by decide +kernel
theorem cL_575 : mc_lawcd 575 = some (.goto 1078, 3) := by decide +kernel
theorem cL_578 : mc_lawcd 578 = some (.aload_n 1, 1) := by decide +kernel
theorem cL_579 : mc_lawcd 579 = some (.aload_n 0, 1) := by decide +kernel
theorem cL_580 : mc_lawcd 580 = some (.iload 4, 2) := by decide +kernel
theorem cL_582 : mc_lawcd 582 = some (.iconst 1, 1) := by decide +kernel
theorem cL_583 : mc_lawcd 583 = some (.iadd, 1) := by decide +kernel
theorem cL_584 : mc_lawcd 584 = some (.iaload, 1) := by decide +kernel
theorem cL_585 : mc_lawcd 585 = some (.invokevirtual 64, 3) := by decide +kernel
theorem cL_588 : mc_lawcd 588 = some (.pop, 1) := by decide +kernel
theorem cL_589 : mc_lawcd 589 = some (.aload_n 2, 1) := by decide +kernel
theorem cL_590 : mc_lawcd 590 = some (.aload_n 0, 1) := by decide +kernel
theorem cL_591 : mc_lawcd 591 = some (.iload 4, 2) := by decide +kernel
theorem cL_593 : mc_lawcd 593 = some (.iconst 1, 1) := by decide +kernel
theorem cL_594 : mc_lawcd 594 = some (.iadd, 1) := by decide +kernel
theorem cL_595 : mc_lawcd 595 = some (.iaload, 1) := by decide +kernel
theorem cL_596 : mc_lawcd 596 = some (.invokevirtual 67, 3) := by decide +kernel
theorem cL_599 : mc_lawcd 599 = some (.pop, 1) := by decide +kernel
theorem cL_600 : mc_lawcd 600 = some (.goto 1053, 3) := by decide +kernel
theorem cL_603 : mc_lawcd 603 = some (.aload_n 1, 1) := by decide +kernel
theorem cL_604 : mc_lawcd 604 = some (.invokevirtual 68, 3) := by decide +kernel
theorem cL_607 : mc_lawcd 607 = some (.pop, 1) := by decide +kernel
theorem cL_608 : mc_lawcd 608 = some (.aload_n 2, 1) := by decide +kernel
theorem cL_609 : mc_lawcd 609 = some (.invokevirtual 71, 3) := by decide +kernel
theorem cL_612 : mc_lawcd 612 = some (.pop, 1) := by decide +kernel
theorem cL_613 : mc_lawcd 613 = some (.goto 1040, 3) := by decide +kernel
theorem cL_616 : mc_lawcd 616 = some (.aload_n 1, 1) := by decide +kernel
theorem cL_617 : mc_lawcd 617 = some (.invokevirtual 72, 3) := by decide +kernel
theorem cL_620 : mc_lawcd 620 = some (.pop, 1) := by decide +kernel
theorem cL_621 : mc_lawcd 621 = some (.aload_n 2, 1) := by decide +kernel
theorem cL_622 : mc_lawcd 622 = some (.invokevirtual 75, 3) := by decide +kernel
theorem cL_625 : mc_lawcd 625 = some (.pop, 1) := by decide +kernel
theorem cL_626 : mc_lawcd 626 = some (.goto 1027, 3) := by decide +kernel
theorem cL_629 : mc_lawcd 629 = some (.aload_n 1, 1) := by decide +kernel
theorem cL_630 : mc_lawcd 630 = some (.invokevirtual 76, 3) := by decide +kernel
theorem cL_633 : mc_lawcd 633 = some (.pop, 1) := by decide +kernel
theorem cL_634 : mc_lawcd 634 = some (.aload_n 2, 1) := by decide +kernel
theorem cL_635 : mc_lawcd 635 = some (.invokevirtual 79, 3) := by decide +kernel
theorem cL_638 : mc_lawcd 638 = some (.pop, 1) := by decide +kernel
theorem cL_639 : mc_lawcd 639 = some (.goto 1014, 3) := by decide +kernel
theorem cL_642 : mc_lawcd 642 = some (.aload_n 1, 1) := by decide +kernel
theorem cL_643 : mc_lawcd 643 = some (.invokevirtual 80, 3) := by decide +kernel
theorem cL_646 : mc_lawcd 646 = some (.pop, 1) := by decide +kernel
theorem cL_647 : mc_lawcd 647 = some (.aload_n 2, 1) := by decide +kernel
theorem cL_648 : mc_lawcd 648 = some (.invokevirtual 83, 3) := by decide +kernel
theorem cL_651 : mc_lawcd 651 = some (.pop, 1) := by decide +kernel
theorem cL_652 : mc_lawcd 652 = some (.goto 1001, 3) := by decide +kernel
theorem cL_655 : mc_lawcd 655 = some (.aload_n 1, 1) := by decide +kernel
theorem cL_656 : mc_lawcd 656 = some (.invokevirtual 84, 3) := by decide +kernel
theorem cL_659 : mc_lawcd 659 = some (.pop, 1) := by decide +kernel
theorem cL_660 : mc_lawcd 660 = some (.aload_n 2, 1) := by decide +kernel
theorem cL_661 : mc_lawcd 661 = some (.invokevirtual 87, 3) := by decide +kernel
theorem cL_664 : mc_lawcd 664 = some (.pop, 1) := by decide +kernel
theorem cL_665 : mc_lawcd 665 = some (.goto 988, 3) := by decide +kernel
theorem cL_668 : mc_lawcd 668 = some (.aload_n 1, 1) := by decide +kernel
theorem cL_669 : mc_lawcd 669 = some (.aload_n 0, 1) := by decide +kernel
theorem cL_670 : mc_lawcd 670 = some (.iload 4, 2) := by decide +kernel
theorem cL_672 : mc_lawcd 672 = some (.iconst 1, 1) := by decide +kernel
theorem cL_673 : mc_lawcd 673 = some (.iadd, 1) := by decide +kernel
theorem cL_674 : mc_lawcd 674 = some (.iaload, 1) := by decide +kernel
theorem cL_675 : mc_lawcd 675 = some (.aload_n 0, 1) := by decide +kernel
theorem cL_676 : mc_lawcd 676 = some (.iload 4, 2) := by decide +kernel
theorem cL_678 : mc_lawcd 678 = some (.iconst 2, 1) := by decide +kernel
theorem cL_679 : mc_lawcd 679 = some (.iadd, 1) := by decide +kernel
theorem cL_680 : mc_lawcd 680 = some (.iaload, 1) := by decide +kernel
theorem cL_681 : mc_lawcd 681 = some (.invokevirtual 88, 3) := by decide +kernel
theorem cL_684 : mc_lawcd 684 = some (.pop, 1) := by decide +kernel
theorem cL_685 : mc_lawcd 685 = some (.aload_n 2, 1) := by decide +kernel
theorem cL_686 : mc_lawcd 686 = some (.aload_n 0, 1) := by decide +kernel
theorem cL_687 : mc_lawcd 687 = some (.iload 4, 2) := by decide +kernel
theorem cL_689 : mc_lawcd 689 = some (.iconst 1, 1) := by decide +kernel
theorem cL_690 : mc_lawcd 690 = some (.iadd, 1) := by decide +kernel
theorem cL_691 : mc_lawcd 691 = some (.iaload, 1) := by decide +kernel
theorem cL_692 : mc_lawcd 692 = some (.aload_n 0, 1) := by decide +kernel
theorem cL_693 : mc_lawcd 693 = some (.iload 4, 2) := by decide +kernel
theorem cL_695 : mc_lawcd 695 = some (.iconst 2, 1) := by decide +kernel
theorem cL_696 : mc_lawcd 696 = some (.iadd, 1) := by decide +kernel
theorem cL_697 : mc_lawcd 697 = some (.iaload, 1) := by decide +kernel
theorem cL_698 : mc_lawcd 698 = some (.invokevirtual 92, 3) := by decide +kernel
theorem cL_701 : mc_lawcd 701 = some (.pop, 1) := by decide +kernel
theorem cL_702 : mc_lawcd 702 = some (.goto 951, 3) := by decide +kernel
theorem cL_705 : mc_lawcd 705 = some (.aload_n 1, 1) := by decide +kernel
theorem cL_706 : mc_lawcd 706 = some (.invokevirtual 93, 3) := by decide +kernel
theorem cL_709 : mc_lawcd 709 = some (.pop2, 1) := by decide +kernel
theorem cL_710 : mc_lawcd 710 = some (.aload_n 2, 1) := by decide +kernel
theorem cL_711 : mc_lawcd 711 = some (.invokevirtual 96, 3) := by decide +kernel
theorem cL_714 : mc_lawcd 714 = some (.pop2, 1) := by decide +kernel
theorem cL_715 : mc_lawcd 715 = some (.goto 938, 3) := by decide +kernel
theorem cL_718 : mc_lawcd 718 = some (.aload_n 1, 1) := by decide +kernel
theorem cL_719 : mc_lawcd 719 = some (.aload_n 0, 1) := by decide +kernel
theorem cL_720 : mc_lawcd 720 = some (.iload 4, 2) := by decide +kernel
theorem cL_722 : mc_lawcd 722 = some (.iconst 1, 1) := by decide +kernel
theorem cL_723 : mc_lawcd 723 = some (.iadd, 1) := by decide +kernel
theorem cL_724 : mc_lawcd 724 = some (.iaload, 1) := by decide +kernel
theorem cL_725 : mc_lawcd 725 = some (.aload_n 0, 1) := by decide +kernel
theorem cL_726 : mc_lawcd 726 = some (.iload 4, 2) := by decide +kernel
theorem cL_728 : mc_lawcd 728 = some (.iconst 2, 1) := by decide +kernel
theorem cL_729 : mc_lawcd 729 = some (.iadd, 1) := by decide +kernel
theorem cL_730 : mc_lawcd 730 = some (.iaload, 1) := by decide +kernel
theorem cL_731 : mc_lawcd 731 = some (.invokevirtual 97, 3) := by decide +kernel
theorem cL_734 : mc_lawcd 734 = some (.pop, 1) := by decide +kernel
theorem cL_735 : mc_lawcd 735 = some (.aload_n 2, 1) := by decide +kernel
theorem cL_736 : mc_lawcd 736 = some (.aload_n 0, 1) := by decide +kernel
theorem cL_737 : mc_lawcd 737 = some (.iload 4, 2) := by decide +kernel
theorem cL_739 : mc_lawcd 739 = some (.iconst 1, 1) := by decide +kernel
theorem cL_740 : mc_lawcd 740 = some (.iadd, 1) := by decide +kernel
theorem cL_741 : mc_lawcd 741 = some (.iaload, 1) := by decide +kernel
theorem cL_742 : mc_lawcd 742 = some (.aload_n 0, 1) := by decide +kernel
theorem cL_743 : mc_lawcd 743 = some (.iload 4, 2) := by decide +kernel
theorem cL_745 : mc_lawcd 745 = some (.iconst 2, 1) := by decide +kernel
theorem cL_746 : mc_lawcd 746 = some (.iadd, 1) := by decide +kernel
theorem cL_747 : mc_lawcd 747 = some (.iaload, 1) := by decide +kernel
theorem cL_748 : mc_lawcd 748 = some (.invokevirtual 100, 3) := by decide +kernel
theorem cL_751 : mc_lawcd 751 = some (.pop, 1) := by decide +kernel
theorem cL_752 : mc_lawcd 752 = some (.goto 901, 3) := by decide +kernel
theorem cL_755 : mc_lawcd 755 = some (.aload_n 1, 1) := by decide +kernel
theorem cL_756 : mc_lawcd 756 = some (.aload_n 0, 1) := by decide +kernel
theorem cL_757 : mc_lawcd 757 = some (.iload 4, 2) := by decide +kernel
theorem cL_759 : mc_lawcd 759 = some (.iconst 1, 1) := by decide +kernel
theorem cL_760 : mc_lawcd 760 = some (.iadd, 1) := by decide +kernel
theorem cL_761 : mc_lawcd 761 = some (.iaload, 1) := by decide +kernel
theorem cL_762 : mc_lawcd 762 = some (.aload_n 0, 1) := by decide +kernel
theorem cL_763 : mc_lawcd 763 = some (.iload 4, 2) := by decide +kernel
theorem cL_765 : mc_lawcd 765 = some (.iconst 2, 1) := by decide +kernel
theorem cL_766 : mc_lawcd 766 = some (.iadd, 1) := by decide +kernel
theorem cL_767 : mc_lawcd 767 = some (.iaload, 1) := by decide +kernel
theorem cL_768 : mc_lawcd 768 = some (.invokevirtual 101, 3) := by decide +kernel
theorem cL_771 : mc_lawcd 771 = some (.pop, 1) := by decide +kernel
theorem cL_772 : mc_lawcd 772 = some (.aload_n 2, 1) := by decide +kernel
theorem cL_773 : mc_lawcd 773 = some (.aload_n 0, 1) := by decide +kernel
theorem cL_774 : mc_lawcd 774 = some (.iload 4, 2) := by decide +kernel
theorem cL_776 : mc_lawcd 776 = some (.iconst 1, 1) := by decide +kernel
theorem cL_777 : mc_lawcd 777 = some (.iadd, 1) := by decide +kernel
theorem cL_778 : mc_lawcd 778 = some (.iaload, 1) := by decide +kernel
theorem cL_779 : mc_lawcd 779 = some (.aload_n 0, 1) := by decide +kernel
theorem cL_780 : mc_lawcd 780 = some (.iload 4, 2) := by decide +kernel
theorem cL_782 : mc_lawcd 782 = some (.iconst 2, 1) := by decide +kernel
theorem cL_783 : mc_lawcd 783 = some (.iadd, 1) := by decide +kernel
theorem cL_784 : mc_lawcd 784 = some (.iaload, 1) := by decide +kernel
theorem cL_785 : mc_lawcd 785 = some (.invokevirtual 104, 3) := by decide +kernel
theorem cL_788 : mc_lawcd 788 = some (.pop, 1) := by decide +kernel
theorem cL_789 : mc_lawcd 789 = some (.goto 864, 3) := by decide +kernel
theorem cL_792 : mc_lawcd 792 = some (.aload_n 1, 1) := by decide +kernel
theorem cL_793 : mc_lawcd 793 = some (.aload_n 0, 1) := by decide +kernel
theorem cL_794 : mc_lawcd 794 = some (.iload 4, 2) := by decide +kernel
theorem cL_796 : mc_lawcd 796 = some (.iconst 1, 1) := by decide +kernel
theorem cL_797 : mc_lawcd 797 = some (.iadd, 1) := by decide +kernel
theorem cL_798 : mc_lawcd 798 = some (.iaload, 1) := by decide +kernel
theorem cL_799 : mc_lawcd 799 = some (.aload_n 0, 1) := by decide +kernel
theorem cL_800 : mc_lawcd 800 = some (.iload 4, 2) := by decide +kernel
theorem cL_802 : mc_lawcd 802 = some (.iconst 2, 1) := by decide +kernel
theorem cL_803 : mc_lawcd 803 = some (.iadd, 1) := by decide +kernel
theorem cL_804 : mc_lawcd 804 = some (.iaload, 1) := by decide +kernel
theorem cL_805 : mc_lawcd 805 = some (.invokevirtual 105, 3) := by decide +kernel
theorem cL_808 : mc_lawcd 808 = some (.pop, 1) := by decide +kernel
theorem cL_809 : mc_lawcd 809 = some (.aload_n 2, 1) := by decide +kernel
theorem cL_810 : mc_lawcd 810 = some (.aload_n 0, 1) := by decide +kernel
theorem cL_811 : mc_lawcd 811 = some (.iload 4, 2) := by decide +kernel
theorem cL_813 : mc_lawcd 813 = some (.iconst 1, 1) := by decide +kernel
theorem cL_814 : mc_lawcd 814 = some (.iadd, 1) := by decide +kernel
theorem cL_815 : mc_lawcd 815 = some (.iaload, 1) := by decide +kernel
theorem cL_816 : mc_lawcd 816 = some (.aload_n 0, 1) := by decide +kernel
theorem cL_817 : mc_lawcd 817 = some (.iload 4, 2) := by decide +kernel
theorem cL_819 : mc_lawcd 819 = some (.iconst 2, 1) := by decide +kernel
theorem cL_820 : mc_lawcd 820 = some (.iadd, 1) := by decide +kernel
theorem cL_821 : mc_lawcd 821 = some (.iaload, 1) := by decide +kernel
theorem cL_822 : mc_lawcd 822 = some (.invokevirtual 108, 3) := by decide +kernel
theorem cL_825 : mc_lawcd 825 = some (.pop, 1) := by decide +kernel
theorem cL_826 : mc_lawcd 826 = some (.goto 827, 3) := by decide +kernel
theorem cL_829 : mc_lawcd 829 = some (.aload_n 1, 1) := by decide +kernel
theorem cL_830 : mc_lawcd 830 = some (.aload_n 0, 1) := by decide +kernel
theorem cL_831 : mc_lawcd 831 = some (.iload 4, 2) := by decide +kernel
theorem cL_833 : mc_lawcd 833 = some (.iconst 1, 1) := by decide +kernel
theorem cL_834 : mc_lawcd 834 = some (.iadd, 1) := by decide +kernel
theorem cL_835 : mc_lawcd 835 = some (.iaload, 1) := by decide +kernel
theorem cL_836 : mc_lawcd 836 = some (.aload_n 0, 1) := by decide +kernel
theorem cL_837 : mc_lawcd 837 = some (.iload 4, 2) := by decide +kernel
theorem cL_839 : mc_lawcd 839 = some (.iconst 2, 1) := by decide +kernel
theorem cL_840 : mc_lawcd 840 = some (.iadd, 1) := by decide +kernel
theorem cL_841 : mc_lawcd 841 = some (.iaload, 1) := by decide +kernel
theorem cL_842 : mc_lawcd 842 = some (.ifCond .eq 7, 3) := by decide +kernel
theorem cL_845 : mc_lawcd 845 = some (.iconst 1, 1) := by decide +kernel
theorem cL_846 : mc_lawcd 846 = some (.goto 4, 3) := by decide +kernel
theorem cL_849 : mc_lawcd 849 = some (.iconst 0, 1) := by decide +kernel
theorem cL_850 : mc_lawcd 850 = some (.invokevirtual 109, 3) := by decide +kernel
theorem cL_853 : mc_lawcd 853 = some (.pop, 1) := by decide +kernel
theorem cL_854 : mc_lawcd 854 = some (.aload_n 2, 1) := by decide +kernel
theorem cL_855 : mc_lawcd 855 = some (.aload_n 0, 1) := by decide +kernel
theorem cL_856 : mc_lawcd 856 = some (.iload 4, 2) := by decide +kernel
theorem cL_858 : mc_lawcd 858 = some (.iconst 1, 1) := by decide +kernel
theorem cL_859 : mc_lawcd 859 = some (.iadd, 1) := by decide +kernel
theorem cL_860 : mc_lawcd 860 = some (.iaload, 1) := by decide +kernel
theorem cL_861 : mc_lawcd 861 = some (.aload_n 0, 1) := by decide +kernel
theorem cL_862 : mc_lawcd 862 = some (.iload 4, 2) := by decide +kernel
theorem cL_864 : mc_lawcd 864 = some (.iconst 2, 1) := by decide +kernel
theorem cL_865 : mc_lawcd 865 = some (.iadd, 1) := by decide +kernel
theorem cL_866 : mc_lawcd 866 = some (.iaload, 1) := by decide +kernel
theorem cL_867 : mc_lawcd 867 = some (.ifCond .eq 7, 3) := by decide +kernel
theorem cL_870 : mc_lawcd 870 = some (.iconst 1, 1) := by decide +kernel
theorem cL_871 : mc_lawcd 871 = some (.goto 4, 3) := by decide +kernel
theorem cL_874 : mc_lawcd 874 = some (.iconst 0, 1) := by decide +kernel
theorem cL_875 : mc_lawcd 875 = some (.invokevirtual 113, 3) := by decide +kernel
theorem cL_878 : mc_lawcd 878 = some (.pop, 1) := by decide +kernel
theorem cL_879 : mc_lawcd 879 = some (.goto 774, 3) := by decide +kernel
theorem cL_882 : mc_lawcd 882 = some (.aload_n 1, 1) := by decide +kernel
theorem cL_883 : mc_lawcd 883 = some (.aload_n 0, 1) := by decide +kernel
theorem cL_884 : mc_lawcd 884 = some (.iload 4, 2) := by decide +kernel
theorem cL_886 : mc_lawcd 886 = some (.iconst 1, 1) := by decide +kernel
theorem cL_887 : mc_lawcd 887 = some (.iadd, 1) := by decide +kernel
theorem cL_888 : mc_lawcd 888 = some (.iaload, 1) := by decide +kernel
theorem cL_889 : mc_lawcd 889 = some (.aload_n 0, 1) := by decide +kernel
theorem cL_890 : mc_lawcd 890 = some (.iload 4, 2) := by decide +kernel
theorem cL_892 : mc_lawcd 892 = some (.iconst 2, 1) := by decide +kernel
theorem cL_893 : mc_lawcd 893 = some (.iadd, 1) := by decide +kernel
theorem cL_894 : mc_lawcd 894 = some (.iaload, 1) := by decide +kernel
theorem cL_895 : mc_lawcd 895 = some (.invokevirtual 114, 3) := by decide +kernel
theorem cL_898 : mc_lawcd 898 = some (.pop, 1) := by decide +kernel
theorem cL_899 : mc_lawcd 899 = some (.aload_n 2, 1) := by decide +kernel
theorem cL_900 : mc_lawcd 900 = some (.aload_n 0, 1) := by decide +kernel
theorem cL_901 : mc_lawcd 901 = some (.iload 4, 2) := by decide +kernel
theorem cL_903 : mc_lawcd 903 = some (.iconst 1, 1) := by decide +kernel
theorem cL_904 : mc_lawcd 904 = some (.iadd, 1) := by decide +kernel
theorem cL_905 : mc_lawcd 905 = some (.iaload, 1) := by decide +kernel
theorem cL_906 : mc_lawcd 906 = some (.aload_n 0, 1) := by decide +kernel
theorem cL_907 : mc_lawcd 907 = some (.iload 4, 2) := by decide +kernel
theorem cL_909 : mc_lawcd 909 = some (.iconst 2, 1) := by decide +kernel
theorem cL_910 : mc_lawcd 910 = some (.iadd, 1) := by decide +kernel
theorem cL_911 : mc_lawcd 911 = some (.iaload, 1) := by decide +kernel
theorem cL_912 : mc_lawcd 912 = some (.invokevirtual 117, 3) := by decide +kernel
theorem cL_915 : mc_lawcd 915 = some (.pop, 1) := by decide +kernel
theorem cL_916 : mc_lawcd 916 = some (.goto 737, 3) := by decide +kernel
theorem cL_919 : mc_lawcd 919 = some (.aload_n 1, 1) := by decide +kernel
theorem cL_920 : mc_lawcd 920 = some (.aload_n 0, 1) := by decide +kernel
theorem cL_921 : mc_lawcd 921 = some (.iload 4, 2) := by decide +kernel
theorem cL_923 : mc_lawcd 923 = some (.iconst 1, 1) := by decide +kernel
theorem cL_924 : mc_lawcd 924 = some (.iadd, 1) := by decide +kernel
theorem cL_925 : mc_lawcd 925 = some (.iaload, 1) := by decide +kernel
theorem cL_926 : mc_lawcd 926 = some (.invokevirtual 118, 3) := by decide +kernel
theorem cL_929 : mc_lawcd 929 = some (.pop, 1) := by decide +kernel
theorem cL_930 : mc_lawcd 930 = some (.aload_n 2, 1) := by decide +kernel
theorem cL_931 : mc_lawcd 931 = some (.aload_n 0, 1) := by decide +kernel
theorem cL_932 : mc_lawcd 932 = some (.iload 4, 2) := by decide +kernel
theorem cL_934 : mc_lawcd 934 = some (.iconst 1, 1) := by decide +kernel
theorem cL_935 : mc_lawcd 935 = some (.iadd, 1) := by decide +kernel
theorem cL_936 : mc_lawcd 936 = some (.iaload, 1) := by decide +kernel
theorem cL_937 : mc_lawcd 937 = some (.invokevirtual 121, 3) := by decide +kernel
theorem cL_940 : mc_lawcd 940 = some (.pop, 1) := by decide +kernel
theorem cL_941 : mc_lawcd 941 = some (.goto 712, 3) := by decide +kernel
theorem cL_944 : mc_lawcd 944 = some (.aload_n 1, 1) := by decide +kernel
theorem cL_945 : mc_lawcd 945 = some (.invokevirtual 122, 3) := by decide +kernel
theorem cL_948 : mc_lawcd 948 = some (.pop2, 1) := by decide +kernel
theorem cL_949 : mc_lawcd 949 = some (.aload_n 2, 1) := by decide +kernel
theorem cL_950 : mc_lawcd 950 = some (.invokevirtual 125, 3) := by decide +kernel
theorem cL_953 : mc_lawcd 953 = some (.pop2, 1) := by decide +kernel
theorem cL_954 : mc_lawcd 954 = some (.goto 699, 3) := by decide +kernel
theorem cL_957 : mc_lawcd 957 = some (.aload_n 1, 1) := by decide +kernel
theorem cL_958 : mc_lawcd 958 = some (.aload_n 0, 1) := by decide +kernel
theorem cL_959 : mc_lawcd 959 = some (.iload 4, 2) := by decide +kernel
theorem cL_961 : mc_lawcd 961 = some (.iconst 1, 1) := by decide +kernel
theorem cL_962 : mc_lawcd 962 = some (.iadd, 1) := by decide +kernel
theorem cL_963 : mc_lawcd 963 = some (.iaload, 1) := by decide +kernel
theorem cL_964 : mc_lawcd 964 = some (.aload_n 0, 1) := by decide +kernel
theorem cL_965 : mc_lawcd 965 = some (.iload 4, 2) := by decide +kernel
theorem cL_967 : mc_lawcd 967 = some (.iconst 2, 1) := by decide +kernel
theorem cL_968 : mc_lawcd 968 = some (.iadd, 1) := by decide +kernel
theorem cL_969 : mc_lawcd 969 = some (.iaload, 1) := by decide +kernel
theorem cL_970 : mc_lawcd 970 = some (.invokevirtual 126, 3) := by decide +kernel
theorem cL_973 : mc_lawcd 973 = some (.pop, 1) := by decide +kernel
theorem cL_974 : mc_lawcd 974 = some (.aload_n 2, 1) := by decide +kernel
theorem cL_975 : mc_lawcd 975 = some (.aload_n 0, 1) := by decide +kernel
theorem cL_976 : mc_lawcd 976 = some (.iload 4, 2) := by decide +kernel
theorem cL_978 : mc_lawcd 978 = some (.iconst 1, 1) := by decide +kernel
theorem cL_979 : mc_lawcd 979 = some (.iadd, 1) := by decide +kernel
theorem cL_980 : mc_lawcd 980 = some (.iaload, 1) := by decide +kernel
theorem cL_981 : mc_lawcd 981 = some (.aload_n 0, 1) := by decide +kernel
theorem cL_982 : mc_lawcd 982 = some (.iload 4, 2) := by decide +kernel
theorem cL_984 : mc_lawcd 984 = some (.iconst 2, 1) := by decide +kernel
theorem cL_985 : mc_lawcd 985 = some (.iadd, 1) := by decide +kernel
theorem cL_986 : mc_lawcd 986 = some (.iaload, 1) := by decide +kernel
theorem cL_987 : mc_lawcd 987 = some (.invokevirtual 129, 3) := by decide +kernel
theorem cL_990 : mc_lawcd 990 = some (.pop, 1) := by decide +kernel
theorem cL_991 : mc_lawcd 991 = some (.goto 662, 3) := by decide +kernel
theorem cL_994 : mc_lawcd 994 = some (.aload_n 1, 1) := by decide +kernel
theorem cL_995 : mc_lawcd 995 = some (.aload_n 0, 1) := by decide +kernel
theorem cL_996 : mc_lawcd 996 = some (.iload 4, 2) := by decide +kernel
theorem cL_998 : mc_lawcd 998 = some (.iconst 1, 1) := by decide +kernel
theorem cL_999 : mc_lawcd 999 = some (.iadd, 1) := by decide +kernel
theorem cL_1000 : mc_lawcd 1000 = some (.iaload, 1) := by decide +kernel
theorem cL_1001 : mc_lawcd 1001 = some (.invokevirtual 130, 3) := by decide +kernel
theorem cL_1004 : mc_lawcd 1004 = some (.pop2, 1) := by decide +kernel
theorem cL_1005 : mc_lawcd 1005 = some (.aload_n 2, 1) := by decide +kernel
theorem cL_1006 : mc_lawcd 1006 = some (.aload_n 0, 1) := by decide +kernel
theorem cL_1007 : mc_lawcd 1007 = some (.iload 4, 2) := by decide +kernel
theorem cL_1009 : mc_lawcd 1009 = some (.iconst 1, 1) := by decide +kernel
theorem cL_1010 : mc_lawcd 1010 = some (.iadd, 1) := by decide +kernel
theorem cL_1011 : mc_lawcd 1011 = some (.iaload, 1) := by decide +kernel
theorem cL_1012 : mc_lawcd 1012 = some (.invokevirtual 134, 3) := by decide +kernel
theorem cL_1015 : mc_lawcd 1015 = some (.pop2, 1) := by decide +kernel
theorem cL_1016 : mc_lawcd 1016 = some (.goto 637, 3) := by decide +kernel
theorem cL_1019 : mc_lawcd 1019 = some (.aload_n 1, 1) := by decide +kernel
theorem cL_1020 : mc_lawcd 1020 = some (.aload_n 0, 1) := by decide +kernel
theorem cL_1021 : mc_lawcd 1021 = some (.iload 4, 2) := by decide +kernel
theorem cL_1023 : mc_lawcd 1023 = some (.iconst 1, 1) := by decide +kernel
theorem cL_1024 : mc_lawcd 1024 = some (.iadd, 1) := by decide +kernel
theorem cL_1025 : mc_lawcd 1025 = some (.iaload, 1) := by decide +kernel
theorem cL_1026 : mc_lawcd 1026 = some (.aload_n 0, 1) := by decide +kernel
theorem cL_1027 : mc_lawcd 1027 = some (.iload 4, 2) := by decide +kernel
theorem cL_1029 : mc_lawcd 1029 = some (.iconst 2, 1) := by decide +kernel
theorem cL_1030 : mc_lawcd 1030 = some (.iadd, 1) := by decide +kernel
theorem cL_1031 : mc_lawcd 1031 = some (.iaload, 1) := by decide +kernel
theorem cL_1032 : mc_lawcd 1032 = some (.invokevirtual 135, 3) := by decide +kernel
theorem cL_1035 : mc_lawcd 1035 = some (.pop, 1) := by decide +kernel
theorem cL_1036 : mc_lawcd 1036 = some (.aload_n 2, 1) := by decide +kernel
theorem cL_1037 : mc_lawcd 1037 = some (.aload_n 0, 1) := by decide +kernel
theorem cL_1038 : mc_lawcd 1038 = some (.iload 4, 2) := by decide +kernel
theorem cL_1040 : mc_lawcd 1040 = some (.iconst 1, 1) := by decide +kernel
theorem cL_1041 : mc_lawcd 1041 = some (.iadd, 1) := by decide +kernel
theorem cL_1042 : mc_lawcd 1042 = some (.iaload, 1) := by decide +kernel
theorem cL_1043 : mc_lawcd 1043 = some (.aload_n 0, 1) := by decide +kernel
theorem cL_1044 : mc_lawcd 1044 = some (.iload 4, 2) := by decide +kernel
theorem cL_1046 : mc_lawcd 1046 = some (.iconst 2, 1) := by decide +kernel
theorem cL_1047 : mc_lawcd 1047 = some (.iadd, 1) := by decide +kernel
theorem cL_1048 : mc_lawcd 1048 = some (.iaload, 1) := by decide +kernel
theorem cL_1049 : mc_lawcd 1049 = some (.invokevirtual 138, 3) := by decide +kernel
theorem cL_1052 : mc_lawcd 1052 = some (.pop, 1) := by decide +kernel
theorem cL_1053 : mc_lawcd 1053 = some (.goto 600, 3) := by decide +kernel
theorem cL_1056 : mc_lawcd 1056 = some (.aload_n 1, 1) := by decide +kernel
theorem cL_1057 : mc_lawcd 1057 = some (.aload_n 0, 1) := by decide +kernel
theorem cL_1058 : mc_lawcd 1058 = some (.iload 4, 2) := by decide +kernel
theorem cL_1060 : mc_lawcd 1060 = some (.iconst 1, 1) := by decide +kernel
theorem cL_1061 : mc_lawcd 1061 = some (.iadd, 1) := by decide +kernel
theorem cL_1062 : mc_lawcd 1062 = some (.iaload, 1) := by decide +kernel
theorem cL_1063 : mc_lawcd 1063 = some (.aload_n 0, 1) := by decide +kernel
theorem cL_1064 : mc_lawcd 1064 = some (.iload 4, 2) := by decide +kernel
theorem cL_1066 : mc_lawcd 1066 = some (.iconst 2, 1) := by decide +kernel
theorem cL_1067 : mc_lawcd 1067 = some (.iadd, 1) := by decide +kernel
theorem cL_1068 : mc_lawcd 1068 = some (.iaload, 1) := by decide +kernel
theorem cL_1069 : mc_lawcd 1069 = some (.ifCond .eq 7, 3) := by decide +kernel
theorem cL_1072 : mc_lawcd 1072 = some (.iconst 1, 1) := by decide +kernel
theorem cL_1073 : mc_lawcd 1073 = some (.goto 4, 3) := by decide +kernel
theorem cL_1076 : mc_lawcd 1076 = some (.iconst 0, 1) := by decide +kernel
theorem cL_1077 : mc_lawcd 1077 = some (.invokevirtual 139, 3) := by decide +kernel
theorem cL_1080 : mc_lawcd 1080 = some (.pop, 1) := by decide +kernel
theorem cL_1081 : mc_lawcd 1081 = some (.aload_n 2, 1) := by decide +kernel
theorem cL_1082 : mc_lawcd 1082 = some (.aload_n 0, 1) := by decide +kernel
theorem cL_1083 : mc_lawcd 1083 = some (.iload 4, 2) := by decide +kernel
theorem cL_1085 : mc_lawcd 1085 = some (.iconst 1, 1) := by decide +kernel
theorem cL_1086 : mc_lawcd 1086 = some (.iadd, 1) := by decide +kernel
theorem cL_1087 : mc_lawcd 1087 = some (.iaload, 1) := by decide +kernel
theorem cL_1088 : mc_lawcd 1088 = some (.aload_n 0, 1) := by decide +kernel
theorem cL_1089 : mc_lawcd 1089 = some (.iload 4, 2) := by decide +kernel
theorem cL_1091 : mc_lawcd 1091 = some (.iconst 2, 1) := by decide +kernel
theorem cL_1092 : mc_lawcd 1092 = some (.iadd, 1) := by decide +kernel
theorem cL_1093 : mc_lawcd 1093 = some (.iaload, 1) := by decide +kernel
theorem cL_1094 : mc_lawcd 1094 = some (.ifCond .eq 7, 3) := by decide +kernel
theorem cL_1097 : mc_lawcd 1097 = some (.iconst 1, 1) := by decide +kernel
theorem cL_1098 : mc_lawcd 1098 = some (.goto 4, 3) := by decide +kernel
theorem cL_1101 : mc_lawcd 1101 = some (.iconst 0, 1) := by decide +kernel
theorem cL_1102 : mc_lawcd 1102 = some (.invokevirtual 142, 3) := by decide +kernel
theorem cL_1105 : mc_lawcd 1105 = some (.pop, 1) := by decide +kernel
theorem cL_1106 : mc_lawcd 1106 = some (.goto 547, 3) := by decide +kernel
theorem cL_1109 : mc_lawcd 1109 = some (.aload_n 1, 1) := by decide +kernel
theorem cL_1110 : mc_lawcd 1110 = some (.aload_n 0, 1) := by decide +kernel
theorem cL_1111 : mc_lawcd 1111 = some (.iload 4, 2) := by decide +kernel
theorem cL_1113 : mc_lawcd 1113 = some (.iconst 1, 1) := by decide +kernel
theorem cL_1114 : mc_lawcd 1114 = some (.iadd, 1) := by decide +kernel
theorem cL_1115 : mc_lawcd 1115 = some (.iaload, 1) := by decide +kernel
theorem cL_1116 : mc_lawcd 1116 = some (.aload_n 0, 1) := by decide +kernel
theorem cL_1117 : mc_lawcd 1117 = some (.iload 4, 2) := by decide +kernel
theorem cL_1119 : mc_lawcd 1119 = some (.iconst 2, 1) := by decide +kernel
theorem cL_1120 : mc_lawcd 1120 = some (.iadd, 1) := by decide +kernel
theorem cL_1121 : mc_lawcd 1121 = some (.iaload, 1) := by decide +kernel
theorem cL_1122 : mc_lawcd 1122 = some (.ifCond .eq 7, 3) := by decide +kernel
theorem cL_1125 : mc_lawcd 1125 = some (.iconst 1, 1) := by decide +kernel
theorem cL_1126 : mc_lawcd 1126 = some (.goto 4, 3) := by decide +kernel
theorem cL_1129 : mc_lawcd 1129 = some (.iconst 0, 1) := by decide +kernel
theorem cL_1130 : mc_lawcd 1130 = some (.invokevirtual 143, 3) := by decide +kernel
theorem cL_1133 : mc_lawcd 1133 = some (.pop, 1) := by decide +kernel
theorem cL_1134 : mc_lawcd 1134 = some (.aload_n 2, 1) := by decide +kernel
theorem cL_1135 : mc_lawcd 1135 = some (.aload_n 0, 1) := by decide +kernel
theorem cL_1136 : mc_lawcd 1136 = some (.iload 4, 2) := by decide +kernel
theorem cL_1138 : mc_lawcd 1138 = some (.iconst 1, 1) := by decide +kernel
theorem cL_1139 : mc_lawcd 1139 = some (.iadd, 1) := by decide +kernel
theorem cL_1140 : mc_lawcd 1140 = some (.iaload, 1) := by decide +kernel
theorem cL_1141 : mc_lawcd 1141 = some (.aload_n 0, 1) := by decide +kernel
theorem cL_1142 : mc_lawcd 1142 = some (.iload 4, 2) := by decide +kernel
theorem cL_1144 : mc_lawcd 1144 = some (.iconst 2, 1) := by decide +kernel
theorem cL_1145 : mc_lawcd 1145 = some (.iadd, 1) := by decide +kernel
theorem cL_1146 : mc_lawcd 1146 = some (.iaload, 1) := by decide +kernel
theorem cL_1147 : mc_lawcd 1147 = some (.ifCond .eq 7, 3) := by decide +kernel
theorem cL_1150 : mc_lawcd 1150 = some (.iconst 1, 1) := by decide +kernel
theorem cL_1151 : mc_lawcd 1151 = some (.goto 4, 3) := by decide +kernel
theorem cL_1154 : mc_lawcd 1154 = some (.iconst 0, 1) := by decide +kernel
theorem cL_1155 : mc_lawcd 1155 = some (.invokevirtual 146, 3) := by decide +kernel
theorem cL_1158 : mc_lawcd 1158 = some (.pop, 1) := by decide +kernel
theorem cL_1159 : mc_lawcd 1159 = some (.goto 494, 3) := by decide +kernel
theorem cL_1162 : mc_lawcd 1162 = some (.aload_n 1, 1) := by decide +kernel
theorem cL_1163 : mc_lawcd 1163 = some (.invokevirtual 147, 3) := by decide +kernel
theorem cL_1166 : mc_lawcd 1166 = some (.pop, 1) := by decide +kernel
theorem cL_1167 : mc_lawcd 1167 = some (.aload_n 2, 1) := by decide +kernel
theorem cL_1168 : mc_lawcd 1168 = some (.invokevirtual 150, 3) := by decide +kernel
theorem cL_1171 : mc_lawcd 1171 = some (.pop, 1) := by decide +kernel
theorem cL_1172 : mc_lawcd 1172 = some (.goto 481, 3) := by decide +kernel
theorem cL_1175 : mc_lawcd 1175 = some (.aload_n 1, 1) := by decide +kernel
theorem cL_1176 : mc_lawcd 1176 = some (.aload_n 0, 1) := by decide +kernel
theorem cL_1177 : mc_lawcd 1177 = some (.iload 4, 2) := by decide +kernel
theorem cL_1179 : mc_lawcd 1179 = some (.iconst 1, 1) := by decide +kernel
theorem cL_1180 : mc_lawcd 1180 = some (.iadd, 1) := by decide +kernel
theorem cL_1181 : mc_lawcd 1181 = some (.iaload, 1) := by decide +kernel
theorem cL_1182 : mc_lawcd 1182 = some (.invokevirtual 151, 3) := by decide +kernel
theorem cL_1185 : mc_lawcd 1185 = some (.pop, 1) := by decide +kernel
theorem cL_1186 : mc_lawcd 1186 = some (.aload_n 2, 1) := by decide +kernel
theorem cL_1187 : mc_lawcd 1187 = some (.aload_n 0, 1) := by decide +kernel
theorem cL_1188 : mc_lawcd 1188 = some (.iload 4, 2) := by decide +kernel
theorem cL_1190 : mc_lawcd 1190 = some (.iconst 1, 1) := by decide +kernel
theorem cL_1191 : mc_lawcd 1191 = some (.iadd, 1) := by decide +kernel
theorem cL_1192 : mc_lawcd 1192 = some (.iaload, 1) := by decide +kernel
theorem cL_1193 : mc_lawcd 1193 = some (.invokevirtual 154, 3) := by decide +kernel
theorem cL_1196 : mc_lawcd 1196 = some (.pop, 1) := by decide +kernel
theorem cL_1197 : mc_lawcd 1197 = some (.goto 456, 3) := by decide +kernel
theorem cL_1200 : mc_lawcd 1200 = some (.aload_n 1, 1) := by decide +kernel
theorem cL_1201 : mc_lawcd 1201 = some (.aload_n 0, 1) := by decide +kernel
theorem cL_1202 : mc_lawcd 1202 = some (.iload 4, 2) := by decide +kernel
theorem cL_1204 : mc_lawcd 1204 = some (.iconst 1, 1) := by decide +kernel
theorem cL_1205 : mc_lawcd 1205 = some (.iadd, 1) := by decide +kernel
theorem cL_1206 : mc_lawcd 1206 = some (.iaload, 1) := by decide +kernel
theorem cL_1207 : mc_lawcd 1207 = some (.invokevirtual 155, 3) := by decide +kernel
theorem cL_1210 : mc_lawcd 1210 = some (.pop, 1) := by decide +kernel
theorem cL_1211 : mc_lawcd 1211 = some (.aload_n 2, 1) := by decide +kernel
theorem cL_1212 : mc_lawcd 1212 = some (.aload_n 0, 1) := by decide +kernel
theorem cL_1213 : mc_lawcd 1213 = some (.iload 4, 2) := by decide +kernel
theorem cL_1215 : mc_lawcd 1215 = some (.iconst 1, 1) := by decide +kernel
theorem cL_1216 : mc_lawcd 1216 = some (.iadd, 1) := by decide +kernel
theorem cL_1217 : mc_lawcd 1217 = some (.iaload, 1) := by decide +kernel
theorem cL_1218 : mc_lawcd 1218 = some (.invokevirtual 158, 3) := by decide +kernel
theorem cL_1221 : mc_lawcd 1221 = some (.pop, 1) := by decide +kernel
theorem cL_1222 : mc_lawcd 1222 = some (.goto 431, 3) := by decide +kernel
theorem cL_1225 : mc_lawcd 1225 = some (.aload_n 1, 1) := by decide +kernel
theorem cL_1226 : mc_lawcd 1226 = some (.aload_n 0, 1) := by decide +kernel
theorem cL_1227 : mc_lawcd 1227 = some (.iload 4, 2) := by decide +kernel
theorem cL_1229 : mc_lawcd 1229 = some (.iconst 1, 1) := by decide +kernel
theorem cL_1230 : mc_lawcd 1230 = some (.iadd, 1) := by decide +kernel
theorem cL_1231 : mc_lawcd 1231 = some (.iaload, 1) := by decide +kernel
theorem cL_1232 : mc_lawcd 1232 = some (.invokevirtual 159, 3) := by decide +kernel
theorem cL_1235 : mc_lawcd 1235 = some (.pop, 1) := by decide +kernel
theorem cL_1236 : mc_lawcd 1236 = some (.aload_n 2, 1) := by decide +kernel
theorem cL_1237 : mc_lawcd 1237 = some (.aload_n 0, 1) := by decide +kernel
theorem cL_1238 : mc_lawcd 1238 = some (.iload 4, 2) := by decide +kernel
theorem cL_1240 : mc_lawcd 1240 = some (.iconst 1, 1) := by decide +kernel
theorem cL_1241 : mc_lawcd 1241 = some (.iadd, 1) := by decide +kernel
theorem cL_1242 : mc_lawcd 1242 = some (.iaload, 1) := by decide +kernel
theorem cL_1243 : mc_lawcd 1243 = some (.invokevirtual 162, 3) := by decide +kernel
theorem cL_1246 : mc_lawcd 1246 = some (.pop, 1) := by decide +kernel
theorem cL_1247 : mc_lawcd 1247 = some (.goto 406, 3) := by decide +kernel
theorem cL_1250 : mc_lawcd 1250 = some (.aload_n 1, 1) := by decide +kernel
theorem cL_1251 : mc_lawcd 1251 = some (.invokevirtual 163, 3) := by decide +kernel
theorem cL_1254 : mc_lawcd 1254 = some (.pop, 1) := by decide +kernel
theorem cL_1255 : mc_lawcd 1255 = some (.aload_n 2, 1) := by decide +kernel
theorem cL_1256 : mc_lawcd 1256 = some (.invokevirtual 166, 3) := by decide +kernel
theorem cL_1259 : mc_lawcd 1259 = some (.pop, 1) := by decide +kernel
theorem cL_1260 : mc_lawcd 1260 = some (.goto 393, 3) := by decide +kernel
theorem cL_1263 : mc_lawcd 1263 = some (.aload_n 1, 1) := by decide +kernel
theorem cL_1264 : mc_lawcd 1264 = some (.aload_n 0, 1) := by decide +kernel
theorem cL_1265 : mc_lawcd 1265 = some (.iload 4, 2) := by decide +kernel
theorem cL_1267 : mc_lawcd 1267 = some (.iconst 1, 1) := by decide +kernel
theorem cL_1268 : mc_lawcd 1268 = some (.iadd, 1) := by decide +kernel
theorem cL_1269 : mc_lawcd 1269 = some (.iaload, 1) := by decide +kernel
theorem cL_1270 : mc_lawcd 1270 = some (.aload_n 0, 1) := by decide +kernel
theorem cL_1271 : mc_lawcd 1271 = some (.iload 4, 2) := by decide +kernel
theorem cL_1273 : mc_lawcd 1273 = some (.iconst 2, 1) := by decide +kernel
theorem cL_1274 : mc_lawcd 1274 = some (.iadd, 1) := by decide +kernel
theorem cL_1275 : mc_lawcd 1275 = some (.iaload, 1) := by decide +kernel
theorem cL_1276 : mc_lawcd 1276 = some (.ifCond .eq 7, 3) := by decide +kernel
theorem cL_1279 : mc_lawcd 1279 = some (.iconst 1, 1) := by decide +kernel
theorem cL_1280 : mc_lawcd 1280 = some (.goto 4, 3) := by decide +kernel
theorem cL_1283 : mc_lawcd 1283 = some (.iconst 0, 1) := by decide +kernel
theorem cL_1284 : mc_lawcd 1284 = some (.invokevirtual 167, 3) := by decide +kernel
theorem cL_1287 : mc_lawcd 1287 = some (.pop, 1) := by decide +kernel
theorem cL_1288 : mc_lawcd 1288 = some (.aload_n 2, 1) := by decide +kernel
theorem cL_1289 : mc_lawcd 1289 = some (.aload_n 0, 1) := by decide +kernel
theorem cL_1290 : mc_lawcd 1290 = some (.iload 4, 2) := by decide +kernel
theorem cL_1292 : mc_lawcd 1292 = some (.iconst 1, 1) := by decide +kernel
theorem cL_1293 : mc_lawcd 1293 = some (.iadd, 1) := by decide +kernel
theorem cL_1294 : mc_lawcd 1294 = some (.iaload, 1) := by decide +kernel
theorem cL_1295 : mc_lawcd 1295 = some (.aload_n 0, 1) := by decide +kernel
theorem cL_1296 : mc_lawcd 1296 = some (.iload 4, 2) := by decide +kernel
theorem cL_1298 : mc_lawcd 1298 = some (.iconst 2, 1) := by decide +kernel
theorem cL_1299 : mc_lawcd 1299 = some (.iadd, 1) := by decide +kernel
theorem cL_1300 : mc_lawcd 1300 = some (.iaload, 1) := by decide +kernel
theorem cL_1301 : mc_lawcd 1301 = some (.ifCond .eq 7, 3) := by decide +kernel
theorem cL_1304 : mc_lawcd 1304 = some (.iconst 1, 1) := by decide +kernel
theorem cL_1305 : mc_lawcd 1305 = some (.goto 4, 3) := by decide +kernel
theorem cL_1308 : mc_lawcd 1308 = some (.iconst 0, 1) := by decide +kernel
theorem cL_1309 : mc_lawcd 1309 = some (.invokevirtual 170, 3) := by decide +kernel
theorem cL_1312 : mc_lawcd 1312 = some (.pop, 1) := by decide +kernel
theorem cL_1313 : mc_lawcd 1313 = some (.goto 340, 3) := by decide +kernel
theorem cL_1316 : mc_lawcd 1316 = some (.aload_n 1, 1) := by decide +kernel
theorem cL_1317 : mc_lawcd 1317 = some (.invokevirtual 171, 3) := by decide +kernel
theorem cL_1320 : mc_lawcd 1320 = some (.pop, 1) := by decide +kernel
theorem cL_1321 : mc_lawcd 1321 = some (.aload_n 2, 1) := by decide +kernel
theorem cL_1322 : mc_lawcd 1322 = some (.invokevirtual 174, 3) := by decide +kernel
theorem cL_1325 : mc_lawcd 1325 = some (.pop, 1) := by decide +kernel
theorem cL_1326 : mc_lawcd 1326 = some (.goto 327, 3) := by decide +kernel
theorem cL_1329 : mc_lawcd 1329 = some (.aload_n 1, 1) := by decide +kernel
theorem cL_1330 : mc_lawcd 1330 = some (.invokevirtual 175, 3) := by decide +kernel
theorem cL_1333 : mc_lawcd 1333 = some (.pop, 1) := by decide +kernel
theorem cL_1334 : mc_lawcd 1334 = some (.aload_n 2, 1) := by decide +kernel
theorem cL_1335 : mc_lawcd 1335 = some (.invokevirtual 178, 3) := by decide +kernel
theorem cL_1338 : mc_lawcd 1338 = some (.pop, 1) := by decide +kernel
theorem cL_1339 : mc_lawcd 1339 = some (.goto 314, 3) := by decide +kernel
theorem cL_1342 : mc_lawcd 1342 = some (.aload_n 1, 1) := by decide +kernel
theorem cL_1343 : mc_lawcd 1343 = some (.aload_n 0, 1) := by decide +kernel
theorem cL_1344 : mc_lawcd 1344 = some (.iload 4, 2) := by decide +kernel
theorem cL_1346 : mc_lawcd 1346 = some (.iconst 1, 1) := by decide +kernel
theorem cL_1347 : mc_lawcd 1347 = some (.iadd, 1) := by decide +kernel
theorem cL_1348 : mc_lawcd 1348 = some (.iaload, 1) := by decide +kernel
theorem cL_1349 : mc_lawcd 1349 = some (.invokevirtual 179, 3) := by decide +kernel
theorem cL_1352 : mc_lawcd 1352 = some (.pop, 1) := by decide +kernel
theorem cL_1353 : mc_lawcd 1353 = some (.aload_n 2, 1) := by decide +kernel
theorem cL_1354 : mc_lawcd 1354 = some (.aload_n 0, 1) := by decide +kernel
theorem cL_1355 : mc_lawcd 1355 = some (.iload 4, 2) := by decide +kernel
theorem cL_1357 : mc_lawcd 1357 = some (.iconst 1, 1) := by decide +kernel
theorem cL_1358 : mc_lawcd 1358 = some (.iadd, 1) := by decide +kernel
theorem cL_1359 : mc_lawcd 1359 = some (.iaload, 1) := by decide +kernel
theorem cL_1360 : mc_lawcd 1360 = some (.invokevirtual 182, 3) := by decide +kernel
theorem cL_1363 : mc_lawcd 1363 = some (.pop, 1) := by decide +kernel
theorem cL_1364 : mc_lawcd 1364 = some (.goto 289, 3) := by decide +kernel
theorem cL_1367 : mc_lawcd 1367 = some (.aload_n 1, 1) := by decide +kernel
theorem cL_1368 : mc_lawcd 1368 = some (.aload_n 0, 1) := by decide +kernel
theorem cL_1369 : mc_lawcd 1369 = some (.iload 4, 2) := by decide +kernel
theorem cL_1371 : mc_lawcd 1371 = some (.iconst 1, 1) := by decide +kernel
theorem cL_1372 : mc_lawcd 1372 = some (.iadd, 1) := by decide +kernel
theorem cL_1373 : mc_lawcd 1373 = some (.iaload, 1) := by decide +kernel
theorem cL_1374 : mc_lawcd 1374 = some (.aload_n 0, 1) := by decide +kernel
theorem cL_1375 : mc_lawcd 1375 = some (.iload 4, 2) := by decide +kernel
theorem cL_1377 : mc_lawcd 1377 = some (.iconst 2, 1) := by decide +kernel
theorem cL_1378 : mc_lawcd 1378 = some (.iadd, 1) := by decide +kernel
theorem cL_1379 : mc_lawcd 1379 = some (.iaload, 1) := by decide +kernel
theorem cL_1380 : mc_lawcd 1380 = some (.invokevirtual 183, 3) := by decide +kernel
theorem cL_1383 : mc_lawcd 1383 = some (.pop, 1) := by decide +kernel
theorem cL_1384 : mc_lawcd 1384 = some (.aload_n 2, 1) := by decide +kernel
theorem cL_1385 : mc_lawcd 1385 = some (.aload_n 0, 1) := by decide +kernel
theorem cL_1386 : mc_lawcd 1386 = some (.iload 4, 2) := by decide +kernel
theorem cL_1388 : mc_lawcd 1388 = some (.iconst 1, 1) := by decide +kernel
theorem cL_1389 : mc_lawcd 1389 = some (.iadd, 1) := by decide +kernel
theorem cL_1390 : mc_lawcd 1390 = some (.iaload, 1) := by decide +kernel
theorem cL_1391 : mc_lawcd 1391 = some (.aload_n 0, 1) := by decide +kernel
theorem cL_1392 : mc_lawcd 1392 = some (.iload 4, 2) := by decide +kernel
theorem cL_1394 : mc_lawcd 1394 = some (.iconst 2, 1) := by decide +kernel
theorem cL_1395 : mc_lawcd 1395 = some (.iadd, 1) := by decide +kernel
theorem cL_1396 : mc_lawcd 1396 = some (.iaload, 1) := by decide +kernel
theorem cL_1397 : mc_lawcd 1397 = some (.invokevirtual 186, 3) := by decide +kernel
theorem cL_1400 : mc_lawcd 1400 = some (.pop, 1) := by decide +kernel
theorem cL_1401 : mc_lawcd 1401 = some (.goto 252, 3) := by decide +kernel
theorem cL_1404 : mc_lawcd 1404 = some (.aload_n 1, 1) := by decide +kernel
theorem cL_1405 : mc_lawcd 1405 = some (.aload_n 0, 1) := by decide +kernel
theorem cL_1406 : mc_lawcd 1406 = some (.iload 4, 2) := by decide +kernel
theorem cL_1408 : mc_lawcd 1408 = some (.iconst 1, 1) := by decide +kernel
theorem cL_1409 : mc_lawcd 1409 = some (.iadd, 1) := by decide +kernel
theorem cL_1410 : mc_lawcd 1410 = some (.iaload, 1) := by decide +kernel
theorem cL_1411 : mc_lawcd 1411 = some (.invokevirtual 187, 3) := by decide +kernel
theorem cL_1414 : mc_lawcd 1414 = some (.pop, 1) := by decide +kernel
theorem cL_1415 : mc_lawcd 1415 = some (.aload_n 2, 1) := by decide +kernel
theorem cL_1416 : mc_lawcd 1416 = some (.aload_n 0, 1) := by decide +kernel
theorem cL_1417 : mc_lawcd 1417 = some (.iload 4, 2) := by decide +kernel
theorem cL_1419 : mc_lawcd 1419 = some (.iconst 1, 1) := by decide +kernel
theorem cL_1420 : mc_lawcd 1420 = some (.iadd, 1) := by decide +kernel
theorem cL_1421 : mc_lawcd 1421 = some (.iaload, 1) := by decide +kernel
theorem cL_1422 : mc_lawcd 1422 = some (.invokevirtual 191, 3) := by decide +kernel
theorem cL_1425 : mc_lawcd 1425 = some (.pop, 1) := by decide +kernel
theorem cL_1426 : mc_lawcd 1426 = some (.goto 227, 3) := by decide +kernel
theorem cL_1429 : mc_lawcd 1429 = some (.aload_n 1, 1) := by decide +kernel
theorem cL_1430 : mc_lawcd 1430 = some (.aload_n 0, 1) := by decide +kernel
theorem cL_1431 : mc_lawcd 1431 = some (.iload 4, 2) := by decide +kernel
theorem cL_1433 : mc_lawcd 1433 = some (.iconst 1, 1) := by decide +kernel
theorem cL_1434 : mc_lawcd 1434 = some (.iadd, 1) := by decide +kernel
theorem cL_1435 : mc_lawcd 1435 = some (.iaload, 1) := by decide +kernel
theorem cL_1436 : mc_lawcd 1436 = some (.invokevirtual 192, 3) := by decide +kernel
theorem cL_1439 : mc_lawcd 1439 = some (.pop, 1) := by decide +kernel
theorem cL_1440 : mc_lawcd 1440 = some (.aload_n 2, 1) := by decide +kernel
theorem cL_1441 : mc_lawcd 1441 = some (.aload_n 0, 1) := by decide +kernel
theorem cL_1442 : mc_lawcd 1442 = some (.iload 4, 2) := by decide +kernel
theorem cL_1444 : mc_lawcd 1444 = some (.iconst 1, 1) := by decide +kernel
theorem cL_1445 : mc_lawcd 1445 = some (.iadd, 1) := by decide +kernel
theorem cL_1446 : mc_lawcd 1446 = some (.iaload, 1) := by decide +kernel
theorem cL_1447 : mc_lawcd 1447 = some (.invokevirtual 195, 3) := by decide +kernel
theorem cL_1450 : mc_lawcd 1450 = some (.pop, 1) := by decide +kernel
theorem cL_1451 : mc_lawcd 1451 = some (.goto 202, 3) := by decide +kernel
theorem cL_1454 : mc_lawcd 1454 = some (.aload_n 1, 1) := by decide +kernel
theorem cL_1455 : mc_lawcd 1455 = some (.invokevirtual 196, 3) := by decide +kernel
theorem cL_1458 : mc_lawcd 1458 = some (.pop, 1) := by decide +kernel
theorem cL_1459 : mc_lawcd 1459 = some (.aload_n 2, 1) := by decide +kernel
theorem cL_1460 : mc_lawcd 1460 = some (.invokevirtual 199, 3) := by decide +kernel
theorem cL_1463 : mc_lawcd 1463 = some (.pop, 1) := by decide +kernel
theorem cL_1464 : mc_lawcd 1464 = some (.goto 189, 3) := by decide +kernel
theorem cL_1467 : mc_lawcd 1467 = some (.aload_n 1, 1) := by decide +kernel
theorem cL_1468 : mc_lawcd 1468 = some (.aload_n 0, 1) := by decide +kernel
theorem cL_1469 : mc_lawcd 1469 = some (.iload 4, 2) := by decide +kernel
theorem cL_1471 : mc_lawcd 1471 = some (.iconst 1, 1) := by decide +kernel
theorem cL_1472 : mc_lawcd 1472 = some (.iadd, 1) := by decide +kernel
theorem cL_1473 : mc_lawcd 1473 = some (.iaload, 1) := by decide +kernel
theorem cL_1474 : mc_lawcd 1474 = some (.aload_n 0, 1) := by decide +kernel
theorem cL_1475 : mc_lawcd 1475 = some (.iload 4, 2) := by decide +kernel
theorem cL_1477 : mc_lawcd 1477 = some (.iconst 2, 1) := by decide +kernel
theorem cL_1478 : mc_lawcd 1478 = some (.iadd, 1) := by decide +kernel
theorem cL_1479 : mc_lawcd 1479 = some (.iaload, 1) := by decide +kernel
theorem cL_1480 : mc_lawcd 1480 = some (.invokevirtual 200, 3) := by decide +kernel
theorem cL_1483 : mc_lawcd 1483 = some (.pop, 1) := by decide +kernel
theorem cL_1484 : mc_lawcd 1484 = some (.aload_n 2, 1) := by decide +kernel
theorem cL_1485 : mc_lawcd 1485 = some (.aload_n 0, 1) := by decide +kernel
theorem cL_1486 : mc_lawcd 1486 = some (.iload 4, 2) := by decide +kernel
theorem cL_1488 : mc_lawcd 1488 = some (.iconst 1, 1) := by decide +kernel
theorem cL_1489 : mc_lawcd 1489 = some (.iadd, 1) := by decide +kernel
theorem cL_1490 : mc_lawcd 1490 = some (.iaload, 1) := by decide +kernel
theorem cL_1491 : mc_lawcd 1491 = some (.aload_n 0, 1) := by decide +kernel
theorem cL_1492 : mc_lawcd 1492 = some (.iload 4, 2) := by decide +kernel
theorem cL_1494 : mc_lawcd 1494 = some (.iconst 2, 1) := by decide +kernel
theorem cL_1495 : mc_lawcd 1495 = some (.iadd, 1) := by decide +kernel
theorem cL_1496 : mc_lawcd 1496 = some (.iaload, 1) := by decide +kernel
theorem cL_1497 : mc_lawcd 1497 = some (.invokevirtual 203, 3) := by decide +kernel
theorem cL_1500 : mc_lawcd 1500 = some (.pop, 1) := by decide +kernel
theorem cL_1501 : mc_lawcd 1501 = some (.goto 152, 3) := by decide +kernel
theorem cL_1504 : mc_lawcd 1504 = some (.aload_n 1, 1) := by decide +kernel
theorem cL_1505 : mc_lawcd 1505 = some (.invokevirtual 204, 3) := by decide +kernel
theorem cL_1508 : mc_lawcd 1508 = some (.pop, 1) := by decide +kernel
theorem cL_1509 : mc_lawcd 1509 = some (.aload_n 2, 1) := by decide +kernel
theorem cL_1510 : mc_lawcd 1510 = some (.invokevirtual 208, 3) := by decide +kernel
theorem cL_1513 : mc_lawcd 1513 = some (.pop, 1) := by decide +kernel
theorem cL_1514 : mc_lawcd 1514 = some (.goto 139, 3) := by decide +kernel
theorem cL_1517 : mc_lawcd 1517 = some (.aload_n 1, 1) := by decide +kernel
theorem cL_1518 : mc_lawcd 1518 = some (.invokevirtual 209, 3) := by decide +kernel
theorem cL_1521 : mc_lawcd 1521 = some (.pop2, 1) := by decide +kernel
theorem cL_1522 : mc_lawcd 1522 = some (.aload_n 2, 1) := by decide +kernel
theorem cL_1523 : mc_lawcd 1523 = some (.invokevirtual 212, 3) := by decide +kernel
theorem cL_1526 : mc_lawcd 1526 = some (.pop2, 1) := by decide +kernel
theorem cL_1527 : mc_lawcd 1527 = some (.goto 126, 3) := by decide +kernel
theorem cL_1530 : mc_lawcd 1530 = some (.aload_n 1, 1) := by decide +kernel
theorem cL_1531 : mc_lawcd 1531 = some (.aload_n 0, 1) := by decide +kernel
theorem cL_1532 : mc_lawcd 1532 = some (.iload 4, 2) := by decide +kernel
theorem cL_1534 : mc_lawcd 1534 = some (.iconst 1, 1) := by decide +kernel
theorem cL_1535 : mc_lawcd 1535 = some (.iadd, 1) := by decide +kernel
theorem cL_1536 : mc_lawcd 1536 = some (.iaload, 1) := by decide +kernel
theorem cL_1537 : mc_lawcd 1537 = some (.i2l, 1) := by decide +kernel
theorem cL_1538 : mc_lawcd 1538 = some (.bipush 32, 2) := by decide +kernel
theorem cL_1540 : mc_lawcd 1540 = some (.lshl, 1) := by decide +kernel
theorem cL_1541 : mc_lawcd 1541 = some (.aload_n 0, 1) := by decide +kernel
theorem cL_1542 : mc_lawcd 1542 = some (.iload 4, 2) := by decide +kernel
theorem cL_1544 : mc_lawcd 1544 = some (.iconst 2, 1) := by decide +kernel
theorem cL_1545 : mc_lawcd 1545 = some (.iadd, 1) := by decide +kernel
theorem cL_1546 : mc_lawcd 1546 = some (.iaload, 1) := by decide +kernel
theorem cL_1547 : mc_lawcd 1547 = some (.i2l, 1) := by decide +kernel
theorem cL_1548 : mc_lawcd 1548 = some (.ldc2_w 213, 3) := by decide +kernel
theorem cL_1551 : mc_lawcd 1551 = some (.land, 1) := by decide +kernel
theorem cL_1552 : mc_lawcd 1552 = some (.lor, 1) := by decide +kernel
theorem cL_1553 : mc_lawcd 1553 = some (.invokevirtual 215, 3) := by decide +kernel
theorem cL_1556 : mc_lawcd 1556 = some (.pop, 1) := by decide +kernel
theorem cL_1557 : mc_lawcd 1557 = some (.aload_n 2, 1) := by decide +kernel
theorem cL_1558 : mc_lawcd 1558 = some (.aload_n 0, 1) := by decide +kernel
theorem cL_1559 : mc_lawcd 1559 = some (.iload 4, 2) := by decide +kernel
theorem cL_1561 : mc_lawcd 1561 = some (.iconst 1, 1) := by decide +kernel
theorem cL_1562 : mc_lawcd 1562 = some (.iadd, 1) := by decide +kernel
theorem cL_1563 : mc_lawcd 1563 = some (.iaload, 1) := by decide +kernel
theorem cL_1564 : mc_lawcd 1564 = some (.i2l, 1) := by decide +kernel
theorem cL_1565 : mc_lawcd 1565 = some (.bipush 32, 2) := by decide +kernel
theorem cL_1567 : mc_lawcd 1567 = some (.lshl, 1) := by decide +kernel
theorem cL_1568 : mc_lawcd 1568 = some (.aload_n 0, 1) := by decide +kernel
theorem cL_1569 : mc_lawcd 1569 = some (.iload 4, 2) := by decide +kernel
theorem cL_1571 : mc_lawcd 1571 = some (.iconst 2, 1) := by decide +kernel
theorem cL_1572 : mc_lawcd 1572 = some (.iadd, 1) := by decide +kernel
theorem cL_1573 : mc_lawcd 1573 = some (.iaload, 1) := by decide +kernel
theorem cL_1574 : mc_lawcd 1574 = some (.i2l, 1) := by decide +kernel
theorem cL_1575 : mc_lawcd 1575 = some (.ldc2_w 213, 3) := by decide +kernel
theorem cL_1578 : mc_lawcd 1578 = some (.land, 1) := by decide +kernel
theorem cL_1579 : mc_lawcd 1579 = some (.lor, 1) := by decide +kernel
theorem cL_1580 : mc_lawcd 1580 = some (.invokevirtual 219, 3) := by decide +kernel
theorem cL_1583 : mc_lawcd 1583 = some (.pop, 1) := by decide +kernel
theorem cL_1584 : mc_lawcd 1584 = some (.goto 69, 3) := by decide +kernel
theorem cL_1587 : mc_lawcd 1587 = some (.aload_n 1, 1) := by decide +kernel
theorem cL_1588 : mc_lawcd 1588 = some (.aload_n 0, 1) := by decide +kernel
theorem cL_1589 : mc_lawcd 1589 = some (.iload 4, 2) := by decide +kernel
theorem cL_1591 : mc_lawcd 1591 = some (.iconst 1, 1) := by decide +kernel
theorem cL_1592 : mc_lawcd 1592 = some (.iadd, 1) := by decide +kernel
theorem cL_1593 : mc_lawcd 1593 = some (.iaload, 1) := by decide +kernel
theorem cL_1594 : mc_lawcd 1594 = some (.aload_n 3, 1) := by decide +kernel
theorem cL_1595 : mc_lawcd 1595 = some (.invokestatic 220, 3) := by decide +kernel
theorem cL_1598 : mc_lawcd 1598 = some (.istore 5, 2) := by decide +kernel
theorem cL_1600 : mc_lawcd 1600 = some (.aload_n 2, 1) := by decide +kernel
theorem cL_1601 : mc_lawcd 1601 = some (.aload_n 0, 1) := by decide +kernel
theorem cL_1602 : mc_lawcd 1602 = some (.iload 4, 2) := by decide +kernel
theorem cL_1604 : mc_lawcd 1604 = some (.iconst 1, 1) := by decide +kernel
theorem cL_1605 : mc_lawcd 1605 = some (.iadd, 1) := by decide +kernel
theorem cL_1606 : mc_lawcd 1606 = some (.iaload, 1) := by decide +kernel
theorem cL_1607 : mc_lawcd 1607 = some (.invokevirtual 225, 3) := by decide +kernel
theorem cL_1610 : mc_lawcd 1610 = some (.istore 6, 2) := by decide +kernel
theorem cL_1612 : mc_lawcd 1612 = some (.goto 41, 3) := by decide +kernel
theorem cL_1615 : mc_lawcd 1615 = some (.aload_n 1, 1) := by decide +kernel
theorem cL_1616 : mc_lawcd 1616 = some (.aload_n 0, 1) := by decide +kernel
theorem cL_1617 : mc_lawcd 1617 = some (.iload 4, 2) := by decide +kernel
theorem cL_1619 : mc_lawcd 1619 = some (.iconst 1, 1) := by decide +kernel
theorem cL_1620 : mc_lawcd 1620 = some (.iadd, 1) := by decide +kernel
theorem cL_1621 : mc_lawcd 1621 = some (.iaload, 1) := by decide +kernel
theorem cL_1622 : mc_lawcd 1622 = some (.invokevirtual 226, 3) := by decide +kernel
theorem cL_1625 : mc_lawcd 1625 = some (.pop, 1) := by decide +kernel
theorem cL_1626 : mc_lawcd 1626 = some (.aload_n 2, 1) := by decide +kernel
theorem cL_1627 : mc_lawcd 1627 = some (.aload_n 0, 1) := by decide +kernel
theorem cL_1628 : mc_lawcd 1628 = some (.iload 4, 2) := by decide +kernel
theorem cL_1630 : mc_lawcd 1630 = some (.iconst 1, 1) := by decide +kernel
theorem cL_1631 : mc_lawcd 1631 = some (.iadd, 1) := by decide +kernel
theorem cL_1632 : mc_lawcd 1632 = some (.iaload, 1) := by decide +kernel
theorem cL_1633 : mc_lawcd 1633 = some (.invokevirtual 229, 3) := by decide +kernel
theorem cL_1636 : mc_lawcd 1636 = some (.pop, 1) := by decide +kernel
theorem cL_1637 : mc_lawcd 1637 = some (.goto 16, 3) := by decide +kernel
theorem cL_1640 : mc_lawcd 1640 = some (.aload_n 1, 1) := by decide +kernel
theorem cL_1641 : mc_lawcd 1641 = some (.invokevirtual 230, 3) := by decide +kernel
theorem cL_1644 : mc_lawcd 1644 = some (.pop, 1) := by decide +kernel
theorem cL_1645 : mc_lawcd 1645 = some (.aload_n 2, 1) := by decide +kernel
theorem cL_1646 : mc_lawcd 1646 = some (.invokevirtual 233, 3) := by decide +kernel
theorem cL_1649 : mc_lawcd 1649 = some (.pop, 1) := by decide +kernel
theorem cL_1650 : mc_lawcd 1650 = some (.goto 3, 3) := by decide +kernel
theorem cL_1653 : mc_lawcd 1653 = some (.iinc 4 6, 3) := by decide +kernel
theorem cL_1656 : mc_lawcd 1656 = some (.goto (-1633), 3) := by decide +kernel
theorem cL_1659 : mc_lawcd 1659 = some (.iconst 1, 1) := by decide +kernel
theorem cL_1660 : mc_lawcd 1660 = some (.ireturn, 1) := by decide +kernel
set_option maxHeartbeats 4000000 in
theorem wl_c0 {kt : Nat → Option mc_E} {CB SB : Nat} {X : mc_S → Prop} {T : wq_T} {H : wq_H} {Len x m o : Nat} {i : Int} (hX : wlX kt CB SB X) (hb : T.2.1 ≤ CB ∧ T.2.2.1 ≤ SB) (hI : wlJ Len x m o T H) (hL : Len ≤ 3072) (hi : 0 ≤ i ∧ i + 6 ≤ Len) (hb2 : T.2.1 + 20 ≤ CB ∧ T.2.2.1 + 500 ≤ SB)  (next : ∀ T' H', wlJ Len x m o T' H' → T'.2.1 ≤ T.2.1 + 20 → T'.2.2.1 ≤ T.2.2.1 + 500 → WL kt CB SB X 1653 (wlL i x m o) [] T' H') : WL kt CB SB X 256 (wlL i x m o) [] T H := by
  obtain ⟨⟨hW, g0, gx, gm, go, hK, hr⟩, hXI, hY1, hY2⟩ := hI
  refine wl_of hX hb cL_256 (rw_aload_n (pc' := 257) (v := .ref x) rfl rfl rfl ?_)
  refine wl_of hX hb cL_257 (rw_aload_n (pc' := 258) (v := .ref 0) rfl rfl rfl ?_)
  refine wl_of hX hb cL_258 (rw_iload (pc' := 260) (z := i) rfl rfl ?_)
  refine wl_of hX hb cL_260 (rw_iconst (pc' := 261) rfl ?_)
  refine wl_of hX hb cL_261 (rw_iadd (pc' := 262) rfl ?_)
  refine wl_of hX hb cL_262 (xa_I (so := 0) (pc' := 263) (a := 0) hW g0 (wsh_s _) (by omega) (wty_s _ _) (by omega) (by omega) rfl (fun b93 b94 => ?_))
  refine wl_of hX hb cL_263 (rw_aload_n (pc' := 264) (v := .ref 0) rfl rfl rfl ?_)
  refine wl_of hX hb cL_264 (rw_iload (pc' := 266) (z := i) rfl rfl ?_)
  refine wl_of hX hb cL_266 (rw_iconst (pc' := 267) rfl ?_)
  refine wl_of hX hb cL_267 (rw_iadd (pc' := 268) rfl ?_)
  refine wl_of hX hb cL_268 (xa_I (so := 0) (pc' := 269) (a := 0) hW g0 (wsh_s _) (by omega) (wty_s _ _) (by omega) (by omega) rfl (fun b95 b96 => ?_))
  refine wl_of hX hb cL_269 (rw_aload_n (pc' := 270) (v := .ref 0) rfl rfl rfl ?_)
  refine wl_of hX hb cL_270 (rw_iload (pc' := 272) (z := i) rfl rfl ?_)
  refine wl_of hX hb cL_272 (rw_iconst (pc' := 273) rfl ?_)
  refine wl_of hX hb cL_273 (rw_iadd (pc' := 274) rfl ?_)
  refine wl_of hX hb cL_274 (xa_I (so := 0) (pc' := 275) (a := 0) hW g0 (wsh_s _) (by omega) (wty_s _ _) (by omega) (by omega) rfl (fun b97 b98 => ?_))
  refine wl_of hX hb cL_275 (rw_aload_n (pc' := 276) (v := .ref 0) rfl rfl rfl ?_)
  refine wl_of hX hb cL_276 (rw_iload (pc' := 278) (z := i) rfl rfl ?_)
  refine wl_of hX hb cL_278 (rw_iconst (pc' := 279) rfl ?_)
  refine wl_of hX hb cL_279 (rw_iadd (pc' := 280) rfl ?_)
  refine wl_of hX hb cL_280 (xa_I (so := 0) (pc' := 281) (a := 0) hW g0 (wsh_s _) (by omega) (wty_s _ _) (by omega) (by omega) rfl (fun b99 b100 => ?_))
  refine wl_of hX hb cL_281 (rw_aload_n (pc' := 282) (v := .ref 0) rfl rfl rfl ?_)
  refine wl_of hX hb cL_282 (rw_iload (pc' := 284) (z := i) rfl rfl ?_)
  refine wl_of hX hb cL_284 (rw_iconst (pc' := 285) rfl ?_)
  refine wl_of hX hb cL_285 (rw_iadd (pc' := 286) rfl ?_)
  refine wl_of hX hb cL_286 (xa_I (so := 0) (pc' := 287) (a := 0) hW g0 (wsh_s _) (by omega) (wty_s _ _) (by omega) (by omega) rfl (fun b101 b102 => ?_))
  obtain ⟨B, tc, tm, cu, dr, e0, gtc, htc, em, gtm, htm, ecu, gcu, edr, gdr, hcu, hdr, -⟩ := hXI
  obtain ⟨t9, ht9⟩ : ∃ t : Int, t = H x 9 := ⟨_, rfl⟩
  obtain ⟨y9, hy9⟩ : ∃ y : Int, y = H 0 ((i + 5).toNat) := ⟨_, rfl⟩
  obtain ⟨d1, hd1⟩ : ∃ y : Int, y = H 0 ((i + 1).toNat) := ⟨_, rfl⟩
  obtain ⟨d2, hd2⟩ : ∃ y : Int, y = H 0 ((i + 2).toNat) := ⟨_, rfl⟩
  obtain ⟨d3, hd3⟩ : ∃ y : Int, y = H 0 ((i + 3).toNat) := ⟨_, rfl⟩
  obtain ⟨d4, hd4⟩ : ∃ y : Int, y = H 0 ((i + 4).toNat) := ⟨_, rfl⟩
  obtain ⟨d5, hd5⟩ : ∃ y : Int, y = H 0 ((i + 5).toNat) := ⟨_, rfl⟩
  refine wl_of hX hb cL_287 (xc_V (pc' := 290) (r := x) (as := [vI (H 0 ((i + 1).toNat)), vI (H 0 ((i + 2).toNat)), vI (H 0 ((i + 3).toNat)), vI (H 0 ((i + 4).toNat)), vI (H 0 ((i + 5).toNat))]) (st := []) (lm_11_19) rfl rfl (Nat.le_of_ble_eq_true rfl) hW gx sh_1 (by decide) rfl (by decide) (u_9 (B := B) (t := t9) (b1 := d1) (b2 := d2) (b3 := d3) (b4 := d4) (b5 := d5) hW gx ⟨by omega, by omega⟩ ⟨by omega, by omega⟩ ⟨by omega, by omega⟩ ⟨by omega, by omega⟩ ⟨by omega, by omega⟩ e0 gtc (by omega) (by omega) (by omega) (by omega) (by omega) (by omega) htc) (fun R103 T104 H105 p106 => ?_))
  obtain ⟨e107, w109, f110, z111, e108, b112, p113⟩ := p106
  subst e107
  subst e108
  rcases p113 with ⟨a114, a115, a116, a117⟩ | ⟨a118, a119, a120, a121, a122⟩
  · show WL _ _ _ _ 290 [(4, vI i), (3, .ref o), (2, .ref m), (1, .ref x), (0, .ref 0)] [vI z111] _ H105
    refine wl_of hX hb cL_290 (rw_pop (pc' := 291) rfl rfl ?_)
    refine wl_of hX hb cL_291 (rw_aload_n (pc' := 292) (v := .ref m) rfl rfl rfl ?_)
    refine wl_of hX hb cL_292 (rw_aload_n (pc' := 293) (v := .ref 0) rfl rfl rfl ?_)
    refine wl_of hX hb cL_293 (rw_iload (pc' := 295) (z := i) rfl rfl ?_)
    refine wl_of hX hb cL_295 (rw_iconst (pc' := 296) rfl ?_)
    refine wl_of hX hb cL_296 (rw_iadd (pc' := 297) rfl ?_)
    have k125 : H105 0 ((i + 1).toNat) = H 0 ((i + 1).toNat) := (f110 0 ((i + 1).toNat) _ g0 (wmem_s rfl))
    refine wl_of hX hb cL_297 (xa_I (so := 0) (pc' := 298) (a := 0) w109 g0 (wsh_s _) (by omega) (wty_s _ _) (by omega) (by omega) rfl (fun b123 b124 => ?_))
    refine wl_of hX hb cL_298 (rw_aload_n (pc' := 299) (v := .ref 0) rfl rfl rfl ?_)
    refine wl_of hX hb cL_299 (rw_iload (pc' := 301) (z := i) rfl rfl ?_)
    refine wl_of hX hb cL_301 (rw_iconst (pc' := 302) rfl ?_)
    refine wl_of hX hb cL_302 (rw_iadd (pc' := 303) rfl ?_)
    have k128 : H105 0 ((i + 2).toNat) = H 0 ((i + 2).toNat) := (f110 0 ((i + 2).toNat) _ g0 (wmem_s rfl))
    refine wl_of hX hb cL_303 (xa_I (so := 0) (pc' := 304) (a := 0) w109 g0 (wsh_s _) (by omega) (wty_s _ _) (by omega) (by omega) rfl (fun b126 b127 => ?_))
    refine wl_of hX hb cL_304 (rw_aload_n (pc' := 305) (v := .ref 0) rfl rfl rfl ?_)
    refine wl_of hX hb cL_305 (rw_iload (pc' := 307) (z := i) rfl rfl ?_)
    refine wl_of hX hb cL_307 (rw_iconst (pc' := 308) rfl ?_)
    refine wl_of hX hb cL_308 (rw_iadd (pc' := 309) rfl ?_)
    have k131 : H105 0 ((i + 3).toNat) = H 0 ((i + 3).toNat) := (f110 0 ((i + 3).toNat) _ g0 (wmem_s rfl))
    refine wl_of hX hb cL_309 (xa_I (so := 0) (pc' := 310) (a := 0) w109 g0 (wsh_s _) (by omega) (wty_s _ _) (by omega) (by omega) rfl (fun b129 b130 => ?_))
    refine wl_of hX hb cL_310 (rw_aload_n (pc' := 311) (v := .ref 0) rfl rfl rfl ?_)
    refine wl_of hX hb cL_311 (rw_iload (pc' := 313) (z := i) rfl rfl ?_)
    refine wl_of hX hb cL_313 (rw_iconst (pc' := 314) rfl ?_)
    refine wl_of hX hb cL_314 (rw_iadd (pc' := 315) rfl ?_)
    have k134 : H105 0 ((i + 4).toNat) = H 0 ((i + 4).toNat) := (f110 0 ((i + 4).toNat) _ g0 (wmem_s rfl))
    refine wl_of hX hb cL_315 (xa_I (so := 0) (pc' := 316) (a := 0) w109 g0 (wsh_s _) (by omega) (wty_s _ _) (by omega) (by omega) rfl (fun b132 b133 => ?_))
    refine wl_of hX hb cL_316 (rw_aload_n (pc' := 317) (v := .ref 0) rfl rfl rfl ?_)
    refine wl_of hX hb cL_317 (rw_iload (pc' := 319) (z := i) rfl rfl ?_)
    refine wl_of hX hb cL_319 (rw_iconst (pc' := 320) rfl ?_)
    refine wl_of hX hb cL_320 (rw_iadd (pc' := 321) rfl ?_)
    have k137 : H105 0 ((i + 5).toNat) = H 0 ((i + 5).toNat) := (f110 0 ((i + 5).toNat) _ g0 (wmem_s rfl))
    refine wl_of hX hb cL_321 (xa_I (so := 0) (pc' := 322) (a := 0) w109 g0 (wsh_s _) (by omega) (wty_s _ _) (by omega) (by omega) rfl (fun b135 b136 => ?_))
    have k138 : wKI H105 m = wKI H m := (wKI_fr hW gm f110 rfl)
    have k139 : H105 m 6 = H m 6 := (f110 m 6 _ gm rfl)
    have k140 : H105 x 11 = H x 11 := (f110 x 11 _ gx rfl)
    have k141 : H105 m 13 = H m 13 := (f110 m 13 _ gm rfl)
    have k142 : H105 x 8 = H x 8 := (f110 x 8 _ gx rfl)
    have k143 : H105 m 3 = H m 3 := (f110 m 3 _ gm rfl)
    have k144 : H105 m 5 = H m 5 := (f110 m 5 _ gm rfl)
    have q145 : H105 m 5 = (tm : Int) := k144.trans em
    have h146 : TM T H105 tm B := (TM_fr hW gtm f110 rfl htm)
    refine wl_of hX hb cL_322 (xc_V (pc' := 325) (r := m) (as := [vI (H105 0 ((i + 1).toNat)), vI (H105 0 ((i + 2).toNat)), vI (H105 0 ((i + 3).toNat)), vI (H105 0 ((i + 4).toNat)), vI (H105 0 ((i + 5).toNat))]) (st := []) (lm_11_23) rfl rfl (Nat.le_of_ble_eq_true rfl) w109 gm sh_42 (by decide) rfl (by decide) (u_168 (B := B) (t := t9) (b1 := d1) (b2 := d2) (b3 := d3) (b4 := d4) (b5 := d5) w109 gm ⟨by omega, by omega⟩ ⟨by omega, by omega⟩ ⟨by omega, by omega⟩ ⟨by omega, by omega⟩ ⟨by omega, by omega⟩ q145 gtm (by omega) (by omega) (by omega) (by omega) (by omega) (by omega) h146) (fun R147 T148 H149 p150 => ?_))
    obtain ⟨e151, w153, f154, z155, e152, b156, p157⟩ := p150
    subst e151
    subst e152
    rcases p157 with ⟨a158, a159, a160, a161⟩ | ⟨a162, a163, a164, a165, a166⟩
    · show WL _ _ _ _ 325 [(4, vI i), (3, .ref o), (2, .ref m), (1, .ref x), (0, .ref 0)] [vI z155] _ H149
      refine wl_of hX hb cL_325 (rw_pop (pc' := 326) rfl rfl ?_)
      refine wl_of hX hb cL_326 (rw_goto (p1 := 1653) (by decide) ?_)
      have k167 : wKI H149 m = wKI H105 m := (wKI_fr w109 gm f154 rfl)
      have k168 : H149 x 9 = H105 x 9 := (f154 x 9 _ gx rfl)
      have k169 : H149 x 11 = H105 x 11 := (f154 x 11 _ gx rfl)
      have k170 : H149 m 13 = H105 m 13 := (f154 m 13 _ gm rfl)
      have k171 : H149 x 8 = H105 x 8 := (f154 x 8 _ gx rfl)
      have k172 : H149 m 3 = H105 m 3 := (f154 m 3 _ gm rfl)
      have k173 : H149 x 0 = H x 0 := ((f154 x 0 _ gx rfl).trans (f110 x 0 _ gx rfl))
      have q174 : H149 x 0 = (tc : Int) := k173.trans e0
      have k175 : H149 m 5 = H105 m 5 := (f154 m 5 _ gm rfl)
      have q176 : H149 m 5 = (tm : Int) := k175.trans q145
      have k177 : H149 x 6 = H x 6 := ((f154 x 6 _ gx rfl).trans (f110 x 6 _ gx rfl))
      have q178 : H149 x 6 = (cu : Int) := k177.trans ecu
      have k179 : H149 x 7 = H x 7 := ((f154 x 7 _ gx rfl).trans (f110 x 7 _ gx rfl))
      have q180 : H149 x 7 = (dr : Int) := k179.trans edr
      have h181 : TP T H149 tc B := (TP_fr w109 gtc f154 rfl a117)
      have h182 : DD T H149 cu  := (DD_fr w109 gcu f154 rfl (DD_fr hW gcu f110 rfl hcu))
      have h183 : DD T H149 dr  := (DD_fr w109 gdr f154 rfl (DD_fr hW gdr f110 rfl hdr))
      exact WL.loc hX (by simp) (next T H149 ⟨⟨w153, g0, gx, gm, go, by omega, by omega⟩, ⟨_, tc, tm, cu, dr, q174, gtc, h181, q176, gtm, a161, q178, gcu, q180, gdr, h182, h183, gm⟩, by omega, by omega⟩ (by omega) (by omega))
    · show WL _ _ _ _ 325 [(4, vI i), (3, .ref o), (2, .ref m), (1, .ref x), (0, .ref 0)] [vI z155] _ H149
      refine wl_of hX hb cL_325 (rw_pop (pc' := 326) rfl rfl ?_)
      refine wl_of hX hb cL_326 (rw_goto (p1 := 1653) (by decide) ?_)
      have k184 : wKI H149 m = wKI H105 m := (wKI_fr w109 gm f154 rfl)
      have k185 : H149 x 9 = H105 x 9 := (f154 x 9 _ gx rfl)
      have k186 : H149 x 11 = H105 x 11 := (f154 x 11 _ gx rfl)
      have k187 : H149 m 13 = H105 m 13 := (f154 m 13 _ gm rfl)
      have k188 : H149 x 8 = H105 x 8 := (f154 x 8 _ gx rfl)
      have k189 : H149 m 3 = H105 m 3 := (f154 m 3 _ gm rfl)
      have k190 : H149 x 0 = H x 0 := ((f154 x 0 _ gx rfl).trans (f110 x 0 _ gx rfl))
      have q191 : H149 x 0 = (tc : Int) := k190.trans e0
      have k192 : H149 m 5 = H105 m 5 := (f154 m 5 _ gm rfl)
      have q193 : H149 m 5 = (tm : Int) := k192.trans q145
      have k194 : H149 x 6 = H x 6 := ((f154 x 6 _ gx rfl).trans (f110 x 6 _ gx rfl))
      have q195 : H149 x 6 = (cu : Int) := k194.trans ecu
      have k196 : H149 x 7 = H x 7 := ((f154 x 7 _ gx rfl).trans (f110 x 7 _ gx rfl))
      have q197 : H149 x 7 = (dr : Int) := k196.trans edr
      have h198 : TP T H149 tc B := (TP_fr w109 gtc f154 rfl a117)
      have h199 : DD T H149 cu  := (DD_fr w109 gcu f154 rfl (DD_fr hW gcu f110 rfl hcu))
      have h200 : DD T H149 dr  := (DD_fr w109 gdr f154 rfl (DD_fr hW gdr f110 rfl hdr))
      exfalso
      omega
  · show WL _ _ _ _ 290 [(4, vI i), (3, .ref o), (2, .ref m), (1, .ref x), (0, .ref 0)] [vI z111] _ H105
    refine wl_of hX hb cL_290 (rw_pop (pc' := 291) rfl rfl ?_)
    refine wl_of hX hb cL_291 (rw_aload_n (pc' := 292) (v := .ref m) rfl rfl rfl ?_)
    refine wl_of hX hb cL_292 (rw_aload_n (pc' := 293) (v := .ref 0) rfl rfl rfl ?_)
    refine wl_of hX hb cL_293 (rw_iload (pc' := 295) (z := i) rfl rfl ?_)
    refine wl_of hX hb cL_295 (rw_iconst (pc' := 296) rfl ?_)
    refine wl_of hX hb cL_296 (rw_iadd (pc' := 297) rfl ?_)
    have k203 : H105 0 ((i + 1).toNat) = H 0 ((i + 1).toNat) := (f110 0 ((i + 1).toNat) _ g0 (wmem_s rfl))
    refine wl_of hX hb cL_297 (xa_I (so := 0) (pc' := 298) (a := 0) w109 g0 (wsh_s _) (by omega) (wty_s _ _) (by omega) (by omega) rfl (fun b201 b202 => ?_))
    refine wl_of hX hb cL_298 (rw_aload_n (pc' := 299) (v := .ref 0) rfl rfl rfl ?_)
    refine wl_of hX hb cL_299 (rw_iload (pc' := 301) (z := i) rfl rfl ?_)
    refine wl_of hX hb cL_301 (rw_iconst (pc' := 302) rfl ?_)
    refine wl_of hX hb cL_302 (rw_iadd (pc' := 303) rfl ?_)
    have k206 : H105 0 ((i + 2).toNat) = H 0 ((i + 2).toNat) := (f110 0 ((i + 2).toNat) _ g0 (wmem_s rfl))
    refine wl_of hX hb cL_303 (xa_I (so := 0) (pc' := 304) (a := 0) w109 g0 (wsh_s _) (by omega) (wty_s _ _) (by omega) (by omega) rfl (fun b204 b205 => ?_))
    refine wl_of hX hb cL_304 (rw_aload_n (pc' := 305) (v := .ref 0) rfl rfl rfl ?_)
    refine wl_of hX hb cL_305 (rw_iload (pc' := 307) (z := i) rfl rfl ?_)
    refine wl_of hX hb cL_307 (rw_iconst (pc' := 308) rfl ?_)
    refine wl_of hX hb cL_308 (rw_iadd (pc' := 309) rfl ?_)
    have k209 : H105 0 ((i + 3).toNat) = H 0 ((i + 3).toNat) := (f110 0 ((i + 3).toNat) _ g0 (wmem_s rfl))
    refine wl_of hX hb cL_309 (xa_I (so := 0) (pc' := 310) (a := 0) w109 g0 (wsh_s _) (by omega) (wty_s _ _) (by omega) (by omega) rfl (fun b207 b208 => ?_))
    refine wl_of hX hb cL_310 (rw_aload_n (pc' := 311) (v := .ref 0) rfl rfl rfl ?_)
    refine wl_of hX hb cL_311 (rw_iload (pc' := 313) (z := i) rfl rfl ?_)
    refine wl_of hX hb cL_313 (rw_iconst (pc' := 314) rfl ?_)
    refine wl_of hX hb cL_314 (rw_iadd (pc' := 315) rfl ?_)
    have k212 : H105 0 ((i + 4).toNat) = H 0 ((i + 4).toNat) := (f110 0 ((i + 4).toNat) _ g0 (wmem_s rfl))
    refine wl_of hX hb cL_315 (xa_I (so := 0) (pc' := 316) (a := 0) w109 g0 (wsh_s _) (by omega) (wty_s _ _) (by omega) (by omega) rfl (fun b210 b211 => ?_))
    refine wl_of hX hb cL_316 (rw_aload_n (pc' := 317) (v := .ref 0) rfl rfl rfl ?_)
    refine wl_of hX hb cL_317 (rw_iload (pc' := 319) (z := i) rfl rfl ?_)
    refine wl_of hX hb cL_319 (rw_iconst (pc' := 320) rfl ?_)
    refine wl_of hX hb cL_320 (rw_iadd (pc' := 321) rfl ?_)
    have k215 : H105 0 ((i + 5).toNat) = H 0 ((i + 5).toNat) := (f110 0 ((i + 5).toNat) _ g0 (wmem_s rfl))
    refine wl_of hX hb cL_321 (xa_I (so := 0) (pc' := 322) (a := 0) w109 g0 (wsh_s _) (by omega) (wty_s _ _) (by omega) (by omega) rfl (fun b213 b214 => ?_))
    have k216 : wKI H105 m = wKI H m := (wKI_fr hW gm f110 rfl)
    have k217 : H105 m 6 = H m 6 := (f110 m 6 _ gm rfl)
    have k218 : H105 x 11 = H x 11 := (f110 x 11 _ gx rfl)
    have k219 : H105 m 13 = H m 13 := (f110 m 13 _ gm rfl)
    have k220 : H105 x 8 = H x 8 := (f110 x 8 _ gx rfl)
    have k221 : H105 m 3 = H m 3 := (f110 m 3 _ gm rfl)
    have k222 : H105 m 5 = H m 5 := (f110 m 5 _ gm rfl)
    have q223 : H105 m 5 = (tm : Int) := k222.trans em
    have h224 : TM T H105 tm B := (TM_fr hW gtm f110 rfl htm)
    refine wl_of hX hb cL_322 (xc_V (pc' := 325) (r := m) (as := [vI (H105 0 ((i + 1).toNat)), vI (H105 0 ((i + 2).toNat)), vI (H105 0 ((i + 3).toNat)), vI (H105 0 ((i + 4).toNat)), vI (H105 0 ((i + 5).toNat))]) (st := []) (lm_11_23) rfl rfl (Nat.le_of_ble_eq_true rfl) w109 gm sh_42 (by decide) rfl (by decide) (u_168 (B := B) (t := t9) (b1 := d1) (b2 := d2) (b3 := d3) (b4 := d4) (b5 := d5) w109 gm ⟨by omega, by omega⟩ ⟨by omega, by omega⟩ ⟨by omega, by omega⟩ ⟨by omega, by omega⟩ ⟨by omega, by omega⟩ q223 gtm (by omega) (by omega) (by omega) (by omega) (by omega) (by omega) h224) (fun R225 T226 H227 p228 => ?_))
    obtain ⟨e229, w231, f232, z233, e230, b234, p235⟩ := p228
    subst e229
    subst e230
    rcases p235 with ⟨a236, a237, a238, a239⟩ | ⟨a240, a241, a242, a243, a244⟩
    · show WL _ _ _ _ 325 [(4, vI i), (3, .ref o), (2, .ref m), (1, .ref x), (0, .ref 0)] [vI z233] _ H227
      refine wl_of hX hb cL_325 (rw_pop (pc' := 326) rfl rfl ?_)
      refine wl_of hX hb cL_326 (rw_goto (p1 := 1653) (by decide) ?_)
      have k245 : wKI H227 m = wKI H105 m := (wKI_fr w109 gm f232 rfl)
      have k246 : H227 x 9 = H105 x 9 := (f232 x 9 _ gx rfl)
      have k247 : H227 x 11 = H105 x 11 := (f232 x 11 _ gx rfl)
      have k248 : H227 m 13 = H105 m 13 := (f232 m 13 _ gm rfl)
      have k249 : H227 x 8 = H105 x 8 := (f232 x 8 _ gx rfl)
      have k250 : H227 m 3 = H105 m 3 := (f232 m 3 _ gm rfl)
      have k251 : H227 x 0 = H x 0 := ((f232 x 0 _ gx rfl).trans (f110 x 0 _ gx rfl))
      have q252 : H227 x 0 = (tc : Int) := k251.trans e0
      have k253 : H227 m 5 = H105 m 5 := (f232 m 5 _ gm rfl)
      have q254 : H227 m 5 = (tm : Int) := k253.trans q223
      have k255 : H227 x 6 = H x 6 := ((f232 x 6 _ gx rfl).trans (f110 x 6 _ gx rfl))
      have q256 : H227 x 6 = (cu : Int) := k255.trans ecu
      have k257 : H227 x 7 = H x 7 := ((f232 x 7 _ gx rfl).trans (f110 x 7 _ gx rfl))
      have q258 : H227 x 7 = (dr : Int) := k257.trans edr
      have h259 : TP T H227 tc (xfk B t9 d1 d2 d3 d4 d5 20) := (TP_fr w109 gtc f232 rfl a122)
      have h260 : DD T H227 cu  := (DD_fr w109 gcu f232 rfl (DD_fr hW gcu f110 rfl hcu))
      have h261 : DD T H227 dr  := (DD_fr w109 gdr f232 rfl (DD_fr hW gdr f110 rfl hdr))
      exfalso
      omega
    · show WL _ _ _ _ 325 [(4, vI i), (3, .ref o), (2, .ref m), (1, .ref x), (0, .ref 0)] [vI z233] _ H227
      refine wl_of hX hb cL_325 (rw_pop (pc' := 326) rfl rfl ?_)
      refine wl_of hX hb cL_326 (rw_goto (p1 := 1653) (by decide) ?_)
      have k262 : wKI H227 m = wKI H105 m := (wKI_fr w109 gm f232 rfl)
      have k263 : H227 x 9 = H105 x 9 := (f232 x 9 _ gx rfl)
      have k264 : H227 x 11 = H105 x 11 := (f232 x 11 _ gx rfl)
      have k265 : H227 m 13 = H105 m 13 := (f232 m 13 _ gm rfl)
      have k266 : H227 x 8 = H105 x 8 := (f232 x 8 _ gx rfl)
      have k267 : H227 m 3 = H105 m 3 := (f232 m 3 _ gm rfl)
      have k268 : H227 x 0 = H x 0 := ((f232 x 0 _ gx rfl).trans (f110 x 0 _ gx rfl))
      have q269 : H227 x 0 = (tc : Int) := k268.trans e0
      have k270 : H227 m 5 = H105 m 5 := (f232 m 5 _ gm rfl)
      have q271 : H227 m 5 = (tm : Int) := k270.trans q223
      have k272 : H227 x 6 = H x 6 := ((f232 x 6 _ gx rfl).trans (f110 x 6 _ gx rfl))
      have q273 : H227 x 6 = (cu : Int) := k272.trans ecu
      have k274 : H227 x 7 = H x 7 := ((f232 x 7 _ gx rfl).trans (f110 x 7 _ gx rfl))
      have q275 : H227 x 7 = (dr : Int) := k274.trans edr
      have h276 : TP T H227 tc (xfk B t9 d1 d2 d3 d4 d5 20) := (TP_fr w109 gtc f232 rfl a122)
      have h277 : DD T H227 cu  := (DD_fr w109 gcu f232 rfl (DD_fr hW gcu f110 rfl hcu))
      have h278 : DD T H227 dr  := (DD_fr w109 gdr f232 rfl (DD_fr hW gdr f110 rfl hdr))
      exact WL.loc hX (by simp) (next T H227 ⟨⟨w231, g0, gx, gm, go, by omega, by omega⟩, ⟨_, tc, tm, cu, dr, q269, gtc, h276, q271, gtm, a244, q273, gcu, q275, gdr, h277, h278, gm⟩, by omega, by omega⟩ (by omega) (by omega))
set_option maxHeartbeats 4000000 in
theorem wl_c1 {kt : Nat → Option mc_E} {CB SB : Nat} {X : mc_S → Prop} {T : wq_T} {H : wq_H} {Len x m o : Nat} {i : Int} (hX : wlX kt CB SB X) (hb : T.2.1 ≤ CB ∧ T.2.2.1 ≤ SB) (hI : wlJ Len x m o T H) (hL : Len ≤ 3072) (hi : 0 ≤ i ∧ i + 6 ≤ Len) (hb2 : T.2.1 + 20 ≤ CB ∧ T.2.2.1 + 500 ≤ SB)  (next : ∀ T' H', wlJ Len x m o T' H' → T'.2.1 ≤ T.2.1 + 20 → T'.2.2.1 ≤ T.2.2.1 + 500 → WL kt CB SB X 1653 (wlL i x m o) [] T' H') : WL kt CB SB X 329 (wlL i x m o) [] T H := by
  obtain ⟨⟨hW, g0, gx, gm, go, hK, hr⟩, hXI, hY1, hY2⟩ := hI
  refine wl_of hX hb cL_329 (rw_aload_n (pc' := 330) (v := .ref x) rfl rfl rfl ?_)
  refine wl_of hX hb cL_330 (rw_aload_n (pc' := 331) (v := .ref 0) rfl rfl rfl ?_)
  refine wl_of hX hb cL_331 (rw_iload (pc' := 333) (z := i) rfl rfl ?_)
  refine wl_of hX hb cL_333 (rw_iconst (pc' := 334) rfl ?_)
  refine wl_of hX hb cL_334 (rw_iadd (pc' := 335) rfl ?_)
  refine wl_of hX hb cL_335 (xa_I (so := 0) (pc' := 336) (a := 0) hW g0 (wsh_s _) (by omega) (wty_s _ _) (by omega) (by omega) rfl (fun b279 b280 => ?_))
  obtain ⟨B, tc, tm, cu, dr, e0, gtc, htc, em, gtm, htm, ecu, gcu, edr, gdr, hcu, hdr, -⟩ := hXI
  obtain ⟨t9, ht9⟩ : ∃ t : Int, t = H x 9 := ⟨_, rfl⟩
  obtain ⟨y9, hy9⟩ : ∃ y : Int, y = H 0 ((i + 1).toNat) := ⟨_, rfl⟩
  obtain ⟨r281, q282, g283⟩ := hW.ref gx (t' := 3) (n := 13) (j := 1) (p := 0) (q := 0) rfl (by decide) rfl
  refine wl_of hX hb cL_336 (xc_V (pc' := 339) (r := x) (as := [vI (H 0 ((i + 1).toNat))]) (st := []) (lm_11_24) rfl rfl (Nat.le_of_ble_eq_true rfl) hW gx sh_1 (by decide) rfl (by decide) (u_11 (B := B) (y := y9) hW gx ⟨by omega, by omega⟩ e0 gtc q282 g283 ecu gcu edr gdr (by omega) htc hdr) (fun R284 T285 H286 p287 => ?_))
  obtain ⟨e288, w290, f291, z292, e289, b293, p294⟩ := p287
  subst e288
  subst e289
  rcases p294 with ⟨a295, a296, a297, a298, a299, a300, a301, a302⟩ | ⟨a303, a304, a305, a306, a307, a308, a309, a310, a311, a312⟩ | ⟨a313, a314, a315, a316, a317, a318, a319, a320, a321, a322⟩
  · show WL _ _ _ _ 339 [(4, vI i), (3, .ref o), (2, .ref m), (1, .ref x), (0, .ref 0)] [vI z292] _ H286
    refine wl_of hX hb cL_339 (rw_pop (pc' := 340) rfl rfl ?_)
    refine wl_of hX hb cL_340 (rw_aload_n (pc' := 341) (v := .ref m) rfl rfl rfl ?_)
    refine wl_of hX hb cL_341 (rw_aload_n (pc' := 342) (v := .ref 0) rfl rfl rfl ?_)
    refine wl_of hX hb cL_342 (rw_iload (pc' := 344) (z := i) rfl rfl ?_)
    refine wl_of hX hb cL_344 (rw_iconst (pc' := 345) rfl ?_)
    refine wl_of hX hb cL_345 (rw_iadd (pc' := 346) rfl ?_)
    have k325 : H286 0 ((i + 1).toNat) = H 0 ((i + 1).toNat) := (f291 0 ((i + 1).toNat) _ g0 (wmem_s rfl))
    refine wl_of hX hb cL_346 (xa_I (so := 0) (pc' := 347) (a := 0) w290 g0 (wsh_s _) (by omega) (wty_s _ _) (by omega) (by omega) rfl (fun b323 b324 => ?_))
    have k326 : wKI H286 m = wKI H m := (wKI_fr hW gm f291 rfl)
    have k327 : H286 m 6 = H m 6 := (f291 m 6 _ gm rfl)
    have k328 : H286 m 13 = H m 13 := (f291 m 13 _ gm rfl)
    have k329 : H286 m 3 = H m 3 := (f291 m 3 _ gm rfl)
    have k330 : H286 m 5 = H m 5 := (f291 m 5 _ gm rfl)
    have q331 : H286 m 5 = (tm : Int) := k330.trans em
    have h332 : TM T H286 tm B := (TM_fr hW gtm f291 rfl htm)
    refine wl_of hX hb cL_347 (xc_V (pc' := 350) (r := m) (as := [vI (H286 0 ((i + 1).toNat))]) (st := []) lm_11_27 rfl rfl (Nat.le_of_ble_eq_true rfl) w290 gm sh_42 (by decide) rfl (by decide) (u_169 (B := B) (y := y9) w290 gm ⟨by omega, by omega⟩ q331 gtm (by omega) (by omega) h332) (fun R9 T9 H9 p9 => ?_))
    obtain ⟨mT, nT, zT, w9, f9, z9, e9, b9, pa⟩ := p9
    subst e9
    have k333 : H9 x 9 = H286 x 9 := (f9 x 9 _ gx rfl)
    have k334 : H9 x 11 = H286 x 11 := (f9 x 11 _ gx rfl)
    have k335 : H9 x 8 = H286 x 8 := (f9 x 8 _ gx rfl)
    have k336 : H9 x 0 = H x 0 := ((f9 x 0 _ gx rfl).trans (f291 x 0 _ gx rfl))
    have q337 : H9 x 0 = (tc : Int) := k336.trans e0
    have k338 : H9 m 5 = H286 m 5 := (f9 m 5 _ gm rfl)
    have q339 : H9 m 5 = (tm : Int) := k338.trans q331
    have k340 : H9 x 6 = H286 x 6 := (f9 x 6 _ gx rfl)
    have q341 : H9 x 6 = (cu : Int) := k340.trans a299
    have k342 : H9 x 7 = H286 x 7 := (f9 x 7 _ gx rfl)
    have q343 : H9 x 7 = (dr : Int) := k342.trans a300
    have h344 : TP T H9 tc B := (TP_fr w290 gtc f9 rfl (TP_fr hW gtc f291 rfl htc))
    have h345 : TM T H9 tm B := (TM_fr w290 gtm f9 rfl h332)
    have h346 : DD T H9 cu  := (DD_fr w290 gcu f9 rfl (DD_fr hW gcu f291 rfl hcu))
    have h347 : DD T H9 dr  := (DD_fr w290 gdr f9 rfl (DD_fr hW gdr f291 rfl hdr))
    have hb : T9.2.1 ≤ CB ∧ T9.2.2.1 ≤ SB := ⟨by omega, by omega⟩
    have hXI9 : XI T9 H9 x m := ⟨B, tc, tm, cu, dr, q337, mT _ _ gtc, h344, q339, mT _ _ gtm, h345, q341, mT _ _ gcu, q343, mT _ _ gdr, DD_mono mT h346, DD_mono mT h347, mT _ _ gm⟩
    have g0 := mT _ _ g0
    have gx := mT _ _ gx
    have gm := mT _ _ gm
    have go := mT _ _ go
    rcases pa with ⟨y0, y1, y2, y3, y4, y5, y6, y7⟩ | ⟨y0, y1, y2, y3, y4, y5, y6, y7, y8⟩ | ⟨y0, y1, y2, y3, y4, y5, y6, y7, y8, y9b⟩
    · show WL _ _ _ _ 350 [(4, vI i), (3, .ref o), (2, .ref m), (1, .ref x), (0, .ref 0)] [vI z9] _ H9
      refine wl_of hX hb cL_350 (rw_pop (pc' := 351) rfl rfl ?_)
      refine wl_of hX hb cL_351 (rw_goto (p1 := 1653) (by decide) ?_)
      exact WL.loc hX (by simp) (next T9 H9 ⟨⟨w9, g0, gx, gm, go, by omega, by omega⟩, hXI9, by omega, by omega⟩ (by omega) (by omega))
    · show WL _ _ _ _ 350 [(4, vI i), (3, .ref o), (2, .ref m), (1, .ref x), (0, .ref 0)] [vI z9] _ H9
      refine wl_of hX hb cL_350 (rw_pop (pc' := 351) rfl rfl ?_)
      refine wl_of hX hb cL_351 (rw_goto (p1 := 1653) (by decide) ?_)
      exact WL.loc hX (by simp) (next T9 H9 ⟨⟨w9, g0, gx, gm, go, by omega, by omega⟩, hXI9, by omega, by omega⟩ (by omega) (by omega))
    · show WL _ _ _ _ 350 [(4, vI i), (3, .ref o), (2, .ref m), (1, .ref x), (0, .ref 0)] [vI z9] _ H9
      refine wl_of hX hb cL_350 (rw_pop (pc' := 351) rfl rfl ?_)
      refine wl_of hX hb cL_351 (rw_goto (p1 := 1653) (by decide) ?_)
      exact WL.loc hX (by simp) (next T9 H9 ⟨⟨w9, g0, gx, gm, go, by omega, by omega⟩, hXI9, by omega, by omega⟩ (by omega) (by omega))
  · show WL _ _ _ _ 339 [(4, vI i), (3, .ref o), (2, .ref m), (1, .ref x), (0, .ref 0)] [vI z292] _ H286
    refine wl_of hX hb cL_339 (rw_pop (pc' := 340) rfl rfl ?_)
    refine wl_of hX hb cL_340 (rw_aload_n (pc' := 341) (v := .ref m) rfl rfl rfl ?_)
    refine wl_of hX hb cL_341 (rw_aload_n (pc' := 342) (v := .ref 0) rfl rfl rfl ?_)
    refine wl_of hX hb cL_342 (rw_iload (pc' := 344) (z := i) rfl rfl ?_)
    refine wl_of hX hb cL_344 (rw_iconst (pc' := 345) rfl ?_)
    refine wl_of hX hb cL_345 (rw_iadd (pc' := 346) rfl ?_)
    have k350 : H286 0 ((i + 1).toNat) = H 0 ((i + 1).toNat) := (f291 0 ((i + 1).toNat) _ g0 (wmem_s rfl))
    refine wl_of hX hb cL_346 (xa_I (so := 0) (pc' := 347) (a := 0) w290 g0 (wsh_s _) (by omega) (wty_s _ _) (by omega) (by omega) rfl (fun b348 b349 => ?_))
    have k351 : wKI H286 m = wKI H m := (wKI_fr hW gm f291 rfl)
    have k352 : H286 m 6 = H m 6 := (f291 m 6 _ gm rfl)
    have k353 : H286 m 13 = H m 13 := (f291 m 13 _ gm rfl)
    have k354 : H286 m 3 = H m 3 := (f291 m 3 _ gm rfl)
    have k355 : H286 m 5 = H m 5 := (f291 m 5 _ gm rfl)
    have q356 : H286 m 5 = (tm : Int) := k355.trans em
    have h357 : TM T H286 tm B := (TM_fr hW gtm f291 rfl htm)
    refine wl_of hX hb cL_347 (xc_V (pc' := 350) (r := m) (as := [vI (H286 0 ((i + 1).toNat))]) (st := []) lm_11_27 rfl rfl (Nat.le_of_ble_eq_true rfl) w290 gm sh_42 (by decide) rfl (by decide) (u_169 (B := B) (y := y9) w290 gm ⟨by omega, by omega⟩ q356 gtm (by omega) (by omega) h357) (fun R9 T9 H9 p9 => ?_))
    obtain ⟨mT, nT, zT, w9, f9, z9, e9, b9, pa⟩ := p9
    subst e9
    have k358 : H9 x 9 = H286 x 9 := (f9 x 9 _ gx rfl)
    have k359 : H9 x 11 = H286 x 11 := (f9 x 11 _ gx rfl)
    have k360 : H9 x 8 = H286 x 8 := (f9 x 8 _ gx rfl)
    have k361 : H9 x 0 = H x 0 := ((f9 x 0 _ gx rfl).trans (f291 x 0 _ gx rfl))
    have q362 : H9 x 0 = (tc : Int) := k361.trans e0
    have k363 : H9 m 5 = H286 m 5 := (f9 m 5 _ gm rfl)
    have q364 : H9 m 5 = (tm : Int) := k363.trans q356
    have k365 : H9 x 6 = H286 x 6 := (f9 x 6 _ gx rfl)
    have q366 : H9 x 6 = (cu : Int) := k365.trans a310
    have k367 : H9 x 7 = H286 x 7 := (f9 x 7 _ gx rfl)
    have q368 : H9 x 7 = (dr : Int) := k367.trans a311
    have h369 : TP T H9 tc B := (TP_fr w290 gtc f9 rfl (TP_fr hW gtc f291 rfl htc))
    have h370 : TM T H9 tm B := (TM_fr w290 gtm f9 rfl h357)
    have h371 : DD T H9 cu  := (DD_fr w290 gcu f9 rfl (DD_fr hW gcu f291 rfl hcu))
    have h372 : DD T H9 dr  := (DD_fr w290 gdr f9 rfl (DD_fr hW gdr f291 rfl hdr))
    have hb : T9.2.1 ≤ CB ∧ T9.2.2.1 ≤ SB := ⟨by omega, by omega⟩
    have hXI9 : XI T9 H9 x m := ⟨B, tc, tm, cu, dr, q362, mT _ _ gtc, h369, q364, mT _ _ gtm, h370, q366, mT _ _ gcu, q368, mT _ _ gdr, DD_mono mT h371, DD_mono mT h372, mT _ _ gm⟩
    have g0 := mT _ _ g0
    have gx := mT _ _ gx
    have gm := mT _ _ gm
    have go := mT _ _ go
    rcases pa with ⟨y0, y1, y2, y3, y4, y5, y6, y7⟩ | ⟨y0, y1, y2, y3, y4, y5, y6, y7, y8⟩ | ⟨y0, y1, y2, y3, y4, y5, y6, y7, y8, y9b⟩
    · show WL _ _ _ _ 350 [(4, vI i), (3, .ref o), (2, .ref m), (1, .ref x), (0, .ref 0)] [vI z9] _ H9
      refine wl_of hX hb cL_350 (rw_pop (pc' := 351) rfl rfl ?_)
      refine wl_of hX hb cL_351 (rw_goto (p1 := 1653) (by decide) ?_)
      exact WL.loc hX (by simp) (next T9 H9 ⟨⟨w9, g0, gx, gm, go, by omega, by omega⟩, hXI9, by omega, by omega⟩ (by omega) (by omega))
    · show WL _ _ _ _ 350 [(4, vI i), (3, .ref o), (2, .ref m), (1, .ref x), (0, .ref 0)] [vI z9] _ H9
      refine wl_of hX hb cL_350 (rw_pop (pc' := 351) rfl rfl ?_)
      refine wl_of hX hb cL_351 (rw_goto (p1 := 1653) (by decide) ?_)
      exact WL.loc hX (by simp) (next T9 H9 ⟨⟨w9, g0, gx, gm, go, by omega, by omega⟩, hXI9, by omega, by omega⟩ (by omega) (by omega))
    · show WL _ _ _ _ 350 [(4, vI i), (3, .ref o), (2, .ref m), (1, .ref x), (0, .ref 0)] [vI z9] _ H9
      refine wl_of hX hb cL_350 (rw_pop (pc' := 351) rfl rfl ?_)
      refine wl_of hX hb cL_351 (rw_goto (p1 := 1653) (by decide) ?_)
      exact WL.loc hX (by simp) (next T9 H9 ⟨⟨w9, g0, gx, gm, go, by omega, by omega⟩, hXI9, by omega, by omega⟩ (by omega) (by omega))
  · show WL _ _ _ _ 339 [(4, vI i), (3, .ref o), (2, .ref m), (1, .ref x), (0, .ref 0)] [vI z292] _ H286
    refine wl_of hX hb cL_339 (rw_pop (pc' := 340) rfl rfl ?_)
    refine wl_of hX hb cL_340 (rw_aload_n (pc' := 341) (v := .ref m) rfl rfl rfl ?_)
    refine wl_of hX hb cL_341 (rw_aload_n (pc' := 342) (v := .ref 0) rfl rfl rfl ?_)
    refine wl_of hX hb cL_342 (rw_iload (pc' := 344) (z := i) rfl rfl ?_)
    refine wl_of hX hb cL_344 (rw_iconst (pc' := 345) rfl ?_)
    refine wl_of hX hb cL_345 (rw_iadd (pc' := 346) rfl ?_)
    have k375 : H286 0 ((i + 1).toNat) = H 0 ((i + 1).toNat) := (f291 0 ((i + 1).toNat) _ g0 (wmem_s rfl))
    refine wl_of hX hb cL_346 (xa_I (so := 0) (pc' := 347) (a := 0) w290 g0 (wsh_s _) (by omega) (wty_s _ _) (by omega) (by omega) rfl (fun b373 b374 => ?_))
    have k376 : wKI H286 m = wKI H m := (wKI_fr hW gm f291 rfl)
    have k377 : H286 m 6 = H m 6 := (f291 m 6 _ gm rfl)
    have k378 : H286 m 13 = H m 13 := (f291 m 13 _ gm rfl)
    have k379 : H286 m 3 = H m 3 := (f291 m 3 _ gm rfl)
    have k380 : H286 m 5 = H m 5 := (f291 m 5 _ gm rfl)
    have q381 : H286 m 5 = (tm : Int) := k380.trans em
    have h382 : TM T H286 tm B := (TM_fr hW gtm f291 rfl htm)
    refine wl_of hX hb cL_347 (xc_V (pc' := 350) (r := m) (as := [vI (H286 0 ((i + 1).toNat))]) (st := []) lm_11_27 rfl rfl (Nat.le_of_ble_eq_true rfl) w290 gm sh_42 (by decide) rfl (by decide) (u_169 (B := B) (y := y9) w290 gm ⟨by omega, by omega⟩ q381 gtm (by omega) (by omega) h382) (fun R9 T9 H9 p9 => ?_))
    obtain ⟨mT, nT, zT, w9, f9, z9, e9, b9, pa⟩ := p9
    subst e9
    have k383 : H9 x 9 = H286 x 9 := (f9 x 9 _ gx rfl)
    have k384 : H9 x 11 = H286 x 11 := (f9 x 11 _ gx rfl)
    have k385 : H9 x 8 = H286 x 8 := (f9 x 8 _ gx rfl)
    have k386 : H9 x 0 = H x 0 := ((f9 x 0 _ gx rfl).trans (f291 x 0 _ gx rfl))
    have q387 : H9 x 0 = (tc : Int) := k386.trans e0
    have k388 : H9 m 5 = H286 m 5 := (f9 m 5 _ gm rfl)
    have q389 : H9 m 5 = (tm : Int) := k388.trans q381
    have k390 : H9 x 6 = H286 x 6 := (f9 x 6 _ gx rfl)
    have q391 : H9 x 6 = (dr : Int) := k390.trans a319
    have k392 : H9 x 7 = H286 x 7 := (f9 x 7 _ gx rfl)
    have q393 : H9 x 7 = (cu : Int) := k392.trans a320
    have h394 : TP T H9 tc B := (TP_fr w290 gtc f9 rfl (TP_fr hW gtc f291 rfl htc))
    have h395 : TM T H9 tm B := (TM_fr w290 gtm f9 rfl h382)
    have h396 : DD T H9 cu  := (DD_fr w290 gcu f9 rfl (DD_fr hW gcu f291 rfl hcu))
    have h397 : DD T H9 dr  := (DD_fr w290 gdr f9 rfl (DD_fr hW gdr f291 rfl hdr))
    have hb : T9.2.1 ≤ CB ∧ T9.2.2.1 ≤ SB := ⟨by omega, by omega⟩
    have hXI9 : XI T9 H9 x m := ⟨B, tc, tm, dr, cu, q387, mT _ _ gtc, h394, q389, mT _ _ gtm, h395, q391, mT _ _ gdr, q393, mT _ _ gcu, DD_mono mT h397, DD_mono mT h396, mT _ _ gm⟩
    have g0 := mT _ _ g0
    have gx := mT _ _ gx
    have gm := mT _ _ gm
    have go := mT _ _ go
    rcases pa with ⟨y0, y1, y2, y3, y4, y5, y6, y7⟩ | ⟨y0, y1, y2, y3, y4, y5, y6, y7, y8⟩ | ⟨y0, y1, y2, y3, y4, y5, y6, y7, y8, y9b⟩
    · show WL _ _ _ _ 350 [(4, vI i), (3, .ref o), (2, .ref m), (1, .ref x), (0, .ref 0)] [vI z9] _ H9
      refine wl_of hX hb cL_350 (rw_pop (pc' := 351) rfl rfl ?_)
      refine wl_of hX hb cL_351 (rw_goto (p1 := 1653) (by decide) ?_)
      exact WL.loc hX (by simp) (next T9 H9 ⟨⟨w9, g0, gx, gm, go, by omega, by omega⟩, hXI9, by omega, by omega⟩ (by omega) (by omega))
    · show WL _ _ _ _ 350 [(4, vI i), (3, .ref o), (2, .ref m), (1, .ref x), (0, .ref 0)] [vI z9] _ H9
      refine wl_of hX hb cL_350 (rw_pop (pc' := 351) rfl rfl ?_)
      refine wl_of hX hb cL_351 (rw_goto (p1 := 1653) (by decide) ?_)
      exact WL.loc hX (by simp) (next T9 H9 ⟨⟨w9, g0, gx, gm, go, by omega, by omega⟩, hXI9, by omega, by omega⟩ (by omega) (by omega))
    · show WL _ _ _ _ 350 [(4, vI i), (3, .ref o), (2, .ref m), (1, .ref x), (0, .ref 0)] [vI z9] _ H9
      refine wl_of hX hb cL_350 (rw_pop (pc' := 351) rfl rfl ?_)
      refine wl_of hX hb cL_351 (rw_goto (p1 := 1653) (by decide) ?_)
      exact WL.loc hX (by simp) (next T9 H9 ⟨⟨w9, g0, gx, gm, go, by omega, by omega⟩, hXI9, by omega, by omega⟩ (by omega) (by omega))
set_option maxHeartbeats 4000000 in
theorem wl_c2 {kt : Nat → Option mc_E} {CB SB : Nat} {X : mc_S → Prop} {T : wq_T} {H : wq_H} {Len x m o : Nat} {i : Int} (hX : wlX kt CB SB X) (hb : T.2.1 ≤ CB ∧ T.2.2.1 ≤ SB) (hI : wlJ Len x m o T H) (hL : Len ≤ 3072) (hi : 0 ≤ i ∧ i + 6 ≤ Len) (hb2 : T.2.1 + 20 ≤ CB ∧ T.2.2.1 + 500 ≤ SB)  (next : ∀ T' H', wlJ Len x m o T' H' → T'.2.1 ≤ T.2.1 + 20 → T'.2.2.1 ≤ T.2.2.1 + 500 → WL kt CB SB X 1653 (wlL i x m o) [] T' H') : WL kt CB SB X 354 (wlL i x m o) [] T H := by
  obtain ⟨⟨hW, g0, gx, gm, go, hK, hr⟩, hXI, hY1, hY2⟩ := hI
  refine wl_of hX hb cL_354 (rw_aload_n (pc' := 355) (v := .ref x) rfl rfl rfl ?_)
  refine wl_of hX hb cL_355 (xc_V (pc' := 358) (r := x) (as := []) (st := []) (lm_11_28) rfl rfl (Nat.le_of_ble_eq_true rfl) hW gx sh_1 (by decide) rfl (by decide) (u_52  hW gx) (fun R398 T399 H400 p401 => ?_))
  obtain ⟨e402, e404, z405, e403, b406, p407⟩ := p401
  subst e402
  subst e403
  subst e404
  show WL _ _ _ _ 358 [(4, vI i), (3, .ref o), (2, .ref m), (1, .ref x), (0, .ref 0)] [vI z405] _ H
  refine wl_of hX hb cL_358 (rw_aload_n (pc' := 359) (v := .ref m) rfl rfl rfl ?_)
  refine wl_of hX hb cL_359 (xc_V (pc' := 362) (r := m) (as := []) (st := [vI z405]) (lm_11_32) rfl rfl (Nat.le_of_ble_eq_true rfl) hW gm sh_42 (by decide) rfl (by decide) (u_210  hW gm) (fun R409 T410 H411 p412 => ?_))
  obtain ⟨e413, w415, f416, z417, e414, b418, p419⟩ := p412
  subst e413
  subst e414
  show WL _ _ _ _ 362 [(4, vI i), (3, .ref o), (2, .ref m), (1, .ref x), (0, .ref 0)] [vI z417, vI z405] _ H411
  refine wl_of hX hb cL_362 (rw_icmp_eq (p1 := 1653) (p2 := 365) (by decide) rfl ⟨by omega, by omega⟩ ⟨by omega, by omega⟩ (fun c421 => ?_) (fun c421 => ?_))
  · have k422 : wKI H411 m = wKI H m := (wKI_fr hW gm f416 rfl)
    have k423 : H411 x 9 = H x 9 := (f416 x 9 _ gx rfl)
    have k424 : H411 m 6 = H m 6 := (f416 m 6 _ gm rfl)
    have k425 : H411 x 11 = H x 11 := (f416 x 11 _ gx rfl)
    have k426 : H411 m 13 = H m 13 := (f416 m 13 _ gm rfl)
    have k427 : H411 x 8 = H x 8 := (f416 x 8 _ gx rfl)
    have k428 : H411 m 3 = H m 3 := (f416 m 3 _ gm rfl)
    have h429 : XI T H411 x m := (XI_fr hW gx f416 rfl hXI)
    exact WL.loc hX (by simp) (next T H411 ⟨⟨w415, g0, gx, gm, go, by omega, by omega⟩, h429, by omega, by omega⟩ (by omega) (by omega))
  · refine wl_of hX hb cL_365 (rw_iconst (pc' := 366) rfl ?_)
    exfalso
    omega
set_option maxHeartbeats 4000000 in
theorem wl_c3 {kt : Nat → Option mc_E} {CB SB : Nat} {X : mc_S → Prop} {T : wq_T} {H : wq_H} {Len x m o : Nat} {i : Int} (hX : wlX kt CB SB X) (hb : T.2.1 ≤ CB ∧ T.2.2.1 ≤ SB) (hI : wlJ Len x m o T H) (hL : Len ≤ 3072) (hi : 0 ≤ i ∧ i + 6 ≤ Len) (hb2 : T.2.1 + 20 ≤ CB ∧ T.2.2.1 + 500 ≤ SB)  (next : ∀ T' H', wlJ Len x m o T' H' → T'.2.1 ≤ T.2.1 + 20 → T'.2.2.1 ≤ T.2.2.1 + 500 → WL kt CB SB X 1653 (wlL i x m o) [] T' H') : WL kt CB SB X 367 (wlL i x m o) [] T H := by
  obtain ⟨⟨hW, g0, gx, gm, go, hK, hr⟩, hXI, hY1, hY2⟩ := hI
  refine wl_of hX hb cL_367 (rw_aload_n (pc' := 368) (v := .ref x) rfl rfl rfl ?_)
  refine wl_of hX hb cL_368 (xc_V (pc' := 371) (r := x) (as := []) (st := []) (lm_11_33) rfl rfl (Nat.le_of_ble_eq_true rfl) hW gx sh_1 (by decide) rfl (by decide) (s_53 hW gx) (fun R430 T431 H432 p433 => ?_))
  obtain ⟨e434, e436, z437, e435, b438⟩ := p433
  subst e434
  subst e435
  subst e436
  show WL _ _ _ _ 371 [(4, vI i), (3, .ref o), (2, .ref m), (1, .ref x), (0, .ref 0)] [vI z437] _ H
  refine wl_of hX hb cL_371 (rw_pop (pc' := 372) rfl rfl ?_)
  refine wl_of hX hb cL_372 (rw_aload_n (pc' := 373) (v := .ref m) rfl rfl rfl ?_)
  refine wl_of hX hb cL_373 (xc_V (pc' := 376) (r := m) (as := []) (st := []) (lm_11_36) rfl rfl (Nat.le_of_ble_eq_true rfl) hW gm sh_42 (by decide) rfl (by decide) (s_211 hW gm (by omega)) (fun R439 T440 H441 p442 => ?_))
  obtain ⟨e443, w445, f446, z448, e444, b449, p447⟩ := p442
  subst e443
  subst e444
  show WL _ _ _ _ 376 [(4, vI i), (3, .ref o), (2, .ref m), (1, .ref x), (0, .ref 0)] [vI z448] _ H441
  refine wl_of hX hb cL_376 (rw_pop (pc' := 377) rfl rfl ?_)
  refine wl_of hX hb cL_377 (rw_goto (p1 := 1653) (by decide) ?_)
  have k450 : H441 x 9 = H x 9 := (f446 x 9 _ gx rfl)
  have k451 : H441 m 6 = H m 6 := (f446 m 6 _ gm rfl)
  have k452 : H441 x 11 = H x 11 := (f446 x 11 _ gx rfl)
  have k453 : H441 m 13 = H m 13 := (f446 m 13 _ gm rfl)
  have k454 : H441 x 8 = H x 8 := (f446 x 8 _ gx rfl)
  have k455 : H441 m 3 = H m 3 := (f446 m 3 _ gm rfl)
  have h456 : XI T H441 x m := (XI_fr hW gx f446 rfl hXI)
  exact WL.loc hX (by simp) (next T H441 ⟨⟨w445, g0, gx, gm, go, by omega, by omega⟩, h456, by omega, by omega⟩ (by omega) (by omega))
set_option maxHeartbeats 4000000 in
theorem wl_c4 {kt : Nat → Option mc_E} {CB SB : Nat} {X : mc_S → Prop} {T : wq_T} {H : wq_H} {Len x m o : Nat} {i : Int} (hX : wlX kt CB SB X) (hb : T.2.1 ≤ CB ∧ T.2.2.1 ≤ SB) (hI : wlJ Len x m o T H) (hL : Len ≤ 3072) (hi : 0 ≤ i ∧ i + 6 ≤ Len) (hb2 : T.2.1 + 20 ≤ CB ∧ T.2.2.1 + 500 ≤ SB)  (next : ∀ T' H', wlJ Len x m o T' H' → T'.2.1 ≤ T.2.1 + 20 → T'.2.2.1 ≤ T.2.2.1 + 500 → WL kt CB SB X 1653 (wlL i x m o) [] T' H') : WL kt CB SB X 380 (wlL i x m o) [] T H := by
  obtain ⟨⟨hW, g0, gx, gm, go, hK, hr⟩, hXI, hY1, hY2⟩ := hI
  refine wl_of hX hb cL_380 (rw_aload_n (pc' := 381) (v := .ref x) rfl rfl rfl ?_)
  refine wl_of hX hb cL_381 (rw_aload_n (pc' := 382) (v := .ref 0) rfl rfl rfl ?_)
  refine wl_of hX hb cL_382 (rw_iload (pc' := 384) (z := i) rfl rfl ?_)
  refine wl_of hX hb cL_384 (rw_iconst (pc' := 385) rfl ?_)
  refine wl_of hX hb cL_385 (rw_iadd (pc' := 386) rfl ?_)
  refine wl_of hX hb cL_386 (xa_I (so := 0) (pc' := 387) (a := 0) hW g0 (wsh_s _) (by omega) (wty_s _ _) (by omega) (by omega) rfl (fun b457 b458 => ?_))
  refine wl_of hX hb cL_387 (xc_V (pc' := 390) (r := x) (as := [vI (H 0 ((i + 1).toNat))]) (st := []) (lm_11_37) rfl rfl (Nat.le_of_ble_eq_true rfl) hW gx sh_1 (by decide) rfl (by decide) (s_54 hW gx ⟨by omega, by omega⟩) (fun R459 T460 H461 p462 => ?_))
  obtain ⟨e463, w465, f466, z467, e464, b468⟩ := p462
  subst e463
  subst e464
  show WL _ _ _ _ 390 [(4, vI i), (3, .ref o), (2, .ref m), (1, .ref x), (0, .ref 0)] [vI z467] _ H461
  refine wl_of hX hb cL_390 (rw_pop (pc' := 391) rfl rfl ?_)
  refine wl_of hX hb cL_391 (rw_aload_n (pc' := 392) (v := .ref m) rfl rfl rfl ?_)
  refine wl_of hX hb cL_392 (rw_aload_n (pc' := 393) (v := .ref 0) rfl rfl rfl ?_)
  refine wl_of hX hb cL_393 (rw_iload (pc' := 395) (z := i) rfl rfl ?_)
  refine wl_of hX hb cL_395 (rw_iconst (pc' := 396) rfl ?_)
  refine wl_of hX hb cL_396 (rw_iadd (pc' := 397) rfl ?_)
  have k471 : H461 0 ((i + 1).toNat) = H 0 ((i + 1).toNat) := (f466 0 ((i + 1).toNat) _ g0 (wmem_s rfl))
  refine wl_of hX hb cL_397 (xa_I (so := 0) (pc' := 398) (a := 0) w465 g0 (wsh_s _) (by omega) (wty_s _ _) (by omega) (by omega) rfl (fun b469 b470 => ?_))
  have k472 : wKI H461 m = wKI H m := (wKI_fr hW gm f466 rfl)
  have k473 : H461 x 9 = H x 9 := (f466 x 9 _ gx rfl)
  have k474 : H461 m 6 = H m 6 := (f466 m 6 _ gm rfl)
  have k475 : H461 x 11 = H x 11 := (f466 x 11 _ gx rfl)
  have k476 : H461 m 13 = H m 13 := (f466 m 13 _ gm rfl)
  have k477 : H461 x 8 = H x 8 := (f466 x 8 _ gx rfl)
  have k478 : H461 m 3 = H m 3 := (f466 m 3 _ gm rfl)
  refine wl_of hX hb cL_398 (xc_V (pc' := 401) (r := m) (as := [vI (H461 0 ((i + 1).toNat))]) (st := []) (lm_11_40) rfl rfl (Nat.le_of_ble_eq_true rfl) w465 gm sh_42 (by decide) rfl (by decide) (s_212 w465 gm ⟨by omega, by omega⟩ (by omega)) (fun R479 T480 H481 p482 => ?_))
  obtain ⟨e483, w485, f486, z488, e484, b489, p487⟩ := p482
  subst e483
  subst e484
  show WL _ _ _ _ 401 [(4, vI i), (3, .ref o), (2, .ref m), (1, .ref x), (0, .ref 0)] [vI z488] _ H481
  refine wl_of hX hb cL_401 (rw_pop (pc' := 402) rfl rfl ?_)
  refine wl_of hX hb cL_402 (rw_goto (p1 := 1653) (by decide) ?_)
  have k490 : H481 x 9 = H461 x 9 := (f486 x 9 _ gx rfl)
  have k491 : H481 m 6 = H461 m 6 := (f486 m 6 _ gm rfl)
  have k492 : H481 x 11 = H461 x 11 := (f486 x 11 _ gx rfl)
  have k493 : H481 m 13 = H461 m 13 := (f486 m 13 _ gm rfl)
  have k494 : H481 x 8 = H461 x 8 := (f486 x 8 _ gx rfl)
  have k495 : H481 m 3 = H461 m 3 := (f486 m 3 _ gm rfl)
  have h496 : XI T H481 x m := (XI_fr w465 gx f486 rfl (XI_fr hW gx f466 rfl hXI))
  exact WL.loc hX (by simp) (next T H481 ⟨⟨w485, g0, gx, gm, go, by omega, by omega⟩, h496, by omega, by omega⟩ (by omega) (by omega))
set_option maxHeartbeats 4000000 in
theorem wl_c5 {kt : Nat → Option mc_E} {CB SB : Nat} {X : mc_S → Prop} {T : wq_T} {H : wq_H} {Len x m o : Nat} {i : Int} (hX : wlX kt CB SB X) (hb : T.2.1 ≤ CB ∧ T.2.2.1 ≤ SB) (hI : wlJ Len x m o T H) (hL : Len ≤ 3072) (hi : 0 ≤ i ∧ i + 6 ≤ Len) (hb2 : T.2.1 + 20 ≤ CB ∧ T.2.2.1 + 500 ≤ SB)  (next : ∀ T' H', wlJ Len x m o T' H' → T'.2.1 ≤ T.2.1 + 20 → T'.2.2.1 ≤ T.2.2.1 + 500 → WL kt CB SB X 1653 (wlL i x m o) [] T' H') : WL kt CB SB X 405 (wlL i x m o) [] T H := by
  obtain ⟨⟨hW, g0, gx, gm, go, hK, hr⟩, hXI, hY1, hY2⟩ := hI
  refine wl_of hX hb cL_405 (rw_aload_n (pc' := 406) (v := .ref x) rfl rfl rfl ?_)
  refine wl_of hX hb cL_406 (rw_aload_n (pc' := 407) (v := .ref 0) rfl rfl rfl ?_)
  refine wl_of hX hb cL_407 (rw_iload (pc' := 409) (z := i) rfl rfl ?_)
  refine wl_of hX hb cL_409 (rw_iconst (pc' := 410) rfl ?_)
  refine wl_of hX hb cL_410 (rw_iadd (pc' := 411) rfl ?_)
  refine wl_of hX hb cL_411 (xa_I (so := 0) (pc' := 412) (a := 0) hW g0 (wsh_s _) (by omega) (wty_s _ _) (by omega) (by omega) rfl (fun b497 b498 => ?_))
  refine wl_of hX hb cL_412 (rw_aload_n (pc' := 413) (v := .ref 0) rfl rfl rfl ?_)
  refine wl_of hX hb cL_413 (rw_iload (pc' := 415) (z := i) rfl rfl ?_)
  refine wl_of hX hb cL_415 (rw_iconst (pc' := 416) rfl ?_)
  refine wl_of hX hb cL_416 (rw_iadd (pc' := 417) rfl ?_)
  refine wl_of hX hb cL_417 (xa_I (so := 0) (pc' := 418) (a := 0) hW g0 (wsh_s _) (by omega) (wty_s _ _) (by omega) (by omega) rfl (fun b499 b500 => ?_))
  refine wl_of hX hb cL_418 (rw_aload_n (pc' := 419) (v := .ref 0) rfl rfl rfl ?_)
  refine wl_of hX hb cL_419 (rw_iload (pc' := 421) (z := i) rfl rfl ?_)
  refine wl_of hX hb cL_421 (rw_iconst (pc' := 422) rfl ?_)
  refine wl_of hX hb cL_422 (rw_iadd (pc' := 423) rfl ?_)
  refine wl_of hX hb cL_423 (xa_I (so := 0) (pc' := 424) (a := 0) hW g0 (wsh_s _) (by omega) (wty_s _ _) (by omega) (by omega) rfl (fun b501 b502 => ?_))
  refine wl_of hX hb cL_424 (xc_V (pc' := 427) (r := x) (as := [vI (H 0 ((i + 1).toNat)), vI (H 0 ((i + 2).toNat)), vI (H 0 ((i + 3).toNat))]) (st := []) (lm_11_41) rfl rfl (Nat.le_of_ble_eq_true rfl) hW gx sh_1 (by decide) rfl (by decide) (s_56 hW gx ⟨by omega, by omega⟩ ⟨by omega, by omega⟩ ⟨by omega, by omega⟩) (fun R503 T504 H505 p506 => ?_))
  obtain ⟨e507, w509, f510, z511, e508, b512⟩ := p506
  subst e507
  subst e508
  show WL _ _ _ _ 427 [(4, vI i), (3, .ref o), (2, .ref m), (1, .ref x), (0, .ref 0)] [vI z511] _ H505
  refine wl_of hX hb cL_427 (rw_pop (pc' := 428) rfl rfl ?_)
  refine wl_of hX hb cL_428 (rw_aload_n (pc' := 429) (v := .ref m) rfl rfl rfl ?_)
  refine wl_of hX hb cL_429 (rw_aload_n (pc' := 430) (v := .ref 0) rfl rfl rfl ?_)
  refine wl_of hX hb cL_430 (rw_iload (pc' := 432) (z := i) rfl rfl ?_)
  refine wl_of hX hb cL_432 (rw_iconst (pc' := 433) rfl ?_)
  refine wl_of hX hb cL_433 (rw_iadd (pc' := 434) rfl ?_)
  have k515 : H505 0 ((i + 1).toNat) = H 0 ((i + 1).toNat) := (f510 0 ((i + 1).toNat) _ g0 (wmem_s rfl))
  refine wl_of hX hb cL_434 (xa_I (so := 0) (pc' := 435) (a := 0) w509 g0 (wsh_s _) (by omega) (wty_s _ _) (by omega) (by omega) rfl (fun b513 b514 => ?_))
  refine wl_of hX hb cL_435 (rw_aload_n (pc' := 436) (v := .ref 0) rfl rfl rfl ?_)
  refine wl_of hX hb cL_436 (rw_iload (pc' := 438) (z := i) rfl rfl ?_)
  refine wl_of hX hb cL_438 (rw_iconst (pc' := 439) rfl ?_)
  refine wl_of hX hb cL_439 (rw_iadd (pc' := 440) rfl ?_)
  have k518 : H505 0 ((i + 2).toNat) = H 0 ((i + 2).toNat) := (f510 0 ((i + 2).toNat) _ g0 (wmem_s rfl))
  refine wl_of hX hb cL_440 (xa_I (so := 0) (pc' := 441) (a := 0) w509 g0 (wsh_s _) (by omega) (wty_s _ _) (by omega) (by omega) rfl (fun b516 b517 => ?_))
  refine wl_of hX hb cL_441 (rw_aload_n (pc' := 442) (v := .ref 0) rfl rfl rfl ?_)
  refine wl_of hX hb cL_442 (rw_iload (pc' := 444) (z := i) rfl rfl ?_)
  refine wl_of hX hb cL_444 (rw_iconst (pc' := 445) rfl ?_)
  refine wl_of hX hb cL_445 (rw_iadd (pc' := 446) rfl ?_)
  have k521 : H505 0 ((i + 3).toNat) = H 0 ((i + 3).toNat) := (f510 0 ((i + 3).toNat) _ g0 (wmem_s rfl))
  refine wl_of hX hb cL_446 (xa_I (so := 0) (pc' := 447) (a := 0) w509 g0 (wsh_s _) (by omega) (wty_s _ _) (by omega) (by omega) rfl (fun b519 b520 => ?_))
  have k522 : wKI H505 m = wKI H m := (wKI_fr hW gm f510 rfl)
  have k523 : H505 x 9 = H x 9 := (f510 x 9 _ gx rfl)
  have k524 : H505 m 6 = H m 6 := (f510 m 6 _ gm rfl)
  have k525 : H505 x 11 = H x 11 := (f510 x 11 _ gx rfl)
  have k526 : H505 m 13 = H m 13 := (f510 m 13 _ gm rfl)
  have k527 : H505 x 8 = H x 8 := (f510 x 8 _ gx rfl)
  have k528 : H505 m 3 = H m 3 := (f510 m 3 _ gm rfl)
  refine wl_of hX hb cL_447 (xc_V (pc' := 450) (r := m) (as := [vI (H505 0 ((i + 1).toNat)), vI (H505 0 ((i + 2).toNat)), vI (H505 0 ((i + 3).toNat))]) (st := []) (lm_11_45) rfl rfl (Nat.le_of_ble_eq_true rfl) w509 gm sh_42 (by decide) rfl (by decide) (s_214 w509 gm ⟨by omega, by omega⟩ ⟨by omega, by omega⟩ ⟨by omega, by omega⟩ (by omega)) (fun R529 T530 H531 p532 => ?_))
  obtain ⟨e533, w535, f536, z538, e534, b539, p537⟩ := p532
  subst e533
  subst e534
  show WL _ _ _ _ 450 [(4, vI i), (3, .ref o), (2, .ref m), (1, .ref x), (0, .ref 0)] [vI z538] _ H531
  refine wl_of hX hb cL_450 (rw_pop (pc' := 451) rfl rfl ?_)
  refine wl_of hX hb cL_451 (rw_goto (p1 := 1653) (by decide) ?_)
  have k540 : H531 x 9 = H505 x 9 := (f536 x 9 _ gx rfl)
  have k541 : H531 m 6 = H505 m 6 := (f536 m 6 _ gm rfl)
  have k542 : H531 x 11 = H505 x 11 := (f536 x 11 _ gx rfl)
  have k543 : H531 m 13 = H505 m 13 := (f536 m 13 _ gm rfl)
  have k544 : H531 x 8 = H505 x 8 := (f536 x 8 _ gx rfl)
  have k545 : H531 m 3 = H505 m 3 := (f536 m 3 _ gm rfl)
  have h546 : XI T H531 x m := (XI_fr w509 gx f536 rfl (XI_fr hW gx f510 rfl hXI))
  exact WL.loc hX (by simp) (next T H531 ⟨⟨w535, g0, gx, gm, go, by omega, by omega⟩, h546, by omega, by omega⟩ (by omega) (by omega))
set_option maxHeartbeats 4000000 in
theorem wl_c6 {kt : Nat → Option mc_E} {CB SB : Nat} {X : mc_S → Prop} {T : wq_T} {H : wq_H} {Len x m o : Nat} {i : Int} (hX : wlX kt CB SB X) (hb : T.2.1 ≤ CB ∧ T.2.2.1 ≤ SB) (hI : wlJ Len x m o T H) (hL : Len ≤ 3072) (hi : 0 ≤ i ∧ i + 6 ≤ Len) (hb2 : T.2.1 + 20 ≤ CB ∧ T.2.2.1 + 500 ≤ SB)  (next : ∀ T' H', wlJ Len x m o T' H' → T'.2.1 ≤ T.2.1 + 20 → T'.2.2.1 ≤ T.2.2.1 + 500 → WL kt CB SB X 1653 (wlL i x m o) [] T' H') : WL kt CB SB X 454 (wlL i x m o) [] T H := by
  obtain ⟨⟨hW, g0, gx, gm, go, hK, hr⟩, hXI, hY1, hY2⟩ := hI
  refine wl_of hX hb cL_454 (rw_aload_n (pc' := 455) (v := .ref x) rfl rfl rfl ?_)
  refine wl_of hX hb cL_455 (rw_aload_n (pc' := 456) (v := .ref 0) rfl rfl rfl ?_)
  refine wl_of hX hb cL_456 (rw_iload (pc' := 458) (z := i) rfl rfl ?_)
  refine wl_of hX hb cL_458 (rw_iconst (pc' := 459) rfl ?_)
  refine wl_of hX hb cL_459 (rw_iadd (pc' := 460) rfl ?_)
  refine wl_of hX hb cL_460 (xa_I (so := 0) (pc' := 461) (a := 0) hW g0 (wsh_s _) (by omega) (wty_s _ _) (by omega) (by omega) rfl (fun b547 b548 => ?_))
  refine wl_of hX hb cL_461 (rw_aload_n (pc' := 462) (v := .ref 0) rfl rfl rfl ?_)
  refine wl_of hX hb cL_462 (rw_iload (pc' := 464) (z := i) rfl rfl ?_)
  refine wl_of hX hb cL_464 (rw_iconst (pc' := 465) rfl ?_)
  refine wl_of hX hb cL_465 (rw_iadd (pc' := 466) rfl ?_)
  refine wl_of hX hb cL_466 (xa_I (so := 0) (pc' := 467) (a := 0) hW g0 (wsh_s _) (by omega) (wty_s _ _) (by omega) (by omega) rfl (fun b549 b550 => ?_))
  refine wl_of hX hb cL_467 (rw_aload_n (pc' := 468) (v := .ref 0) rfl rfl rfl ?_)
  refine wl_of hX hb cL_468 (rw_iload (pc' := 470) (z := i) rfl rfl ?_)
  refine wl_of hX hb cL_470 (rw_iconst (pc' := 471) rfl ?_)
  refine wl_of hX hb cL_471 (rw_iadd (pc' := 472) rfl ?_)
  refine wl_of hX hb cL_472 (xa_I (so := 0) (pc' := 473) (a := 0) hW g0 (wsh_s _) (by omega) (wty_s _ _) (by omega) (by omega) rfl (fun b551 b552 => ?_))
  refine wl_of hX hb cL_473 (xc_V (pc' := 476) (r := x) (as := [vI (H 0 ((i + 1).toNat)), vI (H 0 ((i + 2).toNat)), vI (H 0 ((i + 3).toNat))]) (st := []) (lm_11_46) rfl rfl (Nat.le_of_ble_eq_true rfl) hW gx sh_1 (by decide) rfl (by decide) (s_59 hW gx ⟨by omega, by omega⟩ ⟨by omega, by omega⟩ ⟨by omega, by omega⟩) (fun R553 T554 H555 p556 => ?_))
  obtain ⟨e557, w559, f560, z561, e558, b562⟩ := p556
  subst e557
  subst e558
  show WL _ _ _ _ 476 [(4, vI i), (3, .ref o), (2, .ref m), (1, .ref x), (0, .ref 0)] [vI z561] _ H555
  refine wl_of hX hb cL_476 (rw_pop (pc' := 477) rfl rfl ?_)
  refine wl_of hX hb cL_477 (rw_aload_n (pc' := 478) (v := .ref m) rfl rfl rfl ?_)
  refine wl_of hX hb cL_478 (rw_aload_n (pc' := 479) (v := .ref 0) rfl rfl rfl ?_)
  refine wl_of hX hb cL_479 (rw_iload (pc' := 481) (z := i) rfl rfl ?_)
  refine wl_of hX hb cL_481 (rw_iconst (pc' := 482) rfl ?_)
  refine wl_of hX hb cL_482 (rw_iadd (pc' := 483) rfl ?_)
  have k565 : H555 0 ((i + 1).toNat) = H 0 ((i + 1).toNat) := (f560 0 ((i + 1).toNat) _ g0 (wmem_s rfl))
  refine wl_of hX hb cL_483 (xa_I (so := 0) (pc' := 484) (a := 0) w559 g0 (wsh_s _) (by omega) (wty_s _ _) (by omega) (by omega) rfl (fun b563 b564 => ?_))
  refine wl_of hX hb cL_484 (rw_aload_n (pc' := 485) (v := .ref 0) rfl rfl rfl ?_)
  refine wl_of hX hb cL_485 (rw_iload (pc' := 487) (z := i) rfl rfl ?_)
  refine wl_of hX hb cL_487 (rw_iconst (pc' := 488) rfl ?_)
  refine wl_of hX hb cL_488 (rw_iadd (pc' := 489) rfl ?_)
  have k568 : H555 0 ((i + 2).toNat) = H 0 ((i + 2).toNat) := (f560 0 ((i + 2).toNat) _ g0 (wmem_s rfl))
  refine wl_of hX hb cL_489 (xa_I (so := 0) (pc' := 490) (a := 0) w559 g0 (wsh_s _) (by omega) (wty_s _ _) (by omega) (by omega) rfl (fun b566 b567 => ?_))
  refine wl_of hX hb cL_490 (rw_aload_n (pc' := 491) (v := .ref 0) rfl rfl rfl ?_)
  refine wl_of hX hb cL_491 (rw_iload (pc' := 493) (z := i) rfl rfl ?_)
  refine wl_of hX hb cL_493 (rw_iconst (pc' := 494) rfl ?_)
  refine wl_of hX hb cL_494 (rw_iadd (pc' := 495) rfl ?_)
  have k571 : H555 0 ((i + 3).toNat) = H 0 ((i + 3).toNat) := (f560 0 ((i + 3).toNat) _ g0 (wmem_s rfl))
  refine wl_of hX hb cL_495 (xa_I (so := 0) (pc' := 496) (a := 0) w559 g0 (wsh_s _) (by omega) (wty_s _ _) (by omega) (by omega) rfl (fun b569 b570 => ?_))
  have k572 : wKI H555 m = wKI H m := (wKI_fr hW gm f560 rfl)
  have k573 : H555 x 9 = H x 9 := (f560 x 9 _ gx rfl)
  have k574 : H555 m 6 = H m 6 := (f560 m 6 _ gm rfl)
  have k575 : H555 x 11 = H x 11 := (f560 x 11 _ gx rfl)
  have k576 : H555 m 13 = H m 13 := (f560 m 13 _ gm rfl)
  have k577 : H555 x 8 = H x 8 := (f560 x 8 _ gx rfl)
  have k578 : H555 m 3 = H m 3 := (f560 m 3 _ gm rfl)
  refine wl_of hX hb cL_496 (xc_V (pc' := 499) (r := m) (as := [vI (H555 0 ((i + 1).toNat)), vI (H555 0 ((i + 2).toNat)), vI (H555 0 ((i + 3).toNat))]) (st := []) (lm_11_49) rfl rfl (Nat.le_of_ble_eq_true rfl) w559 gm sh_42 (by decide) rfl (by decide) (s_217 w559 gm ⟨by omega, by omega⟩ ⟨by omega, by omega⟩ ⟨by omega, by omega⟩ (by omega)) (fun R579 T580 H581 p582 => ?_))
  obtain ⟨e583, w585, f586, z588, e584, b589, p587⟩ := p582
  subst e583
  subst e584
  show WL _ _ _ _ 499 [(4, vI i), (3, .ref o), (2, .ref m), (1, .ref x), (0, .ref 0)] [vI z588] _ H581
  refine wl_of hX hb cL_499 (rw_pop (pc' := 500) rfl rfl ?_)
  refine wl_of hX hb cL_500 (rw_goto (p1 := 1653) (by decide) ?_)
  have k590 : H581 x 9 = H555 x 9 := (f586 x 9 _ gx rfl)
  have k591 : H581 m 6 = H555 m 6 := (f586 m 6 _ gm rfl)
  have k592 : H581 x 11 = H555 x 11 := (f586 x 11 _ gx rfl)
  have k593 : H581 m 13 = H555 m 13 := (f586 m 13 _ gm rfl)
  have k594 : H581 x 8 = H555 x 8 := (f586 x 8 _ gx rfl)
  have k595 : H581 m 3 = H555 m 3 := (f586 m 3 _ gm rfl)
  have h596 : XI T H581 x m := (XI_fr w559 gx f586 rfl (XI_fr hW gx f560 rfl hXI))
  exact WL.loc hX (by simp) (next T H581 ⟨⟨w585, g0, gx, gm, go, by omega, by omega⟩, h596, by omega, by omega⟩ (by omega) (by omega))
set_option maxHeartbeats 4000000 in
theorem wl_c7 {kt : Nat → Option mc_E} {CB SB : Nat} {X : mc_S → Prop} {T : wq_T} {H : wq_H} {Len x m o : Nat} {i : Int} (hX : wlX kt CB SB X) (hb : T.2.1 ≤ CB ∧ T.2.2.1 ≤ SB) (hI : wlJ Len x m o T H) (hL : Len ≤ 3072) (hi : 0 ≤ i ∧ i + 6 ≤ Len) (hb2 : T.2.1 + 20 ≤ CB ∧ T.2.2.1 + 500 ≤ SB)  (next : ∀ T' H', wlJ Len x m o T' H' → T'.2.1 ≤ T.2.1 + 20 → T'.2.2.1 ≤ T.2.2.1 + 500 → WL kt CB SB X 1653 (wlL i x m o) [] T' H') : WL kt CB SB X 503 (wlL i x m o) [] T H := by
  obtain ⟨⟨hW, g0, gx, gm, go, hK, hr⟩, hXI, hY1, hY2⟩ := hI
  refine wl_of hX hb cL_503 (rw_aload_n (pc' := 504) (v := .ref x) rfl rfl rfl ?_)
  refine wl_of hX hb cL_504 (xc_V (pc' := 507) (r := x) (as := []) (st := []) (lm_11_50) rfl rfl (Nat.le_of_ble_eq_true rfl) hW gx sh_1 (by decide) rfl (by decide) (s_61 hW gx) (fun R597 T598 H599 p600 => ?_))
  obtain ⟨e601, w603, f604, z605, e602, b606⟩ := p600
  subst e601
  subst e602
  show WL _ _ _ _ 507 [(4, vI i), (3, .ref o), (2, .ref m), (1, .ref x), (0, .ref 0)] [vL z605] _ H599
  refine wl_of hX hb cL_507 (rw_pop2 (pc' := 508) rfl rfl ?_)
  refine wl_of hX hb cL_508 (rw_aload_n (pc' := 509) (v := .ref m) rfl rfl rfl ?_)
  have k607 : wKI H599 m = wKI H m := (wKI_fr hW gm f604 rfl)
  have k608 : H599 x 9 = H x 9 := (f604 x 9 _ gx rfl)
  have k609 : H599 m 6 = H m 6 := (f604 m 6 _ gm rfl)
  have k610 : H599 x 11 = H x 11 := (f604 x 11 _ gx rfl)
  have k611 : H599 m 13 = H m 13 := (f604 m 13 _ gm rfl)
  have k612 : H599 x 8 = H x 8 := (f604 x 8 _ gx rfl)
  have k613 : H599 m 3 = H m 3 := (f604 m 3 _ gm rfl)
  refine wl_of hX hb cL_509 (xc_V (pc' := 512) (r := m) (as := []) (st := []) (lm_11_54) rfl rfl (Nat.le_of_ble_eq_true rfl) w603 gm sh_42 (by decide) rfl (by decide) (s_219 w603 gm (by omega)) (fun R614 T615 H616 p617 => ?_))
  obtain ⟨e618, w620, f621, z623, e619, b624, p622⟩ := p617
  subst e618
  subst e619
  show WL _ _ _ _ 512 [(4, vI i), (3, .ref o), (2, .ref m), (1, .ref x), (0, .ref 0)] [vL z623] _ H616
  refine wl_of hX hb cL_512 (rw_pop2 (pc' := 513) rfl rfl ?_)
  refine wl_of hX hb cL_513 (rw_goto (p1 := 1653) (by decide) ?_)
  have k625 : H616 x 9 = H599 x 9 := (f621 x 9 _ gx rfl)
  have k626 : H616 m 6 = H599 m 6 := (f621 m 6 _ gm rfl)
  have k627 : H616 x 11 = H599 x 11 := (f621 x 11 _ gx rfl)
  have k628 : H616 m 13 = H599 m 13 := (f621 m 13 _ gm rfl)
  have k629 : H616 x 8 = H599 x 8 := (f621 x 8 _ gx rfl)
  have k630 : H616 m 3 = H599 m 3 := (f621 m 3 _ gm rfl)
  have h631 : XI T H616 x m := (XI_fr w603 gx f621 rfl (XI_fr hW gx f604 rfl hXI))
  exact WL.loc hX (by simp) (next T H616 ⟨⟨w620, g0, gx, gm, go, by omega, by omega⟩, h631, by omega, by omega⟩ (by omega) (by omega))
set_option maxHeartbeats 4000000 in
theorem wl_c8 {kt : Nat → Option mc_E} {CB SB : Nat} {X : mc_S → Prop} {T : wq_T} {H : wq_H} {Len x m o : Nat} {i : Int} (hX : wlX kt CB SB X) (hb : T.2.1 ≤ CB ∧ T.2.2.1 ≤ SB) (hI : wlJ Len x m o T H) (hL : Len ≤ 3072) (hi : 0 ≤ i ∧ i + 6 ≤ Len) (hb2 : T.2.1 + 20 ≤ CB ∧ T.2.2.1 + 500 ≤ SB)  (next : ∀ T' H', wlJ Len x m o T' H' → T'.2.1 ≤ T.2.1 + 20 → T'.2.2.1 ≤ T.2.2.1 + 500 → WL kt CB SB X 1653 (wlL i x m o) [] T' H') : WL kt CB SB X 516 (wlL i x m o) [] T H := by
  obtain ⟨⟨hW, g0, gx, gm, go, hK, hr⟩, hXI, hY1, hY2⟩ := hI
  refine wl_of hX hb cL_516 (rw_aload_n (pc' := 517) (v := .ref x) rfl rfl rfl ?_)
  refine wl_of hX hb cL_517 (rw_aload_n (pc' := 518) (v := .ref 0) rfl rfl rfl ?_)
  refine wl_of hX hb cL_518 (rw_iload (pc' := 520) (z := i) rfl rfl ?_)
  refine wl_of hX hb cL_520 (rw_iconst (pc' := 521) rfl ?_)
  refine wl_of hX hb cL_521 (rw_iadd (pc' := 522) rfl ?_)
  refine wl_of hX hb cL_522 (xa_I (so := 0) (pc' := 523) (a := 0) hW g0 (wsh_s _) (by omega) (wty_s _ _) (by omega) (by omega) rfl (fun b632 b633 => ?_))
  refine wl_of hX hb cL_523 (rw_aload_n (pc' := 524) (v := .ref 0) rfl rfl rfl ?_)
  refine wl_of hX hb cL_524 (rw_iload (pc' := 526) (z := i) rfl rfl ?_)
  refine wl_of hX hb cL_526 (rw_iconst (pc' := 527) rfl ?_)
  refine wl_of hX hb cL_527 (rw_iadd (pc' := 528) rfl ?_)
  refine wl_of hX hb cL_528 (xa_I (so := 0) (pc' := 529) (a := 0) hW g0 (wsh_s _) (by omega) (wty_s _ _) (by omega) (by omega) rfl (fun b634 b635 => ?_))
  refine wl_of hX hb cL_529 (xc_V (pc' := 532) (r := x) (as := [vI (H 0 ((i + 1).toNat)), vI (H 0 ((i + 2).toNat))]) (st := []) (lm_11_55) rfl rfl (Nat.le_of_ble_eq_true rfl) hW gx sh_1 (by decide) rfl (by decide) (s_62 hW gx ⟨by omega, by omega⟩ ⟨by omega, by omega⟩) (fun R636 T637 H638 p639 => ?_))
  obtain ⟨e640, w642, f643, z644, e641, b645⟩ := p639
  subst e640
  subst e641
  show WL _ _ _ _ 532 [(4, vI i), (3, .ref o), (2, .ref m), (1, .ref x), (0, .ref 0)] [vI z644] _ H638
  refine wl_of hX hb cL_532 (rw_pop (pc' := 533) rfl rfl ?_)
  refine wl_of hX hb cL_533 (rw_aload_n (pc' := 534) (v := .ref m) rfl rfl rfl ?_)
  refine wl_of hX hb cL_534 (rw_aload_n (pc' := 535) (v := .ref 0) rfl rfl rfl ?_)
  refine wl_of hX hb cL_535 (rw_iload (pc' := 537) (z := i) rfl rfl ?_)
  refine wl_of hX hb cL_537 (rw_iconst (pc' := 538) rfl ?_)
  refine wl_of hX hb cL_538 (rw_iadd (pc' := 539) rfl ?_)
  have k648 : H638 0 ((i + 1).toNat) = H 0 ((i + 1).toNat) := (f643 0 ((i + 1).toNat) _ g0 (wmem_s rfl))
  refine wl_of hX hb cL_539 (xa_I (so := 0) (pc' := 540) (a := 0) w642 g0 (wsh_s _) (by omega) (wty_s _ _) (by omega) (by omega) rfl (fun b646 b647 => ?_))
  refine wl_of hX hb cL_540 (rw_aload_n (pc' := 541) (v := .ref 0) rfl rfl rfl ?_)
  refine wl_of hX hb cL_541 (rw_iload (pc' := 543) (z := i) rfl rfl ?_)
  refine wl_of hX hb cL_543 (rw_iconst (pc' := 544) rfl ?_)
  refine wl_of hX hb cL_544 (rw_iadd (pc' := 545) rfl ?_)
  have k651 : H638 0 ((i + 2).toNat) = H 0 ((i + 2).toNat) := (f643 0 ((i + 2).toNat) _ g0 (wmem_s rfl))
  refine wl_of hX hb cL_545 (xa_I (so := 0) (pc' := 546) (a := 0) w642 g0 (wsh_s _) (by omega) (wty_s _ _) (by omega) (by omega) rfl (fun b649 b650 => ?_))
  have k652 : wKI H638 m = wKI H m := (wKI_fr hW gm f643 rfl)
  have k653 : H638 x 9 = H x 9 := (f643 x 9 _ gx rfl)
  have k654 : H638 m 6 = H m 6 := (f643 m 6 _ gm rfl)
  have k655 : H638 x 11 = H x 11 := (f643 x 11 _ gx rfl)
  have k656 : H638 m 13 = H m 13 := (f643 m 13 _ gm rfl)
  have k657 : H638 x 8 = H x 8 := (f643 x 8 _ gx rfl)
  have k658 : H638 m 3 = H m 3 := (f643 m 3 _ gm rfl)
  refine wl_of hX hb cL_546 (xc_V (pc' := 549) (r := m) (as := [vI (H638 0 ((i + 1).toNat)), vI (H638 0 ((i + 2).toNat))]) (st := []) (lm_11_59) rfl rfl (Nat.le_of_ble_eq_true rfl) w642 gm sh_42 (by decide) rfl (by decide) (s_222 w642 gm ⟨by omega, by omega⟩ ⟨by omega, by omega⟩ (by omega)) (fun R659 T660 H661 p662 => ?_))
  obtain ⟨e663, w665, f666, z668, e664, b669, p667⟩ := p662
  subst e663
  subst e664
  show WL _ _ _ _ 549 [(4, vI i), (3, .ref o), (2, .ref m), (1, .ref x), (0, .ref 0)] [vI z668] _ H661
  refine wl_of hX hb cL_549 (rw_pop (pc' := 550) rfl rfl ?_)
  refine wl_of hX hb cL_550 (rw_goto (p1 := 1653) (by decide) ?_)
  have k670 : H661 x 9 = H638 x 9 := (f666 x 9 _ gx rfl)
  have k671 : H661 m 6 = H638 m 6 := (f666 m 6 _ gm rfl)
  have k672 : H661 x 11 = H638 x 11 := (f666 x 11 _ gx rfl)
  have k673 : H661 m 13 = H638 m 13 := (f666 m 13 _ gm rfl)
  have k674 : H661 x 8 = H638 x 8 := (f666 x 8 _ gx rfl)
  have k675 : H661 m 3 = H638 m 3 := (f666 m 3 _ gm rfl)
  have h676 : XI T H661 x m := (XI_fr w642 gx f666 rfl (XI_fr hW gx f643 rfl hXI))
  exact WL.loc hX (by simp) (next T H661 ⟨⟨w665, g0, gx, gm, go, by omega, by omega⟩, h676, by omega, by omega⟩ (by omega) (by omega))
set_option maxHeartbeats 4000000 in
theorem wl_c9 {kt : Nat → Option mc_E} {CB SB : Nat} {X : mc_S → Prop} {T : wq_T} {H : wq_H} {Len x m o : Nat} {i : Int} (hX : wlX kt CB SB X) (hb : T.2.1 ≤ CB ∧ T.2.2.1 ≤ SB) (hI : wlJ Len x m o T H) (hL : Len ≤ 3072) (hi : 0 ≤ i ∧ i + 6 ≤ Len) (hb2 : T.2.1 + 20 ≤ CB ∧ T.2.2.1 + 500 ≤ SB)  (next : ∀ T' H', wlJ Len x m o T' H' → T'.2.1 ≤ T.2.1 + 20 → T'.2.2.1 ≤ T.2.2.1 + 500 → WL kt CB SB X 1653 (wlL i x m o) [] T' H') : WL kt CB SB X 553 (wlL i x m o) [] T H := by
  obtain ⟨⟨hW, g0, gx, gm, go, hK, hr⟩, hXI, hY1, hY2⟩ := hI
  refine wl_of hX hb cL_553 (rw_aload_n (pc' := 554) (v := .ref x) rfl rfl rfl ?_)
  refine wl_of hX hb cL_554 (rw_aload_n (pc' := 555) (v := .ref 0) rfl rfl rfl ?_)
  refine wl_of hX hb cL_555 (rw_iload (pc' := 557) (z := i) rfl rfl ?_)
  refine wl_of hX hb cL_557 (rw_iconst (pc' := 558) rfl ?_)
  refine wl_of hX hb cL_558 (rw_iadd (pc' := 559) rfl ?_)
  refine wl_of hX hb cL_559 (xa_I (so := 0) (pc' := 560) (a := 0) hW g0 (wsh_s _) (by omega) (wty_s _ _) (by omega) (by omega) rfl (fun b677 b678 => ?_))
  refine wl_of hX hb cL_560 (xc_V (pc' := 563) (r := x) (as := [vI (H 0 ((i + 1).toNat))]) (st := []) (lm_11_60) rfl rfl (Nat.le_of_ble_eq_true rfl) hW gx sh_1 (by decide) rfl (by decide) (s_65 hW gx ⟨by omega, by omega⟩) (fun R679 T680 H681 p682 => ?_))
  obtain ⟨e683, w685, f686, z687, e684, b688⟩ := p682
  subst e683
  subst e684
  show WL _ _ _ _ 563 [(4, vI i), (3, .ref o), (2, .ref m), (1, .ref x), (0, .ref 0)] [vI z687] _ H681
  refine wl_of hX hb cL_563 (rw_pop (pc' := 564) rfl rfl ?_)
  refine wl_of hX hb cL_564 (rw_aload_n (pc' := 565) (v := .ref m) rfl rfl rfl ?_)
  refine wl_of hX hb cL_565 (rw_aload_n (pc' := 566) (v := .ref 0) rfl rfl rfl ?_)
  refine wl_of hX hb cL_566 (rw_iload (pc' := 568) (z := i) rfl rfl ?_)
  refine wl_of hX hb cL_568 (rw_iconst (pc' := 569) rfl ?_)
  refine wl_of hX hb cL_569 (rw_iadd (pc' := 570) rfl ?_)
  have k691 : H681 0 ((i + 1).toNat) = H 0 ((i + 1).toNat) := (f686 0 ((i + 1).toNat) _ g0 (wmem_s rfl))
  refine wl_of hX hb cL_570 (xa_I (so := 0) (pc' := 571) (a := 0) w685 g0 (wsh_s _) (by omega) (wty_s _ _) (by omega) (by omega) rfl (fun b689 b690 => ?_))
  have k692 : wKI H681 m = wKI H m := (wKI_fr hW gm f686 rfl)
  have k693 : H681 x 9 = H x 9 := (f686 x 9 _ gx rfl)
  have k694 : H681 m 6 = H m 6 := (f686 m 6 _ gm rfl)
  have k695 : H681 x 11 = H x 11 := (f686 x 11 _ gx rfl)
  have k696 : H681 m 13 = H m 13 := (f686 m 13 _ gm rfl)
  have k697 : H681 x 8 = H x 8 := (f686 x 8 _ gx rfl)
  have k698 : H681 m 3 = H m 3 := (f686 m 3 _ gm rfl)
  refine wl_of hX hb cL_571 (xc_V (pc' := 574) (r := m) (as := [vI (H681 0 ((i + 1).toNat))]) (st := []) (lm_11_63) rfl rfl (Nat.le_of_ble_eq_true rfl) w685 gm sh_42 (by decide) rfl (by decide) (s_225 w685 gm ⟨by omega, by omega⟩ (by omega)) (fun R699 T700 H701 p702 => ?_))
  obtain ⟨e703, w705, f706, z708, e704, b709, p707⟩ := p702
  subst e703
  subst e704
  show WL _ _ _ _ 574 [(4, vI i), (3, .ref o), (2, .ref m), (1, .ref x), (0, .ref 0)] [vI z708] _ H701
  refine wl_of hX hb cL_574 (rw_pop (pc' := 575) rfl rfl ?_)
  refine wl_of hX hb cL_575 (rw_goto (p1 := 1653) (by decide) ?_)
  have k710 : H701 x 9 = H681 x 9 := (f706 x 9 _ gx rfl)
  have k711 : H701 m 6 = H681 m 6 := (f706 m 6 _ gm rfl)
  have k712 : H701 x 11 = H681 x 11 := (f706 x 11 _ gx rfl)
  have k713 : H701 m 13 = H681 m 13 := (f706 m 13 _ gm rfl)
  have k714 : H701 x 8 = H681 x 8 := (f706 x 8 _ gx rfl)
  have k715 : H701 m 3 = H681 m 3 := (f706 m 3 _ gm rfl)
  have h716 : XI T H701 x m := (XI_fr w685 gx f706 rfl (XI_fr hW gx f686 rfl hXI))
  exact WL.loc hX (by simp) (next T H701 ⟨⟨w705, g0, gx, gm, go, by omega, by omega⟩, h716, by omega, by omega⟩ (by omega) (by omega))
set_option maxHeartbeats 4000000 in
theorem wl_c10 {kt : Nat → Option mc_E} {CB SB : Nat} {X : mc_S → Prop} {T : wq_T} {H : wq_H} {Len x m o : Nat} {i : Int} (hX : wlX kt CB SB X) (hb : T.2.1 ≤ CB ∧ T.2.2.1 ≤ SB) (hI : wlJ Len x m o T H) (hL : Len ≤ 3072) (hi : 0 ≤ i ∧ i + 6 ≤ Len) (hb2 : T.2.1 + 20 ≤ CB ∧ T.2.2.1 + 500 ≤ SB)  (next : ∀ T' H', wlJ Len x m o T' H' → T'.2.1 ≤ T.2.1 + 20 → T'.2.2.1 ≤ T.2.2.1 + 500 → WL kt CB SB X 1653 (wlL i x m o) [] T' H') : WL kt CB SB X 578 (wlL i x m o) [] T H := by
  obtain ⟨⟨hW, g0, gx, gm, go, hK, hr⟩, hXI, hY1, hY2⟩ := hI
  refine wl_of hX hb cL_578 (rw_aload_n (pc' := 579) (v := .ref x) rfl rfl rfl ?_)
  refine wl_of hX hb cL_579 (rw_aload_n (pc' := 580) (v := .ref 0) rfl rfl rfl ?_)
  refine wl_of hX hb cL_580 (rw_iload (pc' := 582) (z := i) rfl rfl ?_)
  refine wl_of hX hb cL_582 (rw_iconst (pc' := 583) rfl ?_)
  refine wl_of hX hb cL_583 (rw_iadd (pc' := 584) rfl ?_)
  refine wl_of hX hb cL_584 (xa_I (so := 0) (pc' := 585) (a := 0) hW g0 (wsh_s _) (by omega) (wty_s _ _) (by omega) (by omega) rfl (fun b717 b718 => ?_))
  refine wl_of hX hb cL_585 (xc_V (pc' := 588) (r := x) (as := [vI (H 0 ((i + 1).toNat))]) (st := []) (lm_11_64) rfl rfl (Nat.le_of_ble_eq_true rfl) hW gx sh_1 (by decide) rfl (by decide) (s_66 hW gx ⟨by omega, by omega⟩) (fun R719 T720 H721 p722 => ?_))
  obtain ⟨e723, w725, f726, z727, e724, b728⟩ := p722
  subst e723
  subst e724
  show WL _ _ _ _ 588 [(4, vI i), (3, .ref o), (2, .ref m), (1, .ref x), (0, .ref 0)] [vI z727] _ H721
  refine wl_of hX hb cL_588 (rw_pop (pc' := 589) rfl rfl ?_)
  refine wl_of hX hb cL_589 (rw_aload_n (pc' := 590) (v := .ref m) rfl rfl rfl ?_)
  refine wl_of hX hb cL_590 (rw_aload_n (pc' := 591) (v := .ref 0) rfl rfl rfl ?_)
  refine wl_of hX hb cL_591 (rw_iload (pc' := 593) (z := i) rfl rfl ?_)
  refine wl_of hX hb cL_593 (rw_iconst (pc' := 594) rfl ?_)
  refine wl_of hX hb cL_594 (rw_iadd (pc' := 595) rfl ?_)
  have k731 : H721 0 ((i + 1).toNat) = H 0 ((i + 1).toNat) := (f726 0 ((i + 1).toNat) _ g0 (wmem_s rfl))
  refine wl_of hX hb cL_595 (xa_I (so := 0) (pc' := 596) (a := 0) w725 g0 (wsh_s _) (by omega) (wty_s _ _) (by omega) (by omega) rfl (fun b729 b730 => ?_))
  have k732 : wKI H721 m = wKI H m := (wKI_fr hW gm f726 rfl)
  have k733 : H721 x 9 = H x 9 := (f726 x 9 _ gx rfl)
  have k734 : H721 m 6 = H m 6 := (f726 m 6 _ gm rfl)
  have k735 : H721 x 11 = H x 11 := (f726 x 11 _ gx rfl)
  have k736 : H721 m 13 = H m 13 := (f726 m 13 _ gm rfl)
  have k737 : H721 x 8 = H x 8 := (f726 x 8 _ gx rfl)
  have k738 : H721 m 3 = H m 3 := (f726 m 3 _ gm rfl)
  refine wl_of hX hb cL_596 (xc_V (pc' := 599) (r := m) (as := [vI (H721 0 ((i + 1).toNat))]) (st := []) (lm_11_67) rfl rfl (Nat.le_of_ble_eq_true rfl) w725 gm sh_42 (by decide) rfl (by decide) (s_226 w725 gm ⟨by omega, by omega⟩ (by omega)) (fun R739 T740 H741 p742 => ?_))
  obtain ⟨e743, w745, f746, z748, e744, b749, p747⟩ := p742
  subst e743
  subst e744
  show WL _ _ _ _ 599 [(4, vI i), (3, .ref o), (2, .ref m), (1, .ref x), (0, .ref 0)] [vI z748] _ H741
  refine wl_of hX hb cL_599 (rw_pop (pc' := 600) rfl rfl ?_)
  refine wl_of hX hb cL_600 (rw_goto (p1 := 1653) (by decide) ?_)
  have k750 : H741 x 9 = H721 x 9 := (f746 x 9 _ gx rfl)
  have k751 : H741 m 6 = H721 m 6 := (f746 m 6 _ gm rfl)
  have k752 : H741 x 11 = H721 x 11 := (f746 x 11 _ gx rfl)
  have k753 : H741 m 13 = H721 m 13 := (f746 m 13 _ gm rfl)
  have k754 : H741 x 8 = H721 x 8 := (f746 x 8 _ gx rfl)
  have k755 : H741 m 3 = H721 m 3 := (f746 m 3 _ gm rfl)
  have h756 : XI T H741 x m := (XI_fr w725 gx f746 rfl (XI_fr hW gx f726 rfl hXI))
  exact WL.loc hX (by simp) (next T H741 ⟨⟨w745, g0, gx, gm, go, by omega, by omega⟩, h756, by omega, by omega⟩ (by omega) (by omega))
set_option maxHeartbeats 4000000 in
theorem wl_c11 {kt : Nat → Option mc_E} {CB SB : Nat} {X : mc_S → Prop} {T : wq_T} {H : wq_H} {Len x m o : Nat} {i : Int} (hX : wlX kt CB SB X) (hb : T.2.1 ≤ CB ∧ T.2.2.1 ≤ SB) (hI : wlJ Len x m o T H) (hL : Len ≤ 3072) (hi : 0 ≤ i ∧ i + 6 ≤ Len) (hb2 : T.2.1 + 20 ≤ CB ∧ T.2.2.1 + 500 ≤ SB)  (next : ∀ T' H', wlJ Len x m o T' H' → T'.2.1 ≤ T.2.1 + 20 → T'.2.2.1 ≤ T.2.2.1 + 500 → WL kt CB SB X 1653 (wlL i x m o) [] T' H') : WL kt CB SB X 603 (wlL i x m o) [] T H := by
  obtain ⟨⟨hW, g0, gx, gm, go, hK, hr⟩, hXI, hY1, hY2⟩ := hI
  refine wl_of hX hb cL_603 (rw_aload_n (pc' := 604) (v := .ref x) rfl rfl rfl ?_)
  refine wl_of hX hb cL_604 (xc_V (pc' := 607) (r := x) (as := []) (st := []) (lm_11_68) rfl rfl (Nat.le_of_ble_eq_true rfl) hW gx sh_1 (by decide) rfl (by decide) (s_73 hW gx) (fun R757 T758 H759 p760 => ?_))
  obtain ⟨e761, w763, f764, z765, e762, b766⟩ := p760
  subst e761
  subst e762
  show WL _ _ _ _ 607 [(4, vI i), (3, .ref o), (2, .ref m), (1, .ref x), (0, .ref 0)] [vI z765] _ H759
  refine wl_of hX hb cL_607 (rw_pop (pc' := 608) rfl rfl ?_)
  refine wl_of hX hb cL_608 (rw_aload_n (pc' := 609) (v := .ref m) rfl rfl rfl ?_)
  have k767 : wKI H759 m = wKI H m := (wKI_fr hW gm f764 rfl)
  have k768 : H759 x 9 = H x 9 := (f764 x 9 _ gx rfl)
  have k769 : H759 m 6 = H m 6 := (f764 m 6 _ gm rfl)
  have k770 : H759 x 11 = H x 11 := (f764 x 11 _ gx rfl)
  have k771 : H759 m 13 = H m 13 := (f764 m 13 _ gm rfl)
  have k772 : H759 x 8 = H x 8 := (f764 x 8 _ gx rfl)
  have k773 : H759 m 3 = H m 3 := (f764 m 3 _ gm rfl)
  refine wl_of hX hb cL_609 (xc_V (pc' := 612) (r := m) (as := []) (st := []) (lm_11_71) rfl rfl (Nat.le_of_ble_eq_true rfl) w763 gm sh_42 (by decide) rfl (by decide) (s_230 w763 gm (by omega)) (fun R774 T775 H776 p777 => ?_))
  obtain ⟨e778, w780, f781, z783, e779, b784, p782⟩ := p777
  subst e778
  subst e779
  show WL _ _ _ _ 612 [(4, vI i), (3, .ref o), (2, .ref m), (1, .ref x), (0, .ref 0)] [vI z783] _ H776
  refine wl_of hX hb cL_612 (rw_pop (pc' := 613) rfl rfl ?_)
  refine wl_of hX hb cL_613 (rw_goto (p1 := 1653) (by decide) ?_)
  have k785 : H776 x 9 = H759 x 9 := (f781 x 9 _ gx rfl)
  have k786 : H776 m 6 = H759 m 6 := (f781 m 6 _ gm rfl)
  have k787 : H776 x 11 = H759 x 11 := (f781 x 11 _ gx rfl)
  have k788 : H776 m 13 = H759 m 13 := (f781 m 13 _ gm rfl)
  have k789 : H776 x 8 = H759 x 8 := (f781 x 8 _ gx rfl)
  have k790 : H776 m 3 = H759 m 3 := (f781 m 3 _ gm rfl)
  have h791 : XI T H776 x m := (XI_fr w763 gx f781 rfl (XI_fr hW gx f764 rfl hXI))
  exact WL.loc hX (by simp) (next T H776 ⟨⟨w780, g0, gx, gm, go, by omega, by omega⟩, h791, by omega, by omega⟩ (by omega) (by omega))
set_option maxHeartbeats 4000000 in
theorem wl_c12 {kt : Nat → Option mc_E} {CB SB : Nat} {X : mc_S → Prop} {T : wq_T} {H : wq_H} {Len x m o : Nat} {i : Int} (hX : wlX kt CB SB X) (hb : T.2.1 ≤ CB ∧ T.2.2.1 ≤ SB) (hI : wlJ Len x m o T H) (hL : Len ≤ 3072) (hi : 0 ≤ i ∧ i + 6 ≤ Len) (hb2 : T.2.1 + 20 ≤ CB ∧ T.2.2.1 + 500 ≤ SB)  (next : ∀ T' H', wlJ Len x m o T' H' → T'.2.1 ≤ T.2.1 + 20 → T'.2.2.1 ≤ T.2.2.1 + 500 → WL kt CB SB X 1653 (wlL i x m o) [] T' H') : WL kt CB SB X 616 (wlL i x m o) [] T H := by
  obtain ⟨⟨hW, g0, gx, gm, go, hK, hr⟩, hXI, hY1, hY2⟩ := hI
  refine wl_of hX hb cL_616 (rw_aload_n (pc' := 617) (v := .ref x) rfl rfl rfl ?_)
  refine wl_of hX hb cL_617 (xc_V (pc' := 620) (r := x) (as := []) (st := []) (lm_11_72) rfl rfl (Nat.le_of_ble_eq_true rfl) hW gx sh_1 (by decide) rfl (by decide) (s_77 hW gx) (fun R792 T793 H794 p795 => ?_))
  obtain ⟨e796, w798, f799, z800, e797, b801⟩ := p795
  subst e796
  subst e797
  show WL _ _ _ _ 620 [(4, vI i), (3, .ref o), (2, .ref m), (1, .ref x), (0, .ref 0)] [vI z800] _ H794
  refine wl_of hX hb cL_620 (rw_pop (pc' := 621) rfl rfl ?_)
  refine wl_of hX hb cL_621 (rw_aload_n (pc' := 622) (v := .ref m) rfl rfl rfl ?_)
  have k802 : wKI H794 m = wKI H m := (wKI_fr hW gm f799 rfl)
  have k803 : H794 x 9 = H x 9 := (f799 x 9 _ gx rfl)
  have k804 : H794 m 6 = H m 6 := (f799 m 6 _ gm rfl)
  have k805 : H794 x 11 = H x 11 := (f799 x 11 _ gx rfl)
  have k806 : H794 m 13 = H m 13 := (f799 m 13 _ gm rfl)
  have k807 : H794 x 8 = H x 8 := (f799 x 8 _ gx rfl)
  have k808 : H794 m 3 = H m 3 := (f799 m 3 _ gm rfl)
  refine wl_of hX hb cL_622 (xc_V (pc' := 625) (r := m) (as := []) (st := []) (lm_11_75) rfl rfl (Nat.le_of_ble_eq_true rfl) w798 gm sh_42 (by decide) rfl (by decide) (s_236 w798 gm (by omega)) (fun R809 T810 H811 p812 => ?_))
  obtain ⟨e813, w815, f816, z818, e814, b819, p817⟩ := p812
  subst e813
  subst e814
  show WL _ _ _ _ 625 [(4, vI i), (3, .ref o), (2, .ref m), (1, .ref x), (0, .ref 0)] [vI z818] _ H811
  refine wl_of hX hb cL_625 (rw_pop (pc' := 626) rfl rfl ?_)
  refine wl_of hX hb cL_626 (rw_goto (p1 := 1653) (by decide) ?_)
  have k820 : H811 x 9 = H794 x 9 := (f816 x 9 _ gx rfl)
  have k821 : H811 m 6 = H794 m 6 := (f816 m 6 _ gm rfl)
  have k822 : H811 x 11 = H794 x 11 := (f816 x 11 _ gx rfl)
  have k823 : H811 m 13 = H794 m 13 := (f816 m 13 _ gm rfl)
  have k824 : H811 x 8 = H794 x 8 := (f816 x 8 _ gx rfl)
  have k825 : H811 m 3 = H794 m 3 := (f816 m 3 _ gm rfl)
  have h826 : XI T H811 x m := (XI_fr w798 gx f816 rfl (XI_fr hW gx f799 rfl hXI))
  exact WL.loc hX (by simp) (next T H811 ⟨⟨w815, g0, gx, gm, go, by omega, by omega⟩, h826, by omega, by omega⟩ (by omega) (by omega))
set_option maxHeartbeats 4000000 in
theorem wl_c13 {kt : Nat → Option mc_E} {CB SB : Nat} {X : mc_S → Prop} {T : wq_T} {H : wq_H} {Len x m o : Nat} {i : Int} (hX : wlX kt CB SB X) (hb : T.2.1 ≤ CB ∧ T.2.2.1 ≤ SB) (hI : wlJ Len x m o T H) (hL : Len ≤ 3072) (hi : 0 ≤ i ∧ i + 6 ≤ Len) (hb2 : T.2.1 + 20 ≤ CB ∧ T.2.2.1 + 500 ≤ SB)  (next : ∀ T' H', wlJ Len x m o T' H' → T'.2.1 ≤ T.2.1 + 20 → T'.2.2.1 ≤ T.2.2.1 + 500 → WL kt CB SB X 1653 (wlL i x m o) [] T' H') : WL kt CB SB X 629 (wlL i x m o) [] T H := by
  obtain ⟨⟨hW, g0, gx, gm, go, hK, hr⟩, hXI, hY1, hY2⟩ := hI
  refine wl_of hX hb cL_629 (rw_aload_n (pc' := 630) (v := .ref x) rfl rfl rfl ?_)
  refine wl_of hX hb cL_630 (xc_V (pc' := 633) (r := x) (as := []) (st := []) (lm_11_76) rfl rfl (Nat.le_of_ble_eq_true rfl) hW gx sh_1 (by decide) rfl (by decide) (s_78 hW gx) (fun R827 T828 H829 p830 => ?_))
  obtain ⟨e831, w833, f834, z835, e832, b836⟩ := p830
  subst e831
  subst e832
  show WL _ _ _ _ 633 [(4, vI i), (3, .ref o), (2, .ref m), (1, .ref x), (0, .ref 0)] [vI z835] _ H829
  refine wl_of hX hb cL_633 (rw_pop (pc' := 634) rfl rfl ?_)
  refine wl_of hX hb cL_634 (rw_aload_n (pc' := 635) (v := .ref m) rfl rfl rfl ?_)
  have k837 : wKI H829 m = wKI H m := (wKI_fr hW gm f834 rfl)
  have k838 : H829 x 9 = H x 9 := (f834 x 9 _ gx rfl)
  have k839 : H829 m 6 = H m 6 := (f834 m 6 _ gm rfl)
  have k840 : H829 x 11 = H x 11 := (f834 x 11 _ gx rfl)
  have k841 : H829 m 13 = H m 13 := (f834 m 13 _ gm rfl)
  have k842 : H829 x 8 = H x 8 := (f834 x 8 _ gx rfl)
  have k843 : H829 m 3 = H m 3 := (f834 m 3 _ gm rfl)
  refine wl_of hX hb cL_635 (xc_V (pc' := 638) (r := m) (as := []) (st := []) (lm_11_79) rfl rfl (Nat.le_of_ble_eq_true rfl) w833 gm sh_42 (by decide) rfl (by decide) (s_237 w833 gm (by omega)) (fun R844 T845 H846 p847 => ?_))
  obtain ⟨e848, w850, f851, z853, e849, b854, p852⟩ := p847
  subst e848
  subst e849
  show WL _ _ _ _ 638 [(4, vI i), (3, .ref o), (2, .ref m), (1, .ref x), (0, .ref 0)] [vI z853] _ H846
  refine wl_of hX hb cL_638 (rw_pop (pc' := 639) rfl rfl ?_)
  refine wl_of hX hb cL_639 (rw_goto (p1 := 1653) (by decide) ?_)
  have k855 : H846 x 9 = H829 x 9 := (f851 x 9 _ gx rfl)
  have k856 : H846 m 6 = H829 m 6 := (f851 m 6 _ gm rfl)
  have k857 : H846 x 11 = H829 x 11 := (f851 x 11 _ gx rfl)
  have k858 : H846 m 13 = H829 m 13 := (f851 m 13 _ gm rfl)
  have k859 : H846 x 8 = H829 x 8 := (f851 x 8 _ gx rfl)
  have k860 : H846 m 3 = H829 m 3 := (f851 m 3 _ gm rfl)
  have h861 : XI T H846 x m := (XI_fr w833 gx f851 rfl (XI_fr hW gx f834 rfl hXI))
  exact WL.loc hX (by simp) (next T H846 ⟨⟨w850, g0, gx, gm, go, by omega, by omega⟩, h861, by omega, by omega⟩ (by omega) (by omega))
set_option maxHeartbeats 4000000 in
theorem wl_c14 {kt : Nat → Option mc_E} {CB SB : Nat} {X : mc_S → Prop} {T : wq_T} {H : wq_H} {Len x m o : Nat} {i : Int} (hX : wlX kt CB SB X) (hb : T.2.1 ≤ CB ∧ T.2.2.1 ≤ SB) (hI : wlJ Len x m o T H) (hL : Len ≤ 3072) (hi : 0 ≤ i ∧ i + 6 ≤ Len) (hb2 : T.2.1 + 20 ≤ CB ∧ T.2.2.1 + 500 ≤ SB)  (next : ∀ T' H', wlJ Len x m o T' H' → T'.2.1 ≤ T.2.1 + 20 → T'.2.2.1 ≤ T.2.2.1 + 500 → WL kt CB SB X 1653 (wlL i x m o) [] T' H') : WL kt CB SB X 642 (wlL i x m o) [] T H := by
  obtain ⟨⟨hW, g0, gx, gm, go, hK, hr⟩, hXI, hY1, hY2⟩ := hI
  refine wl_of hX hb cL_642 (rw_aload_n (pc' := 643) (v := .ref x) rfl rfl rfl ?_)
  refine wl_of hX hb cL_643 (xc_V (pc' := 646) (r := x) (as := []) (st := []) (lm_11_80) rfl rfl (Nat.le_of_ble_eq_true rfl) hW gx sh_1 (by decide) rfl (by decide) (s_82 hW gx) (fun R862 T863 H864 p865 => ?_))
  obtain ⟨e866, w868, f869, z870, e867, b871⟩ := p865
  subst e866
  subst e867
  show WL _ _ _ _ 646 [(4, vI i), (3, .ref o), (2, .ref m), (1, .ref x), (0, .ref 0)] [vI z870] _ H864
  refine wl_of hX hb cL_646 (rw_pop (pc' := 647) rfl rfl ?_)
  refine wl_of hX hb cL_647 (rw_aload_n (pc' := 648) (v := .ref m) rfl rfl rfl ?_)
  have k872 : wKI H864 m = wKI H m := (wKI_fr hW gm f869 rfl)
  have k873 : H864 x 9 = H x 9 := (f869 x 9 _ gx rfl)
  have k874 : H864 m 6 = H m 6 := (f869 m 6 _ gm rfl)
  have k875 : H864 x 11 = H x 11 := (f869 x 11 _ gx rfl)
  have k876 : H864 m 13 = H m 13 := (f869 m 13 _ gm rfl)
  have k877 : H864 x 8 = H x 8 := (f869 x 8 _ gx rfl)
  have k878 : H864 m 3 = H m 3 := (f869 m 3 _ gm rfl)
  refine wl_of hX hb cL_648 (xc_V (pc' := 651) (r := m) (as := []) (st := []) (lm_11_83) rfl rfl (Nat.le_of_ble_eq_true rfl) w868 gm sh_42 (by decide) rfl (by decide) (s_240 w868 gm (by omega)) (fun R879 T880 H881 p882 => ?_))
  obtain ⟨e883, w885, f886, z888, e884, b889, p887⟩ := p882
  subst e883
  subst e884
  show WL _ _ _ _ 651 [(4, vI i), (3, .ref o), (2, .ref m), (1, .ref x), (0, .ref 0)] [vI z888] _ H881
  refine wl_of hX hb cL_651 (rw_pop (pc' := 652) rfl rfl ?_)
  refine wl_of hX hb cL_652 (rw_goto (p1 := 1653) (by decide) ?_)
  have k890 : H881 x 9 = H864 x 9 := (f886 x 9 _ gx rfl)
  have k891 : H881 m 6 = H864 m 6 := (f886 m 6 _ gm rfl)
  have k892 : H881 x 11 = H864 x 11 := (f886 x 11 _ gx rfl)
  have k893 : H881 m 13 = H864 m 13 := (f886 m 13 _ gm rfl)
  have k894 : H881 x 8 = H864 x 8 := (f886 x 8 _ gx rfl)
  have k895 : H881 m 3 = H864 m 3 := (f886 m 3 _ gm rfl)
  have h896 : XI T H881 x m := (XI_fr w868 gx f886 rfl (XI_fr hW gx f869 rfl hXI))
  exact WL.loc hX (by simp) (next T H881 ⟨⟨w885, g0, gx, gm, go, by omega, by omega⟩, h896, by omega, by omega⟩ (by omega) (by omega))
set_option maxHeartbeats 4000000 in
theorem wl_c15 {kt : Nat → Option mc_E} {CB SB : Nat} {X : mc_S → Prop} {T : wq_T} {H : wq_H} {Len x m o : Nat} {i : Int} (hX : wlX kt CB SB X) (hb : T.2.1 ≤ CB ∧ T.2.2.1 ≤ SB) (hI : wlJ Len x m o T H) (hL : Len ≤ 3072) (hi : 0 ≤ i ∧ i + 6 ≤ Len) (hb2 : T.2.1 + 20 ≤ CB ∧ T.2.2.1 + 500 ≤ SB)  (next : ∀ T' H', wlJ Len x m o T' H' → T'.2.1 ≤ T.2.1 + 20 → T'.2.2.1 ≤ T.2.2.1 + 500 → WL kt CB SB X 1653 (wlL i x m o) [] T' H') : WL kt CB SB X 655 (wlL i x m o) [] T H := by
  obtain ⟨⟨hW, g0, gx, gm, go, hK, hr⟩, hXI, hY1, hY2⟩ := hI
  refine wl_of hX hb cL_655 (rw_aload_n (pc' := 656) (v := .ref x) rfl rfl rfl ?_)
  refine wl_of hX hb cL_656 (xc_V (pc' := 659) (r := x) (as := []) (st := []) (lm_11_84) rfl rfl (Nat.le_of_ble_eq_true rfl) hW gx sh_1 (by decide) rfl (by decide) (s_92 hW gx) (fun R897 T898 H899 p900 => ?_))
  obtain ⟨e901, w903, f904, z905, e902, b906⟩ := p900
  subst e901
  subst e902
  show WL _ _ _ _ 659 [(4, vI i), (3, .ref o), (2, .ref m), (1, .ref x), (0, .ref 0)] [vI z905] _ H899
  refine wl_of hX hb cL_659 (rw_pop (pc' := 660) rfl rfl ?_)
  refine wl_of hX hb cL_660 (rw_aload_n (pc' := 661) (v := .ref m) rfl rfl rfl ?_)
  have k907 : wKI H899 m = wKI H m := (wKI_fr hW gm f904 rfl)
  have k908 : H899 x 9 = H x 9 := (f904 x 9 _ gx rfl)
  have k909 : H899 m 6 = H m 6 := (f904 m 6 _ gm rfl)
  have k910 : H899 x 11 = H x 11 := (f904 x 11 _ gx rfl)
  have k911 : H899 m 13 = H m 13 := (f904 m 13 _ gm rfl)
  have k912 : H899 x 8 = H x 8 := (f904 x 8 _ gx rfl)
  have k913 : H899 m 3 = H m 3 := (f904 m 3 _ gm rfl)
  refine wl_of hX hb cL_661 (xc_V (pc' := 664) (r := m) (as := []) (st := []) (lm_11_87) rfl rfl (Nat.le_of_ble_eq_true rfl) w903 gm sh_42 (by decide) rfl (by decide) (s_244 w903 gm (by omega)) (fun R914 T915 H916 p917 => ?_))
  obtain ⟨e918, w920, f921, z923, e919, b924, p922⟩ := p917
  subst e918
  subst e919
  show WL _ _ _ _ 664 [(4, vI i), (3, .ref o), (2, .ref m), (1, .ref x), (0, .ref 0)] [vI z923] _ H916
  refine wl_of hX hb cL_664 (rw_pop (pc' := 665) rfl rfl ?_)
  refine wl_of hX hb cL_665 (rw_goto (p1 := 1653) (by decide) ?_)
  have k925 : H916 x 9 = H899 x 9 := (f921 x 9 _ gx rfl)
  have k926 : H916 m 6 = H899 m 6 := (f921 m 6 _ gm rfl)
  have k927 : H916 x 11 = H899 x 11 := (f921 x 11 _ gx rfl)
  have k928 : H916 m 13 = H899 m 13 := (f921 m 13 _ gm rfl)
  have k929 : H916 x 8 = H899 x 8 := (f921 x 8 _ gx rfl)
  have k930 : H916 m 3 = H899 m 3 := (f921 m 3 _ gm rfl)
  have h931 : XI T H916 x m := (XI_fr w903 gx f921 rfl (XI_fr hW gx f904 rfl hXI))
  exact WL.loc hX (by simp) (next T H916 ⟨⟨w920, g0, gx, gm, go, by omega, by omega⟩, h931, by omega, by omega⟩ (by omega) (by omega))
set_option maxHeartbeats 4000000 in
theorem wl_c16 {kt : Nat → Option mc_E} {CB SB : Nat} {X : mc_S → Prop} {T : wq_T} {H : wq_H} {Len x m o : Nat} {i : Int} (hX : wlX kt CB SB X) (hb : T.2.1 ≤ CB ∧ T.2.2.1 ≤ SB) (hI : wlJ Len x m o T H) (hL : Len ≤ 3072) (hi : 0 ≤ i ∧ i + 6 ≤ Len) (hb2 : T.2.1 + 20 ≤ CB ∧ T.2.2.1 + 500 ≤ SB)  (next : ∀ T' H', wlJ Len x m o T' H' → T'.2.1 ≤ T.2.1 + 20 → T'.2.2.1 ≤ T.2.2.1 + 500 → WL kt CB SB X 1653 (wlL i x m o) [] T' H') : WL kt CB SB X 668 (wlL i x m o) [] T H := by
  obtain ⟨⟨hW, g0, gx, gm, go, hK, hr⟩, hXI, hY1, hY2⟩ := hI
  refine wl_of hX hb cL_668 (rw_aload_n (pc' := 669) (v := .ref x) rfl rfl rfl ?_)
  refine wl_of hX hb cL_669 (rw_aload_n (pc' := 670) (v := .ref 0) rfl rfl rfl ?_)
  refine wl_of hX hb cL_670 (rw_iload (pc' := 672) (z := i) rfl rfl ?_)
  refine wl_of hX hb cL_672 (rw_iconst (pc' := 673) rfl ?_)
  refine wl_of hX hb cL_673 (rw_iadd (pc' := 674) rfl ?_)
  refine wl_of hX hb cL_674 (xa_I (so := 0) (pc' := 675) (a := 0) hW g0 (wsh_s _) (by omega) (wty_s _ _) (by omega) (by omega) rfl (fun b932 b933 => ?_))
  refine wl_of hX hb cL_675 (rw_aload_n (pc' := 676) (v := .ref 0) rfl rfl rfl ?_)
  refine wl_of hX hb cL_676 (rw_iload (pc' := 678) (z := i) rfl rfl ?_)
  refine wl_of hX hb cL_678 (rw_iconst (pc' := 679) rfl ?_)
  refine wl_of hX hb cL_679 (rw_iadd (pc' := 680) rfl ?_)
  refine wl_of hX hb cL_680 (xa_I (so := 0) (pc' := 681) (a := 0) hW g0 (wsh_s _) (by omega) (wty_s _ _) (by omega) (by omega) rfl (fun b934 b935 => ?_))
  refine wl_of hX hb cL_681 (xc_V (pc' := 684) (r := x) (as := [vI (H 0 ((i + 1).toNat)), vI (H 0 ((i + 2).toNat))]) (st := []) (lm_11_88) rfl rfl (Nat.le_of_ble_eq_true rfl) hW gx sh_1 (by decide) rfl (by decide) (s_93 hW gx ⟨by omega, by omega⟩ ⟨by omega, by omega⟩) (fun R936 T937 H938 p939 => ?_))
  obtain ⟨e940, w942, f943, z944, e941, b945⟩ := p939
  subst e940
  subst e941
  show WL _ _ _ _ 684 [(4, vI i), (3, .ref o), (2, .ref m), (1, .ref x), (0, .ref 0)] [vI z944] _ H938
  refine wl_of hX hb cL_684 (rw_pop (pc' := 685) rfl rfl ?_)
  refine wl_of hX hb cL_685 (rw_aload_n (pc' := 686) (v := .ref m) rfl rfl rfl ?_)
  refine wl_of hX hb cL_686 (rw_aload_n (pc' := 687) (v := .ref 0) rfl rfl rfl ?_)
  refine wl_of hX hb cL_687 (rw_iload (pc' := 689) (z := i) rfl rfl ?_)
  refine wl_of hX hb cL_689 (rw_iconst (pc' := 690) rfl ?_)
  refine wl_of hX hb cL_690 (rw_iadd (pc' := 691) rfl ?_)
  have k948 : H938 0 ((i + 1).toNat) = H 0 ((i + 1).toNat) := (f943 0 ((i + 1).toNat) _ g0 (wmem_s rfl))
  refine wl_of hX hb cL_691 (xa_I (so := 0) (pc' := 692) (a := 0) w942 g0 (wsh_s _) (by omega) (wty_s _ _) (by omega) (by omega) rfl (fun b946 b947 => ?_))
  refine wl_of hX hb cL_692 (rw_aload_n (pc' := 693) (v := .ref 0) rfl rfl rfl ?_)
  refine wl_of hX hb cL_693 (rw_iload (pc' := 695) (z := i) rfl rfl ?_)
  refine wl_of hX hb cL_695 (rw_iconst (pc' := 696) rfl ?_)
  refine wl_of hX hb cL_696 (rw_iadd (pc' := 697) rfl ?_)
  have k951 : H938 0 ((i + 2).toNat) = H 0 ((i + 2).toNat) := (f943 0 ((i + 2).toNat) _ g0 (wmem_s rfl))
  refine wl_of hX hb cL_697 (xa_I (so := 0) (pc' := 698) (a := 0) w942 g0 (wsh_s _) (by omega) (wty_s _ _) (by omega) (by omega) rfl (fun b949 b950 => ?_))
  have k952 : wKI H938 m = wKI H m := (wKI_fr hW gm f943 rfl)
  have k953 : H938 x 9 = H x 9 := (f943 x 9 _ gx rfl)
  have k954 : H938 m 6 = H m 6 := (f943 m 6 _ gm rfl)
  have k955 : H938 x 11 = H x 11 := (f943 x 11 _ gx rfl)
  have k956 : H938 m 13 = H m 13 := (f943 m 13 _ gm rfl)
  have k957 : H938 x 8 = H x 8 := (f943 x 8 _ gx rfl)
  have k958 : H938 m 3 = H m 3 := (f943 m 3 _ gm rfl)
  refine wl_of hX hb cL_698 (xc_V (pc' := 701) (r := m) (as := [vI (H938 0 ((i + 1).toNat)), vI (H938 0 ((i + 2).toNat))]) (st := []) (lm_11_92) rfl rfl (Nat.le_of_ble_eq_true rfl) w942 gm sh_42 (by decide) rfl (by decide) (s_245 w942 gm ⟨by omega, by omega⟩ ⟨by omega, by omega⟩ (by omega)) (fun R959 T960 H961 p962 => ?_))
  obtain ⟨e963, w965, f966, z968, e964, b969, p967⟩ := p962
  subst e963
  subst e964
  show WL _ _ _ _ 701 [(4, vI i), (3, .ref o), (2, .ref m), (1, .ref x), (0, .ref 0)] [vI z968] _ H961
  refine wl_of hX hb cL_701 (rw_pop (pc' := 702) rfl rfl ?_)
  refine wl_of hX hb cL_702 (rw_goto (p1 := 1653) (by decide) ?_)
  have k970 : H961 x 9 = H938 x 9 := (f966 x 9 _ gx rfl)
  have k971 : H961 m 6 = H938 m 6 := (f966 m 6 _ gm rfl)
  have k972 : H961 x 11 = H938 x 11 := (f966 x 11 _ gx rfl)
  have k973 : H961 m 13 = H938 m 13 := (f966 m 13 _ gm rfl)
  have k974 : H961 x 8 = H938 x 8 := (f966 x 8 _ gx rfl)
  have k975 : H961 m 3 = H938 m 3 := (f966 m 3 _ gm rfl)
  have h976 : XI T H961 x m := (XI_fr w942 gx f966 rfl (XI_fr hW gx f943 rfl hXI))
  exact WL.loc hX (by simp) (next T H961 ⟨⟨w965, g0, gx, gm, go, by omega, by omega⟩, h976, by omega, by omega⟩ (by omega) (by omega))
set_option maxHeartbeats 4000000 in
theorem wl_c17 {kt : Nat → Option mc_E} {CB SB : Nat} {X : mc_S → Prop} {T : wq_T} {H : wq_H} {Len x m o : Nat} {i : Int} (hX : wlX kt CB SB X) (hb : T.2.1 ≤ CB ∧ T.2.2.1 ≤ SB) (hI : wlJ Len x m o T H) (hL : Len ≤ 3072) (hi : 0 ≤ i ∧ i + 6 ≤ Len) (hb2 : T.2.1 + 20 ≤ CB ∧ T.2.2.1 + 500 ≤ SB)  (next : ∀ T' H', wlJ Len x m o T' H' → T'.2.1 ≤ T.2.1 + 20 → T'.2.2.1 ≤ T.2.2.1 + 500 → WL kt CB SB X 1653 (wlL i x m o) [] T' H') : WL kt CB SB X 705 (wlL i x m o) [] T H := by
  obtain ⟨⟨hW, g0, gx, gm, go, hK, hr⟩, hXI, hY1, hY2⟩ := hI
  refine wl_of hX hb cL_705 (rw_aload_n (pc' := 706) (v := .ref x) rfl rfl rfl ?_)
  refine wl_of hX hb cL_706 (xc_V (pc' := 709) (r := x) (as := []) (st := []) (lm_11_93) rfl rfl (Nat.le_of_ble_eq_true rfl) hW gx sh_1 (by decide) rfl (by decide) (s_97 hW gx) (fun R977 T978 H979 p980 => ?_))
  obtain ⟨e981, w983, f984, z985, e982, b986⟩ := p980
  subst e981
  subst e982
  show WL _ _ _ _ 709 [(4, vI i), (3, .ref o), (2, .ref m), (1, .ref x), (0, .ref 0)] [vL z985] _ H979
  refine wl_of hX hb cL_709 (rw_pop2 (pc' := 710) rfl rfl ?_)
  refine wl_of hX hb cL_710 (rw_aload_n (pc' := 711) (v := .ref m) rfl rfl rfl ?_)
  have k987 : wKI H979 m = wKI H m := (wKI_fr hW gm f984 rfl)
  have k988 : H979 x 9 = H x 9 := (f984 x 9 _ gx rfl)
  have k989 : H979 m 6 = H m 6 := (f984 m 6 _ gm rfl)
  have k990 : H979 x 11 = H x 11 := (f984 x 11 _ gx rfl)
  have k991 : H979 m 13 = H m 13 := (f984 m 13 _ gm rfl)
  have k992 : H979 x 8 = H x 8 := (f984 x 8 _ gx rfl)
  have k993 : H979 m 3 = H m 3 := (f984 m 3 _ gm rfl)
  refine wl_of hX hb cL_711 (xc_V (pc' := 714) (r := m) (as := []) (st := []) (lm_11_96) rfl rfl (Nat.le_of_ble_eq_true rfl) w983 gm sh_42 (by decide) rfl (by decide) (s_246 w983 gm (by omega)) (fun R994 T995 H996 p997 => ?_))
  obtain ⟨e998, w1000, f1001, z1003, e999, b1004, p1002⟩ := p997
  subst e998
  subst e999
  show WL _ _ _ _ 714 [(4, vI i), (3, .ref o), (2, .ref m), (1, .ref x), (0, .ref 0)] [vL z1003] _ H996
  refine wl_of hX hb cL_714 (rw_pop2 (pc' := 715) rfl rfl ?_)
  refine wl_of hX hb cL_715 (rw_goto (p1 := 1653) (by decide) ?_)
  have k1005 : H996 x 9 = H979 x 9 := (f1001 x 9 _ gx rfl)
  have k1006 : H996 m 6 = H979 m 6 := (f1001 m 6 _ gm rfl)
  have k1007 : H996 x 11 = H979 x 11 := (f1001 x 11 _ gx rfl)
  have k1008 : H996 m 13 = H979 m 13 := (f1001 m 13 _ gm rfl)
  have k1009 : H996 x 8 = H979 x 8 := (f1001 x 8 _ gx rfl)
  have k1010 : H996 m 3 = H979 m 3 := (f1001 m 3 _ gm rfl)
  have h1011 : XI T H996 x m := (XI_fr w983 gx f1001 rfl (XI_fr hW gx f984 rfl hXI))
  exact WL.loc hX (by simp) (next T H996 ⟨⟨w1000, g0, gx, gm, go, by omega, by omega⟩, h1011, by omega, by omega⟩ (by omega) (by omega))
set_option maxHeartbeats 4000000 in
theorem wl_c18 {kt : Nat → Option mc_E} {CB SB : Nat} {X : mc_S → Prop} {T : wq_T} {H : wq_H} {Len x m o : Nat} {i : Int} (hX : wlX kt CB SB X) (hb : T.2.1 ≤ CB ∧ T.2.2.1 ≤ SB) (hI : wlJ Len x m o T H) (hL : Len ≤ 3072) (hi : 0 ≤ i ∧ i + 6 ≤ Len) (hb2 : T.2.1 + 20 ≤ CB ∧ T.2.2.1 + 500 ≤ SB)  (next : ∀ T' H', wlJ Len x m o T' H' → T'.2.1 ≤ T.2.1 + 20 → T'.2.2.1 ≤ T.2.2.1 + 500 → WL kt CB SB X 1653 (wlL i x m o) [] T' H') : WL kt CB SB X 718 (wlL i x m o) [] T H := by
  obtain ⟨⟨hW, g0, gx, gm, go, hK, hr⟩, hXI, hY1, hY2⟩ := hI
  refine wl_of hX hb cL_718 (rw_aload_n (pc' := 719) (v := .ref x) rfl rfl rfl ?_)
  refine wl_of hX hb cL_719 (rw_aload_n (pc' := 720) (v := .ref 0) rfl rfl rfl ?_)
  refine wl_of hX hb cL_720 (rw_iload (pc' := 722) (z := i) rfl rfl ?_)
  refine wl_of hX hb cL_722 (rw_iconst (pc' := 723) rfl ?_)
  refine wl_of hX hb cL_723 (rw_iadd (pc' := 724) rfl ?_)
  refine wl_of hX hb cL_724 (xa_I (so := 0) (pc' := 725) (a := 0) hW g0 (wsh_s _) (by omega) (wty_s _ _) (by omega) (by omega) rfl (fun b1012 b1013 => ?_))
  refine wl_of hX hb cL_725 (rw_aload_n (pc' := 726) (v := .ref 0) rfl rfl rfl ?_)
  refine wl_of hX hb cL_726 (rw_iload (pc' := 728) (z := i) rfl rfl ?_)
  refine wl_of hX hb cL_728 (rw_iconst (pc' := 729) rfl ?_)
  refine wl_of hX hb cL_729 (rw_iadd (pc' := 730) rfl ?_)
  refine wl_of hX hb cL_730 (xa_I (so := 0) (pc' := 731) (a := 0) hW g0 (wsh_s _) (by omega) (wty_s _ _) (by omega) (by omega) rfl (fun b1014 b1015 => ?_))
  refine wl_of hX hb cL_731 (xc_V (pc' := 734) (r := x) (as := [vI (H 0 ((i + 1).toNat)), vI (H 0 ((i + 2).toNat))]) (st := []) (lm_11_97) rfl rfl (Nat.le_of_ble_eq_true rfl) hW gx sh_1 (by decide) rfl (by decide) (s_98 hW gx ⟨by omega, by omega⟩ ⟨by omega, by omega⟩) (fun R1016 T1017 H1018 p1019 => ?_))
  obtain ⟨e1020, w1022, f1023, z1024, e1021, b1025⟩ := p1019
  subst e1020
  subst e1021
  show WL _ _ _ _ 734 [(4, vI i), (3, .ref o), (2, .ref m), (1, .ref x), (0, .ref 0)] [vI z1024] _ H1018
  refine wl_of hX hb cL_734 (rw_pop (pc' := 735) rfl rfl ?_)
  refine wl_of hX hb cL_735 (rw_aload_n (pc' := 736) (v := .ref m) rfl rfl rfl ?_)
  refine wl_of hX hb cL_736 (rw_aload_n (pc' := 737) (v := .ref 0) rfl rfl rfl ?_)
  refine wl_of hX hb cL_737 (rw_iload (pc' := 739) (z := i) rfl rfl ?_)
  refine wl_of hX hb cL_739 (rw_iconst (pc' := 740) rfl ?_)
  refine wl_of hX hb cL_740 (rw_iadd (pc' := 741) rfl ?_)
  have k1028 : H1018 0 ((i + 1).toNat) = H 0 ((i + 1).toNat) := (f1023 0 ((i + 1).toNat) _ g0 (wmem_s rfl))
  refine wl_of hX hb cL_741 (xa_I (so := 0) (pc' := 742) (a := 0) w1022 g0 (wsh_s _) (by omega) (wty_s _ _) (by omega) (by omega) rfl (fun b1026 b1027 => ?_))
  refine wl_of hX hb cL_742 (rw_aload_n (pc' := 743) (v := .ref 0) rfl rfl rfl ?_)
  refine wl_of hX hb cL_743 (rw_iload (pc' := 745) (z := i) rfl rfl ?_)
  refine wl_of hX hb cL_745 (rw_iconst (pc' := 746) rfl ?_)
  refine wl_of hX hb cL_746 (rw_iadd (pc' := 747) rfl ?_)
  have k1031 : H1018 0 ((i + 2).toNat) = H 0 ((i + 2).toNat) := (f1023 0 ((i + 2).toNat) _ g0 (wmem_s rfl))
  refine wl_of hX hb cL_747 (xa_I (so := 0) (pc' := 748) (a := 0) w1022 g0 (wsh_s _) (by omega) (wty_s _ _) (by omega) (by omega) rfl (fun b1029 b1030 => ?_))
  have k1032 : wKI H1018 m = wKI H m := (wKI_fr hW gm f1023 rfl)
  have k1033 : H1018 x 9 = H x 9 := (f1023 x 9 _ gx rfl)
  have k1034 : H1018 m 6 = H m 6 := (f1023 m 6 _ gm rfl)
  have k1035 : H1018 x 11 = H x 11 := (f1023 x 11 _ gx rfl)
  have k1036 : H1018 m 13 = H m 13 := (f1023 m 13 _ gm rfl)
  have k1037 : H1018 x 8 = H x 8 := (f1023 x 8 _ gx rfl)
  have k1038 : H1018 m 3 = H m 3 := (f1023 m 3 _ gm rfl)
  refine wl_of hX hb cL_748 (xc_V (pc' := 751) (r := m) (as := [vI (H1018 0 ((i + 1).toNat)), vI (H1018 0 ((i + 2).toNat))]) (st := []) (lm_11_100) rfl rfl (Nat.le_of_ble_eq_true rfl) w1022 gm sh_42 (by decide) rfl (by decide) (s_249 w1022 gm ⟨by omega, by omega⟩ ⟨by omega, by omega⟩ (by omega)) (fun R1039 T1040 H1041 p1042 => ?_))
  obtain ⟨e1043, w1045, f1046, z1048, e1044, b1049, p1047⟩ := p1042
  subst e1043
  subst e1044
  show WL _ _ _ _ 751 [(4, vI i), (3, .ref o), (2, .ref m), (1, .ref x), (0, .ref 0)] [vI z1048] _ H1041
  refine wl_of hX hb cL_751 (rw_pop (pc' := 752) rfl rfl ?_)
  refine wl_of hX hb cL_752 (rw_goto (p1 := 1653) (by decide) ?_)
  have k1050 : H1041 x 9 = H1018 x 9 := (f1046 x 9 _ gx rfl)
  have k1051 : H1041 m 6 = H1018 m 6 := (f1046 m 6 _ gm rfl)
  have k1052 : H1041 x 11 = H1018 x 11 := (f1046 x 11 _ gx rfl)
  have k1053 : H1041 m 13 = H1018 m 13 := (f1046 m 13 _ gm rfl)
  have k1054 : H1041 x 8 = H1018 x 8 := (f1046 x 8 _ gx rfl)
  have k1055 : H1041 m 3 = H1018 m 3 := (f1046 m 3 _ gm rfl)
  have h1056 : XI T H1041 x m := (XI_fr w1022 gx f1046 rfl (XI_fr hW gx f1023 rfl hXI))
  exact WL.loc hX (by simp) (next T H1041 ⟨⟨w1045, g0, gx, gm, go, by omega, by omega⟩, h1056, by omega, by omega⟩ (by omega) (by omega))
set_option maxHeartbeats 4000000 in
theorem wl_c19 {kt : Nat → Option mc_E} {CB SB : Nat} {X : mc_S → Prop} {T : wq_T} {H : wq_H} {Len x m o : Nat} {i : Int} (hX : wlX kt CB SB X) (hb : T.2.1 ≤ CB ∧ T.2.2.1 ≤ SB) (hI : wlJ Len x m o T H) (hL : Len ≤ 3072) (hi : 0 ≤ i ∧ i + 6 ≤ Len) (hb2 : T.2.1 + 20 ≤ CB ∧ T.2.2.1 + 500 ≤ SB)  (next : ∀ T' H', wlJ Len x m o T' H' → T'.2.1 ≤ T.2.1 + 20 → T'.2.2.1 ≤ T.2.2.1 + 500 → WL kt CB SB X 1653 (wlL i x m o) [] T' H') : WL kt CB SB X 755 (wlL i x m o) [] T H := by
  obtain ⟨⟨hW, g0, gx, gm, go, hK, hr⟩, hXI, hY1, hY2⟩ := hI
  refine wl_of hX hb cL_755 (rw_aload_n (pc' := 756) (v := .ref x) rfl rfl rfl ?_)
  refine wl_of hX hb cL_756 (rw_aload_n (pc' := 757) (v := .ref 0) rfl rfl rfl ?_)
  refine wl_of hX hb cL_757 (rw_iload (pc' := 759) (z := i) rfl rfl ?_)
  refine wl_of hX hb cL_759 (rw_iconst (pc' := 760) rfl ?_)
  refine wl_of hX hb cL_760 (rw_iadd (pc' := 761) rfl ?_)
  refine wl_of hX hb cL_761 (xa_I (so := 0) (pc' := 762) (a := 0) hW g0 (wsh_s _) (by omega) (wty_s _ _) (by omega) (by omega) rfl (fun b1057 b1058 => ?_))
  refine wl_of hX hb cL_762 (rw_aload_n (pc' := 763) (v := .ref 0) rfl rfl rfl ?_)
  refine wl_of hX hb cL_763 (rw_iload (pc' := 765) (z := i) rfl rfl ?_)
  refine wl_of hX hb cL_765 (rw_iconst (pc' := 766) rfl ?_)
  refine wl_of hX hb cL_766 (rw_iadd (pc' := 767) rfl ?_)
  refine wl_of hX hb cL_767 (xa_I (so := 0) (pc' := 768) (a := 0) hW g0 (wsh_s _) (by omega) (wty_s _ _) (by omega) (by omega) rfl (fun b1059 b1060 => ?_))
  refine wl_of hX hb cL_768 (xc_V (pc' := 771) (r := x) (as := [vI (H 0 ((i + 1).toNat)), vI (H 0 ((i + 2).toNat))]) (st := []) (lm_11_101) rfl rfl (Nat.le_of_ble_eq_true rfl) hW gx sh_1 (by decide) rfl (by decide) (s_99 hW gx ⟨by omega, by omega⟩ ⟨by omega, by omega⟩) (fun R1061 T1062 H1063 p1064 => ?_))
  obtain ⟨e1065, w1067, f1068, z1069, e1066, b1070⟩ := p1064
  subst e1065
  subst e1066
  show WL _ _ _ _ 771 [(4, vI i), (3, .ref o), (2, .ref m), (1, .ref x), (0, .ref 0)] [vI z1069] _ H1063
  refine wl_of hX hb cL_771 (rw_pop (pc' := 772) rfl rfl ?_)
  refine wl_of hX hb cL_772 (rw_aload_n (pc' := 773) (v := .ref m) rfl rfl rfl ?_)
  refine wl_of hX hb cL_773 (rw_aload_n (pc' := 774) (v := .ref 0) rfl rfl rfl ?_)
  refine wl_of hX hb cL_774 (rw_iload (pc' := 776) (z := i) rfl rfl ?_)
  refine wl_of hX hb cL_776 (rw_iconst (pc' := 777) rfl ?_)
  refine wl_of hX hb cL_777 (rw_iadd (pc' := 778) rfl ?_)
  have k1073 : H1063 0 ((i + 1).toNat) = H 0 ((i + 1).toNat) := (f1068 0 ((i + 1).toNat) _ g0 (wmem_s rfl))
  refine wl_of hX hb cL_778 (xa_I (so := 0) (pc' := 779) (a := 0) w1067 g0 (wsh_s _) (by omega) (wty_s _ _) (by omega) (by omega) rfl (fun b1071 b1072 => ?_))
  refine wl_of hX hb cL_779 (rw_aload_n (pc' := 780) (v := .ref 0) rfl rfl rfl ?_)
  refine wl_of hX hb cL_780 (rw_iload (pc' := 782) (z := i) rfl rfl ?_)
  refine wl_of hX hb cL_782 (rw_iconst (pc' := 783) rfl ?_)
  refine wl_of hX hb cL_783 (rw_iadd (pc' := 784) rfl ?_)
  have k1076 : H1063 0 ((i + 2).toNat) = H 0 ((i + 2).toNat) := (f1068 0 ((i + 2).toNat) _ g0 (wmem_s rfl))
  refine wl_of hX hb cL_784 (xa_I (so := 0) (pc' := 785) (a := 0) w1067 g0 (wsh_s _) (by omega) (wty_s _ _) (by omega) (by omega) rfl (fun b1074 b1075 => ?_))
  have k1077 : wKI H1063 m = wKI H m := (wKI_fr hW gm f1068 rfl)
  have k1078 : H1063 x 9 = H x 9 := (f1068 x 9 _ gx rfl)
  have k1079 : H1063 m 6 = H m 6 := (f1068 m 6 _ gm rfl)
  have k1080 : H1063 x 11 = H x 11 := (f1068 x 11 _ gx rfl)
  have k1081 : H1063 m 13 = H m 13 := (f1068 m 13 _ gm rfl)
  have k1082 : H1063 x 8 = H x 8 := (f1068 x 8 _ gx rfl)
  have k1083 : H1063 m 3 = H m 3 := (f1068 m 3 _ gm rfl)
  refine wl_of hX hb cL_785 (xc_V (pc' := 788) (r := m) (as := [vI (H1063 0 ((i + 1).toNat)), vI (H1063 0 ((i + 2).toNat))]) (st := []) (lm_11_104) rfl rfl (Nat.le_of_ble_eq_true rfl) w1067 gm sh_42 (by decide) rfl (by decide) (s_250 w1067 gm ⟨by omega, by omega⟩ ⟨by omega, by omega⟩ (by omega)) (fun R1084 T1085 H1086 p1087 => ?_))
  obtain ⟨e1088, w1090, f1091, z1093, e1089, b1094, p1092⟩ := p1087
  subst e1088
  subst e1089
  show WL _ _ _ _ 788 [(4, vI i), (3, .ref o), (2, .ref m), (1, .ref x), (0, .ref 0)] [vI z1093] _ H1086
  refine wl_of hX hb cL_788 (rw_pop (pc' := 789) rfl rfl ?_)
  refine wl_of hX hb cL_789 (rw_goto (p1 := 1653) (by decide) ?_)
  have k1095 : H1086 x 9 = H1063 x 9 := (f1091 x 9 _ gx rfl)
  have k1096 : H1086 m 6 = H1063 m 6 := (f1091 m 6 _ gm rfl)
  have k1097 : H1086 x 11 = H1063 x 11 := (f1091 x 11 _ gx rfl)
  have k1098 : H1086 m 13 = H1063 m 13 := (f1091 m 13 _ gm rfl)
  have k1099 : H1086 x 8 = H1063 x 8 := (f1091 x 8 _ gx rfl)
  have k1100 : H1086 m 3 = H1063 m 3 := (f1091 m 3 _ gm rfl)
  have h1101 : XI T H1086 x m := (XI_fr w1067 gx f1091 rfl (XI_fr hW gx f1068 rfl hXI))
  exact WL.loc hX (by simp) (next T H1086 ⟨⟨w1090, g0, gx, gm, go, by omega, by omega⟩, h1101, by omega, by omega⟩ (by omega) (by omega))
set_option maxHeartbeats 4000000 in
theorem wl_c20 {kt : Nat → Option mc_E} {CB SB : Nat} {X : mc_S → Prop} {T : wq_T} {H : wq_H} {Len x m o : Nat} {i : Int} (hX : wlX kt CB SB X) (hb : T.2.1 ≤ CB ∧ T.2.2.1 ≤ SB) (hI : wlJ Len x m o T H) (hL : Len ≤ 3072) (hi : 0 ≤ i ∧ i + 6 ≤ Len) (hb2 : T.2.1 + 20 ≤ CB ∧ T.2.2.1 + 500 ≤ SB)  (next : ∀ T' H', wlJ Len x m o T' H' → T'.2.1 ≤ T.2.1 + 20 → T'.2.2.1 ≤ T.2.2.1 + 500 → WL kt CB SB X 1653 (wlL i x m o) [] T' H') : WL kt CB SB X 792 (wlL i x m o) [] T H := by
  obtain ⟨⟨hW, g0, gx, gm, go, hK, hr⟩, hXI, hY1, hY2⟩ := hI
  refine wl_of hX hb cL_792 (rw_aload_n (pc' := 793) (v := .ref x) rfl rfl rfl ?_)
  refine wl_of hX hb cL_793 (rw_aload_n (pc' := 794) (v := .ref 0) rfl rfl rfl ?_)
  refine wl_of hX hb cL_794 (rw_iload (pc' := 796) (z := i) rfl rfl ?_)
  refine wl_of hX hb cL_796 (rw_iconst (pc' := 797) rfl ?_)
  refine wl_of hX hb cL_797 (rw_iadd (pc' := 798) rfl ?_)
  refine wl_of hX hb cL_798 (xa_I (so := 0) (pc' := 799) (a := 0) hW g0 (wsh_s _) (by omega) (wty_s _ _) (by omega) (by omega) rfl (fun b1102 b1103 => ?_))
  refine wl_of hX hb cL_799 (rw_aload_n (pc' := 800) (v := .ref 0) rfl rfl rfl ?_)
  refine wl_of hX hb cL_800 (rw_iload (pc' := 802) (z := i) rfl rfl ?_)
  refine wl_of hX hb cL_802 (rw_iconst (pc' := 803) rfl ?_)
  refine wl_of hX hb cL_803 (rw_iadd (pc' := 804) rfl ?_)
  refine wl_of hX hb cL_804 (xa_I (so := 0) (pc' := 805) (a := 0) hW g0 (wsh_s _) (by omega) (wty_s _ _) (by omega) (by omega) rfl (fun b1104 b1105 => ?_))
  refine wl_of hX hb cL_805 (xc_V (pc' := 808) (r := x) (as := [vI (H 0 ((i + 1).toNat)), vI (H 0 ((i + 2).toNat))]) (st := []) (lm_11_105) rfl rfl (Nat.le_of_ble_eq_true rfl) hW gx sh_1 (by decide) rfl (by decide) (s_101 hW gx ⟨by omega, by omega⟩ ⟨by omega, by omega⟩) (fun R1106 T1107 H1108 p1109 => ?_))
  obtain ⟨e1110, w1112, f1113, z1114, e1111, b1115⟩ := p1109
  subst e1110
  subst e1111
  show WL _ _ _ _ 808 [(4, vI i), (3, .ref o), (2, .ref m), (1, .ref x), (0, .ref 0)] [vI z1114] _ H1108
  refine wl_of hX hb cL_808 (rw_pop (pc' := 809) rfl rfl ?_)
  refine wl_of hX hb cL_809 (rw_aload_n (pc' := 810) (v := .ref m) rfl rfl rfl ?_)
  refine wl_of hX hb cL_810 (rw_aload_n (pc' := 811) (v := .ref 0) rfl rfl rfl ?_)
  refine wl_of hX hb cL_811 (rw_iload (pc' := 813) (z := i) rfl rfl ?_)
  refine wl_of hX hb cL_813 (rw_iconst (pc' := 814) rfl ?_)
  refine wl_of hX hb cL_814 (rw_iadd (pc' := 815) rfl ?_)
  have k1118 : H1108 0 ((i + 1).toNat) = H 0 ((i + 1).toNat) := (f1113 0 ((i + 1).toNat) _ g0 (wmem_s rfl))
  refine wl_of hX hb cL_815 (xa_I (so := 0) (pc' := 816) (a := 0) w1112 g0 (wsh_s _) (by omega) (wty_s _ _) (by omega) (by omega) rfl (fun b1116 b1117 => ?_))
  refine wl_of hX hb cL_816 (rw_aload_n (pc' := 817) (v := .ref 0) rfl rfl rfl ?_)
  refine wl_of hX hb cL_817 (rw_iload (pc' := 819) (z := i) rfl rfl ?_)
  refine wl_of hX hb cL_819 (rw_iconst (pc' := 820) rfl ?_)
  refine wl_of hX hb cL_820 (rw_iadd (pc' := 821) rfl ?_)
  have k1121 : H1108 0 ((i + 2).toNat) = H 0 ((i + 2).toNat) := (f1113 0 ((i + 2).toNat) _ g0 (wmem_s rfl))
  refine wl_of hX hb cL_821 (xa_I (so := 0) (pc' := 822) (a := 0) w1112 g0 (wsh_s _) (by omega) (wty_s _ _) (by omega) (by omega) rfl (fun b1119 b1120 => ?_))
  have k1122 : wKI H1108 m = wKI H m := (wKI_fr hW gm f1113 rfl)
  have k1123 : H1108 x 9 = H x 9 := (f1113 x 9 _ gx rfl)
  have k1124 : H1108 m 6 = H m 6 := (f1113 m 6 _ gm rfl)
  have k1125 : H1108 x 11 = H x 11 := (f1113 x 11 _ gx rfl)
  have k1126 : H1108 m 13 = H m 13 := (f1113 m 13 _ gm rfl)
  have k1127 : H1108 x 8 = H x 8 := (f1113 x 8 _ gx rfl)
  have k1128 : H1108 m 3 = H m 3 := (f1113 m 3 _ gm rfl)
  refine wl_of hX hb cL_822 (xc_V (pc' := 825) (r := m) (as := [vI (H1108 0 ((i + 1).toNat)), vI (H1108 0 ((i + 2).toNat))]) (st := []) (lm_11_108) rfl rfl (Nat.le_of_ble_eq_true rfl) w1112 gm sh_42 (by decide) rfl (by decide) (s_252 w1112 gm ⟨by omega, by omega⟩ ⟨by omega, by omega⟩ (by omega)) (fun R1129 T1130 H1131 p1132 => ?_))
  obtain ⟨e1133, w1135, f1136, z1138, e1134, b1139, p1137⟩ := p1132
  subst e1133
  subst e1134
  show WL _ _ _ _ 825 [(4, vI i), (3, .ref o), (2, .ref m), (1, .ref x), (0, .ref 0)] [vI z1138] _ H1131
  refine wl_of hX hb cL_825 (rw_pop (pc' := 826) rfl rfl ?_)
  refine wl_of hX hb cL_826 (rw_goto (p1 := 1653) (by decide) ?_)
  have k1140 : H1131 x 9 = H1108 x 9 := (f1136 x 9 _ gx rfl)
  have k1141 : H1131 m 6 = H1108 m 6 := (f1136 m 6 _ gm rfl)
  have k1142 : H1131 x 11 = H1108 x 11 := (f1136 x 11 _ gx rfl)
  have k1143 : H1131 m 13 = H1108 m 13 := (f1136 m 13 _ gm rfl)
  have k1144 : H1131 x 8 = H1108 x 8 := (f1136 x 8 _ gx rfl)
  have k1145 : H1131 m 3 = H1108 m 3 := (f1136 m 3 _ gm rfl)
  have h1146 : XI T H1131 x m := (XI_fr w1112 gx f1136 rfl (XI_fr hW gx f1113 rfl hXI))
  exact WL.loc hX (by simp) (next T H1131 ⟨⟨w1135, g0, gx, gm, go, by omega, by omega⟩, h1146, by omega, by omega⟩ (by omega) (by omega))
set_option maxHeartbeats 4000000 in
theorem wl_c21 {kt : Nat → Option mc_E} {CB SB : Nat} {X : mc_S → Prop} {T : wq_T} {H : wq_H} {Len x m o : Nat} {i : Int} (hX : wlX kt CB SB X) (hb : T.2.1 ≤ CB ∧ T.2.2.1 ≤ SB) (hI : wlJ Len x m o T H) (hL : Len ≤ 3072) (hi : 0 ≤ i ∧ i + 6 ≤ Len) (hb2 : T.2.1 + 20 ≤ CB ∧ T.2.2.1 + 500 ≤ SB)  (next : ∀ T' H', wlJ Len x m o T' H' → T'.2.1 ≤ T.2.1 + 20 → T'.2.2.1 ≤ T.2.2.1 + 500 → WL kt CB SB X 1653 (wlL i x m o) [] T' H') : WL kt CB SB X 829 (wlL i x m o) [] T H := by
  obtain ⟨⟨hW, g0, gx, gm, go, hK, hr⟩, hXI, hY1, hY2⟩ := hI
  refine wl_of hX hb cL_829 (rw_aload_n (pc' := 830) (v := .ref x) rfl rfl rfl ?_)
  refine wl_of hX hb cL_830 (rw_aload_n (pc' := 831) (v := .ref 0) rfl rfl rfl ?_)
  refine wl_of hX hb cL_831 (rw_iload (pc' := 833) (z := i) rfl rfl ?_)
  refine wl_of hX hb cL_833 (rw_iconst (pc' := 834) rfl ?_)
  refine wl_of hX hb cL_834 (rw_iadd (pc' := 835) rfl ?_)
  refine wl_of hX hb cL_835 (xa_I (so := 0) (pc' := 836) (a := 0) hW g0 (wsh_s _) (by omega) (wty_s _ _) (by omega) (by omega) rfl (fun b1147 b1148 => ?_))
  refine wl_of hX hb cL_836 (rw_aload_n (pc' := 837) (v := .ref 0) rfl rfl rfl ?_)
  refine wl_of hX hb cL_837 (rw_iload (pc' := 839) (z := i) rfl rfl ?_)
  refine wl_of hX hb cL_839 (rw_iconst (pc' := 840) rfl ?_)
  refine wl_of hX hb cL_840 (rw_iadd (pc' := 841) rfl ?_)
  refine wl_of hX hb cL_841 (xa_I (so := 0) (pc' := 842) (a := 0) hW g0 (wsh_s _) (by omega) (wty_s _ _) (by omega) (by omega) rfl (fun b1149 b1150 => ?_))
  refine wl_of hX hb cL_842 (rw_if_eq (p1 := 849) (p2 := 845) (by decide) rfl ⟨by omega, by omega⟩ (fun c1151 => ?_) (fun c1151 => ?_))
  · refine wl_of hX hb cL_849 (rw_iconst (pc' := 850) rfl ?_)
    refine wl_of hX hb cL_850 (xc_V (pc' := 853) (r := x) (as := [vI (H 0 ((i + 1).toNat)), vI 0]) (st := []) (lm_11_109) rfl rfl (Nat.le_of_ble_eq_true rfl) hW gx sh_1 (by decide) rfl (by decide) (s_104 hW gx ⟨by omega, by omega⟩ ⟨by omega, by omega⟩) (fun R1152 T1153 H1154 p1155 => ?_))
    obtain ⟨e1156, w1158, f1159, z1160, e1157, b1161⟩ := p1155
    subst e1156
    subst e1157
    show WL _ _ _ _ 853 [(4, vI i), (3, .ref o), (2, .ref m), (1, .ref x), (0, .ref 0)] [vI z1160] _ H1154
    refine wl_of hX hb cL_853 (rw_pop (pc' := 854) rfl rfl ?_)
    refine wl_of hX hb cL_854 (rw_aload_n (pc' := 855) (v := .ref m) rfl rfl rfl ?_)
    refine wl_of hX hb cL_855 (rw_aload_n (pc' := 856) (v := .ref 0) rfl rfl rfl ?_)
    refine wl_of hX hb cL_856 (rw_iload (pc' := 858) (z := i) rfl rfl ?_)
    refine wl_of hX hb cL_858 (rw_iconst (pc' := 859) rfl ?_)
    refine wl_of hX hb cL_859 (rw_iadd (pc' := 860) rfl ?_)
    have k1164 : H1154 0 ((i + 1).toNat) = H 0 ((i + 1).toNat) := (f1159 0 ((i + 1).toNat) _ g0 (wmem_s rfl))
    refine wl_of hX hb cL_860 (xa_I (so := 0) (pc' := 861) (a := 0) w1158 g0 (wsh_s _) (by omega) (wty_s _ _) (by omega) (by omega) rfl (fun b1162 b1163 => ?_))
    refine wl_of hX hb cL_861 (rw_aload_n (pc' := 862) (v := .ref 0) rfl rfl rfl ?_)
    refine wl_of hX hb cL_862 (rw_iload (pc' := 864) (z := i) rfl rfl ?_)
    refine wl_of hX hb cL_864 (rw_iconst (pc' := 865) rfl ?_)
    refine wl_of hX hb cL_865 (rw_iadd (pc' := 866) rfl ?_)
    have k1167 : H1154 0 ((i + 2).toNat) = H 0 ((i + 2).toNat) := (f1159 0 ((i + 2).toNat) _ g0 (wmem_s rfl))
    refine wl_of hX hb cL_866 (xa_I (so := 0) (pc' := 867) (a := 0) w1158 g0 (wsh_s _) (by omega) (wty_s _ _) (by omega) (by omega) rfl (fun b1165 b1166 => ?_))
    refine wl_of hX hb cL_867 (rw_if_eq (p1 := 874) (p2 := 870) (by decide) rfl ⟨by omega, by omega⟩ (fun c1168 => ?_) (fun c1168 => ?_))
    · refine wl_of hX hb cL_874 (rw_iconst (pc' := 875) rfl ?_)
      have k1169 : wKI H1154 m = wKI H m := (wKI_fr hW gm f1159 rfl)
      have k1170 : H1154 x 9 = H x 9 := (f1159 x 9 _ gx rfl)
      have k1171 : H1154 m 6 = H m 6 := (f1159 m 6 _ gm rfl)
      have k1172 : H1154 x 11 = H x 11 := (f1159 x 11 _ gx rfl)
      have k1173 : H1154 m 13 = H m 13 := (f1159 m 13 _ gm rfl)
      have k1174 : H1154 x 8 = H x 8 := (f1159 x 8 _ gx rfl)
      have k1175 : H1154 m 3 = H m 3 := (f1159 m 3 _ gm rfl)
      refine wl_of hX hb cL_875 (xc_V (pc' := 878) (r := m) (as := [vI (H1154 0 ((i + 1).toNat)), vI 0]) (st := []) (lm_11_113) rfl rfl (Nat.le_of_ble_eq_true rfl) w1158 gm sh_42 (by decide) rfl (by decide) (s_254 w1158 gm ⟨by omega, by omega⟩ ⟨by omega, by omega⟩ (by omega)) (fun R1176 T1177 H1178 p1179 => ?_))
      obtain ⟨e1180, w1182, f1183, z1185, e1181, b1186, p1184⟩ := p1179
      subst e1180
      subst e1181
      show WL _ _ _ _ 878 [(4, vI i), (3, .ref o), (2, .ref m), (1, .ref x), (0, .ref 0)] [vI z1185] _ H1178
      refine wl_of hX hb cL_878 (rw_pop (pc' := 879) rfl rfl ?_)
      refine wl_of hX hb cL_879 (rw_goto (p1 := 1653) (by decide) ?_)
      have k1187 : H1178 x 9 = H1154 x 9 := (f1183 x 9 _ gx rfl)
      have k1188 : H1178 m 6 = H1154 m 6 := (f1183 m 6 _ gm rfl)
      have k1189 : H1178 x 11 = H1154 x 11 := (f1183 x 11 _ gx rfl)
      have k1190 : H1178 m 13 = H1154 m 13 := (f1183 m 13 _ gm rfl)
      have k1191 : H1178 x 8 = H1154 x 8 := (f1183 x 8 _ gx rfl)
      have k1192 : H1178 m 3 = H1154 m 3 := (f1183 m 3 _ gm rfl)
      have h1193 : XI T H1178 x m := (XI_fr w1158 gx f1183 rfl (XI_fr hW gx f1159 rfl hXI))
      exact WL.loc hX (by simp) (next T H1178 ⟨⟨w1182, g0, gx, gm, go, by omega, by omega⟩, h1193, by omega, by omega⟩ (by omega) (by omega))
    · exfalso
      omega
  · refine wl_of hX hb cL_845 (rw_iconst (pc' := 846) rfl ?_)
    refine wl_of hX hb cL_846 (rw_goto (p1 := 850) (by decide) ?_)
    refine wl_of hX hb cL_850 (xc_V (pc' := 853) (r := x) (as := [vI (H 0 ((i + 1).toNat)), vI 1]) (st := []) (lm_11_109) rfl rfl (Nat.le_of_ble_eq_true rfl) hW gx sh_1 (by decide) rfl (by decide) (s_104 hW gx ⟨by omega, by omega⟩ ⟨by omega, by omega⟩) (fun R1194 T1195 H1196 p1197 => ?_))
    obtain ⟨e1198, w1200, f1201, z1202, e1199, b1203⟩ := p1197
    subst e1198
    subst e1199
    show WL _ _ _ _ 853 [(4, vI i), (3, .ref o), (2, .ref m), (1, .ref x), (0, .ref 0)] [vI z1202] _ H1196
    refine wl_of hX hb cL_853 (rw_pop (pc' := 854) rfl rfl ?_)
    refine wl_of hX hb cL_854 (rw_aload_n (pc' := 855) (v := .ref m) rfl rfl rfl ?_)
    refine wl_of hX hb cL_855 (rw_aload_n (pc' := 856) (v := .ref 0) rfl rfl rfl ?_)
    refine wl_of hX hb cL_856 (rw_iload (pc' := 858) (z := i) rfl rfl ?_)
    refine wl_of hX hb cL_858 (rw_iconst (pc' := 859) rfl ?_)
    refine wl_of hX hb cL_859 (rw_iadd (pc' := 860) rfl ?_)
    have k1206 : H1196 0 ((i + 1).toNat) = H 0 ((i + 1).toNat) := (f1201 0 ((i + 1).toNat) _ g0 (wmem_s rfl))
    refine wl_of hX hb cL_860 (xa_I (so := 0) (pc' := 861) (a := 0) w1200 g0 (wsh_s _) (by omega) (wty_s _ _) (by omega) (by omega) rfl (fun b1204 b1205 => ?_))
    refine wl_of hX hb cL_861 (rw_aload_n (pc' := 862) (v := .ref 0) rfl rfl rfl ?_)
    refine wl_of hX hb cL_862 (rw_iload (pc' := 864) (z := i) rfl rfl ?_)
    refine wl_of hX hb cL_864 (rw_iconst (pc' := 865) rfl ?_)
    refine wl_of hX hb cL_865 (rw_iadd (pc' := 866) rfl ?_)
    have k1209 : H1196 0 ((i + 2).toNat) = H 0 ((i + 2).toNat) := (f1201 0 ((i + 2).toNat) _ g0 (wmem_s rfl))
    refine wl_of hX hb cL_866 (xa_I (so := 0) (pc' := 867) (a := 0) w1200 g0 (wsh_s _) (by omega) (wty_s _ _) (by omega) (by omega) rfl (fun b1207 b1208 => ?_))
    refine wl_of hX hb cL_867 (rw_if_eq (p1 := 874) (p2 := 870) (by decide) rfl ⟨by omega, by omega⟩ (fun c1210 => ?_) (fun c1210 => ?_))
    · refine wl_of hX hb cL_874 (rw_iconst (pc' := 875) rfl ?_)
      have k1211 : wKI H1196 m = wKI H m := (wKI_fr hW gm f1201 rfl)
      have k1212 : H1196 x 9 = H x 9 := (f1201 x 9 _ gx rfl)
      have k1213 : H1196 m 6 = H m 6 := (f1201 m 6 _ gm rfl)
      have k1214 : H1196 x 11 = H x 11 := (f1201 x 11 _ gx rfl)
      have k1215 : H1196 m 13 = H m 13 := (f1201 m 13 _ gm rfl)
      have k1216 : H1196 x 8 = H x 8 := (f1201 x 8 _ gx rfl)
      have k1217 : H1196 m 3 = H m 3 := (f1201 m 3 _ gm rfl)
      refine wl_of hX hb cL_875 (xc_V (pc' := 878) (r := m) (as := [vI (H1196 0 ((i + 1).toNat)), vI 0]) (st := []) (lm_11_113) rfl rfl (Nat.le_of_ble_eq_true rfl) w1200 gm sh_42 (by decide) rfl (by decide) (s_254 w1200 gm ⟨by omega, by omega⟩ ⟨by omega, by omega⟩ (by omega)) (fun R1218 T1219 H1220 p1221 => ?_))
      obtain ⟨e1222, w1224, f1225, z1227, e1223, b1228, p1226⟩ := p1221
      subst e1222
      subst e1223
      show WL _ _ _ _ 878 [(4, vI i), (3, .ref o), (2, .ref m), (1, .ref x), (0, .ref 0)] [vI z1227] _ H1220
      refine wl_of hX hb cL_878 (rw_pop (pc' := 879) rfl rfl ?_)
      refine wl_of hX hb cL_879 (rw_goto (p1 := 1653) (by decide) ?_)
      have k1229 : H1220 x 9 = H1196 x 9 := (f1225 x 9 _ gx rfl)
      have k1230 : H1220 m 6 = H1196 m 6 := (f1225 m 6 _ gm rfl)
      have k1231 : H1220 x 11 = H1196 x 11 := (f1225 x 11 _ gx rfl)
      have k1232 : H1220 m 13 = H1196 m 13 := (f1225 m 13 _ gm rfl)
      have k1233 : H1220 x 8 = H1196 x 8 := (f1225 x 8 _ gx rfl)
      have k1234 : H1220 m 3 = H1196 m 3 := (f1225 m 3 _ gm rfl)
      have h1235 : XI T H1220 x m := (XI_fr w1200 gx f1225 rfl (XI_fr hW gx f1201 rfl hXI))
      exact WL.loc hX (by simp) (next T H1220 ⟨⟨w1224, g0, gx, gm, go, by omega, by omega⟩, h1235, by omega, by omega⟩ (by omega) (by omega))
    · refine wl_of hX hb cL_870 (rw_iconst (pc' := 871) rfl ?_)
      refine wl_of hX hb cL_871 (rw_goto (p1 := 875) (by decide) ?_)
      have k1236 : wKI H1196 m = wKI H m := (wKI_fr hW gm f1201 rfl)
      have k1237 : H1196 x 9 = H x 9 := (f1201 x 9 _ gx rfl)
      have k1238 : H1196 m 6 = H m 6 := (f1201 m 6 _ gm rfl)
      have k1239 : H1196 x 11 = H x 11 := (f1201 x 11 _ gx rfl)
      have k1240 : H1196 m 13 = H m 13 := (f1201 m 13 _ gm rfl)
      have k1241 : H1196 x 8 = H x 8 := (f1201 x 8 _ gx rfl)
      have k1242 : H1196 m 3 = H m 3 := (f1201 m 3 _ gm rfl)
      refine wl_of hX hb cL_875 (xc_V (pc' := 878) (r := m) (as := [vI (H1196 0 ((i + 1).toNat)), vI 1]) (st := []) (lm_11_113) rfl rfl (Nat.le_of_ble_eq_true rfl) w1200 gm sh_42 (by decide) rfl (by decide) (s_254 w1200 gm ⟨by omega, by omega⟩ ⟨by omega, by omega⟩ (by omega)) (fun R1243 T1244 H1245 p1246 => ?_))
      obtain ⟨e1247, w1249, f1250, z1252, e1248, b1253, p1251⟩ := p1246
      subst e1247
      subst e1248
      show WL _ _ _ _ 878 [(4, vI i), (3, .ref o), (2, .ref m), (1, .ref x), (0, .ref 0)] [vI z1252] _ H1245
      refine wl_of hX hb cL_878 (rw_pop (pc' := 879) rfl rfl ?_)
      refine wl_of hX hb cL_879 (rw_goto (p1 := 1653) (by decide) ?_)
      have k1254 : H1245 x 9 = H1196 x 9 := (f1250 x 9 _ gx rfl)
      have k1255 : H1245 m 6 = H1196 m 6 := (f1250 m 6 _ gm rfl)
      have k1256 : H1245 x 11 = H1196 x 11 := (f1250 x 11 _ gx rfl)
      have k1257 : H1245 m 13 = H1196 m 13 := (f1250 m 13 _ gm rfl)
      have k1258 : H1245 x 8 = H1196 x 8 := (f1250 x 8 _ gx rfl)
      have k1259 : H1245 m 3 = H1196 m 3 := (f1250 m 3 _ gm rfl)
      have h1260 : XI T H1245 x m := (XI_fr w1200 gx f1250 rfl (XI_fr hW gx f1201 rfl hXI))
      exact WL.loc hX (by simp) (next T H1245 ⟨⟨w1249, g0, gx, gm, go, by omega, by omega⟩, h1260, by omega, by omega⟩ (by omega) (by omega))
set_option maxHeartbeats 4000000 in
theorem wl_c22 {kt : Nat → Option mc_E} {CB SB : Nat} {X : mc_S → Prop} {T : wq_T} {H : wq_H} {Len x m o : Nat} {i : Int} (hX : wlX kt CB SB X) (hb : T.2.1 ≤ CB ∧ T.2.2.1 ≤ SB) (hI : wlJ Len x m o T H) (hL : Len ≤ 3072) (hi : 0 ≤ i ∧ i + 6 ≤ Len) (hb2 : T.2.1 + 20 ≤ CB ∧ T.2.2.1 + 500 ≤ SB)  (next : ∀ T' H', wlJ Len x m o T' H' → T'.2.1 ≤ T.2.1 + 20 → T'.2.2.1 ≤ T.2.2.1 + 500 → WL kt CB SB X 1653 (wlL i x m o) [] T' H') : WL kt CB SB X 882 (wlL i x m o) [] T H := by
  obtain ⟨⟨hW, g0, gx, gm, go, hK, hr⟩, hXI, hY1, hY2⟩ := hI
  refine wl_of hX hb cL_882 (rw_aload_n (pc' := 883) (v := .ref x) rfl rfl rfl ?_)
  refine wl_of hX hb cL_883 (rw_aload_n (pc' := 884) (v := .ref 0) rfl rfl rfl ?_)
  refine wl_of hX hb cL_884 (rw_iload (pc' := 886) (z := i) rfl rfl ?_)
  refine wl_of hX hb cL_886 (rw_iconst (pc' := 887) rfl ?_)
  refine wl_of hX hb cL_887 (rw_iadd (pc' := 888) rfl ?_)
  refine wl_of hX hb cL_888 (xa_I (so := 0) (pc' := 889) (a := 0) hW g0 (wsh_s _) (by omega) (wty_s _ _) (by omega) (by omega) rfl (fun b1261 b1262 => ?_))
  refine wl_of hX hb cL_889 (rw_aload_n (pc' := 890) (v := .ref 0) rfl rfl rfl ?_)
  refine wl_of hX hb cL_890 (rw_iload (pc' := 892) (z := i) rfl rfl ?_)
  refine wl_of hX hb cL_892 (rw_iconst (pc' := 893) rfl ?_)
  refine wl_of hX hb cL_893 (rw_iadd (pc' := 894) rfl ?_)
  refine wl_of hX hb cL_894 (xa_I (so := 0) (pc' := 895) (a := 0) hW g0 (wsh_s _) (by omega) (wty_s _ _) (by omega) (by omega) rfl (fun b1263 b1264 => ?_))
  refine wl_of hX hb cL_895 (xc_V (pc' := 898) (r := x) (as := [vI (H 0 ((i + 1).toNat)), vI (H 0 ((i + 2).toNat))]) (st := []) (lm_11_114) rfl rfl (Nat.le_of_ble_eq_true rfl) hW gx sh_1 (by decide) rfl (by decide) (s_105 hW gx ⟨by omega, by omega⟩ ⟨by omega, by omega⟩) (fun R1265 T1266 H1267 p1268 => ?_))
  obtain ⟨e1269, w1271, f1272, z1273, e1270, b1274⟩ := p1268
  subst e1269
  subst e1270
  show WL _ _ _ _ 898 [(4, vI i), (3, .ref o), (2, .ref m), (1, .ref x), (0, .ref 0)] [vI z1273] _ H1267
  refine wl_of hX hb cL_898 (rw_pop (pc' := 899) rfl rfl ?_)
  refine wl_of hX hb cL_899 (rw_aload_n (pc' := 900) (v := .ref m) rfl rfl rfl ?_)
  refine wl_of hX hb cL_900 (rw_aload_n (pc' := 901) (v := .ref 0) rfl rfl rfl ?_)
  refine wl_of hX hb cL_901 (rw_iload (pc' := 903) (z := i) rfl rfl ?_)
  refine wl_of hX hb cL_903 (rw_iconst (pc' := 904) rfl ?_)
  refine wl_of hX hb cL_904 (rw_iadd (pc' := 905) rfl ?_)
  have k1277 : H1267 0 ((i + 1).toNat) = H 0 ((i + 1).toNat) := (f1272 0 ((i + 1).toNat) _ g0 (wmem_s rfl))
  refine wl_of hX hb cL_905 (xa_I (so := 0) (pc' := 906) (a := 0) w1271 g0 (wsh_s _) (by omega) (wty_s _ _) (by omega) (by omega) rfl (fun b1275 b1276 => ?_))
  refine wl_of hX hb cL_906 (rw_aload_n (pc' := 907) (v := .ref 0) rfl rfl rfl ?_)
  refine wl_of hX hb cL_907 (rw_iload (pc' := 909) (z := i) rfl rfl ?_)
  refine wl_of hX hb cL_909 (rw_iconst (pc' := 910) rfl ?_)
  refine wl_of hX hb cL_910 (rw_iadd (pc' := 911) rfl ?_)
  have k1280 : H1267 0 ((i + 2).toNat) = H 0 ((i + 2).toNat) := (f1272 0 ((i + 2).toNat) _ g0 (wmem_s rfl))
  refine wl_of hX hb cL_911 (xa_I (so := 0) (pc' := 912) (a := 0) w1271 g0 (wsh_s _) (by omega) (wty_s _ _) (by omega) (by omega) rfl (fun b1278 b1279 => ?_))
  have k1281 : wKI H1267 m = wKI H m := (wKI_fr hW gm f1272 rfl)
  have k1282 : H1267 x 9 = H x 9 := (f1272 x 9 _ gx rfl)
  have k1283 : H1267 m 6 = H m 6 := (f1272 m 6 _ gm rfl)
  have k1284 : H1267 x 11 = H x 11 := (f1272 x 11 _ gx rfl)
  have k1285 : H1267 m 13 = H m 13 := (f1272 m 13 _ gm rfl)
  have k1286 : H1267 x 8 = H x 8 := (f1272 x 8 _ gx rfl)
  have k1287 : H1267 m 3 = H m 3 := (f1272 m 3 _ gm rfl)
  refine wl_of hX hb cL_912 (xc_V (pc' := 915) (r := m) (as := [vI (H1267 0 ((i + 1).toNat)), vI (H1267 0 ((i + 2).toNat))]) (st := []) (lm_11_117) rfl rfl (Nat.le_of_ble_eq_true rfl) w1271 gm sh_42 (by decide) rfl (by decide) (s_255 w1271 gm ⟨by omega, by omega⟩ ⟨by omega, by omega⟩ (by omega)) (fun R1288 T1289 H1290 p1291 => ?_))
  obtain ⟨e1292, w1294, f1295, z1297, e1293, b1298, p1296⟩ := p1291
  subst e1292
  subst e1293
  show WL _ _ _ _ 915 [(4, vI i), (3, .ref o), (2, .ref m), (1, .ref x), (0, .ref 0)] [vI z1297] _ H1290
  refine wl_of hX hb cL_915 (rw_pop (pc' := 916) rfl rfl ?_)
  refine wl_of hX hb cL_916 (rw_goto (p1 := 1653) (by decide) ?_)
  have k1299 : H1290 x 9 = H1267 x 9 := (f1295 x 9 _ gx rfl)
  have k1300 : H1290 m 6 = H1267 m 6 := (f1295 m 6 _ gm rfl)
  have k1301 : H1290 x 11 = H1267 x 11 := (f1295 x 11 _ gx rfl)
  have k1302 : H1290 m 13 = H1267 m 13 := (f1295 m 13 _ gm rfl)
  have k1303 : H1290 x 8 = H1267 x 8 := (f1295 x 8 _ gx rfl)
  have k1304 : H1290 m 3 = H1267 m 3 := (f1295 m 3 _ gm rfl)
  have h1305 : XI T H1290 x m := (XI_fr w1271 gx f1295 rfl (XI_fr hW gx f1272 rfl hXI))
  exact WL.loc hX (by simp) (next T H1290 ⟨⟨w1294, g0, gx, gm, go, by omega, by omega⟩, h1305, by omega, by omega⟩ (by omega) (by omega))
set_option maxHeartbeats 4000000 in
theorem wl_c23 {kt : Nat → Option mc_E} {CB SB : Nat} {X : mc_S → Prop} {T : wq_T} {H : wq_H} {Len x m o : Nat} {i : Int} (hX : wlX kt CB SB X) (hb : T.2.1 ≤ CB ∧ T.2.2.1 ≤ SB) (hI : wlJ Len x m o T H) (hL : Len ≤ 3072) (hi : 0 ≤ i ∧ i + 6 ≤ Len) (hb2 : T.2.1 + 20 ≤ CB ∧ T.2.2.1 + 500 ≤ SB)  (next : ∀ T' H', wlJ Len x m o T' H' → T'.2.1 ≤ T.2.1 + 20 → T'.2.2.1 ≤ T.2.2.1 + 500 → WL kt CB SB X 1653 (wlL i x m o) [] T' H') : WL kt CB SB X 919 (wlL i x m o) [] T H := by
  obtain ⟨⟨hW, g0, gx, gm, go, hK, hr⟩, hXI, hY1, hY2⟩ := hI
  refine wl_of hX hb cL_919 (rw_aload_n (pc' := 920) (v := .ref x) rfl rfl rfl ?_)
  refine wl_of hX hb cL_920 (rw_aload_n (pc' := 921) (v := .ref 0) rfl rfl rfl ?_)
  refine wl_of hX hb cL_921 (rw_iload (pc' := 923) (z := i) rfl rfl ?_)
  refine wl_of hX hb cL_923 (rw_iconst (pc' := 924) rfl ?_)
  refine wl_of hX hb cL_924 (rw_iadd (pc' := 925) rfl ?_)
  refine wl_of hX hb cL_925 (xa_I (so := 0) (pc' := 926) (a := 0) hW g0 (wsh_s _) (by omega) (wty_s _ _) (by omega) (by omega) rfl (fun b1306 b1307 => ?_))
  refine wl_of hX hb cL_926 (xc_V (pc' := 929) (r := x) (as := [vI (H 0 ((i + 1).toNat))]) (st := []) (lm_11_118) rfl rfl (Nat.le_of_ble_eq_true rfl) hW gx sh_1 (by decide) rfl (by decide) (s_107 hW gx ⟨by omega, by omega⟩) (fun R1308 T1309 H1310 p1311 => ?_))
  obtain ⟨e1312, w1314, f1315, z1316, e1313, b1317⟩ := p1311
  subst e1312
  subst e1313
  show WL _ _ _ _ 929 [(4, vI i), (3, .ref o), (2, .ref m), (1, .ref x), (0, .ref 0)] [vI z1316] _ H1310
  refine wl_of hX hb cL_929 (rw_pop (pc' := 930) rfl rfl ?_)
  refine wl_of hX hb cL_930 (rw_aload_n (pc' := 931) (v := .ref m) rfl rfl rfl ?_)
  refine wl_of hX hb cL_931 (rw_aload_n (pc' := 932) (v := .ref 0) rfl rfl rfl ?_)
  refine wl_of hX hb cL_932 (rw_iload (pc' := 934) (z := i) rfl rfl ?_)
  refine wl_of hX hb cL_934 (rw_iconst (pc' := 935) rfl ?_)
  refine wl_of hX hb cL_935 (rw_iadd (pc' := 936) rfl ?_)
  have k1320 : H1310 0 ((i + 1).toNat) = H 0 ((i + 1).toNat) := (f1315 0 ((i + 1).toNat) _ g0 (wmem_s rfl))
  refine wl_of hX hb cL_936 (xa_I (so := 0) (pc' := 937) (a := 0) w1314 g0 (wsh_s _) (by omega) (wty_s _ _) (by omega) (by omega) rfl (fun b1318 b1319 => ?_))
  have k1321 : wKI H1310 m = wKI H m := (wKI_fr hW gm f1315 rfl)
  have k1322 : H1310 x 9 = H x 9 := (f1315 x 9 _ gx rfl)
  have k1323 : H1310 m 6 = H m 6 := (f1315 m 6 _ gm rfl)
  have k1324 : H1310 x 11 = H x 11 := (f1315 x 11 _ gx rfl)
  have k1325 : H1310 m 13 = H m 13 := (f1315 m 13 _ gm rfl)
  have k1326 : H1310 x 8 = H x 8 := (f1315 x 8 _ gx rfl)
  have k1327 : H1310 m 3 = H m 3 := (f1315 m 3 _ gm rfl)
  refine wl_of hX hb cL_937 (xc_V (pc' := 940) (r := m) (as := [vI (H1310 0 ((i + 1).toNat))]) (st := []) (lm_11_121) rfl rfl (Nat.le_of_ble_eq_true rfl) w1314 gm sh_42 (by decide) rfl (by decide) (s_256 w1314 gm ⟨by omega, by omega⟩ (by omega)) (fun R1328 T1329 H1330 p1331 => ?_))
  obtain ⟨e1332, w1334, f1335, z1337, e1333, b1338, p1336⟩ := p1331
  subst e1332
  subst e1333
  show WL _ _ _ _ 940 [(4, vI i), (3, .ref o), (2, .ref m), (1, .ref x), (0, .ref 0)] [vI z1337] _ H1330
  refine wl_of hX hb cL_940 (rw_pop (pc' := 941) rfl rfl ?_)
  refine wl_of hX hb cL_941 (rw_goto (p1 := 1653) (by decide) ?_)
  have k1339 : H1330 x 9 = H1310 x 9 := (f1335 x 9 _ gx rfl)
  have k1340 : H1330 m 6 = H1310 m 6 := (f1335 m 6 _ gm rfl)
  have k1341 : H1330 x 11 = H1310 x 11 := (f1335 x 11 _ gx rfl)
  have k1342 : H1330 m 13 = H1310 m 13 := (f1335 m 13 _ gm rfl)
  have k1343 : H1330 x 8 = H1310 x 8 := (f1335 x 8 _ gx rfl)
  have k1344 : H1330 m 3 = H1310 m 3 := (f1335 m 3 _ gm rfl)
  have h1345 : XI T H1330 x m := (XI_fr w1314 gx f1335 rfl (XI_fr hW gx f1315 rfl hXI))
  exact WL.loc hX (by simp) (next T H1330 ⟨⟨w1334, g0, gx, gm, go, by omega, by omega⟩, h1345, by omega, by omega⟩ (by omega) (by omega))
set_option maxHeartbeats 4000000 in
theorem wl_c24 {kt : Nat → Option mc_E} {CB SB : Nat} {X : mc_S → Prop} {T : wq_T} {H : wq_H} {Len x m o : Nat} {i : Int} (hX : wlX kt CB SB X) (hb : T.2.1 ≤ CB ∧ T.2.2.1 ≤ SB) (hI : wlJ Len x m o T H) (hL : Len ≤ 3072) (hi : 0 ≤ i ∧ i + 6 ≤ Len) (hb2 : T.2.1 + 20 ≤ CB ∧ T.2.2.1 + 500 ≤ SB)  (next : ∀ T' H', wlJ Len x m o T' H' → T'.2.1 ≤ T.2.1 + 20 → T'.2.2.1 ≤ T.2.2.1 + 500 → WL kt CB SB X 1653 (wlL i x m o) [] T' H') : WL kt CB SB X 944 (wlL i x m o) [] T H := by
  obtain ⟨⟨hW, g0, gx, gm, go, hK, hr⟩, hXI, hY1, hY2⟩ := hI
  refine wl_of hX hb cL_944 (rw_aload_n (pc' := 945) (v := .ref x) rfl rfl rfl ?_)
  refine wl_of hX hb cL_945 (xc_V (pc' := 948) (r := x) (as := []) (st := []) (lm_11_122) rfl rfl (Nat.le_of_ble_eq_true rfl) hW gx sh_1 (by decide) rfl (by decide) (s_108 hW gx) (fun R1346 T1347 H1348 p1349 => ?_))
  obtain ⟨e1350, w1352, f1353, z1354, e1351, b1355⟩ := p1349
  subst e1350
  subst e1351
  show WL _ _ _ _ 948 [(4, vI i), (3, .ref o), (2, .ref m), (1, .ref x), (0, .ref 0)] [vL z1354] _ H1348
  refine wl_of hX hb cL_948 (rw_pop2 (pc' := 949) rfl rfl ?_)
  refine wl_of hX hb cL_949 (rw_aload_n (pc' := 950) (v := .ref m) rfl rfl rfl ?_)
  have k1356 : wKI H1348 m = wKI H m := (wKI_fr hW gm f1353 rfl)
  have k1357 : H1348 x 9 = H x 9 := (f1353 x 9 _ gx rfl)
  have k1358 : H1348 m 6 = H m 6 := (f1353 m 6 _ gm rfl)
  have k1359 : H1348 x 11 = H x 11 := (f1353 x 11 _ gx rfl)
  have k1360 : H1348 m 13 = H m 13 := (f1353 m 13 _ gm rfl)
  have k1361 : H1348 x 8 = H x 8 := (f1353 x 8 _ gx rfl)
  have k1362 : H1348 m 3 = H m 3 := (f1353 m 3 _ gm rfl)
  refine wl_of hX hb cL_950 (xc_V (pc' := 953) (r := m) (as := []) (st := []) (lm_11_125) rfl rfl (Nat.le_of_ble_eq_true rfl) w1352 gm sh_42 (by decide) rfl (by decide) (s_258 w1352 gm (by omega)) (fun R1363 T1364 H1365 p1366 => ?_))
  obtain ⟨e1367, w1369, f1370, z1372, e1368, b1373, p1371⟩ := p1366
  subst e1367
  subst e1368
  show WL _ _ _ _ 953 [(4, vI i), (3, .ref o), (2, .ref m), (1, .ref x), (0, .ref 0)] [vL z1372] _ H1365
  refine wl_of hX hb cL_953 (rw_pop2 (pc' := 954) rfl rfl ?_)
  refine wl_of hX hb cL_954 (rw_goto (p1 := 1653) (by decide) ?_)
  have k1374 : H1365 x 9 = H1348 x 9 := (f1370 x 9 _ gx rfl)
  have k1375 : H1365 m 6 = H1348 m 6 := (f1370 m 6 _ gm rfl)
  have k1376 : H1365 x 11 = H1348 x 11 := (f1370 x 11 _ gx rfl)
  have k1377 : H1365 m 13 = H1348 m 13 := (f1370 m 13 _ gm rfl)
  have k1378 : H1365 x 8 = H1348 x 8 := (f1370 x 8 _ gx rfl)
  have k1379 : H1365 m 3 = H1348 m 3 := (f1370 m 3 _ gm rfl)
  have h1380 : XI T H1365 x m := (XI_fr w1352 gx f1370 rfl (XI_fr hW gx f1353 rfl hXI))
  exact WL.loc hX (by simp) (next T H1365 ⟨⟨w1369, g0, gx, gm, go, by omega, by omega⟩, h1380, by omega, by omega⟩ (by omega) (by omega))
set_option maxHeartbeats 4000000 in
theorem wl_c25 {kt : Nat → Option mc_E} {CB SB : Nat} {X : mc_S → Prop} {T : wq_T} {H : wq_H} {Len x m o : Nat} {i : Int} (hX : wlX kt CB SB X) (hb : T.2.1 ≤ CB ∧ T.2.2.1 ≤ SB) (hI : wlJ Len x m o T H) (hL : Len ≤ 3072) (hi : 0 ≤ i ∧ i + 6 ≤ Len) (hb2 : T.2.1 + 20 ≤ CB ∧ T.2.2.1 + 500 ≤ SB)  (next : ∀ T' H', wlJ Len x m o T' H' → T'.2.1 ≤ T.2.1 + 20 → T'.2.2.1 ≤ T.2.2.1 + 500 → WL kt CB SB X 1653 (wlL i x m o) [] T' H') : WL kt CB SB X 957 (wlL i x m o) [] T H := by
  obtain ⟨⟨hW, g0, gx, gm, go, hK, hr⟩, hXI, hY1, hY2⟩ := hI
  refine wl_of hX hb cL_957 (rw_aload_n (pc' := 958) (v := .ref x) rfl rfl rfl ?_)
  refine wl_of hX hb cL_958 (rw_aload_n (pc' := 959) (v := .ref 0) rfl rfl rfl ?_)
  refine wl_of hX hb cL_959 (rw_iload (pc' := 961) (z := i) rfl rfl ?_)
  refine wl_of hX hb cL_961 (rw_iconst (pc' := 962) rfl ?_)
  refine wl_of hX hb cL_962 (rw_iadd (pc' := 963) rfl ?_)
  refine wl_of hX hb cL_963 (xa_I (so := 0) (pc' := 964) (a := 0) hW g0 (wsh_s _) (by omega) (wty_s _ _) (by omega) (by omega) rfl (fun b1381 b1382 => ?_))
  refine wl_of hX hb cL_964 (rw_aload_n (pc' := 965) (v := .ref 0) rfl rfl rfl ?_)
  refine wl_of hX hb cL_965 (rw_iload (pc' := 967) (z := i) rfl rfl ?_)
  refine wl_of hX hb cL_967 (rw_iconst (pc' := 968) rfl ?_)
  refine wl_of hX hb cL_968 (rw_iadd (pc' := 969) rfl ?_)
  refine wl_of hX hb cL_969 (xa_I (so := 0) (pc' := 970) (a := 0) hW g0 (wsh_s _) (by omega) (wty_s _ _) (by omega) (by omega) rfl (fun b1383 b1384 => ?_))
  refine wl_of hX hb cL_970 (xc_V (pc' := 973) (r := x) (as := [vI (H 0 ((i + 1).toNat)), vI (H 0 ((i + 2).toNat))]) (st := []) (lm_11_126) rfl rfl (Nat.le_of_ble_eq_true rfl) hW gx sh_1 (by decide) rfl (by decide) (s_109 hW gx ⟨by omega, by omega⟩ ⟨by omega, by omega⟩) (fun R1385 T1386 H1387 p1388 => ?_))
  obtain ⟨e1389, w1391, f1392, z1393, e1390, b1394⟩ := p1388
  subst e1389
  subst e1390
  show WL _ _ _ _ 973 [(4, vI i), (3, .ref o), (2, .ref m), (1, .ref x), (0, .ref 0)] [vI z1393] _ H1387
  refine wl_of hX hb cL_973 (rw_pop (pc' := 974) rfl rfl ?_)
  refine wl_of hX hb cL_974 (rw_aload_n (pc' := 975) (v := .ref m) rfl rfl rfl ?_)
  refine wl_of hX hb cL_975 (rw_aload_n (pc' := 976) (v := .ref 0) rfl rfl rfl ?_)
  refine wl_of hX hb cL_976 (rw_iload (pc' := 978) (z := i) rfl rfl ?_)
  refine wl_of hX hb cL_978 (rw_iconst (pc' := 979) rfl ?_)
  refine wl_of hX hb cL_979 (rw_iadd (pc' := 980) rfl ?_)
  have k1397 : H1387 0 ((i + 1).toNat) = H 0 ((i + 1).toNat) := (f1392 0 ((i + 1).toNat) _ g0 (wmem_s rfl))
  refine wl_of hX hb cL_980 (xa_I (so := 0) (pc' := 981) (a := 0) w1391 g0 (wsh_s _) (by omega) (wty_s _ _) (by omega) (by omega) rfl (fun b1395 b1396 => ?_))
  refine wl_of hX hb cL_981 (rw_aload_n (pc' := 982) (v := .ref 0) rfl rfl rfl ?_)
  refine wl_of hX hb cL_982 (rw_iload (pc' := 984) (z := i) rfl rfl ?_)
  refine wl_of hX hb cL_984 (rw_iconst (pc' := 985) rfl ?_)
  refine wl_of hX hb cL_985 (rw_iadd (pc' := 986) rfl ?_)
  have k1400 : H1387 0 ((i + 2).toNat) = H 0 ((i + 2).toNat) := (f1392 0 ((i + 2).toNat) _ g0 (wmem_s rfl))
  refine wl_of hX hb cL_986 (xa_I (so := 0) (pc' := 987) (a := 0) w1391 g0 (wsh_s _) (by omega) (wty_s _ _) (by omega) (by omega) rfl (fun b1398 b1399 => ?_))
  have k1401 : wKI H1387 m = wKI H m := (wKI_fr hW gm f1392 rfl)
  have k1402 : H1387 x 9 = H x 9 := (f1392 x 9 _ gx rfl)
  have k1403 : H1387 m 6 = H m 6 := (f1392 m 6 _ gm rfl)
  have k1404 : H1387 x 11 = H x 11 := (f1392 x 11 _ gx rfl)
  have k1405 : H1387 m 13 = H m 13 := (f1392 m 13 _ gm rfl)
  have k1406 : H1387 x 8 = H x 8 := (f1392 x 8 _ gx rfl)
  have k1407 : H1387 m 3 = H m 3 := (f1392 m 3 _ gm rfl)
  refine wl_of hX hb cL_987 (xc_V (pc' := 990) (r := m) (as := [vI (H1387 0 ((i + 1).toNat)), vI (H1387 0 ((i + 2).toNat))]) (st := []) (lm_11_129) rfl rfl (Nat.le_of_ble_eq_true rfl) w1391 gm sh_42 (by decide) rfl (by decide) (s_259 w1391 gm ⟨by omega, by omega⟩ ⟨by omega, by omega⟩ (by omega)) (fun R1408 T1409 H1410 p1411 => ?_))
  obtain ⟨e1412, w1414, f1415, z1417, e1413, b1418, p1416⟩ := p1411
  subst e1412
  subst e1413
  show WL _ _ _ _ 990 [(4, vI i), (3, .ref o), (2, .ref m), (1, .ref x), (0, .ref 0)] [vI z1417] _ H1410
  refine wl_of hX hb cL_990 (rw_pop (pc' := 991) rfl rfl ?_)
  refine wl_of hX hb cL_991 (rw_goto (p1 := 1653) (by decide) ?_)
  have k1419 : H1410 x 9 = H1387 x 9 := (f1415 x 9 _ gx rfl)
  have k1420 : H1410 m 6 = H1387 m 6 := (f1415 m 6 _ gm rfl)
  have k1421 : H1410 x 11 = H1387 x 11 := (f1415 x 11 _ gx rfl)
  have k1422 : H1410 m 13 = H1387 m 13 := (f1415 m 13 _ gm rfl)
  have k1423 : H1410 x 8 = H1387 x 8 := (f1415 x 8 _ gx rfl)
  have k1424 : H1410 m 3 = H1387 m 3 := (f1415 m 3 _ gm rfl)
  have h1425 : XI T H1410 x m := (XI_fr w1391 gx f1415 rfl (XI_fr hW gx f1392 rfl hXI))
  exact WL.loc hX (by simp) (next T H1410 ⟨⟨w1414, g0, gx, gm, go, by omega, by omega⟩, h1425, by omega, by omega⟩ (by omega) (by omega))
set_option maxHeartbeats 4000000 in
theorem wl_c26 {kt : Nat → Option mc_E} {CB SB : Nat} {X : mc_S → Prop} {T : wq_T} {H : wq_H} {Len x m o : Nat} {i : Int} (hX : wlX kt CB SB X) (hb : T.2.1 ≤ CB ∧ T.2.2.1 ≤ SB) (hI : wlJ Len x m o T H) (hL : Len ≤ 3072) (hi : 0 ≤ i ∧ i + 6 ≤ Len) (hb2 : T.2.1 + 20 ≤ CB ∧ T.2.2.1 + 500 ≤ SB)  (next : ∀ T' H', wlJ Len x m o T' H' → T'.2.1 ≤ T.2.1 + 20 → T'.2.2.1 ≤ T.2.2.1 + 500 → WL kt CB SB X 1653 (wlL i x m o) [] T' H') : WL kt CB SB X 994 (wlL i x m o) [] T H := by
  obtain ⟨⟨hW, g0, gx, gm, go, hK, hr⟩, hXI, hY1, hY2⟩ := hI
  refine wl_of hX hb cL_994 (rw_aload_n (pc' := 995) (v := .ref x) rfl rfl rfl ?_)
  refine wl_of hX hb cL_995 (rw_aload_n (pc' := 996) (v := .ref 0) rfl rfl rfl ?_)
  refine wl_of hX hb cL_996 (rw_iload (pc' := 998) (z := i) rfl rfl ?_)
  refine wl_of hX hb cL_998 (rw_iconst (pc' := 999) rfl ?_)
  refine wl_of hX hb cL_999 (rw_iadd (pc' := 1000) rfl ?_)
  refine wl_of hX hb cL_1000 (xa_I (so := 0) (pc' := 1001) (a := 0) hW g0 (wsh_s _) (by omega) (wty_s _ _) (by omega) (by omega) rfl (fun b1426 b1427 => ?_))
  refine wl_of hX hb cL_1001 (xc_V (pc' := 1004) (r := x) (as := [vI (H 0 ((i + 1).toNat))]) (st := []) (lm_11_130) rfl rfl (Nat.le_of_ble_eq_true rfl) hW gx sh_1 (by decide) rfl (by decide) (s_112 hW gx ⟨by omega, by omega⟩) (fun R1428 T1429 H1430 p1431 => ?_))
  obtain ⟨e1432, w1434, f1435, z1436, e1433, b1437⟩ := p1431
  subst e1432
  subst e1433
  show WL _ _ _ _ 1004 [(4, vI i), (3, .ref o), (2, .ref m), (1, .ref x), (0, .ref 0)] [vL z1436] _ H1430
  refine wl_of hX hb cL_1004 (rw_pop2 (pc' := 1005) rfl rfl ?_)
  refine wl_of hX hb cL_1005 (rw_aload_n (pc' := 1006) (v := .ref m) rfl rfl rfl ?_)
  refine wl_of hX hb cL_1006 (rw_aload_n (pc' := 1007) (v := .ref 0) rfl rfl rfl ?_)
  refine wl_of hX hb cL_1007 (rw_iload (pc' := 1009) (z := i) rfl rfl ?_)
  refine wl_of hX hb cL_1009 (rw_iconst (pc' := 1010) rfl ?_)
  refine wl_of hX hb cL_1010 (rw_iadd (pc' := 1011) rfl ?_)
  have k1440 : H1430 0 ((i + 1).toNat) = H 0 ((i + 1).toNat) := (f1435 0 ((i + 1).toNat) _ g0 (wmem_s rfl))
  refine wl_of hX hb cL_1011 (xa_I (so := 0) (pc' := 1012) (a := 0) w1434 g0 (wsh_s _) (by omega) (wty_s _ _) (by omega) (by omega) rfl (fun b1438 b1439 => ?_))
  have k1441 : wKI H1430 m = wKI H m := (wKI_fr hW gm f1435 rfl)
  have k1442 : H1430 x 9 = H x 9 := (f1435 x 9 _ gx rfl)
  have k1443 : H1430 m 6 = H m 6 := (f1435 m 6 _ gm rfl)
  have k1444 : H1430 x 11 = H x 11 := (f1435 x 11 _ gx rfl)
  have k1445 : H1430 m 13 = H m 13 := (f1435 m 13 _ gm rfl)
  have k1446 : H1430 x 8 = H x 8 := (f1435 x 8 _ gx rfl)
  have k1447 : H1430 m 3 = H m 3 := (f1435 m 3 _ gm rfl)
  refine wl_of hX hb cL_1012 (xc_V (pc' := 1015) (r := m) (as := [vI (H1430 0 ((i + 1).toNat))]) (st := []) (lm_11_134) rfl rfl (Nat.le_of_ble_eq_true rfl) w1434 gm sh_42 (by decide) rfl (by decide) (s_260 w1434 gm ⟨by omega, by omega⟩ (by omega)) (fun R1448 T1449 H1450 p1451 => ?_))
  obtain ⟨e1452, w1454, f1455, z1457, e1453, b1458, p1456⟩ := p1451
  subst e1452
  subst e1453
  show WL _ _ _ _ 1015 [(4, vI i), (3, .ref o), (2, .ref m), (1, .ref x), (0, .ref 0)] [vL z1457] _ H1450
  refine wl_of hX hb cL_1015 (rw_pop2 (pc' := 1016) rfl rfl ?_)
  refine wl_of hX hb cL_1016 (rw_goto (p1 := 1653) (by decide) ?_)
  have k1459 : H1450 x 9 = H1430 x 9 := (f1455 x 9 _ gx rfl)
  have k1460 : H1450 m 6 = H1430 m 6 := (f1455 m 6 _ gm rfl)
  have k1461 : H1450 x 11 = H1430 x 11 := (f1455 x 11 _ gx rfl)
  have k1462 : H1450 m 13 = H1430 m 13 := (f1455 m 13 _ gm rfl)
  have k1463 : H1450 x 8 = H1430 x 8 := (f1455 x 8 _ gx rfl)
  have k1464 : H1450 m 3 = H1430 m 3 := (f1455 m 3 _ gm rfl)
  have h1465 : XI T H1450 x m := (XI_fr w1434 gx f1455 rfl (XI_fr hW gx f1435 rfl hXI))
  exact WL.loc hX (by simp) (next T H1450 ⟨⟨w1454, g0, gx, gm, go, by omega, by omega⟩, h1465, by omega, by omega⟩ (by omega) (by omega))
set_option maxHeartbeats 4000000 in
theorem wl_c27 {kt : Nat → Option mc_E} {CB SB : Nat} {X : mc_S → Prop} {T : wq_T} {H : wq_H} {Len x m o : Nat} {i : Int} (hX : wlX kt CB SB X) (hb : T.2.1 ≤ CB ∧ T.2.2.1 ≤ SB) (hI : wlJ Len x m o T H) (hL : Len ≤ 3072) (hi : 0 ≤ i ∧ i + 6 ≤ Len) (hb2 : T.2.1 + 20 ≤ CB ∧ T.2.2.1 + 500 ≤ SB)  (next : ∀ T' H', wlJ Len x m o T' H' → T'.2.1 ≤ T.2.1 + 20 → T'.2.2.1 ≤ T.2.2.1 + 500 → WL kt CB SB X 1653 (wlL i x m o) [] T' H') : WL kt CB SB X 1019 (wlL i x m o) [] T H := by
  obtain ⟨⟨hW, g0, gx, gm, go, hK, hr⟩, hXI, hY1, hY2⟩ := hI
  refine wl_of hX hb cL_1019 (rw_aload_n (pc' := 1020) (v := .ref x) rfl rfl rfl ?_)
  refine wl_of hX hb cL_1020 (rw_aload_n (pc' := 1021) (v := .ref 0) rfl rfl rfl ?_)
  refine wl_of hX hb cL_1021 (rw_iload (pc' := 1023) (z := i) rfl rfl ?_)
  refine wl_of hX hb cL_1023 (rw_iconst (pc' := 1024) rfl ?_)
  refine wl_of hX hb cL_1024 (rw_iadd (pc' := 1025) rfl ?_)
  refine wl_of hX hb cL_1025 (xa_I (so := 0) (pc' := 1026) (a := 0) hW g0 (wsh_s _) (by omega) (wty_s _ _) (by omega) (by omega) rfl (fun b1466 b1467 => ?_))
  refine wl_of hX hb cL_1026 (rw_aload_n (pc' := 1027) (v := .ref 0) rfl rfl rfl ?_)
  refine wl_of hX hb cL_1027 (rw_iload (pc' := 1029) (z := i) rfl rfl ?_)
  refine wl_of hX hb cL_1029 (rw_iconst (pc' := 1030) rfl ?_)
  refine wl_of hX hb cL_1030 (rw_iadd (pc' := 1031) rfl ?_)
  refine wl_of hX hb cL_1031 (xa_I (so := 0) (pc' := 1032) (a := 0) hW g0 (wsh_s _) (by omega) (wty_s _ _) (by omega) (by omega) rfl (fun b1468 b1469 => ?_))
  refine wl_of hX hb cL_1032 (xc_V (pc' := 1035) (r := x) (as := [vI (H 0 ((i + 1).toNat)), vI (H 0 ((i + 2).toNat))]) (st := []) (lm_11_135) rfl rfl (Nat.le_of_ble_eq_true rfl) hW gx sh_1 (by decide) rfl (by decide) (s_114 hW gx ⟨by omega, by omega⟩ ⟨by omega, by omega⟩) (fun R1470 T1471 H1472 p1473 => ?_))
  obtain ⟨e1474, w1476, f1477, z1478, e1475, b1479⟩ := p1473
  subst e1474
  subst e1475
  show WL _ _ _ _ 1035 [(4, vI i), (3, .ref o), (2, .ref m), (1, .ref x), (0, .ref 0)] [vI z1478] _ H1472
  refine wl_of hX hb cL_1035 (rw_pop (pc' := 1036) rfl rfl ?_)
  refine wl_of hX hb cL_1036 (rw_aload_n (pc' := 1037) (v := .ref m) rfl rfl rfl ?_)
  refine wl_of hX hb cL_1037 (rw_aload_n (pc' := 1038) (v := .ref 0) rfl rfl rfl ?_)
  refine wl_of hX hb cL_1038 (rw_iload (pc' := 1040) (z := i) rfl rfl ?_)
  refine wl_of hX hb cL_1040 (rw_iconst (pc' := 1041) rfl ?_)
  refine wl_of hX hb cL_1041 (rw_iadd (pc' := 1042) rfl ?_)
  have k1482 : H1472 0 ((i + 1).toNat) = H 0 ((i + 1).toNat) := (f1477 0 ((i + 1).toNat) _ g0 (wmem_s rfl))
  refine wl_of hX hb cL_1042 (xa_I (so := 0) (pc' := 1043) (a := 0) w1476 g0 (wsh_s _) (by omega) (wty_s _ _) (by omega) (by omega) rfl (fun b1480 b1481 => ?_))
  refine wl_of hX hb cL_1043 (rw_aload_n (pc' := 1044) (v := .ref 0) rfl rfl rfl ?_)
  refine wl_of hX hb cL_1044 (rw_iload (pc' := 1046) (z := i) rfl rfl ?_)
  refine wl_of hX hb cL_1046 (rw_iconst (pc' := 1047) rfl ?_)
  refine wl_of hX hb cL_1047 (rw_iadd (pc' := 1048) rfl ?_)
  have k1485 : H1472 0 ((i + 2).toNat) = H 0 ((i + 2).toNat) := (f1477 0 ((i + 2).toNat) _ g0 (wmem_s rfl))
  refine wl_of hX hb cL_1048 (xa_I (so := 0) (pc' := 1049) (a := 0) w1476 g0 (wsh_s _) (by omega) (wty_s _ _) (by omega) (by omega) rfl (fun b1483 b1484 => ?_))
  have k1486 : wKI H1472 m = wKI H m := (wKI_fr hW gm f1477 rfl)
  have k1487 : H1472 x 9 = H x 9 := (f1477 x 9 _ gx rfl)
  have k1488 : H1472 m 6 = H m 6 := (f1477 m 6 _ gm rfl)
  have k1489 : H1472 x 11 = H x 11 := (f1477 x 11 _ gx rfl)
  have k1490 : H1472 m 13 = H m 13 := (f1477 m 13 _ gm rfl)
  have k1491 : H1472 x 8 = H x 8 := (f1477 x 8 _ gx rfl)
  have k1492 : H1472 m 3 = H m 3 := (f1477 m 3 _ gm rfl)
  refine wl_of hX hb cL_1049 (xc_V (pc' := 1052) (r := m) (as := [vI (H1472 0 ((i + 1).toNat)), vI (H1472 0 ((i + 2).toNat))]) (st := []) (lm_11_138) rfl rfl (Nat.le_of_ble_eq_true rfl) w1476 gm sh_42 (by decide) rfl (by decide) (s_261 w1476 gm ⟨by omega, by omega⟩ ⟨by omega, by omega⟩ (by omega)) (fun R1493 T1494 H1495 p1496 => ?_))
  obtain ⟨e1497, w1499, f1500, z1502, e1498, b1503, p1501⟩ := p1496
  subst e1497
  subst e1498
  show WL _ _ _ _ 1052 [(4, vI i), (3, .ref o), (2, .ref m), (1, .ref x), (0, .ref 0)] [vI z1502] _ H1495
  refine wl_of hX hb cL_1052 (rw_pop (pc' := 1053) rfl rfl ?_)
  refine wl_of hX hb cL_1053 (rw_goto (p1 := 1653) (by decide) ?_)
  have k1504 : H1495 x 9 = H1472 x 9 := (f1500 x 9 _ gx rfl)
  have k1505 : H1495 m 6 = H1472 m 6 := (f1500 m 6 _ gm rfl)
  have k1506 : H1495 x 11 = H1472 x 11 := (f1500 x 11 _ gx rfl)
  have k1507 : H1495 m 13 = H1472 m 13 := (f1500 m 13 _ gm rfl)
  have k1508 : H1495 x 8 = H1472 x 8 := (f1500 x 8 _ gx rfl)
  have k1509 : H1495 m 3 = H1472 m 3 := (f1500 m 3 _ gm rfl)
  have h1510 : XI T H1495 x m := (XI_fr w1476 gx f1500 rfl (XI_fr hW gx f1477 rfl hXI))
  exact WL.loc hX (by simp) (next T H1495 ⟨⟨w1499, g0, gx, gm, go, by omega, by omega⟩, h1510, by omega, by omega⟩ (by omega) (by omega))
set_option maxHeartbeats 4000000 in
theorem wl_c28 {kt : Nat → Option mc_E} {CB SB : Nat} {X : mc_S → Prop} {T : wq_T} {H : wq_H} {Len x m o : Nat} {i : Int} (hX : wlX kt CB SB X) (hb : T.2.1 ≤ CB ∧ T.2.2.1 ≤ SB) (hI : wlJ Len x m o T H) (hL : Len ≤ 3072) (hi : 0 ≤ i ∧ i + 6 ≤ Len) (hb2 : T.2.1 + 20 ≤ CB ∧ T.2.2.1 + 500 ≤ SB)  (next : ∀ T' H', wlJ Len x m o T' H' → T'.2.1 ≤ T.2.1 + 20 → T'.2.2.1 ≤ T.2.2.1 + 500 → WL kt CB SB X 1653 (wlL i x m o) [] T' H') : WL kt CB SB X 1056 (wlL i x m o) [] T H := by
  obtain ⟨⟨hW, g0, gx, gm, go, hK, hr⟩, hXI, hY1, hY2⟩ := hI
  refine wl_of hX hb cL_1056 (rw_aload_n (pc' := 1057) (v := .ref x) rfl rfl rfl ?_)
  refine wl_of hX hb cL_1057 (rw_aload_n (pc' := 1058) (v := .ref 0) rfl rfl rfl ?_)
  refine wl_of hX hb cL_1058 (rw_iload (pc' := 1060) (z := i) rfl rfl ?_)
  refine wl_of hX hb cL_1060 (rw_iconst (pc' := 1061) rfl ?_)
  refine wl_of hX hb cL_1061 (rw_iadd (pc' := 1062) rfl ?_)
  refine wl_of hX hb cL_1062 (xa_I (so := 0) (pc' := 1063) (a := 0) hW g0 (wsh_s _) (by omega) (wty_s _ _) (by omega) (by omega) rfl (fun b1511 b1512 => ?_))
  refine wl_of hX hb cL_1063 (rw_aload_n (pc' := 1064) (v := .ref 0) rfl rfl rfl ?_)
  refine wl_of hX hb cL_1064 (rw_iload (pc' := 1066) (z := i) rfl rfl ?_)
  refine wl_of hX hb cL_1066 (rw_iconst (pc' := 1067) rfl ?_)
  refine wl_of hX hb cL_1067 (rw_iadd (pc' := 1068) rfl ?_)
  refine wl_of hX hb cL_1068 (xa_I (so := 0) (pc' := 1069) (a := 0) hW g0 (wsh_s _) (by omega) (wty_s _ _) (by omega) (by omega) rfl (fun b1513 b1514 => ?_))
  refine wl_of hX hb cL_1069 (rw_if_eq (p1 := 1076) (p2 := 1072) (by decide) rfl ⟨by omega, by omega⟩ (fun c1515 => ?_) (fun c1515 => ?_))
  · refine wl_of hX hb cL_1076 (rw_iconst (pc' := 1077) rfl ?_)
    refine wl_of hX hb cL_1077 (xc_V (pc' := 1080) (r := x) (as := [vI (H 0 ((i + 1).toNat)), vI 0]) (st := []) (lm_11_139) rfl rfl (Nat.le_of_ble_eq_true rfl) hW gx sh_1 (by decide) rfl (by decide) (s_117 hW gx ⟨by omega, by omega⟩ ⟨by omega, by omega⟩) (fun R1516 T1517 H1518 p1519 => ?_))
    obtain ⟨e1520, w1522, f1523, z1524, e1521, b1525⟩ := p1519
    subst e1520
    subst e1521
    show WL _ _ _ _ 1080 [(4, vI i), (3, .ref o), (2, .ref m), (1, .ref x), (0, .ref 0)] [vI z1524] _ H1518
    refine wl_of hX hb cL_1080 (rw_pop (pc' := 1081) rfl rfl ?_)
    refine wl_of hX hb cL_1081 (rw_aload_n (pc' := 1082) (v := .ref m) rfl rfl rfl ?_)
    refine wl_of hX hb cL_1082 (rw_aload_n (pc' := 1083) (v := .ref 0) rfl rfl rfl ?_)
    refine wl_of hX hb cL_1083 (rw_iload (pc' := 1085) (z := i) rfl rfl ?_)
    refine wl_of hX hb cL_1085 (rw_iconst (pc' := 1086) rfl ?_)
    refine wl_of hX hb cL_1086 (rw_iadd (pc' := 1087) rfl ?_)
    have k1528 : H1518 0 ((i + 1).toNat) = H 0 ((i + 1).toNat) := (f1523 0 ((i + 1).toNat) _ g0 (wmem_s rfl))
    refine wl_of hX hb cL_1087 (xa_I (so := 0) (pc' := 1088) (a := 0) w1522 g0 (wsh_s _) (by omega) (wty_s _ _) (by omega) (by omega) rfl (fun b1526 b1527 => ?_))
    refine wl_of hX hb cL_1088 (rw_aload_n (pc' := 1089) (v := .ref 0) rfl rfl rfl ?_)
    refine wl_of hX hb cL_1089 (rw_iload (pc' := 1091) (z := i) rfl rfl ?_)
    refine wl_of hX hb cL_1091 (rw_iconst (pc' := 1092) rfl ?_)
    refine wl_of hX hb cL_1092 (rw_iadd (pc' := 1093) rfl ?_)
    have k1531 : H1518 0 ((i + 2).toNat) = H 0 ((i + 2).toNat) := (f1523 0 ((i + 2).toNat) _ g0 (wmem_s rfl))
    refine wl_of hX hb cL_1093 (xa_I (so := 0) (pc' := 1094) (a := 0) w1522 g0 (wsh_s _) (by omega) (wty_s _ _) (by omega) (by omega) rfl (fun b1529 b1530 => ?_))
    refine wl_of hX hb cL_1094 (rw_if_eq (p1 := 1101) (p2 := 1097) (by decide) rfl ⟨by omega, by omega⟩ (fun c1532 => ?_) (fun c1532 => ?_))
    · refine wl_of hX hb cL_1101 (rw_iconst (pc' := 1102) rfl ?_)
      have k1533 : wKI H1518 m = wKI H m := (wKI_fr hW gm f1523 rfl)
      have k1534 : H1518 x 9 = H x 9 := (f1523 x 9 _ gx rfl)
      have k1535 : H1518 m 6 = H m 6 := (f1523 m 6 _ gm rfl)
      have k1536 : H1518 x 11 = H x 11 := (f1523 x 11 _ gx rfl)
      have k1537 : H1518 m 13 = H m 13 := (f1523 m 13 _ gm rfl)
      have k1538 : H1518 x 8 = H x 8 := (f1523 x 8 _ gx rfl)
      have k1539 : H1518 m 3 = H m 3 := (f1523 m 3 _ gm rfl)
      refine wl_of hX hb cL_1102 (xc_V (pc' := 1105) (r := m) (as := [vI (H1518 0 ((i + 1).toNat)), vI 0]) (st := []) (lm_11_142) rfl rfl (Nat.le_of_ble_eq_true rfl) w1522 gm sh_42 (by decide) rfl (by decide) (s_263 w1522 gm ⟨by omega, by omega⟩ ⟨by omega, by omega⟩ (by omega)) (fun R1540 T1541 H1542 p1543 => ?_))
      obtain ⟨e1544, w1546, f1547, z1549, e1545, b1550, p1548⟩ := p1543
      subst e1544
      subst e1545
      show WL _ _ _ _ 1105 [(4, vI i), (3, .ref o), (2, .ref m), (1, .ref x), (0, .ref 0)] [vI z1549] _ H1542
      refine wl_of hX hb cL_1105 (rw_pop (pc' := 1106) rfl rfl ?_)
      refine wl_of hX hb cL_1106 (rw_goto (p1 := 1653) (by decide) ?_)
      have k1551 : H1542 x 9 = H1518 x 9 := (f1547 x 9 _ gx rfl)
      have k1552 : H1542 m 6 = H1518 m 6 := (f1547 m 6 _ gm rfl)
      have k1553 : H1542 x 11 = H1518 x 11 := (f1547 x 11 _ gx rfl)
      have k1554 : H1542 m 13 = H1518 m 13 := (f1547 m 13 _ gm rfl)
      have k1555 : H1542 x 8 = H1518 x 8 := (f1547 x 8 _ gx rfl)
      have k1556 : H1542 m 3 = H1518 m 3 := (f1547 m 3 _ gm rfl)
      have h1557 : XI T H1542 x m := (XI_fr w1522 gx f1547 rfl (XI_fr hW gx f1523 rfl hXI))
      exact WL.loc hX (by simp) (next T H1542 ⟨⟨w1546, g0, gx, gm, go, by omega, by omega⟩, h1557, by omega, by omega⟩ (by omega) (by omega))
    · exfalso
      omega
  · refine wl_of hX hb cL_1072 (rw_iconst (pc' := 1073) rfl ?_)
    refine wl_of hX hb cL_1073 (rw_goto (p1 := 1077) (by decide) ?_)
    refine wl_of hX hb cL_1077 (xc_V (pc' := 1080) (r := x) (as := [vI (H 0 ((i + 1).toNat)), vI 1]) (st := []) (lm_11_139) rfl rfl (Nat.le_of_ble_eq_true rfl) hW gx sh_1 (by decide) rfl (by decide) (s_117 hW gx ⟨by omega, by omega⟩ ⟨by omega, by omega⟩) (fun R1558 T1559 H1560 p1561 => ?_))
    obtain ⟨e1562, w1564, f1565, z1566, e1563, b1567⟩ := p1561
    subst e1562
    subst e1563
    show WL _ _ _ _ 1080 [(4, vI i), (3, .ref o), (2, .ref m), (1, .ref x), (0, .ref 0)] [vI z1566] _ H1560
    refine wl_of hX hb cL_1080 (rw_pop (pc' := 1081) rfl rfl ?_)
    refine wl_of hX hb cL_1081 (rw_aload_n (pc' := 1082) (v := .ref m) rfl rfl rfl ?_)
    refine wl_of hX hb cL_1082 (rw_aload_n (pc' := 1083) (v := .ref 0) rfl rfl rfl ?_)
    refine wl_of hX hb cL_1083 (rw_iload (pc' := 1085) (z := i) rfl rfl ?_)
    refine wl_of hX hb cL_1085 (rw_iconst (pc' := 1086) rfl ?_)
    refine wl_of hX hb cL_1086 (rw_iadd (pc' := 1087) rfl ?_)
    have k1570 : H1560 0 ((i + 1).toNat) = H 0 ((i + 1).toNat) := (f1565 0 ((i + 1).toNat) _ g0 (wmem_s rfl))
    refine wl_of hX hb cL_1087 (xa_I (so := 0) (pc' := 1088) (a := 0) w1564 g0 (wsh_s _) (by omega) (wty_s _ _) (by omega) (by omega) rfl (fun b1568 b1569 => ?_))
    refine wl_of hX hb cL_1088 (rw_aload_n (pc' := 1089) (v := .ref 0) rfl rfl rfl ?_)
    refine wl_of hX hb cL_1089 (rw_iload (pc' := 1091) (z := i) rfl rfl ?_)
    refine wl_of hX hb cL_1091 (rw_iconst (pc' := 1092) rfl ?_)
    refine wl_of hX hb cL_1092 (rw_iadd (pc' := 1093) rfl ?_)
    have k1573 : H1560 0 ((i + 2).toNat) = H 0 ((i + 2).toNat) := (f1565 0 ((i + 2).toNat) _ g0 (wmem_s rfl))
    refine wl_of hX hb cL_1093 (xa_I (so := 0) (pc' := 1094) (a := 0) w1564 g0 (wsh_s _) (by omega) (wty_s _ _) (by omega) (by omega) rfl (fun b1571 b1572 => ?_))
    refine wl_of hX hb cL_1094 (rw_if_eq (p1 := 1101) (p2 := 1097) (by decide) rfl ⟨by omega, by omega⟩ (fun c1574 => ?_) (fun c1574 => ?_))
    · refine wl_of hX hb cL_1101 (rw_iconst (pc' := 1102) rfl ?_)
      have k1575 : wKI H1560 m = wKI H m := (wKI_fr hW gm f1565 rfl)
      have k1576 : H1560 x 9 = H x 9 := (f1565 x 9 _ gx rfl)
      have k1577 : H1560 m 6 = H m 6 := (f1565 m 6 _ gm rfl)
      have k1578 : H1560 x 11 = H x 11 := (f1565 x 11 _ gx rfl)
      have k1579 : H1560 m 13 = H m 13 := (f1565 m 13 _ gm rfl)
      have k1580 : H1560 x 8 = H x 8 := (f1565 x 8 _ gx rfl)
      have k1581 : H1560 m 3 = H m 3 := (f1565 m 3 _ gm rfl)
      refine wl_of hX hb cL_1102 (xc_V (pc' := 1105) (r := m) (as := [vI (H1560 0 ((i + 1).toNat)), vI 0]) (st := []) (lm_11_142) rfl rfl (Nat.le_of_ble_eq_true rfl) w1564 gm sh_42 (by decide) rfl (by decide) (s_263 w1564 gm ⟨by omega, by omega⟩ ⟨by omega, by omega⟩ (by omega)) (fun R1582 T1583 H1584 p1585 => ?_))
      obtain ⟨e1586, w1588, f1589, z1591, e1587, b1592, p1590⟩ := p1585
      subst e1586
      subst e1587
      show WL _ _ _ _ 1105 [(4, vI i), (3, .ref o), (2, .ref m), (1, .ref x), (0, .ref 0)] [vI z1591] _ H1584
      refine wl_of hX hb cL_1105 (rw_pop (pc' := 1106) rfl rfl ?_)
      refine wl_of hX hb cL_1106 (rw_goto (p1 := 1653) (by decide) ?_)
      have k1593 : H1584 x 9 = H1560 x 9 := (f1589 x 9 _ gx rfl)
      have k1594 : H1584 m 6 = H1560 m 6 := (f1589 m 6 _ gm rfl)
      have k1595 : H1584 x 11 = H1560 x 11 := (f1589 x 11 _ gx rfl)
      have k1596 : H1584 m 13 = H1560 m 13 := (f1589 m 13 _ gm rfl)
      have k1597 : H1584 x 8 = H1560 x 8 := (f1589 x 8 _ gx rfl)
      have k1598 : H1584 m 3 = H1560 m 3 := (f1589 m 3 _ gm rfl)
      have h1599 : XI T H1584 x m := (XI_fr w1564 gx f1589 rfl (XI_fr hW gx f1565 rfl hXI))
      exact WL.loc hX (by simp) (next T H1584 ⟨⟨w1588, g0, gx, gm, go, by omega, by omega⟩, h1599, by omega, by omega⟩ (by omega) (by omega))
    · refine wl_of hX hb cL_1097 (rw_iconst (pc' := 1098) rfl ?_)
      refine wl_of hX hb cL_1098 (rw_goto (p1 := 1102) (by decide) ?_)
      have k1600 : wKI H1560 m = wKI H m := (wKI_fr hW gm f1565 rfl)
      have k1601 : H1560 x 9 = H x 9 := (f1565 x 9 _ gx rfl)
      have k1602 : H1560 m 6 = H m 6 := (f1565 m 6 _ gm rfl)
      have k1603 : H1560 x 11 = H x 11 := (f1565 x 11 _ gx rfl)
      have k1604 : H1560 m 13 = H m 13 := (f1565 m 13 _ gm rfl)
      have k1605 : H1560 x 8 = H x 8 := (f1565 x 8 _ gx rfl)
      have k1606 : H1560 m 3 = H m 3 := (f1565 m 3 _ gm rfl)
      refine wl_of hX hb cL_1102 (xc_V (pc' := 1105) (r := m) (as := [vI (H1560 0 ((i + 1).toNat)), vI 1]) (st := []) (lm_11_142) rfl rfl (Nat.le_of_ble_eq_true rfl) w1564 gm sh_42 (by decide) rfl (by decide) (s_263 w1564 gm ⟨by omega, by omega⟩ ⟨by omega, by omega⟩ (by omega)) (fun R1607 T1608 H1609 p1610 => ?_))
      obtain ⟨e1611, w1613, f1614, z1616, e1612, b1617, p1615⟩ := p1610
      subst e1611
      subst e1612
      show WL _ _ _ _ 1105 [(4, vI i), (3, .ref o), (2, .ref m), (1, .ref x), (0, .ref 0)] [vI z1616] _ H1609
      refine wl_of hX hb cL_1105 (rw_pop (pc' := 1106) rfl rfl ?_)
      refine wl_of hX hb cL_1106 (rw_goto (p1 := 1653) (by decide) ?_)
      have k1618 : H1609 x 9 = H1560 x 9 := (f1614 x 9 _ gx rfl)
      have k1619 : H1609 m 6 = H1560 m 6 := (f1614 m 6 _ gm rfl)
      have k1620 : H1609 x 11 = H1560 x 11 := (f1614 x 11 _ gx rfl)
      have k1621 : H1609 m 13 = H1560 m 13 := (f1614 m 13 _ gm rfl)
      have k1622 : H1609 x 8 = H1560 x 8 := (f1614 x 8 _ gx rfl)
      have k1623 : H1609 m 3 = H1560 m 3 := (f1614 m 3 _ gm rfl)
      have h1624 : XI T H1609 x m := (XI_fr w1564 gx f1614 rfl (XI_fr hW gx f1565 rfl hXI))
      exact WL.loc hX (by simp) (next T H1609 ⟨⟨w1613, g0, gx, gm, go, by omega, by omega⟩, h1624, by omega, by omega⟩ (by omega) (by omega))
set_option maxHeartbeats 4000000 in
theorem wl_c29 {kt : Nat → Option mc_E} {CB SB : Nat} {X : mc_S → Prop} {T : wq_T} {H : wq_H} {Len x m o : Nat} {i : Int} (hX : wlX kt CB SB X) (hb : T.2.1 ≤ CB ∧ T.2.2.1 ≤ SB) (hI : wlJ Len x m o T H) (hL : Len ≤ 3072) (hi : 0 ≤ i ∧ i + 6 ≤ Len) (hb2 : T.2.1 + 20 ≤ CB ∧ T.2.2.1 + 500 ≤ SB)  (next : ∀ T' H', wlJ Len x m o T' H' → T'.2.1 ≤ T.2.1 + 20 → T'.2.2.1 ≤ T.2.2.1 + 500 → WL kt CB SB X 1653 (wlL i x m o) [] T' H') : WL kt CB SB X 1109 (wlL i x m o) [] T H := by
  obtain ⟨⟨hW, g0, gx, gm, go, hK, hr⟩, hXI, hY1, hY2⟩ := hI
  refine wl_of hX hb cL_1109 (rw_aload_n (pc' := 1110) (v := .ref x) rfl rfl rfl ?_)
  refine wl_of hX hb cL_1110 (rw_aload_n (pc' := 1111) (v := .ref 0) rfl rfl rfl ?_)
  refine wl_of hX hb cL_1111 (rw_iload (pc' := 1113) (z := i) rfl rfl ?_)
  refine wl_of hX hb cL_1113 (rw_iconst (pc' := 1114) rfl ?_)
  refine wl_of hX hb cL_1114 (rw_iadd (pc' := 1115) rfl ?_)
  refine wl_of hX hb cL_1115 (xa_I (so := 0) (pc' := 1116) (a := 0) hW g0 (wsh_s _) (by omega) (wty_s _ _) (by omega) (by omega) rfl (fun b1625 b1626 => ?_))
  refine wl_of hX hb cL_1116 (rw_aload_n (pc' := 1117) (v := .ref 0) rfl rfl rfl ?_)
  refine wl_of hX hb cL_1117 (rw_iload (pc' := 1119) (z := i) rfl rfl ?_)
  refine wl_of hX hb cL_1119 (rw_iconst (pc' := 1120) rfl ?_)
  refine wl_of hX hb cL_1120 (rw_iadd (pc' := 1121) rfl ?_)
  refine wl_of hX hb cL_1121 (xa_I (so := 0) (pc' := 1122) (a := 0) hW g0 (wsh_s _) (by omega) (wty_s _ _) (by omega) (by omega) rfl (fun b1627 b1628 => ?_))
  refine wl_of hX hb cL_1122 (rw_if_eq (p1 := 1129) (p2 := 1125) (by decide) rfl ⟨by omega, by omega⟩ (fun c1629 => ?_) (fun c1629 => ?_))
  · refine wl_of hX hb cL_1129 (rw_iconst (pc' := 1130) rfl ?_)
    refine wl_of hX hb cL_1130 (xc_V (pc' := 1133) (r := x) (as := [vI (H 0 ((i + 1).toNat)), vI 0]) (st := []) (lm_11_143) rfl rfl (Nat.le_of_ble_eq_true rfl) hW gx sh_1 (by decide) rfl (by decide) (s_119 hW gx ⟨by omega, by omega⟩ ⟨by omega, by omega⟩) (fun R1630 T1631 H1632 p1633 => ?_))
    obtain ⟨e1634, w1636, f1637, z1638, e1635, b1639⟩ := p1633
    subst e1634
    subst e1635
    show WL _ _ _ _ 1133 [(4, vI i), (3, .ref o), (2, .ref m), (1, .ref x), (0, .ref 0)] [vI z1638] _ H1632
    refine wl_of hX hb cL_1133 (rw_pop (pc' := 1134) rfl rfl ?_)
    refine wl_of hX hb cL_1134 (rw_aload_n (pc' := 1135) (v := .ref m) rfl rfl rfl ?_)
    refine wl_of hX hb cL_1135 (rw_aload_n (pc' := 1136) (v := .ref 0) rfl rfl rfl ?_)
    refine wl_of hX hb cL_1136 (rw_iload (pc' := 1138) (z := i) rfl rfl ?_)
    refine wl_of hX hb cL_1138 (rw_iconst (pc' := 1139) rfl ?_)
    refine wl_of hX hb cL_1139 (rw_iadd (pc' := 1140) rfl ?_)
    have k1642 : H1632 0 ((i + 1).toNat) = H 0 ((i + 1).toNat) := (f1637 0 ((i + 1).toNat) _ g0 (wmem_s rfl))
    refine wl_of hX hb cL_1140 (xa_I (so := 0) (pc' := 1141) (a := 0) w1636 g0 (wsh_s _) (by omega) (wty_s _ _) (by omega) (by omega) rfl (fun b1640 b1641 => ?_))
    refine wl_of hX hb cL_1141 (rw_aload_n (pc' := 1142) (v := .ref 0) rfl rfl rfl ?_)
    refine wl_of hX hb cL_1142 (rw_iload (pc' := 1144) (z := i) rfl rfl ?_)
    refine wl_of hX hb cL_1144 (rw_iconst (pc' := 1145) rfl ?_)
    refine wl_of hX hb cL_1145 (rw_iadd (pc' := 1146) rfl ?_)
    have k1645 : H1632 0 ((i + 2).toNat) = H 0 ((i + 2).toNat) := (f1637 0 ((i + 2).toNat) _ g0 (wmem_s rfl))
    refine wl_of hX hb cL_1146 (xa_I (so := 0) (pc' := 1147) (a := 0) w1636 g0 (wsh_s _) (by omega) (wty_s _ _) (by omega) (by omega) rfl (fun b1643 b1644 => ?_))
    refine wl_of hX hb cL_1147 (rw_if_eq (p1 := 1154) (p2 := 1150) (by decide) rfl ⟨by omega, by omega⟩ (fun c1646 => ?_) (fun c1646 => ?_))
    · refine wl_of hX hb cL_1154 (rw_iconst (pc' := 1155) rfl ?_)
      have k1647 : wKI H1632 m = wKI H m := (wKI_fr hW gm f1637 rfl)
      have k1648 : H1632 x 9 = H x 9 := (f1637 x 9 _ gx rfl)
      have k1649 : H1632 m 6 = H m 6 := (f1637 m 6 _ gm rfl)
      have k1650 : H1632 x 11 = H x 11 := (f1637 x 11 _ gx rfl)
      have k1651 : H1632 m 13 = H m 13 := (f1637 m 13 _ gm rfl)
      have k1652 : H1632 x 8 = H x 8 := (f1637 x 8 _ gx rfl)
      have k1653 : H1632 m 3 = H m 3 := (f1637 m 3 _ gm rfl)
      refine wl_of hX hb cL_1155 (xc_V (pc' := 1158) (r := m) (as := [vI (H1632 0 ((i + 1).toNat)), vI 0]) (st := []) (lm_11_146) rfl rfl (Nat.le_of_ble_eq_true rfl) w1636 gm sh_42 (by decide) rfl (by decide) (s_265 w1636 gm ⟨by omega, by omega⟩ ⟨by omega, by omega⟩ (by omega)) (fun R1654 T1655 H1656 p1657 => ?_))
      obtain ⟨e1658, w1660, f1661, z1663, e1659, b1664, p1662⟩ := p1657
      subst e1658
      subst e1659
      show WL _ _ _ _ 1158 [(4, vI i), (3, .ref o), (2, .ref m), (1, .ref x), (0, .ref 0)] [vI z1663] _ H1656
      refine wl_of hX hb cL_1158 (rw_pop (pc' := 1159) rfl rfl ?_)
      refine wl_of hX hb cL_1159 (rw_goto (p1 := 1653) (by decide) ?_)
      have k1665 : H1656 x 9 = H1632 x 9 := (f1661 x 9 _ gx rfl)
      have k1666 : H1656 m 6 = H1632 m 6 := (f1661 m 6 _ gm rfl)
      have k1667 : H1656 x 11 = H1632 x 11 := (f1661 x 11 _ gx rfl)
      have k1668 : H1656 m 13 = H1632 m 13 := (f1661 m 13 _ gm rfl)
      have k1669 : H1656 x 8 = H1632 x 8 := (f1661 x 8 _ gx rfl)
      have k1670 : H1656 m 3 = H1632 m 3 := (f1661 m 3 _ gm rfl)
      have h1671 : XI T H1656 x m := (XI_fr w1636 gx f1661 rfl (XI_fr hW gx f1637 rfl hXI))
      exact WL.loc hX (by simp) (next T H1656 ⟨⟨w1660, g0, gx, gm, go, by omega, by omega⟩, h1671, by omega, by omega⟩ (by omega) (by omega))
    · exfalso
      omega
  · refine wl_of hX hb cL_1125 (rw_iconst (pc' := 1126) rfl ?_)
    refine wl_of hX hb cL_1126 (rw_goto (p1 := 1130) (by decide) ?_)
    refine wl_of hX hb cL_1130 (xc_V (pc' := 1133) (r := x) (as := [vI (H 0 ((i + 1).toNat)), vI 1]) (st := []) (lm_11_143) rfl rfl (Nat.le_of_ble_eq_true rfl) hW gx sh_1 (by decide) rfl (by decide) (s_119 hW gx ⟨by omega, by omega⟩ ⟨by omega, by omega⟩) (fun R1672 T1673 H1674 p1675 => ?_))
    obtain ⟨e1676, w1678, f1679, z1680, e1677, b1681⟩ := p1675
    subst e1676
    subst e1677
    show WL _ _ _ _ 1133 [(4, vI i), (3, .ref o), (2, .ref m), (1, .ref x), (0, .ref 0)] [vI z1680] _ H1674
    refine wl_of hX hb cL_1133 (rw_pop (pc' := 1134) rfl rfl ?_)
    refine wl_of hX hb cL_1134 (rw_aload_n (pc' := 1135) (v := .ref m) rfl rfl rfl ?_)
    refine wl_of hX hb cL_1135 (rw_aload_n (pc' := 1136) (v := .ref 0) rfl rfl rfl ?_)
    refine wl_of hX hb cL_1136 (rw_iload (pc' := 1138) (z := i) rfl rfl ?_)
    refine wl_of hX hb cL_1138 (rw_iconst (pc' := 1139) rfl ?_)
    refine wl_of hX hb cL_1139 (rw_iadd (pc' := 1140) rfl ?_)
    have k1684 : H1674 0 ((i + 1).toNat) = H 0 ((i + 1).toNat) := (f1679 0 ((i + 1).toNat) _ g0 (wmem_s rfl))
    refine wl_of hX hb cL_1140 (xa_I (so := 0) (pc' := 1141) (a := 0) w1678 g0 (wsh_s _) (by omega) (wty_s _ _) (by omega) (by omega) rfl (fun b1682 b1683 => ?_))
    refine wl_of hX hb cL_1141 (rw_aload_n (pc' := 1142) (v := .ref 0) rfl rfl rfl ?_)
    refine wl_of hX hb cL_1142 (rw_iload (pc' := 1144) (z := i) rfl rfl ?_)
    refine wl_of hX hb cL_1144 (rw_iconst (pc' := 1145) rfl ?_)
    refine wl_of hX hb cL_1145 (rw_iadd (pc' := 1146) rfl ?_)
    have k1687 : H1674 0 ((i + 2).toNat) = H 0 ((i + 2).toNat) := (f1679 0 ((i + 2).toNat) _ g0 (wmem_s rfl))
    refine wl_of hX hb cL_1146 (xa_I (so := 0) (pc' := 1147) (a := 0) w1678 g0 (wsh_s _) (by omega) (wty_s _ _) (by omega) (by omega) rfl (fun b1685 b1686 => ?_))
    refine wl_of hX hb cL_1147 (rw_if_eq (p1 := 1154) (p2 := 1150) (by decide) rfl ⟨by omega, by omega⟩ (fun c1688 => ?_) (fun c1688 => ?_))
    · refine wl_of hX hb cL_1154 (rw_iconst (pc' := 1155) rfl ?_)
      have k1689 : wKI H1674 m = wKI H m := (wKI_fr hW gm f1679 rfl)
      have k1690 : H1674 x 9 = H x 9 := (f1679 x 9 _ gx rfl)
      have k1691 : H1674 m 6 = H m 6 := (f1679 m 6 _ gm rfl)
      have k1692 : H1674 x 11 = H x 11 := (f1679 x 11 _ gx rfl)
      have k1693 : H1674 m 13 = H m 13 := (f1679 m 13 _ gm rfl)
      have k1694 : H1674 x 8 = H x 8 := (f1679 x 8 _ gx rfl)
      have k1695 : H1674 m 3 = H m 3 := (f1679 m 3 _ gm rfl)
      refine wl_of hX hb cL_1155 (xc_V (pc' := 1158) (r := m) (as := [vI (H1674 0 ((i + 1).toNat)), vI 0]) (st := []) (lm_11_146) rfl rfl (Nat.le_of_ble_eq_true rfl) w1678 gm sh_42 (by decide) rfl (by decide) (s_265 w1678 gm ⟨by omega, by omega⟩ ⟨by omega, by omega⟩ (by omega)) (fun R1696 T1697 H1698 p1699 => ?_))
      obtain ⟨e1700, w1702, f1703, z1705, e1701, b1706, p1704⟩ := p1699
      subst e1700
      subst e1701
      show WL _ _ _ _ 1158 [(4, vI i), (3, .ref o), (2, .ref m), (1, .ref x), (0, .ref 0)] [vI z1705] _ H1698
      refine wl_of hX hb cL_1158 (rw_pop (pc' := 1159) rfl rfl ?_)
      refine wl_of hX hb cL_1159 (rw_goto (p1 := 1653) (by decide) ?_)
      have k1707 : H1698 x 9 = H1674 x 9 := (f1703 x 9 _ gx rfl)
      have k1708 : H1698 m 6 = H1674 m 6 := (f1703 m 6 _ gm rfl)
      have k1709 : H1698 x 11 = H1674 x 11 := (f1703 x 11 _ gx rfl)
      have k1710 : H1698 m 13 = H1674 m 13 := (f1703 m 13 _ gm rfl)
      have k1711 : H1698 x 8 = H1674 x 8 := (f1703 x 8 _ gx rfl)
      have k1712 : H1698 m 3 = H1674 m 3 := (f1703 m 3 _ gm rfl)
      have h1713 : XI T H1698 x m := (XI_fr w1678 gx f1703 rfl (XI_fr hW gx f1679 rfl hXI))
      exact WL.loc hX (by simp) (next T H1698 ⟨⟨w1702, g0, gx, gm, go, by omega, by omega⟩, h1713, by omega, by omega⟩ (by omega) (by omega))
    · refine wl_of hX hb cL_1150 (rw_iconst (pc' := 1151) rfl ?_)
      refine wl_of hX hb cL_1151 (rw_goto (p1 := 1155) (by decide) ?_)
      have k1714 : wKI H1674 m = wKI H m := (wKI_fr hW gm f1679 rfl)
      have k1715 : H1674 x 9 = H x 9 := (f1679 x 9 _ gx rfl)
      have k1716 : H1674 m 6 = H m 6 := (f1679 m 6 _ gm rfl)
      have k1717 : H1674 x 11 = H x 11 := (f1679 x 11 _ gx rfl)
      have k1718 : H1674 m 13 = H m 13 := (f1679 m 13 _ gm rfl)
      have k1719 : H1674 x 8 = H x 8 := (f1679 x 8 _ gx rfl)
      have k1720 : H1674 m 3 = H m 3 := (f1679 m 3 _ gm rfl)
      refine wl_of hX hb cL_1155 (xc_V (pc' := 1158) (r := m) (as := [vI (H1674 0 ((i + 1).toNat)), vI 1]) (st := []) (lm_11_146) rfl rfl (Nat.le_of_ble_eq_true rfl) w1678 gm sh_42 (by decide) rfl (by decide) (s_265 w1678 gm ⟨by omega, by omega⟩ ⟨by omega, by omega⟩ (by omega)) (fun R1721 T1722 H1723 p1724 => ?_))
      obtain ⟨e1725, w1727, f1728, z1730, e1726, b1731, p1729⟩ := p1724
      subst e1725
      subst e1726
      show WL _ _ _ _ 1158 [(4, vI i), (3, .ref o), (2, .ref m), (1, .ref x), (0, .ref 0)] [vI z1730] _ H1723
      refine wl_of hX hb cL_1158 (rw_pop (pc' := 1159) rfl rfl ?_)
      refine wl_of hX hb cL_1159 (rw_goto (p1 := 1653) (by decide) ?_)
      have k1732 : H1723 x 9 = H1674 x 9 := (f1728 x 9 _ gx rfl)
      have k1733 : H1723 m 6 = H1674 m 6 := (f1728 m 6 _ gm rfl)
      have k1734 : H1723 x 11 = H1674 x 11 := (f1728 x 11 _ gx rfl)
      have k1735 : H1723 m 13 = H1674 m 13 := (f1728 m 13 _ gm rfl)
      have k1736 : H1723 x 8 = H1674 x 8 := (f1728 x 8 _ gx rfl)
      have k1737 : H1723 m 3 = H1674 m 3 := (f1728 m 3 _ gm rfl)
      have h1738 : XI T H1723 x m := (XI_fr w1678 gx f1728 rfl (XI_fr hW gx f1679 rfl hXI))
      exact WL.loc hX (by simp) (next T H1723 ⟨⟨w1727, g0, gx, gm, go, by omega, by omega⟩, h1738, by omega, by omega⟩ (by omega) (by omega))
set_option maxHeartbeats 4000000 in
theorem wl_c30 {kt : Nat → Option mc_E} {CB SB : Nat} {X : mc_S → Prop} {T : wq_T} {H : wq_H} {Len x m o : Nat} {i : Int} (hX : wlX kt CB SB X) (hb : T.2.1 ≤ CB ∧ T.2.2.1 ≤ SB) (hI : wlJ Len x m o T H) (hL : Len ≤ 3072) (hi : 0 ≤ i ∧ i + 6 ≤ Len) (hb2 : T.2.1 + 20 ≤ CB ∧ T.2.2.1 + 500 ≤ SB)  (next : ∀ T' H', wlJ Len x m o T' H' → T'.2.1 ≤ T.2.1 + 20 → T'.2.2.1 ≤ T.2.2.1 + 500 → WL kt CB SB X 1653 (wlL i x m o) [] T' H') : WL kt CB SB X 1162 (wlL i x m o) [] T H := by
  obtain ⟨⟨hW, g0, gx, gm, go, hK, hr⟩, hXI, hY1, hY2⟩ := hI
  refine wl_of hX hb cL_1162 (rw_aload_n (pc' := 1163) (v := .ref x) rfl rfl rfl ?_)
  refine wl_of hX hb cL_1163 (xc_V (pc' := 1166) (r := x) (as := []) (st := []) (lm_11_147) rfl rfl (Nat.le_of_ble_eq_true rfl) hW gx sh_1 (by decide) rfl (by decide) (s_120 hW gx) (fun R1739 T1740 H1741 p1742 => ?_))
  obtain ⟨e1743, w1745, f1746, z1747, e1744, b1748⟩ := p1742
  subst e1743
  subst e1744
  show WL _ _ _ _ 1166 [(4, vI i), (3, .ref o), (2, .ref m), (1, .ref x), (0, .ref 0)] [vI z1747] _ H1741
  refine wl_of hX hb cL_1166 (rw_pop (pc' := 1167) rfl rfl ?_)
  refine wl_of hX hb cL_1167 (rw_aload_n (pc' := 1168) (v := .ref m) rfl rfl rfl ?_)
  have k1749 : wKI H1741 m = wKI H m := (wKI_fr hW gm f1746 rfl)
  have k1750 : H1741 x 9 = H x 9 := (f1746 x 9 _ gx rfl)
  have k1751 : H1741 m 6 = H m 6 := (f1746 m 6 _ gm rfl)
  have k1752 : H1741 x 11 = H x 11 := (f1746 x 11 _ gx rfl)
  have k1753 : H1741 m 13 = H m 13 := (f1746 m 13 _ gm rfl)
  have k1754 : H1741 x 8 = H x 8 := (f1746 x 8 _ gx rfl)
  have k1755 : H1741 m 3 = H m 3 := (f1746 m 3 _ gm rfl)
  refine wl_of hX hb cL_1168 (xc_V (pc' := 1171) (r := m) (as := []) (st := []) (lm_11_150) rfl rfl (Nat.le_of_ble_eq_true rfl) w1745 gm sh_42 (by decide) rfl (by decide) (s_266 w1745 gm (by omega)) (fun R1756 T1757 H1758 p1759 => ?_))
  obtain ⟨e1760, w1762, f1763, z1765, e1761, b1766, p1764⟩ := p1759
  subst e1760
  subst e1761
  show WL _ _ _ _ 1171 [(4, vI i), (3, .ref o), (2, .ref m), (1, .ref x), (0, .ref 0)] [vI z1765] _ H1758
  refine wl_of hX hb cL_1171 (rw_pop (pc' := 1172) rfl rfl ?_)
  refine wl_of hX hb cL_1172 (rw_goto (p1 := 1653) (by decide) ?_)
  have k1767 : H1758 x 9 = H1741 x 9 := (f1763 x 9 _ gx rfl)
  have k1768 : H1758 m 6 = H1741 m 6 := (f1763 m 6 _ gm rfl)
  have k1769 : H1758 x 11 = H1741 x 11 := (f1763 x 11 _ gx rfl)
  have k1770 : H1758 m 13 = H1741 m 13 := (f1763 m 13 _ gm rfl)
  have k1771 : H1758 x 8 = H1741 x 8 := (f1763 x 8 _ gx rfl)
  have k1772 : H1758 m 3 = H1741 m 3 := (f1763 m 3 _ gm rfl)
  have h1773 : XI T H1758 x m := (XI_fr w1745 gx f1763 rfl (XI_fr hW gx f1746 rfl hXI))
  exact WL.loc hX (by simp) (next T H1758 ⟨⟨w1762, g0, gx, gm, go, by omega, by omega⟩, h1773, by omega, by omega⟩ (by omega) (by omega))
set_option maxHeartbeats 4000000 in
theorem wl_c31 {kt : Nat → Option mc_E} {CB SB : Nat} {X : mc_S → Prop} {T : wq_T} {H : wq_H} {Len x m o : Nat} {i : Int} (hX : wlX kt CB SB X) (hb : T.2.1 ≤ CB ∧ T.2.2.1 ≤ SB) (hI : wlJ Len x m o T H) (hL : Len ≤ 3072) (hi : 0 ≤ i ∧ i + 6 ≤ Len) (hb2 : T.2.1 + 20 ≤ CB ∧ T.2.2.1 + 500 ≤ SB)  (next : ∀ T' H', wlJ Len x m o T' H' → T'.2.1 ≤ T.2.1 + 20 → T'.2.2.1 ≤ T.2.2.1 + 500 → WL kt CB SB X 1653 (wlL i x m o) [] T' H') : WL kt CB SB X 1175 (wlL i x m o) [] T H := by
  obtain ⟨⟨hW, g0, gx, gm, go, hK, hr⟩, hXI, hY1, hY2⟩ := hI
  refine wl_of hX hb cL_1175 (rw_aload_n (pc' := 1176) (v := .ref x) rfl rfl rfl ?_)
  refine wl_of hX hb cL_1176 (rw_aload_n (pc' := 1177) (v := .ref 0) rfl rfl rfl ?_)
  refine wl_of hX hb cL_1177 (rw_iload (pc' := 1179) (z := i) rfl rfl ?_)
  refine wl_of hX hb cL_1179 (rw_iconst (pc' := 1180) rfl ?_)
  refine wl_of hX hb cL_1180 (rw_iadd (pc' := 1181) rfl ?_)
  refine wl_of hX hb cL_1181 (xa_I (so := 0) (pc' := 1182) (a := 0) hW g0 (wsh_s _) (by omega) (wty_s _ _) (by omega) (by omega) rfl (fun b1774 b1775 => ?_))
  refine wl_of hX hb cL_1182 (xc_V (pc' := 1185) (r := x) (as := [vI (H 0 ((i + 1).toNat))]) (st := []) (lm_11_151) rfl rfl (Nat.le_of_ble_eq_true rfl) hW gx sh_1 (by decide) rfl (by decide) (s_130 hW gx ⟨by omega, by omega⟩) (fun R1776 T1777 H1778 p1779 => ?_))
  obtain ⟨e1780, w1782, f1783, z1784, e1781, b1785⟩ := p1779
  subst e1780
  subst e1781
  show WL _ _ _ _ 1185 [(4, vI i), (3, .ref o), (2, .ref m), (1, .ref x), (0, .ref 0)] [vI z1784] _ H1778
  refine wl_of hX hb cL_1185 (rw_pop (pc' := 1186) rfl rfl ?_)
  refine wl_of hX hb cL_1186 (rw_aload_n (pc' := 1187) (v := .ref m) rfl rfl rfl ?_)
  refine wl_of hX hb cL_1187 (rw_aload_n (pc' := 1188) (v := .ref 0) rfl rfl rfl ?_)
  refine wl_of hX hb cL_1188 (rw_iload (pc' := 1190) (z := i) rfl rfl ?_)
  refine wl_of hX hb cL_1190 (rw_iconst (pc' := 1191) rfl ?_)
  refine wl_of hX hb cL_1191 (rw_iadd (pc' := 1192) rfl ?_)
  have k1788 : H1778 0 ((i + 1).toNat) = H 0 ((i + 1).toNat) := (f1783 0 ((i + 1).toNat) _ g0 (wmem_s rfl))
  refine wl_of hX hb cL_1192 (xa_I (so := 0) (pc' := 1193) (a := 0) w1782 g0 (wsh_s _) (by omega) (wty_s _ _) (by omega) (by omega) rfl (fun b1786 b1787 => ?_))
  have k1789 : wKI H1778 m = wKI H m := (wKI_fr hW gm f1783 rfl)
  have k1790 : H1778 x 9 = H x 9 := (f1783 x 9 _ gx rfl)
  have k1791 : H1778 m 6 = H m 6 := (f1783 m 6 _ gm rfl)
  have k1792 : H1778 x 11 = H x 11 := (f1783 x 11 _ gx rfl)
  have k1793 : H1778 m 13 = H m 13 := (f1783 m 13 _ gm rfl)
  have k1794 : H1778 x 8 = H x 8 := (f1783 x 8 _ gx rfl)
  have k1795 : H1778 m 3 = H m 3 := (f1783 m 3 _ gm rfl)
  refine wl_of hX hb cL_1193 (xc_V (pc' := 1196) (r := m) (as := [vI (H1778 0 ((i + 1).toNat))]) (st := []) (lm_11_154) rfl rfl (Nat.le_of_ble_eq_true rfl) w1782 gm sh_42 (by decide) rfl (by decide) (s_271 w1782 gm ⟨by omega, by omega⟩ (by omega)) (fun R1796 T1797 H1798 p1799 => ?_))
  obtain ⟨e1800, w1802, f1803, z1805, e1801, b1806, p1804⟩ := p1799
  subst e1800
  subst e1801
  show WL _ _ _ _ 1196 [(4, vI i), (3, .ref o), (2, .ref m), (1, .ref x), (0, .ref 0)] [vI z1805] _ H1798
  refine wl_of hX hb cL_1196 (rw_pop (pc' := 1197) rfl rfl ?_)
  refine wl_of hX hb cL_1197 (rw_goto (p1 := 1653) (by decide) ?_)
  have k1807 : H1798 x 9 = H1778 x 9 := (f1803 x 9 _ gx rfl)
  have k1808 : H1798 m 6 = H1778 m 6 := (f1803 m 6 _ gm rfl)
  have k1809 : H1798 x 11 = H1778 x 11 := (f1803 x 11 _ gx rfl)
  have k1810 : H1798 m 13 = H1778 m 13 := (f1803 m 13 _ gm rfl)
  have k1811 : H1798 x 8 = H1778 x 8 := (f1803 x 8 _ gx rfl)
  have k1812 : H1798 m 3 = H1778 m 3 := (f1803 m 3 _ gm rfl)
  have h1813 : XI T H1798 x m := (XI_fr w1782 gx f1803 rfl (XI_fr hW gx f1783 rfl hXI))
  exact WL.loc hX (by simp) (next T H1798 ⟨⟨w1802, g0, gx, gm, go, by omega, by omega⟩, h1813, by omega, by omega⟩ (by omega) (by omega))
set_option maxHeartbeats 4000000 in
theorem wl_c32 {kt : Nat → Option mc_E} {CB SB : Nat} {X : mc_S → Prop} {T : wq_T} {H : wq_H} {Len x m o : Nat} {i : Int} (hX : wlX kt CB SB X) (hb : T.2.1 ≤ CB ∧ T.2.2.1 ≤ SB) (hI : wlJ Len x m o T H) (hL : Len ≤ 3072) (hi : 0 ≤ i ∧ i + 6 ≤ Len) (hb2 : T.2.1 + 20 ≤ CB ∧ T.2.2.1 + 500 ≤ SB)  (next : ∀ T' H', wlJ Len x m o T' H' → T'.2.1 ≤ T.2.1 + 20 → T'.2.2.1 ≤ T.2.2.1 + 500 → WL kt CB SB X 1653 (wlL i x m o) [] T' H') : WL kt CB SB X 1200 (wlL i x m o) [] T H := by
  obtain ⟨⟨hW, g0, gx, gm, go, hK, hr⟩, hXI, hY1, hY2⟩ := hI
  refine wl_of hX hb cL_1200 (rw_aload_n (pc' := 1201) (v := .ref x) rfl rfl rfl ?_)
  refine wl_of hX hb cL_1201 (rw_aload_n (pc' := 1202) (v := .ref 0) rfl rfl rfl ?_)
  refine wl_of hX hb cL_1202 (rw_iload (pc' := 1204) (z := i) rfl rfl ?_)
  refine wl_of hX hb cL_1204 (rw_iconst (pc' := 1205) rfl ?_)
  refine wl_of hX hb cL_1205 (rw_iadd (pc' := 1206) rfl ?_)
  refine wl_of hX hb cL_1206 (xa_I (so := 0) (pc' := 1207) (a := 0) hW g0 (wsh_s _) (by omega) (wty_s _ _) (by omega) (by omega) rfl (fun b1814 b1815 => ?_))
  refine wl_of hX hb cL_1207 (xc_V (pc' := 1210) (r := x) (as := [vI (H 0 ((i + 1).toNat))]) (st := []) (lm_11_155) rfl rfl (Nat.le_of_ble_eq_true rfl) hW gx sh_1 (by decide) rfl (by decide) (s_132 hW gx ⟨by omega, by omega⟩) (fun R1816 T1817 H1818 p1819 => ?_))
  obtain ⟨e1820, w1822, f1823, z1824, e1821, b1825⟩ := p1819
  subst e1820
  subst e1821
  show WL _ _ _ _ 1210 [(4, vI i), (3, .ref o), (2, .ref m), (1, .ref x), (0, .ref 0)] [vI z1824] _ H1818
  refine wl_of hX hb cL_1210 (rw_pop (pc' := 1211) rfl rfl ?_)
  refine wl_of hX hb cL_1211 (rw_aload_n (pc' := 1212) (v := .ref m) rfl rfl rfl ?_)
  refine wl_of hX hb cL_1212 (rw_aload_n (pc' := 1213) (v := .ref 0) rfl rfl rfl ?_)
  refine wl_of hX hb cL_1213 (rw_iload (pc' := 1215) (z := i) rfl rfl ?_)
  refine wl_of hX hb cL_1215 (rw_iconst (pc' := 1216) rfl ?_)
  refine wl_of hX hb cL_1216 (rw_iadd (pc' := 1217) rfl ?_)
  have k1828 : H1818 0 ((i + 1).toNat) = H 0 ((i + 1).toNat) := (f1823 0 ((i + 1).toNat) _ g0 (wmem_s rfl))
  refine wl_of hX hb cL_1217 (xa_I (so := 0) (pc' := 1218) (a := 0) w1822 g0 (wsh_s _) (by omega) (wty_s _ _) (by omega) (by omega) rfl (fun b1826 b1827 => ?_))
  have k1829 : wKI H1818 m = wKI H m := (wKI_fr hW gm f1823 rfl)
  have k1830 : H1818 x 9 = H x 9 := (f1823 x 9 _ gx rfl)
  have k1831 : H1818 m 6 = H m 6 := (f1823 m 6 _ gm rfl)
  have k1832 : H1818 x 11 = H x 11 := (f1823 x 11 _ gx rfl)
  have k1833 : H1818 m 13 = H m 13 := (f1823 m 13 _ gm rfl)
  have k1834 : H1818 x 8 = H x 8 := (f1823 x 8 _ gx rfl)
  have k1835 : H1818 m 3 = H m 3 := (f1823 m 3 _ gm rfl)
  refine wl_of hX hb cL_1218 (xc_V (pc' := 1221) (r := m) (as := [vI (H1818 0 ((i + 1).toNat))]) (st := []) (lm_11_158) rfl rfl (Nat.le_of_ble_eq_true rfl) w1822 gm sh_42 (by decide) rfl (by decide) (s_272 w1822 gm ⟨by omega, by omega⟩ (by omega)) (fun R1836 T1837 H1838 p1839 => ?_))
  obtain ⟨e1840, w1842, f1843, z1845, e1841, b1846, p1844⟩ := p1839
  subst e1840
  subst e1841
  show WL _ _ _ _ 1221 [(4, vI i), (3, .ref o), (2, .ref m), (1, .ref x), (0, .ref 0)] [vI z1845] _ H1838
  refine wl_of hX hb cL_1221 (rw_pop (pc' := 1222) rfl rfl ?_)
  refine wl_of hX hb cL_1222 (rw_goto (p1 := 1653) (by decide) ?_)
  have k1847 : H1838 x 9 = H1818 x 9 := (f1843 x 9 _ gx rfl)
  have k1848 : H1838 m 6 = H1818 m 6 := (f1843 m 6 _ gm rfl)
  have k1849 : H1838 x 11 = H1818 x 11 := (f1843 x 11 _ gx rfl)
  have k1850 : H1838 m 13 = H1818 m 13 := (f1843 m 13 _ gm rfl)
  have k1851 : H1838 x 8 = H1818 x 8 := (f1843 x 8 _ gx rfl)
  have k1852 : H1838 m 3 = H1818 m 3 := (f1843 m 3 _ gm rfl)
  have h1853 : XI T H1838 x m := (XI_fr w1822 gx f1843 rfl (XI_fr hW gx f1823 rfl hXI))
  exact WL.loc hX (by simp) (next T H1838 ⟨⟨w1842, g0, gx, gm, go, by omega, by omega⟩, h1853, by omega, by omega⟩ (by omega) (by omega))
set_option maxHeartbeats 4000000 in
theorem wl_c33 {kt : Nat → Option mc_E} {CB SB : Nat} {X : mc_S → Prop} {T : wq_T} {H : wq_H} {Len x m o : Nat} {i : Int} (hX : wlX kt CB SB X) (hb : T.2.1 ≤ CB ∧ T.2.2.1 ≤ SB) (hI : wlJ Len x m o T H) (hL : Len ≤ 3072) (hi : 0 ≤ i ∧ i + 6 ≤ Len) (hb2 : T.2.1 + 20 ≤ CB ∧ T.2.2.1 + 500 ≤ SB)  (next : ∀ T' H', wlJ Len x m o T' H' → T'.2.1 ≤ T.2.1 + 20 → T'.2.2.1 ≤ T.2.2.1 + 500 → WL kt CB SB X 1653 (wlL i x m o) [] T' H') : WL kt CB SB X 1225 (wlL i x m o) [] T H := by
  obtain ⟨⟨hW, g0, gx, gm, go, hK, hr⟩, hXI, hY1, hY2⟩ := hI
  refine wl_of hX hb cL_1225 (rw_aload_n (pc' := 1226) (v := .ref x) rfl rfl rfl ?_)
  refine wl_of hX hb cL_1226 (rw_aload_n (pc' := 1227) (v := .ref 0) rfl rfl rfl ?_)
  refine wl_of hX hb cL_1227 (rw_iload (pc' := 1229) (z := i) rfl rfl ?_)
  refine wl_of hX hb cL_1229 (rw_iconst (pc' := 1230) rfl ?_)
  refine wl_of hX hb cL_1230 (rw_iadd (pc' := 1231) rfl ?_)
  refine wl_of hX hb cL_1231 (xa_I (so := 0) (pc' := 1232) (a := 0) hW g0 (wsh_s _) (by omega) (wty_s _ _) (by omega) (by omega) rfl (fun b1854 b1855 => ?_))
  refine wl_of hX hb cL_1232 (xc_V (pc' := 1235) (r := x) (as := [vI (H 0 ((i + 1).toNat))]) (st := []) (lm_11_159) rfl rfl (Nat.le_of_ble_eq_true rfl) hW gx sh_1 (by decide) rfl (by decide) (s_135 hW gx ⟨by omega, by omega⟩) (fun R1856 T1857 H1858 p1859 => ?_))
  obtain ⟨e1860, w1862, f1863, z1864, e1861, b1865⟩ := p1859
  subst e1860
  subst e1861
  show WL _ _ _ _ 1235 [(4, vI i), (3, .ref o), (2, .ref m), (1, .ref x), (0, .ref 0)] [vI z1864] _ H1858
  refine wl_of hX hb cL_1235 (rw_pop (pc' := 1236) rfl rfl ?_)
  refine wl_of hX hb cL_1236 (rw_aload_n (pc' := 1237) (v := .ref m) rfl rfl rfl ?_)
  refine wl_of hX hb cL_1237 (rw_aload_n (pc' := 1238) (v := .ref 0) rfl rfl rfl ?_)
  refine wl_of hX hb cL_1238 (rw_iload (pc' := 1240) (z := i) rfl rfl ?_)
  refine wl_of hX hb cL_1240 (rw_iconst (pc' := 1241) rfl ?_)
  refine wl_of hX hb cL_1241 (rw_iadd (pc' := 1242) rfl ?_)
  have k1868 : H1858 0 ((i + 1).toNat) = H 0 ((i + 1).toNat) := (f1863 0 ((i + 1).toNat) _ g0 (wmem_s rfl))
  refine wl_of hX hb cL_1242 (xa_I (so := 0) (pc' := 1243) (a := 0) w1862 g0 (wsh_s _) (by omega) (wty_s _ _) (by omega) (by omega) rfl (fun b1866 b1867 => ?_))
  have k1869 : wKI H1858 m = wKI H m := (wKI_fr hW gm f1863 rfl)
  have k1870 : H1858 x 9 = H x 9 := (f1863 x 9 _ gx rfl)
  have k1871 : H1858 m 6 = H m 6 := (f1863 m 6 _ gm rfl)
  have k1872 : H1858 x 11 = H x 11 := (f1863 x 11 _ gx rfl)
  have k1873 : H1858 m 13 = H m 13 := (f1863 m 13 _ gm rfl)
  have k1874 : H1858 x 8 = H x 8 := (f1863 x 8 _ gx rfl)
  have k1875 : H1858 m 3 = H m 3 := (f1863 m 3 _ gm rfl)
  refine wl_of hX hb cL_1243 (xc_V (pc' := 1246) (r := m) (as := [vI (H1858 0 ((i + 1).toNat))]) (st := []) (lm_11_162) rfl rfl (Nat.le_of_ble_eq_true rfl) w1862 gm sh_42 (by decide) rfl (by decide) (s_275 w1862 gm ⟨by omega, by omega⟩ (by omega)) (fun R1876 T1877 H1878 p1879 => ?_))
  obtain ⟨e1880, w1882, f1883, z1885, e1881, b1886, p1884⟩ := p1879
  subst e1880
  subst e1881
  show WL _ _ _ _ 1246 [(4, vI i), (3, .ref o), (2, .ref m), (1, .ref x), (0, .ref 0)] [vI z1885] _ H1878
  refine wl_of hX hb cL_1246 (rw_pop (pc' := 1247) rfl rfl ?_)
  refine wl_of hX hb cL_1247 (rw_goto (p1 := 1653) (by decide) ?_)
  have k1887 : H1878 x 9 = H1858 x 9 := (f1883 x 9 _ gx rfl)
  have k1888 : H1878 m 6 = H1858 m 6 := (f1883 m 6 _ gm rfl)
  have k1889 : H1878 x 11 = H1858 x 11 := (f1883 x 11 _ gx rfl)
  have k1890 : H1878 m 13 = H1858 m 13 := (f1883 m 13 _ gm rfl)
  have k1891 : H1878 x 8 = H1858 x 8 := (f1883 x 8 _ gx rfl)
  have k1892 : H1878 m 3 = H1858 m 3 := (f1883 m 3 _ gm rfl)
  have h1893 : XI T H1878 x m := (XI_fr w1862 gx f1883 rfl (XI_fr hW gx f1863 rfl hXI))
  exact WL.loc hX (by simp) (next T H1878 ⟨⟨w1882, g0, gx, gm, go, by omega, by omega⟩, h1893, by omega, by omega⟩ (by omega) (by omega))
set_option maxHeartbeats 4000000 in
theorem wl_c34 {kt : Nat → Option mc_E} {CB SB : Nat} {X : mc_S → Prop} {T : wq_T} {H : wq_H} {Len x m o : Nat} {i : Int} (hX : wlX kt CB SB X) (hb : T.2.1 ≤ CB ∧ T.2.2.1 ≤ SB) (hI : wlJ Len x m o T H) (hL : Len ≤ 3072) (hi : 0 ≤ i ∧ i + 6 ≤ Len) (hb2 : T.2.1 + 20 ≤ CB ∧ T.2.2.1 + 500 ≤ SB)  (next : ∀ T' H', wlJ Len x m o T' H' → T'.2.1 ≤ T.2.1 + 20 → T'.2.2.1 ≤ T.2.2.1 + 500 → WL kt CB SB X 1653 (wlL i x m o) [] T' H') : WL kt CB SB X 1250 (wlL i x m o) [] T H := by
  obtain ⟨⟨hW, g0, gx, gm, go, hK, hr⟩, hXI, hY1, hY2⟩ := hI
  refine wl_of hX hb cL_1250 (rw_aload_n (pc' := 1251) (v := .ref x) rfl rfl rfl ?_)
  refine wl_of hX hb cL_1251 (xc_V (pc' := 1254) (r := x) (as := []) (st := []) (lm_11_163) rfl rfl (Nat.le_of_ble_eq_true rfl) hW gx sh_1 (by decide) rfl (by decide) (s_137 hW gx) (fun R1894 T1895 H1896 p1897 => ?_))
  obtain ⟨e1898, w1900, f1901, z1902, e1899, b1903⟩ := p1897
  subst e1898
  subst e1899
  show WL _ _ _ _ 1254 [(4, vI i), (3, .ref o), (2, .ref m), (1, .ref x), (0, .ref 0)] [vI z1902] _ H1896
  refine wl_of hX hb cL_1254 (rw_pop (pc' := 1255) rfl rfl ?_)
  refine wl_of hX hb cL_1255 (rw_aload_n (pc' := 1256) (v := .ref m) rfl rfl rfl ?_)
  have k1904 : wKI H1896 m = wKI H m := (wKI_fr hW gm f1901 rfl)
  have k1905 : H1896 x 9 = H x 9 := (f1901 x 9 _ gx rfl)
  have k1906 : H1896 m 6 = H m 6 := (f1901 m 6 _ gm rfl)
  have k1907 : H1896 x 11 = H x 11 := (f1901 x 11 _ gx rfl)
  have k1908 : H1896 m 13 = H m 13 := (f1901 m 13 _ gm rfl)
  have k1909 : H1896 x 8 = H x 8 := (f1901 x 8 _ gx rfl)
  have k1910 : H1896 m 3 = H m 3 := (f1901 m 3 _ gm rfl)
  refine wl_of hX hb cL_1256 (xc_V (pc' := 1259) (r := m) (as := []) (st := []) (lm_11_166) rfl rfl (Nat.le_of_ble_eq_true rfl) w1900 gm sh_42 (by decide) rfl (by decide) (s_276 w1900 gm (by omega)) (fun R1911 T1912 H1913 p1914 => ?_))
  obtain ⟨e1915, w1917, f1918, z1920, e1916, b1921, p1919⟩ := p1914
  subst e1915
  subst e1916
  show WL _ _ _ _ 1259 [(4, vI i), (3, .ref o), (2, .ref m), (1, .ref x), (0, .ref 0)] [vI z1920] _ H1913
  refine wl_of hX hb cL_1259 (rw_pop (pc' := 1260) rfl rfl ?_)
  refine wl_of hX hb cL_1260 (rw_goto (p1 := 1653) (by decide) ?_)
  have k1922 : H1913 x 9 = H1896 x 9 := (f1918 x 9 _ gx rfl)
  have k1923 : H1913 m 6 = H1896 m 6 := (f1918 m 6 _ gm rfl)
  have k1924 : H1913 x 11 = H1896 x 11 := (f1918 x 11 _ gx rfl)
  have k1925 : H1913 m 13 = H1896 m 13 := (f1918 m 13 _ gm rfl)
  have k1926 : H1913 x 8 = H1896 x 8 := (f1918 x 8 _ gx rfl)
  have k1927 : H1913 m 3 = H1896 m 3 := (f1918 m 3 _ gm rfl)
  have h1928 : XI T H1913 x m := (XI_fr w1900 gx f1918 rfl (XI_fr hW gx f1901 rfl hXI))
  exact WL.loc hX (by simp) (next T H1913 ⟨⟨w1917, g0, gx, gm, go, by omega, by omega⟩, h1928, by omega, by omega⟩ (by omega) (by omega))
set_option maxHeartbeats 4000000 in
theorem wl_c35 {kt : Nat → Option mc_E} {CB SB : Nat} {X : mc_S → Prop} {T : wq_T} {H : wq_H} {Len x m o : Nat} {i : Int} (hX : wlX kt CB SB X) (hb : T.2.1 ≤ CB ∧ T.2.2.1 ≤ SB) (hI : wlJ Len x m o T H) (hL : Len ≤ 3072) (hi : 0 ≤ i ∧ i + 6 ≤ Len) (hb2 : T.2.1 + 20 ≤ CB ∧ T.2.2.1 + 500 ≤ SB)  (next : ∀ T' H', wlJ Len x m o T' H' → T'.2.1 ≤ T.2.1 + 20 → T'.2.2.1 ≤ T.2.2.1 + 500 → WL kt CB SB X 1653 (wlL i x m o) [] T' H') : WL kt CB SB X 1263 (wlL i x m o) [] T H := by
  obtain ⟨⟨hW, g0, gx, gm, go, hK, hr⟩, hXI, hY1, hY2⟩ := hI
  refine wl_of hX hb cL_1263 (rw_aload_n (pc' := 1264) (v := .ref x) rfl rfl rfl ?_)
  refine wl_of hX hb cL_1264 (rw_aload_n (pc' := 1265) (v := .ref 0) rfl rfl rfl ?_)
  refine wl_of hX hb cL_1265 (rw_iload (pc' := 1267) (z := i) rfl rfl ?_)
  refine wl_of hX hb cL_1267 (rw_iconst (pc' := 1268) rfl ?_)
  refine wl_of hX hb cL_1268 (rw_iadd (pc' := 1269) rfl ?_)
  refine wl_of hX hb cL_1269 (xa_I (so := 0) (pc' := 1270) (a := 0) hW g0 (wsh_s _) (by omega) (wty_s _ _) (by omega) (by omega) rfl (fun b1929 b1930 => ?_))
  refine wl_of hX hb cL_1270 (rw_aload_n (pc' := 1271) (v := .ref 0) rfl rfl rfl ?_)
  refine wl_of hX hb cL_1271 (rw_iload (pc' := 1273) (z := i) rfl rfl ?_)
  refine wl_of hX hb cL_1273 (rw_iconst (pc' := 1274) rfl ?_)
  refine wl_of hX hb cL_1274 (rw_iadd (pc' := 1275) rfl ?_)
  refine wl_of hX hb cL_1275 (xa_I (so := 0) (pc' := 1276) (a := 0) hW g0 (wsh_s _) (by omega) (wty_s _ _) (by omega) (by omega) rfl (fun b1931 b1932 => ?_))
  refine wl_of hX hb cL_1276 (rw_if_eq (p1 := 1283) (p2 := 1279) (by decide) rfl ⟨by omega, by omega⟩ (fun c1933 => ?_) (fun c1933 => ?_))
  · refine wl_of hX hb cL_1283 (rw_iconst (pc' := 1284) rfl ?_)
    refine wl_of hX hb cL_1284 (xc_V (pc' := 1287) (r := x) (as := [vI (H 0 ((i + 1).toNat)), vI 0]) (st := []) (lm_11_167) rfl rfl (Nat.le_of_ble_eq_true rfl) hW gx sh_1 (by decide) rfl (by decide) (s_146 hW gx ⟨by omega, by omega⟩ ⟨by omega, by omega⟩) (fun R1934 T1935 H1936 p1937 => ?_))
    obtain ⟨e1938, w1940, f1941, z1942, e1939, b1943⟩ := p1937
    subst e1938
    subst e1939
    show WL _ _ _ _ 1287 [(4, vI i), (3, .ref o), (2, .ref m), (1, .ref x), (0, .ref 0)] [vI z1942] _ H1936
    refine wl_of hX hb cL_1287 (rw_pop (pc' := 1288) rfl rfl ?_)
    refine wl_of hX hb cL_1288 (rw_aload_n (pc' := 1289) (v := .ref m) rfl rfl rfl ?_)
    refine wl_of hX hb cL_1289 (rw_aload_n (pc' := 1290) (v := .ref 0) rfl rfl rfl ?_)
    refine wl_of hX hb cL_1290 (rw_iload (pc' := 1292) (z := i) rfl rfl ?_)
    refine wl_of hX hb cL_1292 (rw_iconst (pc' := 1293) rfl ?_)
    refine wl_of hX hb cL_1293 (rw_iadd (pc' := 1294) rfl ?_)
    have k1946 : H1936 0 ((i + 1).toNat) = H 0 ((i + 1).toNat) := (f1941 0 ((i + 1).toNat) _ g0 (wmem_s rfl))
    refine wl_of hX hb cL_1294 (xa_I (so := 0) (pc' := 1295) (a := 0) w1940 g0 (wsh_s _) (by omega) (wty_s _ _) (by omega) (by omega) rfl (fun b1944 b1945 => ?_))
    refine wl_of hX hb cL_1295 (rw_aload_n (pc' := 1296) (v := .ref 0) rfl rfl rfl ?_)
    refine wl_of hX hb cL_1296 (rw_iload (pc' := 1298) (z := i) rfl rfl ?_)
    refine wl_of hX hb cL_1298 (rw_iconst (pc' := 1299) rfl ?_)
    refine wl_of hX hb cL_1299 (rw_iadd (pc' := 1300) rfl ?_)
    have k1949 : H1936 0 ((i + 2).toNat) = H 0 ((i + 2).toNat) := (f1941 0 ((i + 2).toNat) _ g0 (wmem_s rfl))
    refine wl_of hX hb cL_1300 (xa_I (so := 0) (pc' := 1301) (a := 0) w1940 g0 (wsh_s _) (by omega) (wty_s _ _) (by omega) (by omega) rfl (fun b1947 b1948 => ?_))
    refine wl_of hX hb cL_1301 (rw_if_eq (p1 := 1308) (p2 := 1304) (by decide) rfl ⟨by omega, by omega⟩ (fun c1950 => ?_) (fun c1950 => ?_))
    · refine wl_of hX hb cL_1308 (rw_iconst (pc' := 1309) rfl ?_)
      have k1951 : wKI H1936 m = wKI H m := (wKI_fr hW gm f1941 rfl)
      have k1952 : H1936 x 9 = H x 9 := (f1941 x 9 _ gx rfl)
      have k1953 : H1936 m 6 = H m 6 := (f1941 m 6 _ gm rfl)
      have k1954 : H1936 x 11 = H x 11 := (f1941 x 11 _ gx rfl)
      have k1955 : H1936 m 13 = H m 13 := (f1941 m 13 _ gm rfl)
      have k1956 : H1936 x 8 = H x 8 := (f1941 x 8 _ gx rfl)
      have k1957 : H1936 m 3 = H m 3 := (f1941 m 3 _ gm rfl)
      refine wl_of hX hb cL_1309 (xc_V (pc' := 1312) (r := m) (as := [vI (H1936 0 ((i + 1).toNat)), vI 0]) (st := []) (lm_11_170) rfl rfl (Nat.le_of_ble_eq_true rfl) w1940 gm sh_42 (by decide) rfl (by decide) (s_279 w1940 gm ⟨by omega, by omega⟩ ⟨by omega, by omega⟩ (by omega)) (fun R1958 T1959 H1960 p1961 => ?_))
      obtain ⟨e1962, w1964, f1965, z1967, e1963, b1968, p1966⟩ := p1961
      subst e1962
      subst e1963
      show WL _ _ _ _ 1312 [(4, vI i), (3, .ref o), (2, .ref m), (1, .ref x), (0, .ref 0)] [vI z1967] _ H1960
      refine wl_of hX hb cL_1312 (rw_pop (pc' := 1313) rfl rfl ?_)
      refine wl_of hX hb cL_1313 (rw_goto (p1 := 1653) (by decide) ?_)
      have k1969 : H1960 x 9 = H1936 x 9 := (f1965 x 9 _ gx rfl)
      have k1970 : H1960 m 6 = H1936 m 6 := (f1965 m 6 _ gm rfl)
      have k1971 : H1960 x 11 = H1936 x 11 := (f1965 x 11 _ gx rfl)
      have k1972 : H1960 m 13 = H1936 m 13 := (f1965 m 13 _ gm rfl)
      have k1973 : H1960 x 8 = H1936 x 8 := (f1965 x 8 _ gx rfl)
      have k1974 : H1960 m 3 = H1936 m 3 := (f1965 m 3 _ gm rfl)
      have h1975 : XI T H1960 x m := (XI_fr w1940 gx f1965 rfl (XI_fr hW gx f1941 rfl hXI))
      exact WL.loc hX (by simp) (next T H1960 ⟨⟨w1964, g0, gx, gm, go, by omega, by omega⟩, h1975, by omega, by omega⟩ (by omega) (by omega))
    · exfalso
      omega
  · refine wl_of hX hb cL_1279 (rw_iconst (pc' := 1280) rfl ?_)
    refine wl_of hX hb cL_1280 (rw_goto (p1 := 1284) (by decide) ?_)
    refine wl_of hX hb cL_1284 (xc_V (pc' := 1287) (r := x) (as := [vI (H 0 ((i + 1).toNat)), vI 1]) (st := []) (lm_11_167) rfl rfl (Nat.le_of_ble_eq_true rfl) hW gx sh_1 (by decide) rfl (by decide) (s_146 hW gx ⟨by omega, by omega⟩ ⟨by omega, by omega⟩) (fun R1976 T1977 H1978 p1979 => ?_))
    obtain ⟨e1980, w1982, f1983, z1984, e1981, b1985⟩ := p1979
    subst e1980
    subst e1981
    show WL _ _ _ _ 1287 [(4, vI i), (3, .ref o), (2, .ref m), (1, .ref x), (0, .ref 0)] [vI z1984] _ H1978
    refine wl_of hX hb cL_1287 (rw_pop (pc' := 1288) rfl rfl ?_)
    refine wl_of hX hb cL_1288 (rw_aload_n (pc' := 1289) (v := .ref m) rfl rfl rfl ?_)
    refine wl_of hX hb cL_1289 (rw_aload_n (pc' := 1290) (v := .ref 0) rfl rfl rfl ?_)
    refine wl_of hX hb cL_1290 (rw_iload (pc' := 1292) (z := i) rfl rfl ?_)
    refine wl_of hX hb cL_1292 (rw_iconst (pc' := 1293) rfl ?_)
    refine wl_of hX hb cL_1293 (rw_iadd (pc' := 1294) rfl ?_)
    have k1988 : H1978 0 ((i + 1).toNat) = H 0 ((i + 1).toNat) := (f1983 0 ((i + 1).toNat) _ g0 (wmem_s rfl))
    refine wl_of hX hb cL_1294 (xa_I (so := 0) (pc' := 1295) (a := 0) w1982 g0 (wsh_s _) (by omega) (wty_s _ _) (by omega) (by omega) rfl (fun b1986 b1987 => ?_))
    refine wl_of hX hb cL_1295 (rw_aload_n (pc' := 1296) (v := .ref 0) rfl rfl rfl ?_)
    refine wl_of hX hb cL_1296 (rw_iload (pc' := 1298) (z := i) rfl rfl ?_)
    refine wl_of hX hb cL_1298 (rw_iconst (pc' := 1299) rfl ?_)
    refine wl_of hX hb cL_1299 (rw_iadd (pc' := 1300) rfl ?_)
    have k1991 : H1978 0 ((i + 2).toNat) = H 0 ((i + 2).toNat) := (f1983 0 ((i + 2).toNat) _ g0 (wmem_s rfl))
    refine wl_of hX hb cL_1300 (xa_I (so := 0) (pc' := 1301) (a := 0) w1982 g0 (wsh_s _) (by omega) (wty_s _ _) (by omega) (by omega) rfl (fun b1989 b1990 => ?_))
    refine wl_of hX hb cL_1301 (rw_if_eq (p1 := 1308) (p2 := 1304) (by decide) rfl ⟨by omega, by omega⟩ (fun c1992 => ?_) (fun c1992 => ?_))
    · refine wl_of hX hb cL_1308 (rw_iconst (pc' := 1309) rfl ?_)
      have k1993 : wKI H1978 m = wKI H m := (wKI_fr hW gm f1983 rfl)
      have k1994 : H1978 x 9 = H x 9 := (f1983 x 9 _ gx rfl)
      have k1995 : H1978 m 6 = H m 6 := (f1983 m 6 _ gm rfl)
      have k1996 : H1978 x 11 = H x 11 := (f1983 x 11 _ gx rfl)
      have k1997 : H1978 m 13 = H m 13 := (f1983 m 13 _ gm rfl)
      have k1998 : H1978 x 8 = H x 8 := (f1983 x 8 _ gx rfl)
      have k1999 : H1978 m 3 = H m 3 := (f1983 m 3 _ gm rfl)
      refine wl_of hX hb cL_1309 (xc_V (pc' := 1312) (r := m) (as := [vI (H1978 0 ((i + 1).toNat)), vI 0]) (st := []) (lm_11_170) rfl rfl (Nat.le_of_ble_eq_true rfl) w1982 gm sh_42 (by decide) rfl (by decide) (s_279 w1982 gm ⟨by omega, by omega⟩ ⟨by omega, by omega⟩ (by omega)) (fun R2000 T2001 H2002 p2003 => ?_))
      obtain ⟨e2004, w2006, f2007, z2009, e2005, b2010, p2008⟩ := p2003
      subst e2004
      subst e2005
      show WL _ _ _ _ 1312 [(4, vI i), (3, .ref o), (2, .ref m), (1, .ref x), (0, .ref 0)] [vI z2009] _ H2002
      refine wl_of hX hb cL_1312 (rw_pop (pc' := 1313) rfl rfl ?_)
      refine wl_of hX hb cL_1313 (rw_goto (p1 := 1653) (by decide) ?_)
      have k2011 : H2002 x 9 = H1978 x 9 := (f2007 x 9 _ gx rfl)
      have k2012 : H2002 m 6 = H1978 m 6 := (f2007 m 6 _ gm rfl)
      have k2013 : H2002 x 11 = H1978 x 11 := (f2007 x 11 _ gx rfl)
      have k2014 : H2002 m 13 = H1978 m 13 := (f2007 m 13 _ gm rfl)
      have k2015 : H2002 x 8 = H1978 x 8 := (f2007 x 8 _ gx rfl)
      have k2016 : H2002 m 3 = H1978 m 3 := (f2007 m 3 _ gm rfl)
      have h2017 : XI T H2002 x m := (XI_fr w1982 gx f2007 rfl (XI_fr hW gx f1983 rfl hXI))
      exact WL.loc hX (by simp) (next T H2002 ⟨⟨w2006, g0, gx, gm, go, by omega, by omega⟩, h2017, by omega, by omega⟩ (by omega) (by omega))
    · refine wl_of hX hb cL_1304 (rw_iconst (pc' := 1305) rfl ?_)
      refine wl_of hX hb cL_1305 (rw_goto (p1 := 1309) (by decide) ?_)
      have k2018 : wKI H1978 m = wKI H m := (wKI_fr hW gm f1983 rfl)
      have k2019 : H1978 x 9 = H x 9 := (f1983 x 9 _ gx rfl)
      have k2020 : H1978 m 6 = H m 6 := (f1983 m 6 _ gm rfl)
      have k2021 : H1978 x 11 = H x 11 := (f1983 x 11 _ gx rfl)
      have k2022 : H1978 m 13 = H m 13 := (f1983 m 13 _ gm rfl)
      have k2023 : H1978 x 8 = H x 8 := (f1983 x 8 _ gx rfl)
      have k2024 : H1978 m 3 = H m 3 := (f1983 m 3 _ gm rfl)
      refine wl_of hX hb cL_1309 (xc_V (pc' := 1312) (r := m) (as := [vI (H1978 0 ((i + 1).toNat)), vI 1]) (st := []) (lm_11_170) rfl rfl (Nat.le_of_ble_eq_true rfl) w1982 gm sh_42 (by decide) rfl (by decide) (s_279 w1982 gm ⟨by omega, by omega⟩ ⟨by omega, by omega⟩ (by omega)) (fun R2025 T2026 H2027 p2028 => ?_))
      obtain ⟨e2029, w2031, f2032, z2034, e2030, b2035, p2033⟩ := p2028
      subst e2029
      subst e2030
      show WL _ _ _ _ 1312 [(4, vI i), (3, .ref o), (2, .ref m), (1, .ref x), (0, .ref 0)] [vI z2034] _ H2027
      refine wl_of hX hb cL_1312 (rw_pop (pc' := 1313) rfl rfl ?_)
      refine wl_of hX hb cL_1313 (rw_goto (p1 := 1653) (by decide) ?_)
      have k2036 : H2027 x 9 = H1978 x 9 := (f2032 x 9 _ gx rfl)
      have k2037 : H2027 m 6 = H1978 m 6 := (f2032 m 6 _ gm rfl)
      have k2038 : H2027 x 11 = H1978 x 11 := (f2032 x 11 _ gx rfl)
      have k2039 : H2027 m 13 = H1978 m 13 := (f2032 m 13 _ gm rfl)
      have k2040 : H2027 x 8 = H1978 x 8 := (f2032 x 8 _ gx rfl)
      have k2041 : H2027 m 3 = H1978 m 3 := (f2032 m 3 _ gm rfl)
      have h2042 : XI T H2027 x m := (XI_fr w1982 gx f2032 rfl (XI_fr hW gx f1983 rfl hXI))
      exact WL.loc hX (by simp) (next T H2027 ⟨⟨w2031, g0, gx, gm, go, by omega, by omega⟩, h2042, by omega, by omega⟩ (by omega) (by omega))
set_option maxHeartbeats 4000000 in
theorem wl_c36 {kt : Nat → Option mc_E} {CB SB : Nat} {X : mc_S → Prop} {T : wq_T} {H : wq_H} {Len x m o : Nat} {i : Int} (hX : wlX kt CB SB X) (hb : T.2.1 ≤ CB ∧ T.2.2.1 ≤ SB) (hI : wlJ Len x m o T H) (hL : Len ≤ 3072) (hi : 0 ≤ i ∧ i + 6 ≤ Len) (hb2 : T.2.1 + 20 ≤ CB ∧ T.2.2.1 + 500 ≤ SB)  (next : ∀ T' H', wlJ Len x m o T' H' → T'.2.1 ≤ T.2.1 + 20 → T'.2.2.1 ≤ T.2.2.1 + 500 → WL kt CB SB X 1653 (wlL i x m o) [] T' H') : WL kt CB SB X 1316 (wlL i x m o) [] T H := by
  obtain ⟨⟨hW, g0, gx, gm, go, hK, hr⟩, hXI, hY1, hY2⟩ := hI
  refine wl_of hX hb cL_1316 (rw_aload_n (pc' := 1317) (v := .ref x) rfl rfl rfl ?_)
  refine wl_of hX hb cL_1317 (xc_V (pc' := 1320) (r := x) (as := []) (st := []) (lm_11_171) rfl rfl (Nat.le_of_ble_eq_true rfl) hW gx sh_1 (by decide) rfl (by decide) (s_147 hW gx) (fun R2043 T2044 H2045 p2046 => ?_))
  obtain ⟨e2047, w2049, f2050, z2051, e2048, b2052⟩ := p2046
  subst e2047
  subst e2048
  show WL _ _ _ _ 1320 [(4, vI i), (3, .ref o), (2, .ref m), (1, .ref x), (0, .ref 0)] [vI z2051] _ H2045
  refine wl_of hX hb cL_1320 (rw_pop (pc' := 1321) rfl rfl ?_)
  refine wl_of hX hb cL_1321 (rw_aload_n (pc' := 1322) (v := .ref m) rfl rfl rfl ?_)
  have k2053 : wKI H2045 m = wKI H m := (wKI_fr hW gm f2050 rfl)
  have k2054 : H2045 x 9 = H x 9 := (f2050 x 9 _ gx rfl)
  have k2055 : H2045 m 6 = H m 6 := (f2050 m 6 _ gm rfl)
  have k2056 : H2045 x 11 = H x 11 := (f2050 x 11 _ gx rfl)
  have k2057 : H2045 m 13 = H m 13 := (f2050 m 13 _ gm rfl)
  have k2058 : H2045 x 8 = H x 8 := (f2050 x 8 _ gx rfl)
  have k2059 : H2045 m 3 = H m 3 := (f2050 m 3 _ gm rfl)
  refine wl_of hX hb cL_1322 (xc_V (pc' := 1325) (r := m) (as := []) (st := []) (lm_11_174) rfl rfl (Nat.le_of_ble_eq_true rfl) w2049 gm sh_42 (by decide) rfl (by decide) (s_282 w2049 gm (by omega)) (fun R2060 T2061 H2062 p2063 => ?_))
  obtain ⟨e2064, w2066, f2067, z2069, e2065, b2070, p2068⟩ := p2063
  subst e2064
  subst e2065
  show WL _ _ _ _ 1325 [(4, vI i), (3, .ref o), (2, .ref m), (1, .ref x), (0, .ref 0)] [vI z2069] _ H2062
  refine wl_of hX hb cL_1325 (rw_pop (pc' := 1326) rfl rfl ?_)
  refine wl_of hX hb cL_1326 (rw_goto (p1 := 1653) (by decide) ?_)
  have k2071 : H2062 x 9 = H2045 x 9 := (f2067 x 9 _ gx rfl)
  have k2072 : H2062 m 6 = H2045 m 6 := (f2067 m 6 _ gm rfl)
  have k2073 : H2062 x 11 = H2045 x 11 := (f2067 x 11 _ gx rfl)
  have k2074 : H2062 m 13 = H2045 m 13 := (f2067 m 13 _ gm rfl)
  have k2075 : H2062 x 8 = H2045 x 8 := (f2067 x 8 _ gx rfl)
  have k2076 : H2062 m 3 = H2045 m 3 := (f2067 m 3 _ gm rfl)
  have h2077 : XI T H2062 x m := (XI_fr w2049 gx f2067 rfl (XI_fr hW gx f2050 rfl hXI))
  exact WL.loc hX (by simp) (next T H2062 ⟨⟨w2066, g0, gx, gm, go, by omega, by omega⟩, h2077, by omega, by omega⟩ (by omega) (by omega))
set_option maxHeartbeats 4000000 in
theorem wl_c37 {kt : Nat → Option mc_E} {CB SB : Nat} {X : mc_S → Prop} {T : wq_T} {H : wq_H} {Len x m o : Nat} {i : Int} (hX : wlX kt CB SB X) (hb : T.2.1 ≤ CB ∧ T.2.2.1 ≤ SB) (hI : wlJ Len x m o T H) (hL : Len ≤ 3072) (hi : 0 ≤ i ∧ i + 6 ≤ Len) (hb2 : T.2.1 + 20 ≤ CB ∧ T.2.2.1 + 500 ≤ SB)  (next : ∀ T' H', wlJ Len x m o T' H' → T'.2.1 ≤ T.2.1 + 20 → T'.2.2.1 ≤ T.2.2.1 + 500 → WL kt CB SB X 1653 (wlL i x m o) [] T' H') : WL kt CB SB X 1329 (wlL i x m o) [] T H := by
  obtain ⟨⟨hW, g0, gx, gm, go, hK, hr⟩, hXI, hY1, hY2⟩ := hI
  refine wl_of hX hb cL_1329 (rw_aload_n (pc' := 1330) (v := .ref x) rfl rfl rfl ?_)
  refine wl_of hX hb cL_1330 (xc_V (pc' := 1333) (r := x) (as := []) (st := []) (lm_11_175) rfl rfl (Nat.le_of_ble_eq_true rfl) hW gx sh_1 (by decide) rfl (by decide) (s_149 hW gx) (fun R2078 T2079 H2080 p2081 => ?_))
  obtain ⟨e2082, w2084, f2085, z2086, e2083, b2087⟩ := p2081
  subst e2082
  subst e2083
  show WL _ _ _ _ 1333 [(4, vI i), (3, .ref o), (2, .ref m), (1, .ref x), (0, .ref 0)] [vI z2086] _ H2080
  refine wl_of hX hb cL_1333 (rw_pop (pc' := 1334) rfl rfl ?_)
  refine wl_of hX hb cL_1334 (rw_aload_n (pc' := 1335) (v := .ref m) rfl rfl rfl ?_)
  have k2088 : wKI H2080 m = wKI H m := (wKI_fr hW gm f2085 rfl)
  have k2089 : H2080 x 9 = H x 9 := (f2085 x 9 _ gx rfl)
  have k2090 : H2080 m 6 = H m 6 := (f2085 m 6 _ gm rfl)
  have k2091 : H2080 x 11 = H x 11 := (f2085 x 11 _ gx rfl)
  have k2092 : H2080 m 13 = H m 13 := (f2085 m 13 _ gm rfl)
  have k2093 : H2080 x 8 = H x 8 := (f2085 x 8 _ gx rfl)
  have k2094 : H2080 m 3 = H m 3 := (f2085 m 3 _ gm rfl)
  refine wl_of hX hb cL_1335 (xc_V (pc' := 1338) (r := m) (as := []) (st := []) (lm_11_178) rfl rfl (Nat.le_of_ble_eq_true rfl) w2084 gm sh_42 (by decide) rfl (by decide) (s_283 w2084 gm (by omega)) (fun R2095 T2096 H2097 p2098 => ?_))
  obtain ⟨e2099, w2101, f2102, z2104, e2100, b2105, p2103⟩ := p2098
  subst e2099
  subst e2100
  show WL _ _ _ _ 1338 [(4, vI i), (3, .ref o), (2, .ref m), (1, .ref x), (0, .ref 0)] [vI z2104] _ H2097
  refine wl_of hX hb cL_1338 (rw_pop (pc' := 1339) rfl rfl ?_)
  refine wl_of hX hb cL_1339 (rw_goto (p1 := 1653) (by decide) ?_)
  have k2106 : H2097 x 9 = H2080 x 9 := (f2102 x 9 _ gx rfl)
  have k2107 : H2097 m 6 = H2080 m 6 := (f2102 m 6 _ gm rfl)
  have k2108 : H2097 x 11 = H2080 x 11 := (f2102 x 11 _ gx rfl)
  have k2109 : H2097 m 13 = H2080 m 13 := (f2102 m 13 _ gm rfl)
  have k2110 : H2097 x 8 = H2080 x 8 := (f2102 x 8 _ gx rfl)
  have k2111 : H2097 m 3 = H2080 m 3 := (f2102 m 3 _ gm rfl)
  have h2112 : XI T H2097 x m := (XI_fr w2084 gx f2102 rfl (XI_fr hW gx f2085 rfl hXI))
  exact WL.loc hX (by simp) (next T H2097 ⟨⟨w2101, g0, gx, gm, go, by omega, by omega⟩, h2112, by omega, by omega⟩ (by omega) (by omega))
set_option maxHeartbeats 4000000 in
theorem wl_c38 {kt : Nat → Option mc_E} {CB SB : Nat} {X : mc_S → Prop} {T : wq_T} {H : wq_H} {Len x m o : Nat} {i : Int} (hX : wlX kt CB SB X) (hb : T.2.1 ≤ CB ∧ T.2.2.1 ≤ SB) (hI : wlJ Len x m o T H) (hL : Len ≤ 3072) (hi : 0 ≤ i ∧ i + 6 ≤ Len) (hb2 : T.2.1 + 20 ≤ CB ∧ T.2.2.1 + 500 ≤ SB)  (next : ∀ T' H', wlJ Len x m o T' H' → T'.2.1 ≤ T.2.1 + 20 → T'.2.2.1 ≤ T.2.2.1 + 500 → WL kt CB SB X 1653 (wlL i x m o) [] T' H') : WL kt CB SB X 1342 (wlL i x m o) [] T H := by
  obtain ⟨⟨hW, g0, gx, gm, go, hK, hr⟩, hXI, hY1, hY2⟩ := hI
  refine wl_of hX hb cL_1342 (rw_aload_n (pc' := 1343) (v := .ref x) rfl rfl rfl ?_)
  refine wl_of hX hb cL_1343 (rw_aload_n (pc' := 1344) (v := .ref 0) rfl rfl rfl ?_)
  refine wl_of hX hb cL_1344 (rw_iload (pc' := 1346) (z := i) rfl rfl ?_)
  refine wl_of hX hb cL_1346 (rw_iconst (pc' := 1347) rfl ?_)
  refine wl_of hX hb cL_1347 (rw_iadd (pc' := 1348) rfl ?_)
  refine wl_of hX hb cL_1348 (xa_I (so := 0) (pc' := 1349) (a := 0) hW g0 (wsh_s _) (by omega) (wty_s _ _) (by omega) (by omega) rfl (fun b2113 b2114 => ?_))
  refine wl_of hX hb cL_1349 (xc_V (pc' := 1352) (r := x) (as := [vI (H 0 ((i + 1).toNat))]) (st := []) (lm_11_179) rfl rfl (Nat.le_of_ble_eq_true rfl) hW gx sh_1 (by decide) rfl (by decide) (s_152 hW gx ⟨by omega, by omega⟩) (fun R2115 T2116 H2117 p2118 => ?_))
  obtain ⟨e2119, w2121, f2122, z2123, e2120, b2124⟩ := p2118
  subst e2119
  subst e2120
  show WL _ _ _ _ 1352 [(4, vI i), (3, .ref o), (2, .ref m), (1, .ref x), (0, .ref 0)] [vI z2123] _ H2117
  refine wl_of hX hb cL_1352 (rw_pop (pc' := 1353) rfl rfl ?_)
  refine wl_of hX hb cL_1353 (rw_aload_n (pc' := 1354) (v := .ref m) rfl rfl rfl ?_)
  refine wl_of hX hb cL_1354 (rw_aload_n (pc' := 1355) (v := .ref 0) rfl rfl rfl ?_)
  refine wl_of hX hb cL_1355 (rw_iload (pc' := 1357) (z := i) rfl rfl ?_)
  refine wl_of hX hb cL_1357 (rw_iconst (pc' := 1358) rfl ?_)
  refine wl_of hX hb cL_1358 (rw_iadd (pc' := 1359) rfl ?_)
  have k2127 : H2117 0 ((i + 1).toNat) = H 0 ((i + 1).toNat) := (f2122 0 ((i + 1).toNat) _ g0 (wmem_s rfl))
  refine wl_of hX hb cL_1359 (xa_I (so := 0) (pc' := 1360) (a := 0) w2121 g0 (wsh_s _) (by omega) (wty_s _ _) (by omega) (by omega) rfl (fun b2125 b2126 => ?_))
  have k2128 : wKI H2117 m = wKI H m := (wKI_fr hW gm f2122 rfl)
  have k2129 : H2117 x 9 = H x 9 := (f2122 x 9 _ gx rfl)
  have k2130 : H2117 m 6 = H m 6 := (f2122 m 6 _ gm rfl)
  have k2131 : H2117 x 11 = H x 11 := (f2122 x 11 _ gx rfl)
  have k2132 : H2117 m 13 = H m 13 := (f2122 m 13 _ gm rfl)
  have k2133 : H2117 x 8 = H x 8 := (f2122 x 8 _ gx rfl)
  have k2134 : H2117 m 3 = H m 3 := (f2122 m 3 _ gm rfl)
  refine wl_of hX hb cL_1360 (xc_V (pc' := 1363) (r := m) (as := [vI (H2117 0 ((i + 1).toNat))]) (st := []) (lm_11_182) rfl rfl (Nat.le_of_ble_eq_true rfl) w2121 gm sh_42 (by decide) rfl (by decide) (s_284 w2121 gm ⟨by omega, by omega⟩ (by omega)) (fun R2135 T2136 H2137 p2138 => ?_))
  obtain ⟨e2139, w2141, f2142, z2144, e2140, b2145, p2143⟩ := p2138
  subst e2139
  subst e2140
  show WL _ _ _ _ 1363 [(4, vI i), (3, .ref o), (2, .ref m), (1, .ref x), (0, .ref 0)] [vI z2144] _ H2137
  refine wl_of hX hb cL_1363 (rw_pop (pc' := 1364) rfl rfl ?_)
  refine wl_of hX hb cL_1364 (rw_goto (p1 := 1653) (by decide) ?_)
  have k2146 : H2137 x 9 = H2117 x 9 := (f2142 x 9 _ gx rfl)
  have k2147 : H2137 m 6 = H2117 m 6 := (f2142 m 6 _ gm rfl)
  have k2148 : H2137 x 11 = H2117 x 11 := (f2142 x 11 _ gx rfl)
  have k2149 : H2137 m 13 = H2117 m 13 := (f2142 m 13 _ gm rfl)
  have k2150 : H2137 x 8 = H2117 x 8 := (f2142 x 8 _ gx rfl)
  have k2151 : H2137 m 3 = H2117 m 3 := (f2142 m 3 _ gm rfl)
  have h2152 : XI T H2137 x m := (XI_fr w2121 gx f2142 rfl (XI_fr hW gx f2122 rfl hXI))
  exact WL.loc hX (by simp) (next T H2137 ⟨⟨w2141, g0, gx, gm, go, by omega, by omega⟩, h2152, by omega, by omega⟩ (by omega) (by omega))
set_option maxHeartbeats 4000000 in
theorem wl_c39 {kt : Nat → Option mc_E} {CB SB : Nat} {X : mc_S → Prop} {T : wq_T} {H : wq_H} {Len x m o : Nat} {i : Int} (hX : wlX kt CB SB X) (hb : T.2.1 ≤ CB ∧ T.2.2.1 ≤ SB) (hI : wlJ Len x m o T H) (hL : Len ≤ 3072) (hi : 0 ≤ i ∧ i + 6 ≤ Len) (hb2 : T.2.1 + 20 ≤ CB ∧ T.2.2.1 + 500 ≤ SB)  (next : ∀ T' H', wlJ Len x m o T' H' → T'.2.1 ≤ T.2.1 + 20 → T'.2.2.1 ≤ T.2.2.1 + 500 → WL kt CB SB X 1653 (wlL i x m o) [] T' H') : WL kt CB SB X 1367 (wlL i x m o) [] T H := by
  obtain ⟨⟨hW, g0, gx, gm, go, hK, hr⟩, hXI, hY1, hY2⟩ := hI
  refine wl_of hX hb cL_1367 (rw_aload_n (pc' := 1368) (v := .ref x) rfl rfl rfl ?_)
  refine wl_of hX hb cL_1368 (rw_aload_n (pc' := 1369) (v := .ref 0) rfl rfl rfl ?_)
  refine wl_of hX hb cL_1369 (rw_iload (pc' := 1371) (z := i) rfl rfl ?_)
  refine wl_of hX hb cL_1371 (rw_iconst (pc' := 1372) rfl ?_)
  refine wl_of hX hb cL_1372 (rw_iadd (pc' := 1373) rfl ?_)
  refine wl_of hX hb cL_1373 (xa_I (so := 0) (pc' := 1374) (a := 0) hW g0 (wsh_s _) (by omega) (wty_s _ _) (by omega) (by omega) rfl (fun b2153 b2154 => ?_))
  refine wl_of hX hb cL_1374 (rw_aload_n (pc' := 1375) (v := .ref 0) rfl rfl rfl ?_)
  refine wl_of hX hb cL_1375 (rw_iload (pc' := 1377) (z := i) rfl rfl ?_)
  refine wl_of hX hb cL_1377 (rw_iconst (pc' := 1378) rfl ?_)
  refine wl_of hX hb cL_1378 (rw_iadd (pc' := 1379) rfl ?_)
  refine wl_of hX hb cL_1379 (xa_I (so := 0) (pc' := 1380) (a := 0) hW g0 (wsh_s _) (by omega) (wty_s _ _) (by omega) (by omega) rfl (fun b2155 b2156 => ?_))
  refine wl_of hX hb cL_1380 (xc_V (pc' := 1383) (r := x) (as := [vI (H 0 ((i + 1).toNat)), vI (H 0 ((i + 2).toNat))]) (st := []) (lm_11_183) rfl rfl (Nat.le_of_ble_eq_true rfl) hW gx sh_1 (by decide) rfl (by decide) (s_153 hW gx ⟨by omega, by omega⟩ ⟨by omega, by omega⟩) (fun R2157 T2158 H2159 p2160 => ?_))
  obtain ⟨e2161, w2163, f2164, z2165, e2162, b2166⟩ := p2160
  subst e2161
  subst e2162
  show WL _ _ _ _ 1383 [(4, vI i), (3, .ref o), (2, .ref m), (1, .ref x), (0, .ref 0)] [vI z2165] _ H2159
  refine wl_of hX hb cL_1383 (rw_pop (pc' := 1384) rfl rfl ?_)
  refine wl_of hX hb cL_1384 (rw_aload_n (pc' := 1385) (v := .ref m) rfl rfl rfl ?_)
  refine wl_of hX hb cL_1385 (rw_aload_n (pc' := 1386) (v := .ref 0) rfl rfl rfl ?_)
  refine wl_of hX hb cL_1386 (rw_iload (pc' := 1388) (z := i) rfl rfl ?_)
  refine wl_of hX hb cL_1388 (rw_iconst (pc' := 1389) rfl ?_)
  refine wl_of hX hb cL_1389 (rw_iadd (pc' := 1390) rfl ?_)
  have k2169 : H2159 0 ((i + 1).toNat) = H 0 ((i + 1).toNat) := (f2164 0 ((i + 1).toNat) _ g0 (wmem_s rfl))
  refine wl_of hX hb cL_1390 (xa_I (so := 0) (pc' := 1391) (a := 0) w2163 g0 (wsh_s _) (by omega) (wty_s _ _) (by omega) (by omega) rfl (fun b2167 b2168 => ?_))
  refine wl_of hX hb cL_1391 (rw_aload_n (pc' := 1392) (v := .ref 0) rfl rfl rfl ?_)
  refine wl_of hX hb cL_1392 (rw_iload (pc' := 1394) (z := i) rfl rfl ?_)
  refine wl_of hX hb cL_1394 (rw_iconst (pc' := 1395) rfl ?_)
  refine wl_of hX hb cL_1395 (rw_iadd (pc' := 1396) rfl ?_)
  have k2172 : H2159 0 ((i + 2).toNat) = H 0 ((i + 2).toNat) := (f2164 0 ((i + 2).toNat) _ g0 (wmem_s rfl))
  refine wl_of hX hb cL_1396 (xa_I (so := 0) (pc' := 1397) (a := 0) w2163 g0 (wsh_s _) (by omega) (wty_s _ _) (by omega) (by omega) rfl (fun b2170 b2171 => ?_))
  have k2173 : wKI H2159 m = wKI H m := (wKI_fr hW gm f2164 rfl)
  have k2174 : H2159 x 9 = H x 9 := (f2164 x 9 _ gx rfl)
  have k2175 : H2159 m 6 = H m 6 := (f2164 m 6 _ gm rfl)
  have k2176 : H2159 x 11 = H x 11 := (f2164 x 11 _ gx rfl)
  have k2177 : H2159 m 13 = H m 13 := (f2164 m 13 _ gm rfl)
  have k2178 : H2159 x 8 = H x 8 := (f2164 x 8 _ gx rfl)
  have k2179 : H2159 m 3 = H m 3 := (f2164 m 3 _ gm rfl)
  refine wl_of hX hb cL_1397 (xc_V (pc' := 1400) (r := m) (as := [vI (H2159 0 ((i + 1).toNat)), vI (H2159 0 ((i + 2).toNat))]) (st := []) (lm_11_186) rfl rfl (Nat.le_of_ble_eq_true rfl) w2163 gm sh_42 (by decide) rfl (by decide) (s_285 w2163 gm ⟨by omega, by omega⟩ ⟨by omega, by omega⟩ (by omega)) (fun R2180 T2181 H2182 p2183 => ?_))
  obtain ⟨e2184, w2186, f2187, z2189, e2185, b2190, p2188⟩ := p2183
  subst e2184
  subst e2185
  show WL _ _ _ _ 1400 [(4, vI i), (3, .ref o), (2, .ref m), (1, .ref x), (0, .ref 0)] [vI z2189] _ H2182
  refine wl_of hX hb cL_1400 (rw_pop (pc' := 1401) rfl rfl ?_)
  refine wl_of hX hb cL_1401 (rw_goto (p1 := 1653) (by decide) ?_)
  have k2191 : H2182 x 9 = H2159 x 9 := (f2187 x 9 _ gx rfl)
  have k2192 : H2182 m 6 = H2159 m 6 := (f2187 m 6 _ gm rfl)
  have k2193 : H2182 x 11 = H2159 x 11 := (f2187 x 11 _ gx rfl)
  have k2194 : H2182 m 13 = H2159 m 13 := (f2187 m 13 _ gm rfl)
  have k2195 : H2182 x 8 = H2159 x 8 := (f2187 x 8 _ gx rfl)
  have k2196 : H2182 m 3 = H2159 m 3 := (f2187 m 3 _ gm rfl)
  have h2197 : XI T H2182 x m := (XI_fr w2163 gx f2187 rfl (XI_fr hW gx f2164 rfl hXI))
  exact WL.loc hX (by simp) (next T H2182 ⟨⟨w2186, g0, gx, gm, go, by omega, by omega⟩, h2197, by omega, by omega⟩ (by omega) (by omega))
set_option maxHeartbeats 4000000 in
theorem wl_c40 {kt : Nat → Option mc_E} {CB SB : Nat} {X : mc_S → Prop} {T : wq_T} {H : wq_H} {Len x m o : Nat} {i : Int} (hX : wlX kt CB SB X) (hb : T.2.1 ≤ CB ∧ T.2.2.1 ≤ SB) (hI : wlJ Len x m o T H) (hL : Len ≤ 3072) (hi : 0 ≤ i ∧ i + 6 ≤ Len) (hb2 : T.2.1 + 20 ≤ CB ∧ T.2.2.1 + 500 ≤ SB)  (next : ∀ T' H', wlJ Len x m o T' H' → T'.2.1 ≤ T.2.1 + 20 → T'.2.2.1 ≤ T.2.2.1 + 500 → WL kt CB SB X 1653 (wlL i x m o) [] T' H') : WL kt CB SB X 1404 (wlL i x m o) [] T H := by
  obtain ⟨⟨hW, g0, gx, gm, go, hK, hr⟩, hXI, hY1, hY2⟩ := hI
  refine wl_of hX hb cL_1404 (rw_aload_n (pc' := 1405) (v := .ref x) rfl rfl rfl ?_)
  refine wl_of hX hb cL_1405 (rw_aload_n (pc' := 1406) (v := .ref 0) rfl rfl rfl ?_)
  refine wl_of hX hb cL_1406 (rw_iload (pc' := 1408) (z := i) rfl rfl ?_)
  refine wl_of hX hb cL_1408 (rw_iconst (pc' := 1409) rfl ?_)
  refine wl_of hX hb cL_1409 (rw_iadd (pc' := 1410) rfl ?_)
  refine wl_of hX hb cL_1410 (xa_I (so := 0) (pc' := 1411) (a := 0) hW g0 (wsh_s _) (by omega) (wty_s _ _) (by omega) (by omega) rfl (fun b2198 b2199 => ?_))
  refine wl_of hX hb cL_1411 (xc_V (pc' := 1414) (r := x) (as := [vI (H 0 ((i + 1).toNat))]) (st := []) (lm_11_187) rfl rfl (Nat.le_of_ble_eq_true rfl) hW gx sh_1 (by decide) rfl (by decide) (s_154 hW gx ⟨by omega, by omega⟩) (fun R2200 T2201 H2202 p2203 => ?_))
  obtain ⟨e2204, w2206, f2207, z2208, e2205, b2209⟩ := p2203
  subst e2204
  subst e2205
  show WL _ _ _ _ 1414 [(4, vI i), (3, .ref o), (2, .ref m), (1, .ref x), (0, .ref 0)] [vI z2208] _ H2202
  refine wl_of hX hb cL_1414 (rw_pop (pc' := 1415) rfl rfl ?_)
  refine wl_of hX hb cL_1415 (rw_aload_n (pc' := 1416) (v := .ref m) rfl rfl rfl ?_)
  refine wl_of hX hb cL_1416 (rw_aload_n (pc' := 1417) (v := .ref 0) rfl rfl rfl ?_)
  refine wl_of hX hb cL_1417 (rw_iload (pc' := 1419) (z := i) rfl rfl ?_)
  refine wl_of hX hb cL_1419 (rw_iconst (pc' := 1420) rfl ?_)
  refine wl_of hX hb cL_1420 (rw_iadd (pc' := 1421) rfl ?_)
  have k2212 : H2202 0 ((i + 1).toNat) = H 0 ((i + 1).toNat) := (f2207 0 ((i + 1).toNat) _ g0 (wmem_s rfl))
  refine wl_of hX hb cL_1421 (xa_I (so := 0) (pc' := 1422) (a := 0) w2206 g0 (wsh_s _) (by omega) (wty_s _ _) (by omega) (by omega) rfl (fun b2210 b2211 => ?_))
  have k2213 : wKI H2202 m = wKI H m := (wKI_fr hW gm f2207 rfl)
  have k2214 : H2202 x 9 = H x 9 := (f2207 x 9 _ gx rfl)
  have k2215 : H2202 m 6 = H m 6 := (f2207 m 6 _ gm rfl)
  have k2216 : H2202 x 11 = H x 11 := (f2207 x 11 _ gx rfl)
  have k2217 : H2202 m 13 = H m 13 := (f2207 m 13 _ gm rfl)
  have k2218 : H2202 x 8 = H x 8 := (f2207 x 8 _ gx rfl)
  have k2219 : H2202 m 3 = H m 3 := (f2207 m 3 _ gm rfl)
  refine wl_of hX hb cL_1422 (xc_V (pc' := 1425) (r := m) (as := [vI (H2202 0 ((i + 1).toNat))]) (st := []) (lm_11_191) rfl rfl (Nat.le_of_ble_eq_true rfl) w2206 gm sh_42 (by decide) rfl (by decide) (s_286 w2206 gm ⟨by omega, by omega⟩ (by omega)) (fun R2220 T2221 H2222 p2223 => ?_))
  obtain ⟨e2224, w2226, f2227, z2229, e2225, b2230, p2228⟩ := p2223
  subst e2224
  subst e2225
  show WL _ _ _ _ 1425 [(4, vI i), (3, .ref o), (2, .ref m), (1, .ref x), (0, .ref 0)] [vI z2229] _ H2222
  refine wl_of hX hb cL_1425 (rw_pop (pc' := 1426) rfl rfl ?_)
  refine wl_of hX hb cL_1426 (rw_goto (p1 := 1653) (by decide) ?_)
  have k2231 : H2222 x 9 = H2202 x 9 := (f2227 x 9 _ gx rfl)
  have k2232 : H2222 m 6 = H2202 m 6 := (f2227 m 6 _ gm rfl)
  have k2233 : H2222 x 11 = H2202 x 11 := (f2227 x 11 _ gx rfl)
  have k2234 : H2222 m 13 = H2202 m 13 := (f2227 m 13 _ gm rfl)
  have k2235 : H2222 x 8 = H2202 x 8 := (f2227 x 8 _ gx rfl)
  have k2236 : H2222 m 3 = H2202 m 3 := (f2227 m 3 _ gm rfl)
  have h2237 : XI T H2222 x m := (XI_fr w2206 gx f2227 rfl (XI_fr hW gx f2207 rfl hXI))
  exact WL.loc hX (by simp) (next T H2222 ⟨⟨w2226, g0, gx, gm, go, by omega, by omega⟩, h2237, by omega, by omega⟩ (by omega) (by omega))
set_option maxHeartbeats 4000000 in
theorem wl_c41 {kt : Nat → Option mc_E} {CB SB : Nat} {X : mc_S → Prop} {T : wq_T} {H : wq_H} {Len x m o : Nat} {i : Int} (hX : wlX kt CB SB X) (hb : T.2.1 ≤ CB ∧ T.2.2.1 ≤ SB) (hI : wlJ Len x m o T H) (hL : Len ≤ 3072) (hi : 0 ≤ i ∧ i + 6 ≤ Len) (hb2 : T.2.1 + 20 ≤ CB ∧ T.2.2.1 + 500 ≤ SB)  (next : ∀ T' H', wlJ Len x m o T' H' → T'.2.1 ≤ T.2.1 + 20 → T'.2.2.1 ≤ T.2.2.1 + 500 → WL kt CB SB X 1653 (wlL i x m o) [] T' H') : WL kt CB SB X 1429 (wlL i x m o) [] T H := by
  obtain ⟨⟨hW, g0, gx, gm, go, hK, hr⟩, hXI, hY1, hY2⟩ := hI
  refine wl_of hX hb cL_1429 (rw_aload_n (pc' := 1430) (v := .ref x) rfl rfl rfl ?_)
  refine wl_of hX hb cL_1430 (rw_aload_n (pc' := 1431) (v := .ref 0) rfl rfl rfl ?_)
  refine wl_of hX hb cL_1431 (rw_iload (pc' := 1433) (z := i) rfl rfl ?_)
  refine wl_of hX hb cL_1433 (rw_iconst (pc' := 1434) rfl ?_)
  refine wl_of hX hb cL_1434 (rw_iadd (pc' := 1435) rfl ?_)
  refine wl_of hX hb cL_1435 (xa_I (so := 0) (pc' := 1436) (a := 0) hW g0 (wsh_s _) (by omega) (wty_s _ _) (by omega) (by omega) rfl (fun b2238 b2239 => ?_))
  refine wl_of hX hb cL_1436 (xc_V (pc' := 1439) (r := x) (as := [vI (H 0 ((i + 1).toNat))]) (st := []) (lm_11_192) rfl rfl (Nat.le_of_ble_eq_true rfl) hW gx sh_1 (by decide) rfl (by decide) (s_155 hW gx ⟨by omega, by omega⟩) (fun R2240 T2241 H2242 p2243 => ?_))
  obtain ⟨e2244, w2246, f2247, z2248, e2245, b2249⟩ := p2243
  subst e2244
  subst e2245
  show WL _ _ _ _ 1439 [(4, vI i), (3, .ref o), (2, .ref m), (1, .ref x), (0, .ref 0)] [vI z2248] _ H2242
  refine wl_of hX hb cL_1439 (rw_pop (pc' := 1440) rfl rfl ?_)
  refine wl_of hX hb cL_1440 (rw_aload_n (pc' := 1441) (v := .ref m) rfl rfl rfl ?_)
  refine wl_of hX hb cL_1441 (rw_aload_n (pc' := 1442) (v := .ref 0) rfl rfl rfl ?_)
  refine wl_of hX hb cL_1442 (rw_iload (pc' := 1444) (z := i) rfl rfl ?_)
  refine wl_of hX hb cL_1444 (rw_iconst (pc' := 1445) rfl ?_)
  refine wl_of hX hb cL_1445 (rw_iadd (pc' := 1446) rfl ?_)
  have k2252 : H2242 0 ((i + 1).toNat) = H 0 ((i + 1).toNat) := (f2247 0 ((i + 1).toNat) _ g0 (wmem_s rfl))
  refine wl_of hX hb cL_1446 (xa_I (so := 0) (pc' := 1447) (a := 0) w2246 g0 (wsh_s _) (by omega) (wty_s _ _) (by omega) (by omega) rfl (fun b2250 b2251 => ?_))
  have k2253 : wKI H2242 m = wKI H m := (wKI_fr hW gm f2247 rfl)
  have k2254 : H2242 x 9 = H x 9 := (f2247 x 9 _ gx rfl)
  have k2255 : H2242 m 6 = H m 6 := (f2247 m 6 _ gm rfl)
  have k2256 : H2242 x 11 = H x 11 := (f2247 x 11 _ gx rfl)
  have k2257 : H2242 m 13 = H m 13 := (f2247 m 13 _ gm rfl)
  have k2258 : H2242 x 8 = H x 8 := (f2247 x 8 _ gx rfl)
  have k2259 : H2242 m 3 = H m 3 := (f2247 m 3 _ gm rfl)
  refine wl_of hX hb cL_1447 (xc_V (pc' := 1450) (r := m) (as := [vI (H2242 0 ((i + 1).toNat))]) (st := []) (lm_11_195) rfl rfl (Nat.le_of_ble_eq_true rfl) w2246 gm sh_42 (by decide) rfl (by decide) (s_287 w2246 gm ⟨by omega, by omega⟩ (by omega)) (fun R2260 T2261 H2262 p2263 => ?_))
  obtain ⟨e2264, w2266, f2267, z2269, e2265, b2270, p2268⟩ := p2263
  subst e2264
  subst e2265
  show WL _ _ _ _ 1450 [(4, vI i), (3, .ref o), (2, .ref m), (1, .ref x), (0, .ref 0)] [vI z2269] _ H2262
  refine wl_of hX hb cL_1450 (rw_pop (pc' := 1451) rfl rfl ?_)
  refine wl_of hX hb cL_1451 (rw_goto (p1 := 1653) (by decide) ?_)
  have k2271 : H2262 x 9 = H2242 x 9 := (f2267 x 9 _ gx rfl)
  have k2272 : H2262 m 6 = H2242 m 6 := (f2267 m 6 _ gm rfl)
  have k2273 : H2262 x 11 = H2242 x 11 := (f2267 x 11 _ gx rfl)
  have k2274 : H2262 m 13 = H2242 m 13 := (f2267 m 13 _ gm rfl)
  have k2275 : H2262 x 8 = H2242 x 8 := (f2267 x 8 _ gx rfl)
  have k2276 : H2262 m 3 = H2242 m 3 := (f2267 m 3 _ gm rfl)
  have h2277 : XI T H2262 x m := (XI_fr w2246 gx f2267 rfl (XI_fr hW gx f2247 rfl hXI))
  exact WL.loc hX (by simp) (next T H2262 ⟨⟨w2266, g0, gx, gm, go, by omega, by omega⟩, h2277, by omega, by omega⟩ (by omega) (by omega))
set_option maxHeartbeats 4000000 in
theorem wl_c42 {kt : Nat → Option mc_E} {CB SB : Nat} {X : mc_S → Prop} {T : wq_T} {H : wq_H} {Len x m o : Nat} {i : Int} (hX : wlX kt CB SB X) (hb : T.2.1 ≤ CB ∧ T.2.2.1 ≤ SB) (hI : wlJ Len x m o T H) (hL : Len ≤ 3072) (hi : 0 ≤ i ∧ i + 6 ≤ Len) (hb2 : T.2.1 + 20 ≤ CB ∧ T.2.2.1 + 500 ≤ SB)  (next : ∀ T' H', wlJ Len x m o T' H' → T'.2.1 ≤ T.2.1 + 20 → T'.2.2.1 ≤ T.2.2.1 + 500 → WL kt CB SB X 1653 (wlL i x m o) [] T' H') : WL kt CB SB X 1454 (wlL i x m o) [] T H := by
  obtain ⟨⟨hW, g0, gx, gm, go, hK, hr⟩, hXI, hY1, hY2⟩ := hI
  refine wl_of hX hb cL_1454 (rw_aload_n (pc' := 1455) (v := .ref x) rfl rfl rfl ?_)
  refine wl_of hX hb cL_1455 (xc_V (pc' := 1458) (r := x) (as := []) (st := []) (lm_11_196) rfl rfl (Nat.le_of_ble_eq_true rfl) hW gx sh_1 (by decide) rfl (by decide) (s_156 hW gx) (fun R2278 T2279 H2280 p2281 => ?_))
  obtain ⟨e2282, w2284, f2285, z2286, e2283, b2287⟩ := p2281
  subst e2282
  subst e2283
  show WL _ _ _ _ 1458 [(4, vI i), (3, .ref o), (2, .ref m), (1, .ref x), (0, .ref 0)] [vI z2286] _ H2280
  refine wl_of hX hb cL_1458 (rw_pop (pc' := 1459) rfl rfl ?_)
  refine wl_of hX hb cL_1459 (rw_aload_n (pc' := 1460) (v := .ref m) rfl rfl rfl ?_)
  have k2288 : wKI H2280 m = wKI H m := (wKI_fr hW gm f2285 rfl)
  have k2289 : H2280 x 9 = H x 9 := (f2285 x 9 _ gx rfl)
  have k2290 : H2280 m 6 = H m 6 := (f2285 m 6 _ gm rfl)
  have k2291 : H2280 x 11 = H x 11 := (f2285 x 11 _ gx rfl)
  have k2292 : H2280 m 13 = H m 13 := (f2285 m 13 _ gm rfl)
  have k2293 : H2280 x 8 = H x 8 := (f2285 x 8 _ gx rfl)
  have k2294 : H2280 m 3 = H m 3 := (f2285 m 3 _ gm rfl)
  refine wl_of hX hb cL_1460 (xc_V (pc' := 1463) (r := m) (as := []) (st := []) (lm_11_199) rfl rfl (Nat.le_of_ble_eq_true rfl) w2284 gm sh_42 (by decide) rfl (by decide) (s_288 w2284 gm (by omega)) (fun R2295 T2296 H2297 p2298 => ?_))
  obtain ⟨e2299, w2301, f2302, z2304, e2300, b2305, p2303⟩ := p2298
  subst e2299
  subst e2300
  show WL _ _ _ _ 1463 [(4, vI i), (3, .ref o), (2, .ref m), (1, .ref x), (0, .ref 0)] [vI z2304] _ H2297
  refine wl_of hX hb cL_1463 (rw_pop (pc' := 1464) rfl rfl ?_)
  refine wl_of hX hb cL_1464 (rw_goto (p1 := 1653) (by decide) ?_)
  have k2306 : H2297 x 9 = H2280 x 9 := (f2302 x 9 _ gx rfl)
  have k2307 : H2297 m 6 = H2280 m 6 := (f2302 m 6 _ gm rfl)
  have k2308 : H2297 x 11 = H2280 x 11 := (f2302 x 11 _ gx rfl)
  have k2309 : H2297 m 13 = H2280 m 13 := (f2302 m 13 _ gm rfl)
  have k2310 : H2297 x 8 = H2280 x 8 := (f2302 x 8 _ gx rfl)
  have k2311 : H2297 m 3 = H2280 m 3 := (f2302 m 3 _ gm rfl)
  have h2312 : XI T H2297 x m := (XI_fr w2284 gx f2302 rfl (XI_fr hW gx f2285 rfl hXI))
  exact WL.loc hX (by simp) (next T H2297 ⟨⟨w2301, g0, gx, gm, go, by omega, by omega⟩, h2312, by omega, by omega⟩ (by omega) (by omega))
set_option maxHeartbeats 4000000 in
theorem wl_c43 {kt : Nat → Option mc_E} {CB SB : Nat} {X : mc_S → Prop} {T : wq_T} {H : wq_H} {Len x m o : Nat} {i : Int} (hX : wlX kt CB SB X) (hb : T.2.1 ≤ CB ∧ T.2.2.1 ≤ SB) (hI : wlJ Len x m o T H) (hL : Len ≤ 3072) (hi : 0 ≤ i ∧ i + 6 ≤ Len) (hb2 : T.2.1 + 20 ≤ CB ∧ T.2.2.1 + 500 ≤ SB)  (next : ∀ T' H', wlJ Len x m o T' H' → T'.2.1 ≤ T.2.1 + 20 → T'.2.2.1 ≤ T.2.2.1 + 500 → WL kt CB SB X 1653 (wlL i x m o) [] T' H') : WL kt CB SB X 1467 (wlL i x m o) [] T H := by
  obtain ⟨⟨hW, g0, gx, gm, go, hK, hr⟩, hXI, hY1, hY2⟩ := hI
  refine wl_of hX hb cL_1467 (rw_aload_n (pc' := 1468) (v := .ref x) rfl rfl rfl ?_)
  refine wl_of hX hb cL_1468 (rw_aload_n (pc' := 1469) (v := .ref 0) rfl rfl rfl ?_)
  refine wl_of hX hb cL_1469 (rw_iload (pc' := 1471) (z := i) rfl rfl ?_)
  refine wl_of hX hb cL_1471 (rw_iconst (pc' := 1472) rfl ?_)
  refine wl_of hX hb cL_1472 (rw_iadd (pc' := 1473) rfl ?_)
  refine wl_of hX hb cL_1473 (xa_I (so := 0) (pc' := 1474) (a := 0) hW g0 (wsh_s _) (by omega) (wty_s _ _) (by omega) (by omega) rfl (fun b2313 b2314 => ?_))
  refine wl_of hX hb cL_1474 (rw_aload_n (pc' := 1475) (v := .ref 0) rfl rfl rfl ?_)
  refine wl_of hX hb cL_1475 (rw_iload (pc' := 1477) (z := i) rfl rfl ?_)
  refine wl_of hX hb cL_1477 (rw_iconst (pc' := 1478) rfl ?_)
  refine wl_of hX hb cL_1478 (rw_iadd (pc' := 1479) rfl ?_)
  refine wl_of hX hb cL_1479 (xa_I (so := 0) (pc' := 1480) (a := 0) hW g0 (wsh_s _) (by omega) (wty_s _ _) (by omega) (by omega) rfl (fun b2315 b2316 => ?_))
  refine wl_of hX hb cL_1480 (xc_V (pc' := 1483) (r := x) (as := [vI (H 0 ((i + 1).toNat)), vI (H 0 ((i + 2).toNat))]) (st := []) (lm_11_200) rfl rfl (Nat.le_of_ble_eq_true rfl) hW gx sh_1 (by decide) rfl (by decide) (s_157 hW gx ⟨by omega, by omega⟩ ⟨by omega, by omega⟩) (fun R2317 T2318 H2319 p2320 => ?_))
  obtain ⟨e2321, w2323, f2324, z2325, e2322, b2326⟩ := p2320
  subst e2321
  subst e2322
  show WL _ _ _ _ 1483 [(4, vI i), (3, .ref o), (2, .ref m), (1, .ref x), (0, .ref 0)] [vI z2325] _ H2319
  refine wl_of hX hb cL_1483 (rw_pop (pc' := 1484) rfl rfl ?_)
  refine wl_of hX hb cL_1484 (rw_aload_n (pc' := 1485) (v := .ref m) rfl rfl rfl ?_)
  refine wl_of hX hb cL_1485 (rw_aload_n (pc' := 1486) (v := .ref 0) rfl rfl rfl ?_)
  refine wl_of hX hb cL_1486 (rw_iload (pc' := 1488) (z := i) rfl rfl ?_)
  refine wl_of hX hb cL_1488 (rw_iconst (pc' := 1489) rfl ?_)
  refine wl_of hX hb cL_1489 (rw_iadd (pc' := 1490) rfl ?_)
  have k2329 : H2319 0 ((i + 1).toNat) = H 0 ((i + 1).toNat) := (f2324 0 ((i + 1).toNat) _ g0 (wmem_s rfl))
  refine wl_of hX hb cL_1490 (xa_I (so := 0) (pc' := 1491) (a := 0) w2323 g0 (wsh_s _) (by omega) (wty_s _ _) (by omega) (by omega) rfl (fun b2327 b2328 => ?_))
  refine wl_of hX hb cL_1491 (rw_aload_n (pc' := 1492) (v := .ref 0) rfl rfl rfl ?_)
  refine wl_of hX hb cL_1492 (rw_iload (pc' := 1494) (z := i) rfl rfl ?_)
  refine wl_of hX hb cL_1494 (rw_iconst (pc' := 1495) rfl ?_)
  refine wl_of hX hb cL_1495 (rw_iadd (pc' := 1496) rfl ?_)
  have k2332 : H2319 0 ((i + 2).toNat) = H 0 ((i + 2).toNat) := (f2324 0 ((i + 2).toNat) _ g0 (wmem_s rfl))
  refine wl_of hX hb cL_1496 (xa_I (so := 0) (pc' := 1497) (a := 0) w2323 g0 (wsh_s _) (by omega) (wty_s _ _) (by omega) (by omega) rfl (fun b2330 b2331 => ?_))
  have k2333 : wKI H2319 m = wKI H m := (wKI_fr hW gm f2324 rfl)
  have k2334 : H2319 x 9 = H x 9 := (f2324 x 9 _ gx rfl)
  have k2335 : H2319 m 6 = H m 6 := (f2324 m 6 _ gm rfl)
  have k2336 : H2319 x 11 = H x 11 := (f2324 x 11 _ gx rfl)
  have k2337 : H2319 m 13 = H m 13 := (f2324 m 13 _ gm rfl)
  have k2338 : H2319 x 8 = H x 8 := (f2324 x 8 _ gx rfl)
  have k2339 : H2319 m 3 = H m 3 := (f2324 m 3 _ gm rfl)
  refine wl_of hX hb cL_1497 (xc_V (pc' := 1500) (r := m) (as := [vI (H2319 0 ((i + 1).toNat)), vI (H2319 0 ((i + 2).toNat))]) (st := []) (lm_11_203) rfl rfl (Nat.le_of_ble_eq_true rfl) w2323 gm sh_42 (by decide) rfl (by decide) (s_289 w2323 gm ⟨by omega, by omega⟩ ⟨by omega, by omega⟩ (by omega)) (fun R2340 T2341 H2342 p2343 => ?_))
  obtain ⟨e2344, w2346, f2347, z2349, e2345, b2350, p2348⟩ := p2343
  subst e2344
  subst e2345
  show WL _ _ _ _ 1500 [(4, vI i), (3, .ref o), (2, .ref m), (1, .ref x), (0, .ref 0)] [vI z2349] _ H2342
  refine wl_of hX hb cL_1500 (rw_pop (pc' := 1501) rfl rfl ?_)
  refine wl_of hX hb cL_1501 (rw_goto (p1 := 1653) (by decide) ?_)
  have k2351 : H2342 x 9 = H2319 x 9 := (f2347 x 9 _ gx rfl)
  have k2352 : H2342 m 6 = H2319 m 6 := (f2347 m 6 _ gm rfl)
  have k2353 : H2342 x 11 = H2319 x 11 := (f2347 x 11 _ gx rfl)
  have k2354 : H2342 m 13 = H2319 m 13 := (f2347 m 13 _ gm rfl)
  have k2355 : H2342 x 8 = H2319 x 8 := (f2347 x 8 _ gx rfl)
  have k2356 : H2342 m 3 = H2319 m 3 := (f2347 m 3 _ gm rfl)
  have h2357 : XI T H2342 x m := (XI_fr w2323 gx f2347 rfl (XI_fr hW gx f2324 rfl hXI))
  exact WL.loc hX (by simp) (next T H2342 ⟨⟨w2346, g0, gx, gm, go, by omega, by omega⟩, h2357, by omega, by omega⟩ (by omega) (by omega))
set_option maxHeartbeats 4000000 in
theorem wl_c44 {kt : Nat → Option mc_E} {CB SB : Nat} {X : mc_S → Prop} {T : wq_T} {H : wq_H} {Len x m o : Nat} {i : Int} (hX : wlX kt CB SB X) (hb : T.2.1 ≤ CB ∧ T.2.2.1 ≤ SB) (hI : wlJ Len x m o T H) (hL : Len ≤ 3072) (hi : 0 ≤ i ∧ i + 6 ≤ Len) (hb2 : T.2.1 + 20 ≤ CB ∧ T.2.2.1 + 500 ≤ SB)  (next : ∀ T' H', wlJ Len x m o T' H' → T'.2.1 ≤ T.2.1 + 20 → T'.2.2.1 ≤ T.2.2.1 + 500 → WL kt CB SB X 1653 (wlL i x m o) [] T' H') : WL kt CB SB X 1504 (wlL i x m o) [] T H := by
  obtain ⟨⟨hW, g0, gx, gm, go, hK, hr⟩, hXI, hY1, hY2⟩ := hI
  refine wl_of hX hb cL_1504 (rw_aload_n (pc' := 1505) (v := .ref x) rfl rfl rfl ?_)
  refine wl_of hX hb cL_1505 (xc_V (pc' := 1508) (r := x) (as := []) (st := []) (lm_11_204) rfl rfl (Nat.le_of_ble_eq_true rfl) hW gx sh_1 (by decide) rfl (by decide) (s_158 hW gx) (fun R2358 T2359 H2360 p2361 => ?_))
  obtain ⟨e2362, w2364, f2365, z2366, e2363, b2367⟩ := p2361
  subst e2362
  subst e2363
  show WL _ _ _ _ 1508 [(4, vI i), (3, .ref o), (2, .ref m), (1, .ref x), (0, .ref 0)] [vI z2366] _ H2360
  refine wl_of hX hb cL_1508 (rw_pop (pc' := 1509) rfl rfl ?_)
  refine wl_of hX hb cL_1509 (rw_aload_n (pc' := 1510) (v := .ref m) rfl rfl rfl ?_)
  have k2368 : wKI H2360 m = wKI H m := (wKI_fr hW gm f2365 rfl)
  have k2369 : H2360 x 9 = H x 9 := (f2365 x 9 _ gx rfl)
  have k2370 : H2360 m 6 = H m 6 := (f2365 m 6 _ gm rfl)
  have k2371 : H2360 x 11 = H x 11 := (f2365 x 11 _ gx rfl)
  have k2372 : H2360 m 13 = H m 13 := (f2365 m 13 _ gm rfl)
  have k2373 : H2360 x 8 = H x 8 := (f2365 x 8 _ gx rfl)
  have k2374 : H2360 m 3 = H m 3 := (f2365 m 3 _ gm rfl)
  refine wl_of hX hb cL_1510 (xc_V (pc' := 1513) (r := m) (as := []) (st := []) (lm_11_208) rfl rfl (Nat.le_of_ble_eq_true rfl) w2364 gm sh_42 (by decide) rfl (by decide) (s_290 w2364 gm (by omega)) (fun R2375 T2376 H2377 p2378 => ?_))
  obtain ⟨e2379, w2381, f2382, z2384, e2380, b2385, p2383⟩ := p2378
  subst e2379
  subst e2380
  show WL _ _ _ _ 1513 [(4, vI i), (3, .ref o), (2, .ref m), (1, .ref x), (0, .ref 0)] [vI z2384] _ H2377
  refine wl_of hX hb cL_1513 (rw_pop (pc' := 1514) rfl rfl ?_)
  refine wl_of hX hb cL_1514 (rw_goto (p1 := 1653) (by decide) ?_)
  have k2386 : H2377 x 9 = H2360 x 9 := (f2382 x 9 _ gx rfl)
  have k2387 : H2377 m 6 = H2360 m 6 := (f2382 m 6 _ gm rfl)
  have k2388 : H2377 x 11 = H2360 x 11 := (f2382 x 11 _ gx rfl)
  have k2389 : H2377 m 13 = H2360 m 13 := (f2382 m 13 _ gm rfl)
  have k2390 : H2377 x 8 = H2360 x 8 := (f2382 x 8 _ gx rfl)
  have k2391 : H2377 m 3 = H2360 m 3 := (f2382 m 3 _ gm rfl)
  have h2392 : XI T H2377 x m := (XI_fr w2364 gx f2382 rfl (XI_fr hW gx f2365 rfl hXI))
  exact WL.loc hX (by simp) (next T H2377 ⟨⟨w2381, g0, gx, gm, go, by omega, by omega⟩, h2392, by omega, by omega⟩ (by omega) (by omega))
set_option maxHeartbeats 4000000 in
theorem wl_c45 {kt : Nat → Option mc_E} {CB SB : Nat} {X : mc_S → Prop} {T : wq_T} {H : wq_H} {Len x m o : Nat} {i : Int} (hX : wlX kt CB SB X) (hb : T.2.1 ≤ CB ∧ T.2.2.1 ≤ SB) (hI : wlJ Len x m o T H) (hL : Len ≤ 3072) (hi : 0 ≤ i ∧ i + 6 ≤ Len) (hb2 : T.2.1 + 20 ≤ CB ∧ T.2.2.1 + 500 ≤ SB)  (next : ∀ T' H', wlJ Len x m o T' H' → T'.2.1 ≤ T.2.1 + 20 → T'.2.2.1 ≤ T.2.2.1 + 500 → WL kt CB SB X 1653 (wlL i x m o) [] T' H') : WL kt CB SB X 1517 (wlL i x m o) [] T H := by
  obtain ⟨⟨hW, g0, gx, gm, go, hK, hr⟩, hXI, hY1, hY2⟩ := hI
  refine wl_of hX hb cL_1517 (rw_aload_n (pc' := 1518) (v := .ref x) rfl rfl rfl ?_)
  refine wl_of hX hb cL_1518 (xc_V (pc' := 1521) (r := x) (as := []) (st := []) (lm_11_209) rfl rfl (Nat.le_of_ble_eq_true rfl) hW gx sh_1 (by decide) rfl (by decide) (s_159 hW gx) (fun R2393 T2394 H2395 p2396 => ?_))
  obtain ⟨e2397, w2399, f2400, z2401, e2398, b2402⟩ := p2396
  subst e2397
  subst e2398
  show WL _ _ _ _ 1521 [(4, vI i), (3, .ref o), (2, .ref m), (1, .ref x), (0, .ref 0)] [vL z2401] _ H2395
  refine wl_of hX hb cL_1521 (rw_pop2 (pc' := 1522) rfl rfl ?_)
  refine wl_of hX hb cL_1522 (rw_aload_n (pc' := 1523) (v := .ref m) rfl rfl rfl ?_)
  have k2403 : wKI H2395 m = wKI H m := (wKI_fr hW gm f2400 rfl)
  have k2404 : H2395 x 9 = H x 9 := (f2400 x 9 _ gx rfl)
  have k2405 : H2395 m 6 = H m 6 := (f2400 m 6 _ gm rfl)
  have k2406 : H2395 x 11 = H x 11 := (f2400 x 11 _ gx rfl)
  have k2407 : H2395 m 13 = H m 13 := (f2400 m 13 _ gm rfl)
  have k2408 : H2395 x 8 = H x 8 := (f2400 x 8 _ gx rfl)
  have k2409 : H2395 m 3 = H m 3 := (f2400 m 3 _ gm rfl)
  refine wl_of hX hb cL_1523 (xc_V (pc' := 1526) (r := m) (as := []) (st := []) (lm_11_212) rfl rfl (Nat.le_of_ble_eq_true rfl) w2399 gm sh_42 (by decide) rfl (by decide) (s_291 w2399 gm (by omega)) (fun R2410 T2411 H2412 p2413 => ?_))
  obtain ⟨e2414, w2416, f2417, z2419, e2415, b2420, p2418⟩ := p2413
  subst e2414
  subst e2415
  show WL _ _ _ _ 1526 [(4, vI i), (3, .ref o), (2, .ref m), (1, .ref x), (0, .ref 0)] [vL z2419] _ H2412
  refine wl_of hX hb cL_1526 (rw_pop2 (pc' := 1527) rfl rfl ?_)
  refine wl_of hX hb cL_1527 (rw_goto (p1 := 1653) (by decide) ?_)
  have k2421 : H2412 x 9 = H2395 x 9 := (f2417 x 9 _ gx rfl)
  have k2422 : H2412 m 6 = H2395 m 6 := (f2417 m 6 _ gm rfl)
  have k2423 : H2412 x 11 = H2395 x 11 := (f2417 x 11 _ gx rfl)
  have k2424 : H2412 m 13 = H2395 m 13 := (f2417 m 13 _ gm rfl)
  have k2425 : H2412 x 8 = H2395 x 8 := (f2417 x 8 _ gx rfl)
  have k2426 : H2412 m 3 = H2395 m 3 := (f2417 m 3 _ gm rfl)
  have h2427 : XI T H2412 x m := (XI_fr w2399 gx f2417 rfl (XI_fr hW gx f2400 rfl hXI))
  exact WL.loc hX (by simp) (next T H2412 ⟨⟨w2416, g0, gx, gm, go, by omega, by omega⟩, h2427, by omega, by omega⟩ (by omega) (by omega))
set_option maxHeartbeats 4000000 in
theorem wl_c46 {kt : Nat → Option mc_E} {CB SB : Nat} {X : mc_S → Prop} {T : wq_T} {H : wq_H} {Len x m o : Nat} {i : Int} (hX : wlX kt CB SB X) (hb : T.2.1 ≤ CB ∧ T.2.2.1 ≤ SB) (hI : wlJ Len x m o T H) (hL : Len ≤ 3072) (hi : 0 ≤ i ∧ i + 6 ≤ Len) (hb2 : T.2.1 + 20 ≤ CB ∧ T.2.2.1 + 500 ≤ SB)  (next : ∀ T' H', wlJ Len x m o T' H' → T'.2.1 ≤ T.2.1 + 20 → T'.2.2.1 ≤ T.2.2.1 + 500 → WL kt CB SB X 1653 (wlL i x m o) [] T' H') : WL kt CB SB X 1530 (wlL i x m o) [] T H := by
  obtain ⟨⟨hW, g0, gx, gm, go, hK, hr⟩, hXI, hY1, hY2⟩ := hI
  refine wl_of hX hb cL_1530 (rw_aload_n (pc' := 1531) (v := .ref x) rfl rfl rfl ?_)
  refine wl_of hX hb cL_1531 (rw_aload_n (pc' := 1532) (v := .ref 0) rfl rfl rfl ?_)
  refine wl_of hX hb cL_1532 (rw_iload (pc' := 1534) (z := i) rfl rfl ?_)
  refine wl_of hX hb cL_1534 (rw_iconst (pc' := 1535) rfl ?_)
  refine wl_of hX hb cL_1535 (rw_iadd (pc' := 1536) rfl ?_)
  refine wl_of hX hb cL_1536 (xa_I (so := 0) (pc' := 1537) (a := 0) hW g0 (wsh_s _) (by omega) (wty_s _ _) (by omega) (by omega) rfl (fun b2428 b2429 => ?_))
  refine wl_of hX hb cL_1537 (rw_i2l (pc' := 1538) rfl ⟨by omega, by omega⟩ ?_)
  refine wl_of hX hb cL_1538 (rw_bipush (pc' := 1540) (z := 32) rfl (by decide) ?_)
  refine wl_of hX hb cL_1540 (rw_lshl (pc' := 1541) rfl ?_)
  obtain ⟨v2430, e2431⟩ : ∃ x : Int, x = wl_shl (H 0 ((i + 1).toNat)) 32 := ⟨_, rfl⟩
  rw [← e2431]
  have b2432 : -9223372036854775808 ≤ v2430 ∧ v2430 ≤ 9223372036854775807 := by
    rw [e2431]
    exact wL_shl _ _
  refine wl_of hX hb cL_1541 (rw_aload_n (pc' := 1542) (v := .ref 0) rfl rfl rfl ?_)
  refine wl_of hX hb cL_1542 (rw_iload (pc' := 1544) (z := i) rfl rfl ?_)
  refine wl_of hX hb cL_1544 (rw_iconst (pc' := 1545) rfl ?_)
  refine wl_of hX hb cL_1545 (rw_iadd (pc' := 1546) rfl ?_)
  refine wl_of hX hb cL_1546 (xa_I (so := 0) (pc' := 1547) (a := 0) hW g0 (wsh_s _) (by omega) (wty_s _ _) (by omega) (by omega) rfl (fun b2433 b2434 => ?_))
  refine wl_of hX hb cL_1547 (rw_i2l (pc' := 1548) rfl ⟨by omega, by omega⟩ ?_)
  refine wl_of hX hb cL_1548 (rw_ldc2 (pc' := 1551) (z := 4294967295) rfl rfl rfl ?_)
  refine wl_of hX hb cL_1551 (rw_land (pc' := 1552) rfl ?_)
  obtain ⟨v2435, e2436⟩ : ∃ x : Int, x = wl_and (H 0 ((i + 2).toNat)) 4294967295 := ⟨_, rfl⟩
  rw [← e2436]
  have b2437 : -9223372036854775808 ≤ v2435 ∧ v2435 ≤ 9223372036854775807 := by
    rw [e2436]
    exact wL_and _ _
  refine wl_of hX hb cL_1552 (rw_lor (pc' := 1553) rfl ?_)
  obtain ⟨v2438, e2439⟩ : ∃ x : Int, x = wl_or v2430 v2435 := ⟨_, rfl⟩
  rw [← e2439]
  have b2440 : -9223372036854775808 ≤ v2438 ∧ v2438 ≤ 9223372036854775807 := by
    rw [e2439]
    exact wL_or _ _
  refine wl_of hX hb cL_1553 (xc_V (pc' := 1556) (r := x) (as := [vL v2438]) (st := []) (lm_11_215) rfl rfl (Nat.le_of_ble_eq_true rfl) hW gx sh_1 (by decide) rfl (by decide) (s_161 hW gx ⟨by omega, by omega⟩) (fun R2441 T2442 H2443 p2444 => ?_))
  obtain ⟨e2445, w2447, f2448, z2449, e2446, b2450⟩ := p2444
  subst e2445
  subst e2446
  show WL _ _ _ _ 1556 [(4, vI i), (3, .ref o), (2, .ref m), (1, .ref x), (0, .ref 0)] [vI z2449] _ H2443
  refine wl_of hX hb cL_1556 (rw_pop (pc' := 1557) rfl rfl ?_)
  refine wl_of hX hb cL_1557 (rw_aload_n (pc' := 1558) (v := .ref m) rfl rfl rfl ?_)
  refine wl_of hX hb cL_1558 (rw_aload_n (pc' := 1559) (v := .ref 0) rfl rfl rfl ?_)
  refine wl_of hX hb cL_1559 (rw_iload (pc' := 1561) (z := i) rfl rfl ?_)
  refine wl_of hX hb cL_1561 (rw_iconst (pc' := 1562) rfl ?_)
  refine wl_of hX hb cL_1562 (rw_iadd (pc' := 1563) rfl ?_)
  have k2453 : H2443 0 ((i + 1).toNat) = H 0 ((i + 1).toNat) := (f2448 0 ((i + 1).toNat) _ g0 (wmem_s rfl))
  refine wl_of hX hb cL_1563 (xa_I (so := 0) (pc' := 1564) (a := 0) w2447 g0 (wsh_s _) (by omega) (wty_s _ _) (by omega) (by omega) rfl (fun b2451 b2452 => ?_))
  refine wl_of hX hb cL_1564 (rw_i2l (pc' := 1565) rfl ⟨by omega, by omega⟩ ?_)
  refine wl_of hX hb cL_1565 (rw_bipush (pc' := 1567) (z := 32) rfl (by decide) ?_)
  refine wl_of hX hb cL_1567 (rw_lshl (pc' := 1568) rfl ?_)
  obtain ⟨v2454, e2455⟩ : ∃ x : Int, x = wl_shl (H2443 0 ((i + 1).toNat)) 32 := ⟨_, rfl⟩
  rw [← e2455]
  have b2456 : -9223372036854775808 ≤ v2454 ∧ v2454 ≤ 9223372036854775807 := by
    rw [e2455]
    exact wL_shl _ _
  refine wl_of hX hb cL_1568 (rw_aload_n (pc' := 1569) (v := .ref 0) rfl rfl rfl ?_)
  refine wl_of hX hb cL_1569 (rw_iload (pc' := 1571) (z := i) rfl rfl ?_)
  refine wl_of hX hb cL_1571 (rw_iconst (pc' := 1572) rfl ?_)
  refine wl_of hX hb cL_1572 (rw_iadd (pc' := 1573) rfl ?_)
  have k2459 : H2443 0 ((i + 2).toNat) = H 0 ((i + 2).toNat) := (f2448 0 ((i + 2).toNat) _ g0 (wmem_s rfl))
  refine wl_of hX hb cL_1573 (xa_I (so := 0) (pc' := 1574) (a := 0) w2447 g0 (wsh_s _) (by omega) (wty_s _ _) (by omega) (by omega) rfl (fun b2457 b2458 => ?_))
  refine wl_of hX hb cL_1574 (rw_i2l (pc' := 1575) rfl ⟨by omega, by omega⟩ ?_)
  refine wl_of hX hb cL_1575 (rw_ldc2 (pc' := 1578) (z := 4294967295) rfl rfl rfl ?_)
  refine wl_of hX hb cL_1578 (rw_land (pc' := 1579) rfl ?_)
  obtain ⟨v2460, e2461⟩ : ∃ x : Int, x = wl_and (H2443 0 ((i + 2).toNat)) 4294967295 := ⟨_, rfl⟩
  rw [← e2461]
  have b2462 : -9223372036854775808 ≤ v2460 ∧ v2460 ≤ 9223372036854775807 := by
    rw [e2461]
    exact wL_and _ _
  refine wl_of hX hb cL_1579 (rw_lor (pc' := 1580) rfl ?_)
  obtain ⟨v2463, e2464⟩ : ∃ x : Int, x = wl_or v2454 v2460 := ⟨_, rfl⟩
  rw [← e2464]
  have b2465 : -9223372036854775808 ≤ v2463 ∧ v2463 ≤ 9223372036854775807 := by
    rw [e2464]
    exact wL_or _ _
  have k2466 : wKI H2443 m = wKI H m := (wKI_fr hW gm f2448 rfl)
  have k2467 : H2443 x 9 = H x 9 := (f2448 x 9 _ gx rfl)
  have k2468 : H2443 m 6 = H m 6 := (f2448 m 6 _ gm rfl)
  have k2469 : H2443 x 11 = H x 11 := (f2448 x 11 _ gx rfl)
  have k2470 : H2443 m 13 = H m 13 := (f2448 m 13 _ gm rfl)
  have k2471 : H2443 x 8 = H x 8 := (f2448 x 8 _ gx rfl)
  have k2472 : H2443 m 3 = H m 3 := (f2448 m 3 _ gm rfl)
  refine wl_of hX hb cL_1580 (xc_V (pc' := 1583) (r := m) (as := [vL v2463]) (st := []) (lm_11_219) rfl rfl (Nat.le_of_ble_eq_true rfl) w2447 gm sh_42 (by decide) rfl (by decide) (s_292 w2447 gm ⟨by omega, by omega⟩ (by omega)) (fun R2473 T2474 H2475 p2476 => ?_))
  obtain ⟨e2477, w2479, f2480, z2482, e2478, b2483, p2481⟩ := p2476
  subst e2477
  subst e2478
  show WL _ _ _ _ 1583 [(4, vI i), (3, .ref o), (2, .ref m), (1, .ref x), (0, .ref 0)] [vI z2482] _ H2475
  refine wl_of hX hb cL_1583 (rw_pop (pc' := 1584) rfl rfl ?_)
  refine wl_of hX hb cL_1584 (rw_goto (p1 := 1653) (by decide) ?_)
  have k2484 : H2475 x 9 = H2443 x 9 := (f2480 x 9 _ gx rfl)
  have k2485 : H2475 m 6 = H2443 m 6 := (f2480 m 6 _ gm rfl)
  have k2486 : H2475 x 11 = H2443 x 11 := (f2480 x 11 _ gx rfl)
  have k2487 : H2475 m 13 = H2443 m 13 := (f2480 m 13 _ gm rfl)
  have k2488 : H2475 x 8 = H2443 x 8 := (f2480 x 8 _ gx rfl)
  have k2489 : H2475 m 3 = H2443 m 3 := (f2480 m 3 _ gm rfl)
  have h2490 : XI T H2475 x m := (XI_fr w2447 gx f2480 rfl (XI_fr hW gx f2448 rfl hXI))
  exact WL.loc hX (by simp) (next T H2475 ⟨⟨w2479, g0, gx, gm, go, by omega, by omega⟩, h2490, by omega, by omega⟩ (by omega) (by omega))
set_option maxHeartbeats 4000000 in
theorem wl_c47 {kt : Nat → Option mc_E} {CB SB : Nat} {X : mc_S → Prop} {T : wq_T} {H : wq_H} {Len x m o : Nat} {i : Int} (hX : wlX kt CB SB X) (hb : T.2.1 ≤ CB ∧ T.2.2.1 ≤ SB) (hI : wlJ Len x m o T H) (hL : Len ≤ 3072) (hi : 0 ≤ i ∧ i + 6 ≤ Len) (hb2 : T.2.1 + 20 ≤ CB ∧ T.2.2.1 + 500 ≤ SB) (hled : ∀ {z : Int}, wI z → T.2.1 ≤ CB ∧ T.2.2.1 ≤ SB → wlJ Len x m o T H → (∀ (z' : Int), wI z' → ∀ (T' : wq_T) (H' : wq_H), wlJ Len x m o T' H' → T'.2.1 ≤ T.2.1 + 20 → T'.2.2.1 ≤ T.2.2.1 + 500 → WL kt CB SB X 1598 (wlL i x m o) [vI z'] T' H') → WL kt CB SB X 1595 (wlL i x m o) [.ref o, vI z, .ref x] T H) (next : ∀ T' H', wlJ Len x m o T' H' → T'.2.1 ≤ T.2.1 + 20 → T'.2.2.1 ≤ T.2.2.1 + 500 → WL kt CB SB X 1653 (wlL i x m o) [] T' H') : WL kt CB SB X 1587 (wlL i x m o) [] T H := by
  obtain ⟨⟨hW, g0, gx, gm, go, hK, hr⟩, hXI, hY1, hY2⟩ := hI
  refine wl_of hX hb cL_1587 (rw_aload_n (pc' := 1588) (v := .ref x) rfl rfl rfl ?_)
  refine wl_of hX hb cL_1588 (rw_aload_n (pc' := 1589) (v := .ref 0) rfl rfl rfl ?_)
  refine wl_of hX hb cL_1589 (rw_iload (pc' := 1591) (z := i) rfl rfl ?_)
  refine wl_of hX hb cL_1591 (rw_iconst (pc' := 1592) rfl ?_)
  refine wl_of hX hb cL_1592 (rw_iadd (pc' := 1593) rfl ?_)
  refine wl_of hX hb cL_1593 (xa_I (so := 0) (pc' := 1594) (a := 0) hW g0 (wsh_s _) (by omega) (wty_s _ _) (by omega) (by omega) rfl (fun b2491 b2492 => ?_))
  refine wl_of hX hb cL_1594 (rw_aload_n (pc' := 1595) (v := .ref o) rfl rfl rfl ?_)
  refine hled ⟨by omega, by omega⟩ hb ⟨⟨hW, g0, gx, gm, go, by omega, by omega⟩, hXI, by omega, by omega⟩ (fun z9 b9 T9 H9 hI9 n9 s9 => ?_)
  obtain ⟨⟨w9, g0, gx, gm, go, hK, hr⟩, hXI, hY1, hY2⟩ := hI9
  have hb : T9.2.1 ≤ CB ∧ T9.2.2.1 ≤ SB := ⟨by omega, by omega⟩
  refine wl_of hX hb cL_1598 (rw_istore (pc' := 1600) (z := z9) (L' := [(5, vI z9), (4, vI i), (3, .ref o), (2, .ref m), (1, .ref x), (0, .ref 0)]) rfl rfl rfl ?_)
  refine wl_of hX hb cL_1600 (rw_aload_n (pc' := 1601) (v := .ref m) rfl rfl rfl ?_)
  refine wl_of hX hb cL_1601 (rw_aload_n (pc' := 1602) (v := .ref 0) rfl rfl rfl ?_)
  refine wl_of hX hb cL_1602 (rw_iload (pc' := 1604) (z := i) rfl rfl ?_)
  refine wl_of hX hb cL_1604 (rw_iconst (pc' := 1605) rfl ?_)
  refine wl_of hX hb cL_1605 (rw_iadd (pc' := 1606) rfl ?_)
  refine wl_of hX hb cL_1606 (xa_I (so := 0) (pc' := 1607) (a := 0) w9 g0 (wsh_s _) (by omega) (wty_s _ _) (by omega) (by omega) rfl (fun b2493 b2494 => ?_))
  refine wl_of hX hb cL_1607 (xc_V (pc' := 1610) (r := m) (as := [vI (H9 0 ((i + 1).toNat))]) (st := []) (lm_11_225) rfl rfl (Nat.le_of_ble_eq_true rfl) w9 gm sh_42 (by decide) rfl (by decide) (s_293 w9 gm ⟨by omega, by omega⟩ (by omega)) (fun R2495 T2496 H2497 p2498 => ?_))
  obtain ⟨e2499, w2501, f2502, z2504, e2500, b2505, p2503⟩ := p2498
  subst e2499
  subst e2500
  show WL _ _ _ _ 1610 [(5, vI z9), (4, vI i), (3, .ref o), (2, .ref m), (1, .ref x), (0, .ref 0)] [vI z2504] _ H2497
  refine wl_of hX hb cL_1610 (rw_istore (pc' := 1612) (z := z2504) (L' := [(6, vI z2504), (5, vI z9), (4, vI i), (3, .ref o), (2, .ref m), (1, .ref x), (0, .ref 0)]) rfl rfl rfl ?_)
  refine wl_of hX hb cL_1612 (rw_goto (p1 := 1653) (by decide) ?_)
  have k2506 : H2497 x 9 = H9 x 9 := (f2502 x 9 _ gx rfl)
  have k2507 : H2497 m 6 = H9 m 6 := (f2502 m 6 _ gm rfl)
  have k2508 : H2497 x 11 = H9 x 11 := (f2502 x 11 _ gx rfl)
  have k2509 : H2497 m 13 = H9 m 13 := (f2502 m 13 _ gm rfl)
  have k2510 : H2497 x 8 = H9 x 8 := (f2502 x 8 _ gx rfl)
  have k2511 : H2497 m 3 = H9 m 3 := (f2502 m 3 _ gm rfl)
  have h2512 : XI T9 H2497 x m := (XI_fr w9 gx f2502 rfl hXI)
  exact WL.loc hX (by simp) (next T9 H2497 ⟨⟨w2501, g0, gx, gm, go, by omega, by omega⟩, h2512, by omega, by omega⟩ (by omega) (by omega))
set_option maxHeartbeats 4000000 in
theorem wl_c48 {kt : Nat → Option mc_E} {CB SB : Nat} {X : mc_S → Prop} {T : wq_T} {H : wq_H} {Len x m o : Nat} {i : Int} (hX : wlX kt CB SB X) (hb : T.2.1 ≤ CB ∧ T.2.2.1 ≤ SB) (hI : wlJ Len x m o T H) (hL : Len ≤ 3072) (hi : 0 ≤ i ∧ i + 6 ≤ Len) (hb2 : T.2.1 + 20 ≤ CB ∧ T.2.2.1 + 500 ≤ SB)  (next : ∀ T' H', wlJ Len x m o T' H' → T'.2.1 ≤ T.2.1 + 20 → T'.2.2.1 ≤ T.2.2.1 + 500 → WL kt CB SB X 1653 (wlL i x m o) [] T' H') : WL kt CB SB X 1615 (wlL i x m o) [] T H := by
  obtain ⟨⟨hW, g0, gx, gm, go, hK, hr⟩, hXI, hY1, hY2⟩ := hI
  refine wl_of hX hb cL_1615 (rw_aload_n (pc' := 1616) (v := .ref x) rfl rfl rfl ?_)
  refine wl_of hX hb cL_1616 (rw_aload_n (pc' := 1617) (v := .ref 0) rfl rfl rfl ?_)
  refine wl_of hX hb cL_1617 (rw_iload (pc' := 1619) (z := i) rfl rfl ?_)
  refine wl_of hX hb cL_1619 (rw_iconst (pc' := 1620) rfl ?_)
  refine wl_of hX hb cL_1620 (rw_iadd (pc' := 1621) rfl ?_)
  refine wl_of hX hb cL_1621 (xa_I (so := 0) (pc' := 1622) (a := 0) hW g0 (wsh_s _) (by omega) (wty_s _ _) (by omega) (by omega) rfl (fun b2513 b2514 => ?_))
  refine wl_of hX hb cL_1622 (xc_V (pc' := 1625) (r := x) (as := [vI (H 0 ((i + 1).toNat))]) (st := []) (lm_11_226) rfl rfl (Nat.le_of_ble_eq_true rfl) hW gx sh_1 (by decide) rfl (by decide) (s_164 hW gx ⟨by omega, by omega⟩) (fun R2515 T2516 H2517 p2518 => ?_))
  obtain ⟨e2519, e2521, z2522, e2520, b2523⟩ := p2518
  subst e2519
  subst e2520
  subst e2521
  show WL _ _ _ _ 1625 [(4, vI i), (3, .ref o), (2, .ref m), (1, .ref x), (0, .ref 0)] [vI z2522] _ H
  refine wl_of hX hb cL_1625 (rw_pop (pc' := 1626) rfl rfl ?_)
  refine wl_of hX hb cL_1626 (rw_aload_n (pc' := 1627) (v := .ref m) rfl rfl rfl ?_)
  refine wl_of hX hb cL_1627 (rw_aload_n (pc' := 1628) (v := .ref 0) rfl rfl rfl ?_)
  refine wl_of hX hb cL_1628 (rw_iload (pc' := 1630) (z := i) rfl rfl ?_)
  refine wl_of hX hb cL_1630 (rw_iconst (pc' := 1631) rfl ?_)
  refine wl_of hX hb cL_1631 (rw_iadd (pc' := 1632) rfl ?_)
  refine wl_of hX hb cL_1632 (xa_I (so := 0) (pc' := 1633) (a := 0) hW g0 (wsh_s _) (by omega) (wty_s _ _) (by omega) (by omega) rfl (fun b2524 b2525 => ?_))
  refine wl_of hX hb cL_1633 (xc_V (pc' := 1636) (r := m) (as := [vI (H 0 ((i + 1).toNat))]) (st := []) (lm_11_229) rfl rfl (Nat.le_of_ble_eq_true rfl) hW gm sh_42 (by decide) rfl (by decide) (s_294 hW gm ⟨by omega, by omega⟩ (by omega)) (fun R2526 T2527 H2528 p2529 => ?_))
  obtain ⟨e2530, w2532, f2533, z2535, e2531, b2536, p2534⟩ := p2529
  subst e2530
  subst e2531
  show WL _ _ _ _ 1636 [(4, vI i), (3, .ref o), (2, .ref m), (1, .ref x), (0, .ref 0)] [vI z2535] _ H2528
  refine wl_of hX hb cL_1636 (rw_pop (pc' := 1637) rfl rfl ?_)
  refine wl_of hX hb cL_1637 (rw_goto (p1 := 1653) (by decide) ?_)
  have k2537 : H2528 x 9 = H x 9 := (f2533 x 9 _ gx rfl)
  have k2538 : H2528 m 6 = H m 6 := (f2533 m 6 _ gm rfl)
  have k2539 : H2528 x 11 = H x 11 := (f2533 x 11 _ gx rfl)
  have k2540 : H2528 m 13 = H m 13 := (f2533 m 13 _ gm rfl)
  have k2541 : H2528 x 8 = H x 8 := (f2533 x 8 _ gx rfl)
  have k2542 : H2528 m 3 = H m 3 := (f2533 m 3 _ gm rfl)
  have h2543 : XI T H2528 x m := (XI_fr hW gx f2533 rfl hXI)
  exact WL.loc hX (by simp) (next T H2528 ⟨⟨w2532, g0, gx, gm, go, by omega, by omega⟩, h2543, by omega, by omega⟩ (by omega) (by omega))
set_option maxHeartbeats 4000000 in
theorem wl_c49 {kt : Nat → Option mc_E} {CB SB : Nat} {X : mc_S → Prop} {T : wq_T} {H : wq_H} {Len x m o : Nat} {i : Int} (hX : wlX kt CB SB X) (hb : T.2.1 ≤ CB ∧ T.2.2.1 ≤ SB) (hI : wlJ Len x m o T H) (hL : Len ≤ 3072) (hi : 0 ≤ i ∧ i + 6 ≤ Len) (hb2 : T.2.1 + 20 ≤ CB ∧ T.2.2.1 + 500 ≤ SB)  (next : ∀ T' H', wlJ Len x m o T' H' → T'.2.1 ≤ T.2.1 + 20 → T'.2.2.1 ≤ T.2.2.1 + 500 → WL kt CB SB X 1653 (wlL i x m o) [] T' H') : WL kt CB SB X 1640 (wlL i x m o) [] T H := by
  obtain ⟨⟨hW, g0, gx, gm, go, hK, hr⟩, hXI, hY1, hY2⟩ := hI
  refine wl_of hX hb cL_1640 (rw_aload_n (pc' := 1641) (v := .ref x) rfl rfl rfl ?_)
  refine wl_of hX hb cL_1641 (xc_V (pc' := 1644) (r := x) (as := []) (st := []) (lm_11_230) rfl rfl (Nat.le_of_ble_eq_true rfl) hW gx sh_1 (by decide) rfl (by decide) (s_165 hW gx) (fun R2544 T2545 H2546 p2547 => ?_))
  obtain ⟨e2548, e2550, z2551, e2549, b2552⟩ := p2547
  subst e2548
  subst e2549
  subst e2550
  show WL _ _ _ _ 1644 [(4, vI i), (3, .ref o), (2, .ref m), (1, .ref x), (0, .ref 0)] [vI z2551] _ H
  refine wl_of hX hb cL_1644 (rw_pop (pc' := 1645) rfl rfl ?_)
  refine wl_of hX hb cL_1645 (rw_aload_n (pc' := 1646) (v := .ref m) rfl rfl rfl ?_)
  refine wl_of hX hb cL_1646 (xc_V (pc' := 1649) (r := m) (as := []) (st := []) (lm_11_233) rfl rfl (Nat.le_of_ble_eq_true rfl) hW gm sh_42 (by decide) rfl (by decide) (s_295 hW gm (by omega)) (fun R2553 T2554 H2555 p2556 => ?_))
  obtain ⟨e2557, w2559, f2560, z2562, e2558, b2563, p2561⟩ := p2556
  subst e2557
  subst e2558
  show WL _ _ _ _ 1649 [(4, vI i), (3, .ref o), (2, .ref m), (1, .ref x), (0, .ref 0)] [vI z2562] _ H2555
  refine wl_of hX hb cL_1649 (rw_pop (pc' := 1650) rfl rfl ?_)
  refine wl_of hX hb cL_1650 (rw_goto (p1 := 1653) (by decide) ?_)
  have k2564 : H2555 x 9 = H x 9 := (f2560 x 9 _ gx rfl)
  have k2565 : H2555 m 6 = H m 6 := (f2560 m 6 _ gm rfl)
  have k2566 : H2555 x 11 = H x 11 := (f2560 x 11 _ gx rfl)
  have k2567 : H2555 m 13 = H m 13 := (f2560 m 13 _ gm rfl)
  have k2568 : H2555 x 8 = H x 8 := (f2560 x 8 _ gx rfl)
  have k2569 : H2555 m 3 = H m 3 := (f2560 m 3 _ gm rfl)
  have h2570 : XI T H2555 x m := (XI_fr hW gx f2560 rfl hXI)
  exact WL.loc hX (by simp) (next T H2555 ⟨⟨w2559, g0, gx, gm, go, by omega, by omega⟩, h2570, by omega, by omega⟩ (by omega) (by omega))
set_option maxHeartbeats 4000000 in
theorem wl_head {kt : Nat → Option mc_E} {CB SB : Nat} {X : mc_S → Prop} {T : wq_T} {H : wq_H} {Len x m o : Nat} {i : Int} (hX : wlX kt CB SB X) (hb : T.2.1 ≤ CB ∧ T.2.2.1 ≤ SB) (hI : wlJ Len x m o T H) (hL : Len ≤ 3072) (hi : 0 ≤ i ∧ i ≤ Len) (cases : ∀ t, t ∈ [256, 329, 354, 367, 380, 405, 454, 503, 516, 553, 578, 603, 616, 629, 642, 655, 668, 705, 718, 755, 792, 829, 882, 919, 944, 957, 994, 1019, 1056, 1109, 1162, 1175, 1200, 1225, 1250, 1263, 1316, 1329, 1342, 1367, 1404, 1429, 1454, 1467, 1504, 1517, 1530, 1587, 1615, 1640] → i + 6 ≤ Len → WL kt CB SB X t (wlL i x m o) [] T H) (next : i + 6 ≤ Len → WL kt CB SB X 1653 (wlL i x m o) [] T H) : WL kt CB SB X 23 (wlL i x m o) [] T H := by
  obtain ⟨⟨hW, g0, gx, gm, go, hK, hr⟩, hXI, hY1, hY2⟩ := hI
  refine wl_of hX hb cL_23 (rw_iload (pc' := 25) (z := i) rfl rfl ?_)
  refine wl_of hX hb cL_25 (rw_aload_n (pc' := 26) (v := .ref 0) rfl rfl rfl ?_)
  refine wl_of hX hb cL_26 (xa_N (pc' := 27) (a := 0) (n := Len) hW g0 (wsh_s _) (by decide) rfl ?_)
  refine wl_of hX hb cL_27 (rw_bipush (pc' := 29) (z := 6) rfl (by decide) ?_)
  refine wl_of hX hb cL_29 (rw_isub (pc' := 30) rfl ?_)
  refine wl_of hX hb cL_30 (rw_icmp_gt (p1 := 1659) (p2 := 33) (by decide) rfl ⟨by omega, by omega⟩ ⟨by omega, by omega⟩ (fun c2571 => ?_) (fun c2571 => ?_))
  · refine wl_of hX hb cL_1659 (rw_iconst (pc' := 1660) rfl ?_)
    exact WL.fin hX hb
  · refine wl_of hX hb cL_33 (rw_aload_n (pc' := 34) (v := .ref 0) rfl rfl rfl ?_)
    refine wl_of hX hb cL_34 (rw_iload (pc' := 36) (z := i) rfl rfl ?_)
    refine wl_of hX hb cL_36 (xa_I (so := 0) (pc' := 37) (a := 0) hW g0 (wsh_s _) (by omega) (wty_s _ _) (by omega) (by omega) rfl (fun b2572 b2573 => ?_))
    refine wl_of hX hb cL_37 (rw_bipush (pc' := 39) (z := 63) rfl (by decide) ?_)
    refine wl_of hX hb cL_39 (rw_iand (pc' := 40) rfl ?_)
    obtain ⟨v2574, e2575⟩ : ∃ x : Int, x = wq_and (H 0 (i.toNat)) 63 := ⟨_, rfl⟩
    rw [← e2575]
    have b2576 : 0 ≤ v2574 ∧ v2574 ≤ 63 := by
      rw [e2575]
      exact wq_and_b _ (by omega) (by omega)
    have c2577 : v2574 = 0 ∨ v2574 = 1 ∨ v2574 = 2 ∨ v2574 = 3 ∨ v2574 = 4 ∨ v2574 = 5 ∨ v2574 = 6 ∨ v2574 = 7 ∨ v2574 = 8 ∨ v2574 = 9 ∨ v2574 = 10 ∨ v2574 = 11 ∨ v2574 = 12 ∨ v2574 = 13 ∨ v2574 = 14 ∨ v2574 = 15 ∨ v2574 = 16 ∨ v2574 = 17 ∨ v2574 = 18 ∨ v2574 = 19 ∨ v2574 = 20 ∨ v2574 = 21 ∨ v2574 = 22 ∨ v2574 = 23 ∨ v2574 = 24 ∨ v2574 = 25 ∨ v2574 = 26 ∨ v2574 = 27 ∨ v2574 = 28 ∨ v2574 = 29 ∨ v2574 = 30 ∨ v2574 = 31 ∨ v2574 = 32 ∨ v2574 = 33 ∨ v2574 = 34 ∨ v2574 = 35 ∨ v2574 = 36 ∨ v2574 = 37 ∨ v2574 = 38 ∨ v2574 = 39 ∨ v2574 = 40 ∨ v2574 = 41 ∨ v2574 = 42 ∨ v2574 = 43 ∨ v2574 = 44 ∨ v2574 = 45 ∨ v2574 = 46 ∨ v2574 = 47 ∨ v2574 = 48 ∨ v2574 = 49 ∨ (v2574 < 0 ∨ 49 < v2574) := by omega
    rcases c2577 with c2577 | c2577 | c2577 | c2577 | c2577 | c2577 | c2577 | c2577 | c2577 | c2577 | c2577 | c2577 | c2577 | c2577 | c2577 | c2577 | c2577 | c2577 | c2577 | c2577 | c2577 | c2577 | c2577 | c2577 | c2577 | c2577 | c2577 | c2577 | c2577 | c2577 | c2577 | c2577 | c2577 | c2577 | c2577 | c2577 | c2577 | c2577 | c2577 | c2577 | c2577 | c2577 | c2577 | c2577 | c2577 | c2577 | c2577 | c2577 | c2577 | c2577 | c2577
    · refine wl_of hX hb cL_40 (rw_tsw (p1 := 256) ⟨by omega, by omega⟩ (by rw [c2577]; decide) ?_)
      exact cases 256 (by decide) (by omega)
    · refine wl_of hX hb cL_40 (rw_tsw (p1 := 329) ⟨by omega, by omega⟩ (by rw [c2577]; decide) ?_)
      exact cases 329 (by decide) (by omega)
    · refine wl_of hX hb cL_40 (rw_tsw (p1 := 354) ⟨by omega, by omega⟩ (by rw [c2577]; decide) ?_)
      exact cases 354 (by decide) (by omega)
    · refine wl_of hX hb cL_40 (rw_tsw (p1 := 367) ⟨by omega, by omega⟩ (by rw [c2577]; decide) ?_)
      exact cases 367 (by decide) (by omega)
    · refine wl_of hX hb cL_40 (rw_tsw (p1 := 380) ⟨by omega, by omega⟩ (by rw [c2577]; decide) ?_)
      exact cases 380 (by decide) (by omega)
    · refine wl_of hX hb cL_40 (rw_tsw (p1 := 405) ⟨by omega, by omega⟩ (by rw [c2577]; decide) ?_)
      exact cases 405 (by decide) (by omega)
    · refine wl_of hX hb cL_40 (rw_tsw (p1 := 454) ⟨by omega, by omega⟩ (by rw [c2577]; decide) ?_)
      exact cases 454 (by decide) (by omega)
    · refine wl_of hX hb cL_40 (rw_tsw (p1 := 503) ⟨by omega, by omega⟩ (by rw [c2577]; decide) ?_)
      exact cases 503 (by decide) (by omega)
    · refine wl_of hX hb cL_40 (rw_tsw (p1 := 516) ⟨by omega, by omega⟩ (by rw [c2577]; decide) ?_)
      exact cases 516 (by decide) (by omega)
    · refine wl_of hX hb cL_40 (rw_tsw (p1 := 553) ⟨by omega, by omega⟩ (by rw [c2577]; decide) ?_)
      exact cases 553 (by decide) (by omega)
    · refine wl_of hX hb cL_40 (rw_tsw (p1 := 578) ⟨by omega, by omega⟩ (by rw [c2577]; decide) ?_)
      exact cases 578 (by decide) (by omega)
    · refine wl_of hX hb cL_40 (rw_tsw (p1 := 603) ⟨by omega, by omega⟩ (by rw [c2577]; decide) ?_)
      exact cases 603 (by decide) (by omega)
    · refine wl_of hX hb cL_40 (rw_tsw (p1 := 616) ⟨by omega, by omega⟩ (by rw [c2577]; decide) ?_)
      exact cases 616 (by decide) (by omega)
    · refine wl_of hX hb cL_40 (rw_tsw (p1 := 629) ⟨by omega, by omega⟩ (by rw [c2577]; decide) ?_)
      exact cases 629 (by decide) (by omega)
    · refine wl_of hX hb cL_40 (rw_tsw (p1 := 642) ⟨by omega, by omega⟩ (by rw [c2577]; decide) ?_)
      exact cases 642 (by decide) (by omega)
    · refine wl_of hX hb cL_40 (rw_tsw (p1 := 655) ⟨by omega, by omega⟩ (by rw [c2577]; decide) ?_)
      exact cases 655 (by decide) (by omega)
    · refine wl_of hX hb cL_40 (rw_tsw (p1 := 668) ⟨by omega, by omega⟩ (by rw [c2577]; decide) ?_)
      exact cases 668 (by decide) (by omega)
    · refine wl_of hX hb cL_40 (rw_tsw (p1 := 705) ⟨by omega, by omega⟩ (by rw [c2577]; decide) ?_)
      exact cases 705 (by decide) (by omega)
    · refine wl_of hX hb cL_40 (rw_tsw (p1 := 718) ⟨by omega, by omega⟩ (by rw [c2577]; decide) ?_)
      exact cases 718 (by decide) (by omega)
    · refine wl_of hX hb cL_40 (rw_tsw (p1 := 755) ⟨by omega, by omega⟩ (by rw [c2577]; decide) ?_)
      exact cases 755 (by decide) (by omega)
    · refine wl_of hX hb cL_40 (rw_tsw (p1 := 792) ⟨by omega, by omega⟩ (by rw [c2577]; decide) ?_)
      exact cases 792 (by decide) (by omega)
    · refine wl_of hX hb cL_40 (rw_tsw (p1 := 829) ⟨by omega, by omega⟩ (by rw [c2577]; decide) ?_)
      exact cases 829 (by decide) (by omega)
    · refine wl_of hX hb cL_40 (rw_tsw (p1 := 882) ⟨by omega, by omega⟩ (by rw [c2577]; decide) ?_)
      exact cases 882 (by decide) (by omega)
    · refine wl_of hX hb cL_40 (rw_tsw (p1 := 919) ⟨by omega, by omega⟩ (by rw [c2577]; decide) ?_)
      exact cases 919 (by decide) (by omega)
    · refine wl_of hX hb cL_40 (rw_tsw (p1 := 944) ⟨by omega, by omega⟩ (by rw [c2577]; decide) ?_)
      exact cases 944 (by decide) (by omega)
    · refine wl_of hX hb cL_40 (rw_tsw (p1 := 957) ⟨by omega, by omega⟩ (by rw [c2577]; decide) ?_)
      exact cases 957 (by decide) (by omega)
    · refine wl_of hX hb cL_40 (rw_tsw (p1 := 994) ⟨by omega, by omega⟩ (by rw [c2577]; decide) ?_)
      exact cases 994 (by decide) (by omega)
    · refine wl_of hX hb cL_40 (rw_tsw (p1 := 1019) ⟨by omega, by omega⟩ (by rw [c2577]; decide) ?_)
      exact cases 1019 (by decide) (by omega)
    · refine wl_of hX hb cL_40 (rw_tsw (p1 := 1056) ⟨by omega, by omega⟩ (by rw [c2577]; decide) ?_)
      exact cases 1056 (by decide) (by omega)
    · refine wl_of hX hb cL_40 (rw_tsw (p1 := 1109) ⟨by omega, by omega⟩ (by rw [c2577]; decide) ?_)
      exact cases 1109 (by decide) (by omega)
    · refine wl_of hX hb cL_40 (rw_tsw (p1 := 1162) ⟨by omega, by omega⟩ (by rw [c2577]; decide) ?_)
      exact cases 1162 (by decide) (by omega)
    · refine wl_of hX hb cL_40 (rw_tsw (p1 := 1175) ⟨by omega, by omega⟩ (by rw [c2577]; decide) ?_)
      exact cases 1175 (by decide) (by omega)
    · refine wl_of hX hb cL_40 (rw_tsw (p1 := 1200) ⟨by omega, by omega⟩ (by rw [c2577]; decide) ?_)
      exact cases 1200 (by decide) (by omega)
    · refine wl_of hX hb cL_40 (rw_tsw (p1 := 1225) ⟨by omega, by omega⟩ (by rw [c2577]; decide) ?_)
      exact cases 1225 (by decide) (by omega)
    · refine wl_of hX hb cL_40 (rw_tsw (p1 := 1250) ⟨by omega, by omega⟩ (by rw [c2577]; decide) ?_)
      exact cases 1250 (by decide) (by omega)
    · refine wl_of hX hb cL_40 (rw_tsw (p1 := 1263) ⟨by omega, by omega⟩ (by rw [c2577]; decide) ?_)
      exact cases 1263 (by decide) (by omega)
    · refine wl_of hX hb cL_40 (rw_tsw (p1 := 1316) ⟨by omega, by omega⟩ (by rw [c2577]; decide) ?_)
      exact cases 1316 (by decide) (by omega)
    · refine wl_of hX hb cL_40 (rw_tsw (p1 := 1329) ⟨by omega, by omega⟩ (by rw [c2577]; decide) ?_)
      exact cases 1329 (by decide) (by omega)
    · refine wl_of hX hb cL_40 (rw_tsw (p1 := 1342) ⟨by omega, by omega⟩ (by rw [c2577]; decide) ?_)
      exact cases 1342 (by decide) (by omega)
    · refine wl_of hX hb cL_40 (rw_tsw (p1 := 1367) ⟨by omega, by omega⟩ (by rw [c2577]; decide) ?_)
      exact cases 1367 (by decide) (by omega)
    · refine wl_of hX hb cL_40 (rw_tsw (p1 := 1404) ⟨by omega, by omega⟩ (by rw [c2577]; decide) ?_)
      exact cases 1404 (by decide) (by omega)
    · refine wl_of hX hb cL_40 (rw_tsw (p1 := 1429) ⟨by omega, by omega⟩ (by rw [c2577]; decide) ?_)
      exact cases 1429 (by decide) (by omega)
    · refine wl_of hX hb cL_40 (rw_tsw (p1 := 1454) ⟨by omega, by omega⟩ (by rw [c2577]; decide) ?_)
      exact cases 1454 (by decide) (by omega)
    · refine wl_of hX hb cL_40 (rw_tsw (p1 := 1467) ⟨by omega, by omega⟩ (by rw [c2577]; decide) ?_)
      exact cases 1467 (by decide) (by omega)
    · refine wl_of hX hb cL_40 (rw_tsw (p1 := 1504) ⟨by omega, by omega⟩ (by rw [c2577]; decide) ?_)
      exact cases 1504 (by decide) (by omega)
    · refine wl_of hX hb cL_40 (rw_tsw (p1 := 1517) ⟨by omega, by omega⟩ (by rw [c2577]; decide) ?_)
      exact cases 1517 (by decide) (by omega)
    · refine wl_of hX hb cL_40 (rw_tsw (p1 := 1530) ⟨by omega, by omega⟩ (by rw [c2577]; decide) ?_)
      exact cases 1530 (by decide) (by omega)
    · refine wl_of hX hb cL_40 (rw_tsw (p1 := 1587) ⟨by omega, by omega⟩ (by rw [c2577]; decide) ?_)
      exact cases 1587 (by decide) (by omega)
    · refine wl_of hX hb cL_40 (rw_tsw (p1 := 1615) ⟨by omega, by omega⟩ (by rw [c2577]; decide) ?_)
      exact cases 1615 (by decide) (by omega)
    · refine wl_of hX hb cL_40 (rw_tsw (p1 := 1640) ⟨by omega, by omega⟩ (by rw [c2577]; decide) ?_)
      exact cases 1640 (by decide) (by omega)
    · refine wl_of hX hb cL_40 (rw_tsw (p1 := 1653) ⟨by omega, by omega⟩ (by rw [if_pos c2577]; decide) ?_)
      exact next (by omega)
theorem wl_back {kt : Nat → Option mc_E} {CB SB : Nat} {X : mc_S → Prop} {T : wq_T} {H : wq_H} {Len x m o : Nat} {i : Int} (hX : wlX kt CB SB X) (hb : T.2.1 ≤ CB ∧ T.2.2.1 ≤ SB) (hI : wlJ Len x m o T H) (hL : Len ≤ 3072) (hi : 0 ≤ i ∧ i + 6 ≤ Len) (next : WL kt CB SB X 23 (wlL (i + 6) x m o) [] T H) : WL kt CB SB X 1653 (wlL i x m o) [] T H := by
  obtain ⟨⟨hW, g0, gx, gm, go, hK, hr⟩, hXI, hY1, hY2⟩ := hI
  refine wl_of hX hb cL_1653 (rw_iinc (pc' := 1656) (z := i) (L' := [(4, vI (i + 6)), (3, .ref o), (2, .ref m), (1, .ref x), (0, .ref 0)]) rfl rfl rfl rfl ?_)
  refine wl_of hX hb cL_1656 (rw_goto (p1 := 23) (by decide) ?_)
  exact next
/-- the call that may throw, as the loop wants it -/
def wlLed (kt : Nat → Option mc_E) (CB SB : Nat) (X : mc_S → Prop) (Len x m o : Nat) : Prop := ∀ (T : wq_T) (H : wq_H) (i z : Int), T.2.1 + 20 ≤ CB ∧ T.2.2.1 + 500 ≤ SB → wI z → wlJ Len x m o T H → (∀ (z' : Int), wI z' → ∀ (T' : wq_T) (H' : wq_H), wlJ Len x m o T' H' → T'.2.1 ≤ T.2.1 + 20 → T'.2.2.1 ≤ T.2.2.1 + 500 → WL kt CB SB X 1598 (wlL i x m o) [vI z'] T' H') → WL kt CB SB X 1595 (wlL i x m o) [.ref o, vI z, .ref x] T H
set_option maxRecDepth 40000 in
theorem wl_loopL {kt : Nat → Option mc_E} {CB SB : Nat} {X : mc_S → Prop} {Len x m o : Nat} (hX : wlX kt CB SB X) (hL : Len ≤ 3072) (hled : wlLed kt CB SB X Len x m o) : ∀ (n : Nat) (T : wq_T) (H : wq_H) (i : Int), 0 ≤ i ∧ i ≤ Len → (Len - i).toNat = n → T.2.1 + 4 * (n + 6) ≤ CB → T.2.2.1 + 100 * (n + 6) ≤ SB → wlJ Len x m o T H → WL kt CB SB X 23 (wlL i x m o) [] T H := by
  intro n
  induction n using Nat.strongRecOn with
  | _ n ih =>
    intro T H i hi hn hc hs hI
    have hb : T.2.1 ≤ CB ∧ T.2.2.1 ≤ SB := ⟨by omega, by omega⟩
    have hb2 : T.2.1 + 20 ≤ CB ∧ T.2.2.1 + 500 ≤ SB := ⟨by omega, by omega⟩
    refine wl_head hX hb hI hL hi (fun t ht h6 => ?_) (fun h6 => wl_back hX hb hI hL ⟨hi.1, h6⟩ (ih (Len - (i + 6)).toNat (by omega) T H (i + 6) ⟨by omega, by omega⟩ rfl (by omega) (by omega) hI))
    have next : ∀ T' H', wlJ Len x m o T' H' → T'.2.1 ≤ T.2.1 + 20 → T'.2.2.1 ≤ T.2.2.1 + 500 → WL kt CB SB X 1653 (wlL i x m o) [] T' H' := fun T' H' hI' h1 h2 => wl_back hX ⟨by omega, by omega⟩ hI' hL ⟨hi.1, h6⟩ (ih (Len - (i + 6)).toNat (by omega) T' H' (i + 6) ⟨by omega, by omega⟩ rfl (by omega) (by omega) hI')
    rcases List.mem_cons.mp ht with rfl | ht
    · exact wl_c0 hX hb hI hL ⟨hi.1, h6⟩ hb2 next
    rcases List.mem_cons.mp ht with rfl | ht
    · exact wl_c1 hX hb hI hL ⟨hi.1, h6⟩ hb2 next
    rcases List.mem_cons.mp ht with rfl | ht
    · exact wl_c2 hX hb hI hL ⟨hi.1, h6⟩ hb2 next
    rcases List.mem_cons.mp ht with rfl | ht
    · exact wl_c3 hX hb hI hL ⟨hi.1, h6⟩ hb2 next
    rcases List.mem_cons.mp ht with rfl | ht
    · exact wl_c4 hX hb hI hL ⟨hi.1, h6⟩ hb2 next
    rcases List.mem_cons.mp ht with rfl | ht
    · exact wl_c5 hX hb hI hL ⟨hi.1, h6⟩ hb2 next
    rcases List.mem_cons.mp ht with rfl | ht
    · exact wl_c6 hX hb hI hL ⟨hi.1, h6⟩ hb2 next
    rcases List.mem_cons.mp ht with rfl | ht
    · exact wl_c7 hX hb hI hL ⟨hi.1, h6⟩ hb2 next
    rcases List.mem_cons.mp ht with rfl | ht
    · exact wl_c8 hX hb hI hL ⟨hi.1, h6⟩ hb2 next
    rcases List.mem_cons.mp ht with rfl | ht
    · exact wl_c9 hX hb hI hL ⟨hi.1, h6⟩ hb2 next
    rcases List.mem_cons.mp ht with rfl | ht
    · exact wl_c10 hX hb hI hL ⟨hi.1, h6⟩ hb2 next
    rcases List.mem_cons.mp ht with rfl | ht
    · exact wl_c11 hX hb hI hL ⟨hi.1, h6⟩ hb2 next
    rcases List.mem_cons.mp ht with rfl | ht
    · exact wl_c12 hX hb hI hL ⟨hi.1, h6⟩ hb2 next
    rcases List.mem_cons.mp ht with rfl | ht
    · exact wl_c13 hX hb hI hL ⟨hi.1, h6⟩ hb2 next
    rcases List.mem_cons.mp ht with rfl | ht
    · exact wl_c14 hX hb hI hL ⟨hi.1, h6⟩ hb2 next
    rcases List.mem_cons.mp ht with rfl | ht
    · exact wl_c15 hX hb hI hL ⟨hi.1, h6⟩ hb2 next
    rcases List.mem_cons.mp ht with rfl | ht
    · exact wl_c16 hX hb hI hL ⟨hi.1, h6⟩ hb2 next
    rcases List.mem_cons.mp ht with rfl | ht
    · exact wl_c17 hX hb hI hL ⟨hi.1, h6⟩ hb2 next
    rcases List.mem_cons.mp ht with rfl | ht
    · exact wl_c18 hX hb hI hL ⟨hi.1, h6⟩ hb2 next
    rcases List.mem_cons.mp ht with rfl | ht
    · exact wl_c19 hX hb hI hL ⟨hi.1, h6⟩ hb2 next
    rcases List.mem_cons.mp ht with rfl | ht
    · exact wl_c20 hX hb hI hL ⟨hi.1, h6⟩ hb2 next
    rcases List.mem_cons.mp ht with rfl | ht
    · exact wl_c21 hX hb hI hL ⟨hi.1, h6⟩ hb2 next
    rcases List.mem_cons.mp ht with rfl | ht
    · exact wl_c22 hX hb hI hL ⟨hi.1, h6⟩ hb2 next
    rcases List.mem_cons.mp ht with rfl | ht
    · exact wl_c23 hX hb hI hL ⟨hi.1, h6⟩ hb2 next
    rcases List.mem_cons.mp ht with rfl | ht
    · exact wl_c24 hX hb hI hL ⟨hi.1, h6⟩ hb2 next
    rcases List.mem_cons.mp ht with rfl | ht
    · exact wl_c25 hX hb hI hL ⟨hi.1, h6⟩ hb2 next
    rcases List.mem_cons.mp ht with rfl | ht
    · exact wl_c26 hX hb hI hL ⟨hi.1, h6⟩ hb2 next
    rcases List.mem_cons.mp ht with rfl | ht
    · exact wl_c27 hX hb hI hL ⟨hi.1, h6⟩ hb2 next
    rcases List.mem_cons.mp ht with rfl | ht
    · exact wl_c28 hX hb hI hL ⟨hi.1, h6⟩ hb2 next
    rcases List.mem_cons.mp ht with rfl | ht
    · exact wl_c29 hX hb hI hL ⟨hi.1, h6⟩ hb2 next
    rcases List.mem_cons.mp ht with rfl | ht
    · exact wl_c30 hX hb hI hL ⟨hi.1, h6⟩ hb2 next
    rcases List.mem_cons.mp ht with rfl | ht
    · exact wl_c31 hX hb hI hL ⟨hi.1, h6⟩ hb2 next
    rcases List.mem_cons.mp ht with rfl | ht
    · exact wl_c32 hX hb hI hL ⟨hi.1, h6⟩ hb2 next
    rcases List.mem_cons.mp ht with rfl | ht
    · exact wl_c33 hX hb hI hL ⟨hi.1, h6⟩ hb2 next
    rcases List.mem_cons.mp ht with rfl | ht
    · exact wl_c34 hX hb hI hL ⟨hi.1, h6⟩ hb2 next
    rcases List.mem_cons.mp ht with rfl | ht
    · exact wl_c35 hX hb hI hL ⟨hi.1, h6⟩ hb2 next
    rcases List.mem_cons.mp ht with rfl | ht
    · exact wl_c36 hX hb hI hL ⟨hi.1, h6⟩ hb2 next
    rcases List.mem_cons.mp ht with rfl | ht
    · exact wl_c37 hX hb hI hL ⟨hi.1, h6⟩ hb2 next
    rcases List.mem_cons.mp ht with rfl | ht
    · exact wl_c38 hX hb hI hL ⟨hi.1, h6⟩ hb2 next
    rcases List.mem_cons.mp ht with rfl | ht
    · exact wl_c39 hX hb hI hL ⟨hi.1, h6⟩ hb2 next
    rcases List.mem_cons.mp ht with rfl | ht
    · exact wl_c40 hX hb hI hL ⟨hi.1, h6⟩ hb2 next
    rcases List.mem_cons.mp ht with rfl | ht
    · exact wl_c41 hX hb hI hL ⟨hi.1, h6⟩ hb2 next
    rcases List.mem_cons.mp ht with rfl | ht
    · exact wl_c42 hX hb hI hL ⟨hi.1, h6⟩ hb2 next
    rcases List.mem_cons.mp ht with rfl | ht
    · exact wl_c43 hX hb hI hL ⟨hi.1, h6⟩ hb2 next
    rcases List.mem_cons.mp ht with rfl | ht
    · exact wl_c44 hX hb hI hL ⟨hi.1, h6⟩ hb2 next
    rcases List.mem_cons.mp ht with rfl | ht
    · exact wl_c45 hX hb hI hL ⟨hi.1, h6⟩ hb2 next
    rcases List.mem_cons.mp ht with rfl | ht
    · exact wl_c46 hX hb hI hL ⟨hi.1, h6⟩ hb2 next
    rcases List.mem_cons.mp ht with rfl | ht
    · exact wl_c47 hX hb hI hL ⟨hi.1, h6⟩ hb2 (fun hz _ hI2 k => hled T H i _ hb2 hz hI2 k) next
    rcases List.mem_cons.mp ht with rfl | ht
    · exact wl_c48 hX hb hI hL ⟨hi.1, h6⟩ hb2 next
    rcases List.mem_cons.mp ht with rfl | ht
    · exact wl_c49 hX hb hI hL ⟨hi.1, h6⟩ hb2 next
    cases ht
