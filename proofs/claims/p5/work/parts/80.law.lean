/-! THE LAW'S LOOP OVER PURE MEMORY (own work): X is any property of states that one instruction carries backwards; WL: from this place on it is good -/
def wlX (kt : Nat → Option mc_E) (CB SB : Nat) (X : mc_S → Prop) : Prop :=
  (∀ (F : Nat) (x : Instr) (n : Nat) (S0 S : mc_S), mc_lawcd S0.1 = some (x, n) → mc_step kt (mc_call kt F 11) 11 7 false (some .boolean) x n S0 = some (.inl S) → S.2.2.2.length ≤ CB ∧ mc_sz S.2.2.2 ≤ SB → X S → X S0) ∧
  (∀ (pc : Nat) (L L' : List (Nat × Value)) (st : List Value) (M : mc_M), (∀ q ∈ L, q ∈ L') → X (pc, L, st, M) → X (pc, L', st, M)) ∧
  ∀ (L : List (Nat × Value)) (M : mc_M), M.length ≤ CB → mc_sz M ≤ SB → X (1660, L, [.int 1], M)
theorem wmem_s {l : List (Nat × Nat)} {n j : Nat} (h : l.all (fun q => decide (q.1 < 1000)) = true) : wmem l (1000 + n) j = false := wmem_no (fun q hq hh => by
  have h1 := of_decide_eq_true (List.all_eq_true.mp h q hq)
  have h2 := hh.1
  omega)
def WL (kt : Nat → Option mc_E) (CB SB : Nat) (X : mc_S → Prop) (pc : Nat) (L : List (Nat × Value)) (st : List Value) (T : wq_T) (H : wq_H) : Prop := (T.2.1 ≤ CB ∧ T.2.2.1 ≤ SB) ∧ ∀ M, wq_R kt M T H → X (pc, L, st, M)
theorem wl_of {kt : Nat → Option mc_E} {CB SB : Nat} {X : mc_S → Prop} (hX : wlX kt CB SB X) {pc : Nat} {L : List (Nat × Value)} {st : List Value} {T : wq_T} {H : wq_H} (hb : T.2.1 ≤ CB ∧ T.2.2.1 ≤ SB) {x : Instr} {n : Nat} (hd : mc_lawcd pc = some (x, n)) (h : wq_s kt 11 (11, 7, false, some .boolean) x n pc L st T H (WL kt CB SB X)) : WL kt CB SB X pc L st T H := ⟨hb, fun M hM => by
  obtain ⟨F, pc', L', st', M', T', H', h1, h2, h3⟩ := h M hM
  have hl := h2.1
  have hz := h2.2.1
  have hb' := h3.1
  exact hX.1 F x n (pc, L, st, M) (pc', L', st', M') hd h1 ⟨by show M'.length ≤ CB; omega, by show mc_sz M' ≤ SB; omega⟩ (h3.2 M' h2)⟩
theorem WL.loc {kt : Nat → Option mc_E} {CB SB : Nat} {X : mc_S → Prop} (hX : wlX kt CB SB X) {pc : Nat} {L L' : List (Nat × Value)} {st : List Value} {T : wq_T} {H : wq_H} (hq : ∀ q ∈ L, q ∈ L') (h : WL kt CB SB X pc L st T H) : WL kt CB SB X pc L' st T H := ⟨h.1, fun M hM => hX.2.1 pc L L' st M hq (h.2 M hM)⟩
theorem WL.fin {kt : Nat → Option mc_E} {CB SB : Nat} {X : mc_S → Prop} (hX : wlX kt CB SB X) {L : List (Nat × Value)} {T : wq_T} {H : wq_H} (hb : T.2.1 ≤ CB ∧ T.2.2.1 ≤ SB) : WL kt CB SB X 1660 L [vI 1] T H := ⟨hb, fun M hM => hX.2.2 L M (by have := hM.1; omega) (by have := hM.2.1; omega)⟩
/-- what holds at the head of the law's loop -/
def wlI (Len x m o : Nat) (T : wq_T) (H : wq_H) : Prop := WT T H ∧ T.2.2.2 0 = some (1000 + Len) ∧ T.2.2.2 x = some 1 ∧ T.2.2.2 m = some 42 ∧ T.2.2.2 o = some 73 ∧ wKI H m = 1 ∧ H x 9 = H m 6
abbrev wlL (i : Int) (x m o : Nat) : List (Nat × Value) := [(4, vI i), (3, .ref o), (2, .ref m), (1, .ref x), (0, .ref 0)]
/-- and what the two have in common: THE TAPE; two PARISHES with six persons each; the FAULT's number; whether there is a PARISH; where the FAULT is -/
def wlJ (Len x m o : Nat) (T : wq_T) (H : wq_H) : Prop := wlI Len x m o T H ∧ XI T H x m ∧ H x 11 = H m 13 ∧ ((H x 8 = 0 ∧ H m 3 = -1) ∨ (H x 8 = 1 ∧ H m 3 ≠ -1)) ∧ ((H x 10 = 4 ∧ H m 2 = H x 12) ∨ (H x 10 ≠ 4 ∧ H m 2 = -1))

theorem cL_23 : mc_lawcd 23 = some (.iload 4, 2) := by decide +kernel
theorem cL_25 : mc_lawcd 25 = some (.aload_n 0, 1) := by decide +kernel
theorem cL_26 : mc_lawcd 26 = some (.arraylength, 1) := by decide +kernel
theorem cL_27 : mc_lawcd 27 = some (.bipush 6, 2) := by decide +kernel
theorem cL_29 : mc_lawcd 29 = some (.isub, 1) := by decide +kernel
theorem cL_30 : mc_lawcd 30 = some (.if_icmp .gt 1629, 3) := by decide +kernel
theorem cL_33 : mc_lawcd 33 = some (.aload_n 0, 1) := by decide +kernel
theorem cL_34 : mc_lawcd 34 = some (.iload 4, 2) := by decide +kernel
theorem cL_36 : mc_lawcd 36 = some (.iaload, 1) := by decide +kernel
theorem cL_37 : mc_lawcd 37 = some (.bipush 63, 2) := by decide +kernel
theorem cL_39 : mc_lawcd 39 = some (.iand, 1) := by decide +kernel
theorem cL_40 : mc_lawcd 40 = some (.tableswitch 1613 0 49 #[216, 289, 314, 327, 340, 365, 414, 463, 476, 513, 538, 563, 576, 589, 602, 615, 628, 665, 678, 715, 752, 789, 842, 879, 904, 917, 954, 979, 1016, 1069, 1122, 1135, 1160, 1185, 1210, 1223, 1276, 1289, 1302, 1327, 1364, 1389, 1414, 1427, 1464, 1477, 1490, 1547, 1575, 1600], 216) := by decide +kernel
theorem cL_256 : mc_lawcd 256 = some (.aload_n 1, 1) := by decide +kernel
theorem cL_257 : mc_lawcd 257 = some (.aload_n 0, 1) := by decide +kernel
theorem cL_258 : mc_lawcd 258 = some (.iload 4, 2) := by decide +kernel
theorem cL_260 : mc_lawcd 260 = some (.iconst 1, 1) := by decide +kernel
theorem cL_261 : mc_lawcd 261 = some (.iadd, 1) := by decide +kernel
theorem cL_262 : mc_lawcd 262 = some (.iaload, 1) := by decide +kernel
theorem cL_263 : mc_lawcd 263 = some (.aload_n 0, 1) := by decide +kernel
theorem cL_264 : mc_lawcd 264 = some (.iload 4, 2) := by decide +kernel
theorem cL_266 : mc_lawcd 266 = some (.iconst 2, 1) := by decide +kernel
theorem cL_267 : mc_lawcd 267 = some (.iadd, 1) := by decide +kernel
theorem cL_268 : mc_lawcd 268 = some (.iaload, 1) := by decide +kernel
theorem cL_269 : mc_lawcd 269 = some (.aload_n 0, 1) := by decide +kernel
theorem cL_270 : mc_lawcd 270 = some (.iload 4, 2) := by decide +kernel
theorem cL_272 : mc_lawcd 272 = some (.iconst 3, 1) := by decide +kernel
theorem cL_273 : mc_lawcd 273 = some (.iadd, 1) := by decide +kernel
theorem cL_274 : mc_lawcd 274 = some (.iaload, 1) := by decide +kernel
theorem cL_275 : mc_lawcd 275 = some (.aload_n 0, 1) := by decide +kernel
theorem cL_276 : mc_lawcd 276 = some (.iload 4, 2) := by decide +kernel
theorem cL_278 : mc_lawcd 278 = some (.iconst 4, 1) := by decide +kernel
theorem cL_279 : mc_lawcd 279 = some (.iadd, 1) := by decide +kernel
theorem cL_280 : mc_lawcd 280 = some (.iaload, 1) := by decide +kernel
theorem cL_281 : mc_lawcd 281 = some (.aload_n 0, 1) := by decide +kernel
theorem cL_282 : mc_lawcd 282 = some (.iload 4, 2) := by decide +kernel
theorem cL_284 : mc_lawcd 284 = some (.iconst 5, 1) := by decide +kernel
theorem cL_285 : mc_lawcd 285 = some (.iadd, 1) := by decide +kernel
theorem cL_286 : mc_lawcd 286 = some (.iaload, 1) := by decide +kernel
theorem cL_287 : mc_lawcd 287 = some (.invokevirtual 19, 3) := by decide +kernel
theorem cL_290 : mc_lawcd 290 = some (.pop, 1) := by decide +kernel
theorem cL_291 : mc_lawcd 291 = some (.aload_n 2, 1) := by decide +kernel
theorem cL_292 : mc_lawcd 292 = some (.aload_n 0, 1) := by decide +kernel
theorem cL_293 : mc_lawcd 293 = some (.iload 4, 2) := by decide +kernel
theorem cL_295 : mc_lawcd 295 = some (.iconst 1, 1) := by decide +kernel
theorem cL_296 : mc_lawcd 296 = some (.iadd, 1) := by decide +kernel
theorem cL_297 : mc_lawcd 297 = some (.iaload, 1) := by decide +kernel
theorem cL_298 : mc_lawcd 298 = some (.aload_n 0, 1) := by decide +kernel
theorem cL_299 : mc_lawcd 299 = some (.iload 4, 2) := by decide +kernel
theorem cL_301 : mc_lawcd 301 = some (.iconst 2, 1) := by decide +kernel
theorem cL_302 : mc_lawcd 302 = some (.iadd, 1) := by decide +kernel
theorem cL_303 : mc_lawcd 303 = some (.iaload, 1) := by decide +kernel
theorem cL_304 : mc_lawcd 304 = some (.aload_n 0, 1) := by decide +kernel
theorem cL_305 : mc_lawcd 305 = some (.iload 4, 2) := by decide +kernel
theorem cL_307 : mc_lawcd 307 = some (.iconst 3, 1) := by decide +kernel
theorem cL_308 : mc_lawcd 308 = some (.iadd, 1) := by decide +kernel
theorem cL_309 : mc_lawcd 309 = some (.iaload, 1) := by decide +kernel
theorem cL_310 : mc_lawcd 310 = some (.aload_n 0, 1) := by decide +kernel
theorem cL_311 : mc_lawcd 311 = some (.iload 4, 2) := by decide +kernel
theorem cL_313 : mc_lawcd 313 = some (.iconst 4, 1) := by decide +kernel
theorem cL_314 : mc_lawcd 314 = some (.iadd, 1) := by decide +kernel
theorem cL_315 : mc_lawcd 315 = some (.iaload, 1) := by decide +kernel
theorem cL_316 : mc_lawcd 316 = some (.aload_n 0, 1) := by decide +kernel
theorem cL_317 : mc_lawcd 317 = some (.iload 4, 2) := by decide +kernel
theorem cL_319 : mc_lawcd 319 = some (.iconst 5, 1) := by decide +kernel
theorem cL_320 : mc_lawcd 320 = some (.iadd, 1) := by decide +kernel
theorem cL_321 : mc_lawcd 321 = some (.iaload, 1) := by decide +kernel
theorem cL_322 : mc_lawcd 322 = some (.invokevirtual 23, 3) := by decide +kernel
theorem cL_325 : mc_lawcd 325 = some (.pop, 1) := by decide +kernel
theorem cL_326 : mc_lawcd 326 = some (.goto 1327, 3) := by decide +kernel
theorem cL_329 : mc_lawcd 329 = some (.aload_n 1, 1) := by decide +kernel
theorem cL_330 : mc_lawcd 330 = some (.aload_n 0, 1) := by decide +kernel
theorem cL_331 : mc_lawcd 331 = some (.iload 4, 2) := by decide +kernel
theorem cL_333 : mc_lawcd 333 = some (.iconst 1, 1) := by decide +kernel
theorem cL_334 : mc_lawcd 334 = some (.iadd, 1) := by decide +kernel
theorem cL_335 : mc_lawcd 335 = some (.iaload, 1) := by decide +kernel
theorem cL_336 : mc_lawcd 336 = some (.invokevirtual 24, 3) := by decide +kernel
theorem cL_339 : mc_lawcd 339 = some (.pop, 1) := by decide +kernel
theorem cL_340 : mc_lawcd 340 = some (.aload_n 2, 1) := by decide +kernel
theorem cL_341 : mc_lawcd 341 = some (.aload_n 0, 1) := by decide +kernel
theorem cL_342 : mc_lawcd 342 = some (.iload 4, 2) := by decide +kernel
theorem cL_344 : mc_lawcd 344 = some (.iconst 1, 1) := by decide +kernel
theorem cL_345 : mc_lawcd 345 = some (.iadd, 1) := by decide +kernel
theorem cL_346 : mc_lawcd 346 = some (.iaload, 1) := by decide +kernel
theorem cL_347 : mc_lawcd 347 = some (.invokevirtual 27, 3) := by decide +kernel
theorem cL_350 : mc_lawcd 350 = some (.pop, 1) := by decide +kernel
theorem cL_351 : mc_lawcd 351 = some (.goto 1302, 3) := by decide +kernel
theorem cL_354 : mc_lawcd 354 = some (.aload_n 1, 1) := by decide +kernel
theorem cL_355 : mc_lawcd 355 = some (.invokevirtual 28, 3) := by decide +kernel
theorem cL_358 : mc_lawcd 358 = some (.pop, 1) := by decide +kernel
theorem cL_359 : mc_lawcd 359 = some (.aload_n 2, 1) := by decide +kernel
theorem cL_360 : mc_lawcd 360 = some (.invokevirtual 32, 3) := by decide +kernel
theorem cL_363 : mc_lawcd 363 = some (.pop, 1) := by decide +kernel
theorem cL_364 : mc_lawcd 364 = some (.goto 1289, 3) := by decide +kernel
theorem cL_367 : mc_lawcd 367 = some (.aload_n 1, 1) := by decide +kernel
theorem cL_368 : mc_lawcd 368 = some (.invokevirtual 33, 3) := by decide +kernel
theorem cL_371 : mc_lawcd 371 = some (.aload_n 2, 1) := by decide +kernel
theorem cL_372 : mc_lawcd 372 = some (.invokevirtual 36, 3) := by decide +kernel
theorem cL_375 : mc_lawcd 375 = some (.if_icmp .eq 1278, 3) := by decide +kernel
theorem cL_378 : mc_lawcd 378 = some (.iconst 0, 1) := by decide +kernel
theorem cL_380 : mc_lawcd 380 = some (.aload_n 1, 1) := by decide +kernel
theorem cL_381 : mc_lawcd 381 = some (.aload_n 0, 1) := by decide +kernel
theorem cL_382 : mc_lawcd 382 = some (.iload 4, 2) := by decide +kernel
theorem cL_384 : mc_lawcd 384 = some (.iconst 1, 1) := by decide +kernel
theorem cL_385 : mc_lawcd 385 = some (.iadd, 1) := by decide +kernel
theorem cL_386 : mc_lawcd 386 = some (.iaload, 1) := by decide +kernel
theorem cL_387 : mc_lawcd 387 = some (.invokevirtual 37, 3) := by decide +kernel
theorem cL_390 : mc_lawcd 390 = some (.pop, 1) := by decide +kernel
theorem cL_391 : mc_lawcd 391 = some (.aload_n 2, 1) := by decide +kernel
theorem cL_392 : mc_lawcd 392 = some (.aload_n 0, 1) := by decide +kernel
theorem cL_393 : mc_lawcd 393 = some (.iload 4, 2) := by decide +kernel
theorem cL_395 : mc_lawcd 395 = some (.iconst 1, 1) := by decide +kernel
theorem cL_396 : mc_lawcd 396 = some (.iadd, 1) := by decide +kernel
theorem cL_397 : mc_lawcd 397 = some (.iaload, 1) := by decide +kernel
theorem cL_398 : mc_lawcd 398 = some (.invokevirtual 40, 3) := by decide +kernel
theorem cL_401 : mc_lawcd 401 = some (.pop, 1) := by decide +kernel
theorem cL_402 : mc_lawcd 402 = some (.goto 1251, 3) := by decide +kernel
theorem cL_405 : mc_lawcd 405 = some (.aload_n 1, 1) := by decide +kernel
theorem cL_406 : mc_lawcd 406 = some (.aload_n 0, 1) := by decide +kernel
theorem cL_407 : mc_lawcd 407 = some (.iload 4, 2) := by decide +kernel
theorem cL_409 : mc_lawcd 409 = some (.iconst 1, 1) := by decide +kernel
theorem cL_410 : mc_lawcd 410 = some (.iadd, 1) := by decide +kernel
theorem cL_411 : mc_lawcd 411 = some (.iaload, 1) := by decide +kernel
theorem cL_412 : mc_lawcd 412 = some (.aload_n 0, 1) := by decide +kernel
theorem cL_413 : mc_lawcd 413 = some (.iload 4, 2) := by decide +kernel
theorem cL_415 : mc_lawcd 415 = some (.iconst 2, 1) := by decide +kernel
theorem cL_416 : mc_lawcd 416 = some (.iadd, 1) := by decide +kernel
theorem cL_417 : mc_lawcd 417 = some (.iaload, 1) := by decide +kernel
theorem cL_418 : mc_lawcd 418 = some (.aload_n 0, 1) := by decide +kernel
theorem cL_419 : mc_lawcd 419 = some (.iload 4, 2) := by decide +kernel
theorem cL_421 : mc_lawcd 421 = some (.iconst 3, 1) := by decide +kernel
theorem cL_422 : mc_lawcd 422 = some (.iadd, 1) := by decide +kernel
theorem cL_423 : mc_lawcd 423 = some (.iaload, 1) := by decide +kernel
theorem cL_424 : mc_lawcd 424 = some (.invokevirtual 41, 3) := by decide +kernel
theorem cL_427 : mc_lawcd 427 = some (.pop, 1) := by decide +kernel
theorem cL_428 : mc_lawcd 428 = some (.aload_n 2, 1) := by decide +kernel
theorem cL_429 : mc_lawcd 429 = some (.aload_n 0, 1) := by decide +kernel
theorem cL_430 : mc_lawcd 430 = some (.iload 4, 2) := by decide +kernel
theorem cL_432 : mc_lawcd 432 = some (.iconst 1, 1) := by decide +kernel
theorem cL_433 : mc_lawcd 433 = some (.iadd, 1) := by decide +kernel
theorem cL_434 : mc_lawcd 434 = some (.iaload, 1) := by decide +kernel
theorem cL_435 : mc_lawcd 435 = some (.aload_n 0, 1) := by decide +kernel
theorem cL_436 : mc_lawcd 436 = some (.iload 4, 2) := by decide +kernel
theorem cL_438 : mc_lawcd 438 = some (.iconst 2, 1) := by decide +kernel
theorem cL_439 : mc_lawcd 439 = some (.iadd, 1) := by decide +kernel
theorem cL_440 : mc_lawcd 440 = some (.iaload, 1) := by decide +kernel
theorem cL_441 : mc_lawcd 441 = some (.aload_n 0, 1) := by decide +kernel
theorem cL_442 : mc_lawcd 442 = some (.iload 4, 2) := by decide +kernel
theorem cL_444 : mc_lawcd 444 = some (.iconst 3, 1) := by decide +kernel
theorem cL_445 : mc_lawcd 445 = some (.iadd, 1) := by decide +kernel
theorem cL_446 : mc_lawcd 446 = some (.iaload, 1) := by decide +kernel
theorem cL_447 : mc_lawcd 447 = some (.invokevirtual 45, 3) := by decide +kernel
theorem cL_450 : mc_lawcd 450 = some (.pop, 1) := by decide +kernel
theorem cL_451 : mc_lawcd 451 = some (.goto 1202, 3) := by decide +kernel
theorem cL_454 : mc_lawcd 454 = some (.aload_n 1, 1) := by decide +kernel
theorem cL_455 : mc_lawcd 455 = some (.aload_n 0, 1) := by decide +kernel
theorem cL_456 : mc_lawcd 456 = some (.iload 4, 2) := by decide +kernel
theorem cL_458 : mc_lawcd 458 = some (.iconst 1, 1) := by decide +kernel
theorem cL_459 : mc_lawcd 459 = some (.iadd, 1) := by decide +kernel
theorem cL_460 : mc_lawcd 460 = some (.iaload, 1) := by decide +kernel
theorem cL_461 : mc_lawcd 461 = some (.aload_n 0, 1) := by decide +kernel
theorem cL_462 : mc_lawcd 462 = some (.iload 4, 2) := by decide +kernel
theorem cL_464 : mc_lawcd 464 = some (.iconst 2, 1) := by decide +kernel
theorem cL_465 : mc_lawcd 465 = some (.iadd, 1) := by decide +kernel
theorem cL_466 : mc_lawcd 466 = some (.iaload, 1) := by decide +kernel
theorem cL_467 : mc_lawcd 467 = some (.aload_n 0, 1) := by decide +kernel
theorem cL_468 : mc_lawcd 468 = some (.iload 4, 2) := by decide +kernel
theorem cL_470 : mc_lawcd 470 = some (.iconst 3, 1) := by decide +kernel
theorem cL_471 : mc_lawcd 471 = some (.iadd, 1) := by decide +kernel
theorem cL_472 : mc_lawcd 472 = some (.iaload, 1) := by decide +kernel
theorem cL_473 : mc_lawcd 473 = some (.invokevirtual 46, 3) := by decide +kernel
theorem cL_476 : mc_lawcd 476 = some (.pop, 1) := by decide +kernel
theorem cL_477 : mc_lawcd 477 = some (.aload_n 2, 1) := by decide +kernel
theorem cL_478 : mc_lawcd 478 = some (.aload_n 0, 1) := by decide +kernel
theorem cL_479 : mc_lawcd 479 = some (.iload 4, 2) := by decide +kernel
theorem cL_481 : mc_lawcd 481 = some (.iconst 1, 1) := by decide +kernel
theorem cL_482 : mc_lawcd 482 = some (.iadd, 1) := by decide +kernel
theorem cL_483 : mc_lawcd 483 = some (.iaload, 1) := by decide +kernel
theorem cL_484 : mc_lawcd 484 = some (.aload_n 0, 1) := by decide +kernel
theorem cL_485 : mc_lawcd 485 = some (.iload 4, 2) := by decide +kernel
theorem cL_487 : mc_lawcd 487 = some (.iconst 2, 1) := by decide +kernel
theorem cL_488 : mc_lawcd 488 = some (.iadd, 1) := by decide +kernel
theorem cL_489 : mc_lawcd 489 = some (.iaload, 1) := by decide +kernel
theorem cL_490 : mc_lawcd 490 = some (.aload_n 0, 1) := by decide +kernel
theorem cL_491 : mc_lawcd 491 = some (.iload 4, 2) := by decide +kernel
theorem cL_493 : mc_lawcd 493 = some (.iconst 3, 1) := by decide +kernel
theorem cL_494 : mc_lawcd 494 = some (.iadd, 1) := by decide +kernel
theorem cL_495 : mc_lawcd 495 = some (.iaload, 1) := by decide +kernel
theorem cL_496 : mc_lawcd 496 = some (.invokevirtual 49, 3) := by decide +kernel
theorem cL_499 : mc_lawcd 499 = some (.pop, 1) := by decide +kernel
theorem cL_500 : mc_lawcd 500 = some (.goto 1153, 3) := by decide +kernel
theorem cL_503 : mc_lawcd 503 = some (.aload_n 1, 1) := by decide +kernel
theorem cL_504 : mc_lawcd 504 = some (.invokevirtual 50, 3) := by decide +kernel
theorem cL_507 : mc_lawcd 507 = some (.pop2, 1) := by decide +kernel
theorem cL_508 : mc_lawcd 508 = some (.aload_n 2, 1) := by decide +kernel
theorem cL_509 : mc_lawcd 509 = some (.invokevirtual 54, 3) := by decide +kernel
theorem cL_512 : mc_lawcd 512 = some (.pop2, 1) := by decide +kernel
theorem cL_513 : mc_lawcd 513 = some (.goto 1140, 3) := by decide +kernel
theorem cL_516 : mc_lawcd 516 = some (.aload_n 1, 1) := by decide +kernel
theorem cL_517 : mc_lawcd 517 = some (.aload_n 0, 1) := by decide +kernel
theorem cL_518 : mc_lawcd 518 = some (.iload 4, 2) := by decide +kernel
theorem cL_520 : mc_lawcd 520 = some (.iconst 1, 1) := by decide +kernel
theorem cL_521 : mc_lawcd 521 = some (.iadd, 1) := by decide +kernel
theorem cL_522 : mc_lawcd 522 = some (.iaload, 1) := by decide +kernel
theorem cL_523 : mc_lawcd 523 = some (.aload_n 0, 1) := by decide +kernel
theorem cL_524 : mc_lawcd 524 = some (.iload 4, 2) := by decide +kernel
theorem cL_526 : mc_lawcd 526 = some (.iconst 2, 1) := by decide +kernel
theorem cL_527 : mc_lawcd 527 = some (.iadd, 1) := by decide +kernel
theorem cL_528 : mc_lawcd 528 = some (.iaload, 1) := by decide +kernel
theorem cL_529 : mc_lawcd 529 = some (.invokevirtual 55, 3) := by decide +kernel
theorem cL_532 : mc_lawcd 532 = some (.pop, 1) := by decide +kernel
theorem cL_533 : mc_lawcd 533 = some (.aload_n 2, 1) := by decide +kernel
theorem cL_534 : mc_lawcd 534 = some (.aload_n 0, 1) := by decide +kernel
theorem cL_535 : mc_lawcd 535 = some (.iload 4, 2) := by decide +kernel
theorem cL_537 : mc_lawcd 537 = some (.iconst 1, 1) := by decide +kernel
theorem cL_538 : mc_lawcd 538 = some (.iadd, 1) := by decide +kernel
theorem cL_539 : mc_lawcd 539 = some (.iaload, 1) := by decide +kernel
theorem cL_540 : mc_lawcd 540 = some (.aload_n 0, 1) := by decide +kernel
theorem cL_541 : mc_lawcd 541 = some (.iload 4, 2) := by decide +kernel
theorem cL_543 : mc_lawcd 543 = some (.iconst 2, 1) := by decide +kernel
theorem cL_544 : mc_lawcd 544 = some (.iadd, 1) := by decide +kernel
theorem cL_545 : mc_lawcd 545 = some (.iaload, 1) := by decide +kernel
theorem cL_546 : mc_lawcd 546 = some (.invokevirtual 59, 3) := by decide +kernel
theorem cL_549 : mc_lawcd 549 = some (.pop, 1) := by decide +kernel
theorem cL_550 : mc_lawcd 550 = some (.goto 1103, 3) := by decide +kernel
theorem cL_553 : mc_lawcd 553 = some (.aload_n 1, 1) := by decide +kernel
theorem cL_554 : mc_lawcd 554 = some (.aload_n 0, 1) := by decide +kernel
theorem cL_555 : mc_lawcd 555 = some (.iload 4, 2) := by decide +kernel
theorem cL_557 : mc_lawcd 557 = some (.iconst 1, 1) := by decide +kernel
theorem cL_558 : mc_lawcd 558 = some (.iadd, 1) := by decide +kernel
theorem cL_559 : mc_lawcd 559 = some (.iaload, 1) := by decide +kernel
theorem cL_560 : mc_lawcd 560 = some (.invokevirtual 60, 3) := by decide +kernel
theorem cL_563 : mc_lawcd 563 = some (.pop, 1) := by decide +kernel
theorem cL_564 : mc_lawcd 564 = some (.aload_n 2, 1) := by decide +kernel
theorem cL_565 : mc_lawcd 565 = some (.aload_n 0, 1) := by decide +kernel
theorem cL_566 : mc_lawcd 566 = some (.iload 4, 2) := by decide +kernel
theorem cL_568 : mc_lawcd 568 = some (.iconst 1, 1) := by decide +kernel
theorem cL_569 : mc_lawcd 569 = some (.iadd, 1) := by decide +kernel
theorem cL_570 : mc_lawcd 570 = some (.iaload, 1) := by decide +kernel
theorem cL_571 : mc_lawcd 571 = some (.invokevirtual 63, 3) := by decide +kernel
theorem cL_574 : mc_lawcd 574 = some (.pop, 1) := by decide +kernel
theorem cL_575 : mc_lawcd 575 = some (.goto 1078, 3) := by decide +kernel
theorem cL_578 : mc_lawcd 578 = some (.aload_n 1, 1) := by decide +kernel
theorem cL_579 : mc_lawcd 579 = some (.aload_n 0, 1) := by decide +kernel
theorem cL_580 : mc_lawcd 580 = some (.iload 4, 2) := by decide +kernel
theorem cL_582 : mc_lawcd 582 = some (.iconst 1, 1) := by decide +kernel
theorem cL_583 : mc_lawcd 583 = some (.iadd, 1) := by decide +kernel
theorem cL_584 : mc_lawcd 584 = some (.iaload, 1) := by decide +kernel
theorem cL_585 : mc_lawcd 585 = some (.invokevirtual 64, 3) := by decide +kernel
theorem cL_588 : mc_lawcd 588 = some (.pop, 1) := by decide +kernel
theorem cL_589 : mc_lawcd 589 = some (.aload_n 2, 1) := by decide +kernel
theorem cL_590 : mc_lawcd 590 = some (.aload_n 0, 1) := by decide +kernel
theorem cL_591 : mc_lawcd 591 = some (.iload 4, 2) := by decide +kernel
theorem cL_593 : mc_lawcd 593 = some (.iconst 1, 1) := by decide +kernel
theorem cL_594 : mc_lawcd 594 = some (.iadd, 1) := by decide +kernel
theorem cL_595 : mc_lawcd 595 = some (.iaload, 1) := by decide +kernel
theorem cL_596 : mc_lawcd 596 = some (.invokevirtual 67, 3) := by decide +kernel
theorem cL_599 : mc_lawcd 599 = some (.pop, 1) := by decide +kernel
theorem cL_600 : mc_lawcd 600 = some (.goto 1053, 3) := by decide +kernel
theorem cL_603 : mc_lawcd 603 = some (.aload_n 1, 1) := by decide +kernel
theorem cL_604 : mc_lawcd 604 = some (.invokevirtual 68, 3) := by decide +kernel
theorem cL_607 : mc_lawcd 607 = some (.pop, 1) := by decide +kernel
theorem cL_608 : mc_lawcd 608 = some (.aload_n 2, 1) := by decide +kernel
theorem cL_609 : mc_lawcd 609 = some (.invokevirtual 71, 3) := by decide +kernel
theorem cL_612 : mc_lawcd 612 = some (.pop, 1) := by decide +kernel
theorem cL_613 : mc_lawcd 613 = some (.goto 1040, 3) := by decide +kernel
theorem cL_616 : mc_lawcd 616 = some (.aload_n 1, 1) := by decide +kernel
theorem cL_617 : mc_lawcd 617 = some (.invokevirtual 72, 3) := by decide +kernel
theorem cL_620 : mc_lawcd 620 = some (.pop, 1) := by decide +kernel
theorem cL_621 : mc_lawcd 621 = some (.aload_n 2, 1) := by decide +kernel
theorem cL_622 : mc_lawcd 622 = some (.invokevirtual 75, 3) := by decide +kernel
theorem cL_625 : mc_lawcd 625 = some (.pop, 1) := by decide +kernel
theorem cL_626 : mc_lawcd 626 = some (.goto 1027, 3) := by decide +kernel
theorem cL_629 : mc_lawcd 629 = some (.aload_n 1, 1) := by decide +kernel
theorem cL_630 : mc_lawcd 630 = some (.invokevirtual 76, 3) := by decide +kernel
theorem cL_633 : mc_lawcd 633 = some (.pop, 1) := by decide +kernel
theorem cL_634 : mc_lawcd 634 = some (.aload_n 2, 1) := by decide +kernel
theorem cL_635 : mc_lawcd 635 = some (.invokevirtual 79, 3) := by decide +kernel
theorem cL_638 : mc_lawcd 638 = some (.pop, 1) := by decide +kernel
theorem cL_639 : mc_lawcd 639 = some (.goto 1014, 3) := by decide +kernel
theorem cL_642 : mc_lawcd 642 = some (.aload_n 1, 1) := by decide +kernel
theorem cL_643 : mc_lawcd 643 = some (.invokevirtual 80, 3) := by decide +kernel
theorem cL_646 : mc_lawcd 646 = some (.pop, 1) := by decide +kernel
theorem cL_647 : mc_lawcd 647 = some (.aload_n 2, 1) := by decide +kernel
theorem cL_648 : mc_lawcd 648 = some (.invokevirtual 83, 3) := by decide +kernel
theorem cL_651 : mc_lawcd 651 = some (.pop, 1) := by decide +kernel
theorem cL_652 : mc_lawcd 652 = some (.goto 1001, 3) := by decide +kernel
theorem cL_655 : mc_lawcd 655 = some (.aload_n 1, 1) := by decide +kernel
theorem cL_656 : mc_lawcd 656 = some (.invokevirtual 84, 3) := by decide +kernel
theorem cL_659 : mc_lawcd 659 = some (.pop, 1) := by decide +kernel
theorem cL_660 : mc_lawcd 660 = some (.aload_n 2, 1) := by decide +kernel
theorem cL_661 : mc_lawcd 661 = some (.invokevirtual 87, 3) := by decide +kernel
theorem cL_664 : mc_lawcd 664 = some (.pop, 1) := by decide +kernel
theorem cL_665 : mc_lawcd 665 = some (.goto 988, 3) := by decide +kernel
theorem cL_668 : mc_lawcd 668 = some (.aload_n 1, 1) := by decide +kernel
theorem cL_669 : mc_lawcd 669 = some (.aload_n 0, 1) := by decide +kernel
theorem cL_670 : mc_lawcd 670 = some (.iload 4, 2) := by decide +kernel
theorem cL_672 : mc_lawcd 672 = some (.iconst 1, 1) := by decide +kernel
theorem cL_673 : mc_lawcd 673 = some (.iadd, 1) := by decide +kernel
theorem cL_674 : mc_lawcd 674 = some (.iaload, 1) := by decide +kernel
theorem cL_675 : mc_lawcd 675 = some (.aload_n 0, 1) := by decide +kernel
theorem cL_676 : mc_lawcd 676 = some (.iload 4, 2) := by decide +kernel
theorem cL_678 : mc_lawcd 678 = some (.iconst 2, 1) := by decide +kernel
theorem cL_679 : mc_lawcd 679 = some (.iadd, 1) := by decide +kernel
theorem cL_680 : mc_lawcd 680 = some (.iaload, 1) := by decide +kernel
theorem cL_681 : mc_lawcd 681 = some (.invokevirtual 88, 3) := by decide +kernel
theorem cL_684 : mc_lawcd 684 = some (.pop, 1) := by decide +kernel
theorem cL_685 : mc_lawcd 685 = some (.aload_n 2, 1) := by decide +kernel
theorem cL_686 : mc_lawcd 686 = some (.aload_n 0, 1) := by decide +kernel
theorem cL_687 : mc_lawcd 687 = some (.iload 4, 2) := by decide +kernel
theorem cL_689 : mc_lawcd 689 = some (.iconst 1, 1) := by decide +kernel
theorem cL_690 : mc_lawcd 690 = some (.iadd, 1) := by decide +kernel
theorem cL_691 : mc_lawcd 691 = some (.iaload, 1) := by decide +kernel
theorem cL_692 : mc_lawcd 692 = some (.aload_n 0, 1) := by decide +kernel
theorem cL_693 : mc_lawcd 693 = some (.iload 4, 2) := by decide +kernel
theorem cL_695 : mc_lawcd 695 = some (.iconst 2, 1) := by decide +kernel
theorem cL_696 : mc_lawcd 696 = some (.iadd, 1) := by decide +kernel
theorem cL_697 : mc_lawcd 697 = some (.iaload, 1) := by decide +kernel
theorem cL_698 : mc_lawcd 698 = some (.invokevirtual 92, 3) := by decide +kernel
theorem cL_701 : mc_lawcd 701 = some (.pop, 1) := by decide +kernel
theorem cL_702 : mc_lawcd 702 = some (.goto 951, 3) := by decide +kernel
theorem cL_705 : mc_lawcd 705 = some (.aload_n 1, 1) := by decide +kernel
theorem cL_706 : mc_lawcd 706 = some (.invokevirtual 93, 3) := by decide +kernel
theorem cL_709 : mc_lawcd 709 = some (.pop2, 1) := by decide +kernel
theorem cL_710 : mc_lawcd 710 = some (.aload_n 2, 1) := by decide +kernel
theorem cL_711 : mc_lawcd 711 = some (.invokevirtual 96, 3) := by decide +kernel
theorem cL_714 : mc_lawcd 714 = some (.pop2, 1) := by decide +kernel
theorem cL_715 : mc_lawcd 715 = some (.goto 938, 3) := by decide +kernel
theorem cL_718 : mc_lawcd 718 = some (.aload_n 1, 1) := by decide +kernel
theorem cL_719 : mc_lawcd 719 = some (.aload_n 0, 1) := by decide +kernel
theorem cL_720 : mc_lawcd 720 = some (.iload 4, 2) := by decide +kernel
theorem cL_722 : mc_lawcd 722 = some (.iconst 1, 1) := by decide +kernel
theorem cL_723 : mc_lawcd 723 = some (.iadd, 1) := by decide +kernel
theorem cL_724 : mc_lawcd 724 = some (.iaload, 1) := by decide +kernel
theorem cL_725 : mc_lawcd 725 = some (.aload_n 0, 1) := by decide +kernel
theorem cL_726 : mc_lawcd 726 = some (.iload 4, 2) := by decide +kernel
theorem cL_728 : mc_lawcd 728 = some (.iconst 2, 1) := by decide +kernel
theorem cL_729 : mc_lawcd 729 = some (.iadd, 1) := by decide +kernel
theorem cL_730 : mc_lawcd 730 = some (.iaload, 1) := by decide +kernel
theorem cL_731 : mc_lawcd 731 = some (.invokevirtual 97, 3) := by decide +kernel
theorem cL_734 : mc_lawcd 734 = some (.pop, 1) := by decide +kernel
theorem cL_735 : mc_lawcd 735 = some (.aload_n 2, 1) := by decide +kernel
theorem cL_736 : mc_lawcd 736 = some (.aload_n 0, 1) := by decide +kernel
theorem cL_737 : mc_lawcd 737 = some (.iload 4, 2) := by decide +kernel
theorem cL_739 : mc_lawcd 739 = some (.iconst 1, 1) := by decide +kernel
theorem cL_740 : mc_lawcd 740 = some (.iadd, 1) := by decide +kernel
theorem cL_741 : mc_lawcd 741 = some (.iaload, 1) := by decide +kernel
theorem cL_742 : mc_lawcd 742 = some (.aload_n 0, 1) := by decide +kernel
theorem cL_743 : mc_lawcd 743 = some (.iload 4, 2) := by decide +kernel
theorem cL_745 : mc_lawcd 745 = some (.iconst 2, 1) := by decide +kernel
theorem cL_746 : mc_lawcd 746 = some (.iadd, 1) := by decide +kernel
theorem cL_747 : mc_lawcd 747 = some (.iaload, 1) := by decide +kernel
theorem cL_748 : mc_lawcd 748 = some (.invokevirtual 100, 3) := by decide +kernel
theorem cL_751 : mc_lawcd 751 = some (.pop, 1) := by decide +kernel
theorem cL_752 : mc_lawcd 752 = some (.goto 901, 3) := by decide +kernel
theorem cL_755 : mc_lawcd 755 = some (.aload_n 1, 1) := by decide +kernel
theorem cL_756 : mc_lawcd 756 = some (.aload_n 0, 1) := by decide +kernel
theorem cL_757 : mc_lawcd 757 = some (.iload 4, 2) := by decide +kernel
theorem cL_759 : mc_lawcd 759 = some (.iconst 1, 1) := by decide +kernel
theorem cL_760 : mc_lawcd 760 = some (.iadd, 1) := by decide +kernel
theorem cL_761 : mc_lawcd 761 = some (.iaload, 1) := by decide +kernel
theorem cL_762 : mc_lawcd 762 = some (.aload_n 0, 1) := by decide +kernel
theorem cL_763 : mc_lawcd 763 = some (.iload 4, 2) := by decide +kernel
theorem cL_765 : mc_lawcd 765 = some (.iconst 2, 1) := by decide +kernel
theorem cL_766 : mc_lawcd 766 = some (.iadd, 1) := by decide +kernel
theorem cL_767 : mc_lawcd 767 = some (.iaload, 1) := by decide +kernel
theorem cL_768 : mc_lawcd 768 = some (.invokevirtual 101, 3) := by decide +kernel
theorem cL_771 : mc_lawcd 771 = some (.pop, 1) := by decide +kernel
theorem cL_772 : mc_lawcd 772 = some (.aload_n 2, 1) := by decide +kernel
theorem cL_773 : mc_lawcd 773 = some (.aload_n 0, 1) := by decide +kernel
theorem cL_774 : mc_lawcd 774 = some (.iload 4, 2) := by decide +kernel
theorem cL_776 : mc_lawcd 776 = some (.iconst 1, 1) := by decide +kernel
theorem cL_777 : mc_lawcd 777 = some (.iadd, 1) := by decide +kernel
theorem cL_778 : mc_lawcd 778 = some (.iaload, 1) := by decide +kernel
theorem cL_779 : mc_lawcd 779 = some (.aload_n 0, 1) := by decide +kernel
theorem cL_780 : mc_lawcd 780 = some (.iload 4, 2) := by decide +kernel
theorem cL_782 : mc_lawcd 782 = some (.iconst 2, 1) := by decide +kernel
theorem cL_783 : mc_lawcd 783 = some (.iadd, 1) := by decide +kernel
theorem cL_784 : mc_lawcd 784 = some (.iaload, 1) := by decide +kernel
theorem cL_785 : mc_lawcd 785 = some (.invokevirtual 104, 3) := by decide +kernel
theorem cL_788 : mc_lawcd 788 = some (.pop, 1) := by decide +kernel
theorem cL_789 : mc_lawcd 789 = some (.goto 864, 3) := by decide +kernel
theorem cL_792 : mc_lawcd 792 = some (.aload_n 1, 1) := by decide +kernel
theorem cL_793 : mc_lawcd 793 = some (.aload_n 0, 1) := by decide +kernel
theorem cL_794 : mc_lawcd 794 = some (.iload 4, 2) := by decide +kernel
theorem cL_796 : mc_lawcd 796 = some (.iconst 1, 1) := by decide +kernel
theorem cL_797 : mc_lawcd 797 = some (.iadd, 1) := by decide +kernel
theorem cL_798 : mc_lawcd 798 = some (.iaload, 1) := by decide +kernel
theorem cL_799 : mc_lawcd 799 = some (.aload_n 0, 1) := by decide +kernel
theorem cL_800 : mc_lawcd 800 = some (.iload 4, 2) := by decide +kernel
theorem cL_802 : mc_lawcd 802 = some (.iconst 2, 1) := by decide +kernel
theorem cL_803 : mc_lawcd 803 = some (.iadd, 1) := by decide +kernel
theorem cL_804 : mc_lawcd 804 = some (.iaload, 1) := by decide +kernel
theorem cL_805 : mc_lawcd 805 = some (.invokevirtual 105, 3) := by decide +kernel
theorem cL_808 : mc_lawcd 808 = some (.pop, 1) := by decide +kernel
theorem cL_809 : mc_lawcd 809 = some (.aload_n 2, 1) := by decide +kernel
theorem cL_810 : mc_lawcd 810 = some (.aload_n 0, 1) := by decide +kernel
theorem cL_811 : mc_lawcd 811 = some (.iload 4, 2) := by decide +kernel
theorem cL_813 : mc_lawcd 813 = some (.iconst 1, 1) := by decide +kernel
theorem cL_814 : mc_lawcd 814 = some (.iadd, 1) := by decide +kernel
theorem cL_815 : mc_lawcd 815 = some (.iaload, 1) := by decide +kernel
theorem cL_816 : mc_lawcd 816 = some (.aload_n 0, 1) := by decide +kernel
theorem cL_817 : mc_lawcd 817 = some (.iload 4, 2) := by decide +kernel
theorem cL_819 : mc_lawcd 819 = some (.iconst 2, 1) := by decide +kernel
theorem cL_820 : mc_lawcd 820 = some (.iadd, 1) := by decide +kernel
theorem cL_821 : mc_lawcd 821 = some (.iaload, 1) := by decide +kernel
theorem cL_822 : mc_lawcd 822 = some (.invokevirtual 108, 3) := by decide +kernel
theorem cL_825 : mc_lawcd 825 = some (.pop, 1) := by decide +kernel
theorem cL_826 : mc_lawcd 826 = some (.goto 827, 3) := by decide +kernel
theorem cL_829 : mc_lawcd 829 = some (.aload_n 1, 1) := by decide +kernel
theorem cL_830 : mc_lawcd 830 = some (.aload_n 0, 1) := by decide +kernel
theorem cL_831 : mc_lawcd 831 = some (.iload 4, 2) := by decide +kernel
theorem cL_833 : mc_lawcd 833 = some (.iconst 1, 1) := by decide +kernel
theorem cL_834 : mc_lawcd 834 = some (.iadd, 1) := by decide +kernel
theorem cL_835 : mc_lawcd 835 = some (.iaload, 1) := by decide +kernel
theorem cL_836 : mc_lawcd 836 = some (.aload_n 0, 1) := by decide +kernel
theorem cL_837 : mc_lawcd 837 = some (.iload 4, 2) := by decide +kernel
theorem cL_839 : mc_lawcd 839 = some (.iconst 2, 1) := by decide +kernel
theorem cL_840 : mc_lawcd 840 = some (.iadd, 1) := by decide +kernel
theorem cL_841 : mc_lawcd 841 = some (.iaload, 1) := by decide +kernel
theorem cL_842 : mc_lawcd 842 = some (.ifCond .eq 7, 3) := by decide +kernel
theorem cL_845 : mc_lawcd 845 = some (.iconst 1, 1) := by decide +kernel
theorem cL_846 : mc_lawcd 846 = some (.goto 4, 3) := by decide +kernel
theorem cL_849 : mc_lawcd 849 = some (.iconst 0, 1) := by decide +kernel
theorem cL_850 : mc_lawcd 850 = some (.invokevirtual 109, 3) := by decide +kernel
theorem cL_853 : mc_lawcd 853 = some (.pop, 1) := by decide +kernel
theorem cL_854 : mc_lawcd 854 = some (.aload_n 2, 1) := by decide +kernel
theorem cL_855 : mc_lawcd 855 = some (.aload_n 0, 1) := by decide +kernel
theorem cL_856 : mc_lawcd 856 = some (.iload 4, 2) := by decide +kernel
theorem cL_858 : mc_lawcd 858 = some (.iconst 1, 1) := by decide +kernel
theorem cL_859 : mc_lawcd 859 = some (.iadd, 1) := by decide +kernel
theorem cL_860 : mc_lawcd 860 = some (.iaload, 1) := by decide +kernel
theorem cL_861 : mc_lawcd 861 = some (.aload_n 0, 1) := by decide +kernel
theorem cL_862 : mc_lawcd 862 = some (.iload 4, 2) := by decide +kernel
theorem cL_864 : mc_lawcd 864 = some (.iconst 2, 1) := by decide +kernel
theorem cL_865 : mc_lawcd 865 = some (.iadd, 1) := by decide +kernel
theorem cL_866 : mc_lawcd 866 = some (.iaload, 1) := by decide +kernel
theorem cL_867 : mc_lawcd 867 = some (.ifCond .eq 7, 3) := by decide +kernel
theorem cL_870 : mc_lawcd 870 = some (.iconst 1, 1) := by decide +kernel
theorem cL_871 : mc_lawcd 871 = some (.goto 4, 3) := by decide +kernel
theorem cL_874 : mc_lawcd 874 = some (.iconst 0, 1) := by decide +kernel
theorem cL_875 : mc_lawcd 875 = some (.invokevirtual 113, 3) := by decide +kernel
theorem cL_878 : mc_lawcd 878 = some (.pop, 1) := by decide +kernel
theorem cL_879 : mc_lawcd 879 = some (.goto 774, 3) := by decide +kernel
theorem cL_882 : mc_lawcd 882 = some (.aload_n 1, 1) := by decide +kernel
theorem cL_883 : mc_lawcd 883 = some (.aload_n 0, 1) := by decide +kernel
theorem cL_884 : mc_lawcd 884 = some (.iload 4, 2) := by decide +kernel
theorem cL_886 : mc_lawcd 886 = some (.iconst 1, 1) := by decide +kernel
theorem cL_887 : mc_lawcd 887 = some (.iadd, 1) := by decide +kernel
theorem cL_888 : mc_lawcd 888 = some (.iaload, 1) := by decide +kernel
theorem cL_889 : mc_lawcd 889 = some (.aload_n 0, 1) := by decide +kernel
theorem cL_890 : mc_lawcd 890 = some (.iload 4, 2) := by decide +kernel
theorem cL_892 : mc_lawcd 892 = some (.iconst 2, 1) := by decide +kernel
theorem cL_893 : mc_lawcd 893 = some (.iadd, 1) := by decide +kernel
theorem cL_894 : mc_lawcd 894 = some (.iaload, 1) := by decide +kernel
theorem cL_895 : mc_lawcd 895 = some (.invokevirtual 114, 3) := by decide +kernel
theorem cL_898 : mc_lawcd 898 = some (.pop, 1) := by decide +kernel
theorem cL_899 : mc_lawcd 899 = some (.aload_n 2, 1) := by decide +kernel
theorem cL_900 : mc_lawcd 900 = some (.aload_n 0, 1) := by decide +kernel
theorem cL_901 : mc_lawcd 901 = some (.iload 4, 2) := by decide +kernel
theorem cL_903 : mc_lawcd 903 = some (.iconst 1, 1) := by decide +kernel
theorem cL_904 : mc_lawcd 904 = some (.iadd, 1) := by decide +kernel
theorem cL_905 : mc_lawcd 905 = some (.iaload, 1) := by decide +kernel
theorem cL_906 : mc_lawcd 906 = some (.aload_n 0, 1) := by decide +kernel
theorem cL_907 : mc_lawcd 907 = some (.iload 4, 2) := by decide +kernel
theorem cL_909 : mc_lawcd 909 = some (.iconst 2, 1) := by decide +kernel
theorem cL_910 : mc_lawcd 910 = some (.iadd, 1) := by decide +kernel
theorem cL_911 : mc_lawcd 911 = some (.iaload, 1) := by decide +kernel
theorem cL_912 : mc_lawcd 912 = some (.invokevirtual 117, 3) := by decide +kernel
theorem cL_915 : mc_lawcd 915 = some (.pop, 1) := by decide +kernel
theorem cL_916 : mc_lawcd 916 = some (.goto 737, 3) := by decide +kernel
theorem cL_919 : mc_lawcd 919 = some (.aload_n 1, 1) := by decide +kernel
theorem cL_920 : mc_lawcd 920 = some (.aload_n 0, 1) := by decide +kernel
theorem cL_921 : mc_lawcd 921 = some (.iload 4, 2) := by decide +kernel
theorem cL_923 : mc_lawcd 923 = some (.iconst 1, 1) := by decide +kernel
theorem cL_924 : mc_lawcd 924 = some (.iadd, 1) := by decide +kernel
theorem cL_925 : mc_lawcd 925 = some (.iaload, 1) := by decide +kernel
theorem cL_926 : mc_lawcd 926 = some (.invokevirtual 118, 3) := by decide +kernel
theorem cL_929 : mc_lawcd 929 = some (.pop, 1) := by decide +kernel
theorem cL_930 : mc_lawcd 930 = some (.aload_n 2, 1) := by decide +kernel
theorem cL_931 : mc_lawcd 931 = some (.aload_n 0, 1) := by decide +kernel
theorem cL_932 : mc_lawcd 932 = some (.iload 4, 2) := by decide +kernel
theorem cL_934 : mc_lawcd 934 = some (.iconst 1, 1) := by decide +kernel
theorem cL_935 : mc_lawcd 935 = some (.iadd, 1) := by decide +kernel
theorem cL_936 : mc_lawcd 936 = some (.iaload, 1) := by decide +kernel
theorem cL_937 : mc_lawcd 937 = some (.invokevirtual 121, 3) := by decide +kernel
theorem cL_940 : mc_lawcd 940 = some (.pop, 1) := by decide +kernel
theorem cL_941 : mc_lawcd 941 = some (.goto 712, 3) := by decide +kernel
theorem cL_944 : mc_lawcd 944 = some (.aload_n 1, 1) := by decide +kernel
theorem cL_945 : mc_lawcd 945 = some (.invokevirtual 122, 3) := by decide +kernel
theorem cL_948 : mc_lawcd 948 = some (.pop2, 1) := by decide +kernel
theorem cL_949 : mc_lawcd 949 = some (.aload_n 2, 1) := by decide +kernel
theorem cL_950 : mc_lawcd 950 = some (.invokevirtual 125, 3) := by decide +kernel
theorem cL_953 : mc_lawcd 953 = some (.pop2, 1) := by decide +kernel
theorem cL_954 : mc_lawcd 954 = some (.goto 699, 3) := by decide +kernel
theorem cL_957 : mc_lawcd 957 = some (.aload_n 1, 1) := by decide +kernel
theorem cL_958 : mc_lawcd 958 = some (.aload_n 0, 1) := by decide +kernel
theorem cL_959 : mc_lawcd 959 = some (.iload 4, 2) := by decide +kernel
theorem cL_961 : mc_lawcd 961 = some (.iconst 1, 1) := by decide +kernel
theorem cL_962 : mc_lawcd 962 = some (.iadd, 1) := by decide +kernel
theorem cL_963 : mc_lawcd 963 = some (.iaload, 1) := by decide +kernel
theorem cL_964 : mc_lawcd 964 = some (.aload_n 0, 1) := by decide +kernel
theorem cL_965 : mc_lawcd 965 = some (.iload 4, 2) := by decide +kernel
theorem cL_967 : mc_lawcd 967 = some (.iconst 2, 1) := by decide +kernel
theorem cL_968 : mc_lawcd 968 = some (.iadd, 1) := by decide +kernel
theorem cL_969 : mc_lawcd 969 = some (.iaload, 1) := by decide +kernel
theorem cL_970 : mc_lawcd 970 = some (.invokevirtual 126, 3) := by decide +kernel
theorem cL_973 : mc_lawcd 973 = some (.pop, 1) := by decide +kernel
theorem cL_974 : mc_lawcd 974 = some (.aload_n 2, 1) := by decide +kernel
theorem cL_975 : mc_lawcd 975 = some (.aload_n 0, 1) := by decide +kernel
theorem cL_976 : mc_lawcd 976 = some (.iload 4, 2) := by decide +kernel
theorem cL_978 : mc_lawcd 978 = some (.iconst 1, 1) := by decide +kernel
theorem cL_979 : mc_lawcd 979 = some (.iadd, 1) := by decide +kernel
theorem cL_980 : mc_lawcd 980 = some (.iaload, 1) := by decide +kernel
theorem cL_981 : mc_lawcd 981 = some (.aload_n 0, 1) := by decide +kernel
theorem cL_982 : mc_lawcd 982 = some (.iload 4, 2) := by decide +kernel
theorem cL_984 : mc_lawcd 984 = some (.iconst 2, 1) := by decide +kernel
theorem cL_985 : mc_lawcd 985 = some (.iadd, 1) := by decide +kernel
theorem cL_986 : mc_lawcd 986 = some (.iaload, 1) := by decide +kernel
theorem cL_987 : mc_lawcd 987 = some (.invokevirtual 129, 3) := by decide +kernel
theorem cL_990 : mc_lawcd 990 = some (.pop, 1) := by decide +kernel
theorem cL_991 : mc_lawcd 991 = some (.goto 662, 3) := by decide +kernel
theorem cL_994 : mc_lawcd 994 = some (.aload_n 1, 1) := by decide +kernel
theorem cL_995 : mc_lawcd 995 = some (.aload_n 0, 1) := by decide +kernel
theorem cL_996 : mc_lawcd 996 = some (.iload 4, 2) := by decide +kernel
theorem cL_998 : mc_lawcd 998 = some (.iconst 1, 1) := by decide +kernel
theorem cL_999 : mc_lawcd 999 = some (.iadd, 1) := by decide +kernel
theorem cL_1000 : mc_lawcd 1000 = some (.iaload, 1) := by decide +kernel
theorem cL_1001 : mc_lawcd 1001 = some (.invokevirtual 130, 3) := by decide +kernel
theorem cL_1004 : mc_lawcd 1004 = some (.pop2, 1) := by decide +kernel
theorem cL_1005 : mc_lawcd 1005 = some (.aload_n 2, 1) := by decide +kernel
theorem cL_1006 : mc_lawcd 1006 = some (.aload_n 0, 1) := by decide +kernel
theorem cL_1007 : mc_lawcd 1007 = some (.iload 4, 2) := by decide +kernel
theorem cL_1009 : mc_lawcd 1009 = some (.iconst 1, 1) := by decide +kernel
theorem cL_1010 : mc_lawcd 1010 = some (.iadd, 1) := by decide +kernel
theorem cL_1011 : mc_lawcd 1011 = some (.iaload, 1) := by decide +kernel
theorem cL_1012 : mc_lawcd 1012 = some (.invokevirtual 134, 3) := by decide +kernel
theorem cL_1015 : mc_lawcd 1015 = some (.pop2, 1) := by decide +kernel
theorem cL_1016 : mc_lawcd 1016 = some (.goto 637, 3) := by decide +kernel
theorem cL_1019 : mc_lawcd 1019 = some (.aload_n 1, 1) := by decide +kernel
theorem cL_1020 : mc_lawcd 1020 = some (.aload_n 0, 1) := by decide +kernel
theorem cL_1021 : mc_lawcd 1021 = some (.iload 4, 2) := by decide +kernel
theorem cL_1023 : mc_lawcd 1023 = some (.iconst 1, 1) := by decide +kernel
theorem cL_1024 : mc_lawcd 1024 = some (.iadd, 1) := by decide +kernel
theorem cL_1025 : mc_lawcd 1025 = some (.iaload, 1) := by decide +kernel
theorem cL_1026 : mc_lawcd 1026 = some (.aload_n 0, 1) := by decide +kernel
theorem cL_1027 : mc_lawcd 1027 = some (.iload 4, 2) := by decide +kernel
theorem cL_1029 : mc_lawcd 1029 = some (.iconst 2, 1) := by decide +kernel
theorem cL_1030 : mc_lawcd 1030 = some (.iadd, 1) := by decide +kernel
theorem cL_1031 : mc_lawcd 1031 = some (.iaload, 1) := by decide +kernel
theorem cL_1032 : mc_lawcd 1032 = some (.invokevirtual 135, 3) := by decide +kernel
theorem cL_1035 : mc_lawcd 1035 = some (.pop, 1) := by decide +kernel
theorem cL_1036 : mc_lawcd 1036 = some (.aload_n 2, 1) := by decide +kernel
theorem cL_1037 : mc_lawcd 1037 = some (.aload_n 0, 1) := by decide +kernel
theorem cL_1038 : mc_lawcd 1038 = some (.iload 4, 2) := by decide +kernel
theorem cL_1040 : mc_lawcd 1040 = some (.iconst 1, 1) := by decide +kernel
theorem cL_1041 : mc_lawcd 1041 = some (.iadd, 1) := by decide +kernel
theorem cL_1042 : mc_lawcd 1042 = some (.iaload, 1) := by decide +kernel
theorem cL_1043 : mc_lawcd 1043 = some (.aload_n 0, 1) := by decide +kernel
theorem cL_1044 : mc_lawcd 1044 = some (.iload 4, 2) := by decide +kernel
theorem cL_1046 : mc_lawcd 1046 = some (.iconst 2, 1) := by decide +kernel
theorem cL_1047 : mc_lawcd 1047 = some (.iadd, 1) := by decide +kernel
theorem cL_1048 : mc_lawcd 1048 = some (.iaload, 1) := by decide +kernel
theorem cL_1049 : mc_lawcd 1049 = some (.invokevirtual 138, 3) := by decide +kernel
theorem cL_1052 : mc_lawcd 1052 = some (.pop, 1) := by decide +kernel
theorem cL_1053 : mc_lawcd 1053 = some (.goto 600, 3) := by decide +kernel
theorem cL_1056 : mc_lawcd 1056 = some (.aload_n 1, 1) := by decide +kernel
theorem cL_1057 : mc_lawcd 1057 = some (.aload_n 0, 1) := by decide +kernel
theorem cL_1058 : mc_lawcd 1058 = some (.iload 4, 2) := by decide +kernel
theorem cL_1060 : mc_lawcd 1060 = some (.iconst 1, 1) := by decide +kernel
theorem cL_1061 : mc_lawcd 1061 = some (.iadd, 1) := by decide +kernel
theorem cL_1062 : mc_lawcd 1062 = some (.iaload, 1) := by decide +kernel
theorem cL_1063 : mc_lawcd 1063 = some (.aload_n 0, 1) := by decide +kernel
theorem cL_1064 : mc_lawcd 1064 = some (.iload 4, 2) := by decide +kernel
theorem cL_1066 : mc_lawcd 1066 = some (.iconst 2, 1) := by decide +kernel
theorem cL_1067 : mc_lawcd 1067 = some (.iadd, 1) := by decide +kernel
theorem cL_1068 : mc_lawcd 1068 = some (.iaload, 1) := by decide +kernel
theorem cL_1069 : mc_lawcd 1069 = some (.ifCond .eq 7, 3) := by decide +kernel
theorem cL_1072 : mc_lawcd 1072 = some (.iconst 1, 1) := by decide +kernel
theorem cL_1073 : mc_lawcd 1073 = some (.goto 4, 3) := by decide +kernel
theorem cL_1076 : mc_lawcd 1076 = some (.iconst 0, 1) := by decide +kernel
theorem cL_1077 : mc_lawcd 1077 = some (.invokevirtual 139, 3) := by decide +kernel
theorem cL_1080 : mc_lawcd 1080 = some (.pop, 1) := by decide +kernel
theorem cL_1081 : mc_lawcd 1081 = some (.aload_n 2, 1) := by decide +kernel
theorem cL_1082 : mc_lawcd 1082 = some (.aload_n 0, 1) := by decide +kernel
theorem cL_1083 : mc_lawcd 1083 = some (.iload 4, 2) := by decide +kernel
theorem cL_1085 : mc_lawcd 1085 = some (.iconst 1, 1) := by decide +kernel
theorem cL_1086 : mc_lawcd 1086 = some (.iadd, 1) := by decide +kernel
theorem cL_1087 : mc_lawcd 1087 = some (.iaload, 1) := by decide +kernel
theorem cL_1088 : mc_lawcd 1088 = some (.aload_n 0, 1) := by decide +kernel
theorem cL_1089 : mc_lawcd 1089 = some (.iload 4, 2) := by decide +kernel
theorem cL_1091 : mc_lawcd 1091 = some (.iconst 2, 1) := by decide +kernel
theorem cL_1092 : mc_lawcd 1092 = some (.iadd, 1) := by decide +kernel
theorem cL_1093 : mc_lawcd 1093 = some (.iaload, 1) := by decide +kernel
theorem cL_1094 : mc_lawcd 1094 = some (.ifCond .eq 7, 3) := by decide +kernel
theorem cL_1097 : mc_lawcd 1097 = some (.iconst 1, 1) := by decide +kernel
theorem cL_1098 : mc_lawcd 1098 = some (.goto 4, 3) := by decide +kernel
theorem cL_1101 : mc_lawcd 1101 = some (.iconst 0, 1) := by decide +kernel
theorem cL_1102 : mc_lawcd 1102 = some (.invokevirtual 142, 3) := by decide +kernel
theorem cL_1105 : mc_lawcd 1105 = some (.pop, 1) := by decide +kernel
theorem cL_1106 : mc_lawcd 1106 = some (.goto 547, 3) := by decide +kernel
theorem cL_1109 : mc_lawcd 1109 = some (.aload_n 1, 1) := by decide +kernel
theorem cL_1110 : mc_lawcd 1110 = some (.aload_n 0, 1) := by decide +kernel
theorem cL_1111 : mc_lawcd 1111 = some (.iload 4, 2) := by decide +kernel
theorem cL_1113 : mc_lawcd 1113 = some (.iconst 1, 1) := by decide +kernel
theorem cL_1114 : mc_lawcd 1114 = some (.iadd, 1) := by decide +kernel
theorem cL_1115 : mc_lawcd 1115 = some (.iaload, 1) := by decide +kernel
theorem cL_1116 : mc_lawcd 1116 = some (.aload_n 0, 1) := by decide +kernel
theorem cL_1117 : mc_lawcd 1117 = some (.iload 4, 2) := by decide +kernel
theorem cL_1119 : mc_lawcd 1119 = some (.iconst 2, 1) := by decide +kernel
theorem cL_1120 : mc_lawcd 1120 = some (.iadd, 1) := by decide +kernel
theorem cL_1121 : mc_lawcd 1121 = some (.iaload, 1) := by decide +kernel
theorem cL_1122 : mc_lawcd 1122 = some (.ifCond .eq 7, 3) := by decide +kernel
theorem cL_1125 : mc_lawcd 1125 = some (.iconst 1, 1) := by decide +kernel
theorem cL_1126 : mc_lawcd 1126 = some (.goto 4, 3) := by decide +kernel
theorem cL_1129 : mc_lawcd 1129 = some (.iconst 0, 1) := by decide +kernel
theorem cL_1130 : mc_lawcd 1130 = some (.invokevirtual 143, 3) := by decide +kernel
theorem cL_1133 : mc_lawcd 1133 = some (.pop, 1) := by decide +kernel
theorem cL_1134 : mc_lawcd 1134 = some (.aload_n 2, 1) := by decide +kernel
theorem cL_1135 : mc_lawcd 1135 = some (.aload_n 0, 1) := by decide +kernel
theorem cL_1136 : mc_lawcd 1136 = some (.iload 4, 2) := by decide +kernel
theorem cL_1138 : mc_lawcd 1138 = some (.iconst 1, 1) := by decide +kernel
theorem cL_1139 : mc_lawcd 1139 = some (.iadd, 1) := by decide +kernel
theorem cL_1140 : mc_lawcd 1140 = some (.iaload, 1) := by decide +kernel
theorem cL_1141 : mc_lawcd 1141 = some (.aload_n 0, 1) := by decide +kernel
theorem cL_1142 : mc_lawcd 1142 = some (.iload 4, 2) := by decide +kernel
theorem cL_1144 : mc_lawcd 1144 = some (.iconst 2, 1) := by decide +kernel
theorem cL_1145 : mc_lawcd 1145 = some (.iadd, 1) := by decide +kernel
theorem cL_1146 : mc_lawcd 1146 = some (.iaload, 1) := by decide +kernel
theorem cL_1147 : mc_lawcd 1147 = some (.ifCond .eq 7, 3) := by decide +kernel
theorem cL_1150 : mc_lawcd 1150 = some (.iconst 1, 1) := by decide +kernel
theorem cL_1151 : mc_lawcd 1151 = some (.goto 4, 3) := by decide +kernel
theorem cL_1154 : mc_lawcd 1154 = some (.iconst 0, 1) := by decide +kernel
theorem cL_1155 : mc_lawcd 1155 = some (.invokevirtual 146, 3) := by decide +kernel
theorem cL_1158 : mc_lawcd 1158 = some (.pop, 1) := by decide +kernel
theorem cL_1159 : mc_lawcd 1159 = some (.goto 494, 3) := by decide +kernel
theorem cL_1162 : mc_lawcd 1162 = some (.aload_n 1, 1) := by decide +kernel
theorem cL_1163 : mc_lawcd 1163 = some (.invokevirtual 147, 3) := by decide +kernel
theorem cL_1166 : mc_lawcd 1166 = some (.pop, 1) := by decide +kernel
theorem cL_1167 : mc_lawcd 1167 = some (.aload_n 2, 1) := by decide +kernel
theorem cL_1168 : mc_lawcd 1168 = some (.invokevirtual 150, 3) := by decide +kernel
theorem cL_1171 : mc_lawcd 1171 = some (.pop, 1) := by decide +kernel
theorem cL_1172 : mc_lawcd 1172 = some (.goto 481, 3) := by decide +kernel
theorem cL_1175 : mc_lawcd 1175 = some (.aload_n 1, 1) := by decide +kernel
theorem cL_1176 : mc_lawcd 1176 = some (.aload_n 0, 1) := by decide +kernel
theorem cL_1177 : mc_lawcd 1177 = some (.iload 4, 2) := by decide +kernel
theorem cL_1179 : mc_lawcd 1179 = some (.iconst 1, 1) := by decide +kernel
theorem cL_1180 : mc_lawcd 1180 = some (.iadd, 1) := by decide +kernel
theorem cL_1181 : mc_lawcd 1181 = some (.iaload, 1) := by decide +kernel
theorem cL_1182 : mc_lawcd 1182 = some (.invokevirtual 151, 3) := by decide +kernel
theorem cL_1185 : mc_lawcd 1185 = some (.pop, 1) := by decide +kernel
theorem cL_1186 : mc_lawcd 1186 = some (.aload_n 2, 1) := by decide +kernel
theorem cL_1187 : mc_lawcd 1187 = some (.aload_n 0, 1) := by decide +kernel
theorem cL_1188 : mc_lawcd 1188 = some (.iload 4, 2) := by decide +kernel
theorem cL_1190 : mc_lawcd 1190 = some (.iconst 1, 1) := by decide +kernel
theorem cL_1191 : mc_lawcd 1191 = some (.iadd, 1) := by decide +kernel
theorem cL_1192 : mc_lawcd 1192 = some (.iaload, 1) := by decide +kernel
theorem cL_1193 : mc_lawcd 1193 = some (.invokevirtual 154, 3) := by decide +kernel
theorem cL_1196 : mc_lawcd 1196 = some (.pop, 1) := by decide +kernel
theorem cL_1197 : mc_lawcd 1197 = some (.goto 456, 3) := by decide +kernel
theorem cL_1200 : mc_lawcd 1200 = some (.aload_n 1, 1) := by decide +kernel
theorem cL_1201 : mc_lawcd 1201 = some (.aload_n 0, 1) := by decide +kernel
theorem cL_1202 : mc_lawcd 1202 = some (.iload 4, 2) := by decide +kernel
theorem cL_1204 : mc_lawcd 1204 = some (.iconst 1, 1) := by decide +kernel
theorem cL_1205 : mc_lawcd 1205 = some (.iadd, 1) := by decide +kernel
theorem cL_1206 : mc_lawcd 1206 = some (.iaload, 1) := by decide +kernel
theorem cL_1207 : mc_lawcd 1207 = some (.invokevirtual 155, 3) := by decide +kernel
theorem cL_1210 : mc_lawcd 1210 = some (.pop, 1) := by decide +kernel
theorem cL_1211 : mc_lawcd 1211 = some (.aload_n 2, 1) := by decide +kernel
theorem cL_1212 : mc_lawcd 1212 = some (.aload_n 0, 1) := by decide +kernel
theorem cL_1213 : mc_lawcd 1213 = some (.iload 4, 2) := by decide +kernel
theorem cL_1215 : mc_lawcd 1215 = some (.iconst 1, 1) := by decide +kernel
theorem cL_1216 : mc_lawcd 1216 = some (.iadd, 1) := by decide +kernel
theorem cL_1217 : mc_lawcd 1217 = some (.iaload, 1) := by decide +kernel
theorem cL_1218 : mc_lawcd 1218 = some (.invokevirtual 158, 3) := by decide +kernel
theorem cL_1221 : mc_lawcd 1221 = some (.pop, 1) := by decide +kernel
theorem cL_1222 : mc_lawcd 1222 = some (.goto 431, 3) := by decide +kernel
theorem cL_1225 : mc_lawcd 1225 = some (.aload_n 1, 1) := by decide +kernel
theorem cL_1226 : mc_lawcd 1226 = some (.aload_n 0, 1) := by decide +kernel
theorem cL_1227 : mc_lawcd 1227 = some (.iload 4, 2) := by decide +kernel
theorem cL_1229 : mc_lawcd 1229 = some (.iconst 1, 1) := by decide +kernel
theorem cL_1230 : mc_lawcd 1230 = some (.iadd, 1) := by decide +kernel
theorem cL_1231 : mc_lawcd 1231 = some (.iaload, 1) := by decide +kernel
theorem cL_1232 : mc_lawcd 1232 = some (.invokevirtual 159, 3) := by decide +kernel
theorem cL_1235 : mc_lawcd 1235 = some (.pop, 1) := by decide +kernel
theorem cL_1236 : mc_lawcd 1236 = some (.aload_n 2, 1) := by decide +kernel
theorem cL_1237 : mc_lawcd 1237 = some (.aload_n 0, 1) := by decide +kernel
theorem cL_1238 : mc_lawcd 1238 = some (.iload 4, 2) := by decide +kernel
theorem cL_1240 : mc_lawcd 1240 = some (.iconst 1, 1) := by decide +kernel
theorem cL_1241 : mc_lawcd 1241 = some (.iadd, 1) := by decide +kernel
theorem cL_1242 : mc_lawcd 1242 = some (.iaload, 1) := by decide +kernel
theorem cL_1243 : mc_lawcd 1243 = some (.invokevirtual 162, 3) := by decide +kernel
theorem cL_1246 : mc_lawcd 1246 = some (.pop, 1) := by decide +kernel
theorem cL_1247 : mc_lawcd 1247 = some (.goto 406, 3) := by decide +kernel
theorem cL_1250 : mc_lawcd 1250 = some (.aload_n 1, 1) := by decide +kernel
theorem cL_1251 : mc_lawcd 1251 = some (.invokevirtual 163, 3) := by decide +kernel
theorem cL_1254 : mc_lawcd 1254 = some (.pop, 1) := by decide +kernel
theorem cL_1255 : mc_lawcd 1255 = some (.aload_n 2, 1) := by decide +kernel
theorem cL_1256 : mc_lawcd 1256 = some (.invokevirtual 166, 3) := by decide +kernel
theorem cL_1259 : mc_lawcd 1259 = some (.pop, 1) := by decide +kernel
theorem cL_1260 : mc_lawcd 1260 = some (.goto 393, 3) := by decide +kernel
theorem cL_1263 : mc_lawcd 1263 = some (.aload_n 1, 1) := by decide +kernel
theorem cL_1264 : mc_lawcd 1264 = some (.aload_n 0, 1) := by decide +kernel
theorem cL_1265 : mc_lawcd 1265 = some (.iload 4, 2) := by decide +kernel
theorem cL_1267 : mc_lawcd 1267 = some (.iconst 1, 1) := by decide +kernel
theorem cL_1268 : mc_lawcd 1268 = some (.iadd, 1) := by decide +kernel
theorem cL_1269 : mc_lawcd 1269 = some (.iaload, 1) := by decide +kernel
theorem cL_1270 : mc_lawcd 1270 = some (.aload_n 0, 1) := by decide +kernel
theorem cL_1271 : mc_lawcd 1271 = some (.iload 4, 2) := by decide +kernel
theorem cL_1273 : mc_lawcd 1273 = some (.iconst 2, 1) := by decide +kernel
theorem cL_1274 : mc_lawcd 1274 = some (.iadd, 1) := by decide +kernel
theorem cL_1275 : mc_lawcd 1275 = some (.iaload, 1) := by decide +kernel
theorem cL_1276 : mc_lawcd 1276 = some (.ifCond .eq 7, 3) := by decide +kernel
theorem cL_1279 : mc_lawcd 1279 = some (.iconst 1, 1) := by decide +kernel
theorem cL_1280 : mc_lawcd 1280 = some (.goto 4, 3) := by decide +kernel
theorem cL_1283 : mc_lawcd 1283 = some (.iconst 0, 1) := by decide +kernel
theorem cL_1284 : mc_lawcd 1284 = some (.invokevirtual 167, 3) := by decide +kernel
theorem cL_1287 : mc_lawcd 1287 = some (.pop, 1) := by decide +kernel
theorem cL_1288 : mc_lawcd 1288 = some (.aload_n 2, 1) := by decide +kernel
theorem cL_1289 : mc_lawcd 1289 = some (.aload_n 0, 1) := by decide +kernel
theorem cL_1290 : mc_lawcd 1290 = some (.iload 4, 2) := by decide +kernel
theorem cL_1292 : mc_lawcd 1292 = some (.iconst 1, 1) := by decide +kernel
theorem cL_1293 : mc_lawcd 1293 = some (.iadd, 1) := by decide +kernel
theorem cL_1294 : mc_lawcd 1294 = some (.iaload, 1) := by decide +kernel
theorem cL_1295 : mc_lawcd 1295 = some (.aload_n 0, 1) := by decide +kernel
theorem cL_1296 : mc_lawcd 1296 = some (.iload 4, 2) := by decide +kernel
theorem cL_1298 : mc_lawcd 1298 = some (.iconst 2, 1) := by decide +kernel
theorem cL_1299 : mc_lawcd 1299 = some (.iadd, 1) := by decide +kernel
theorem cL_1300 : mc_lawcd 1300 = some (.iaload, 1) := by decide +kernel
theorem cL_1301 : mc_lawcd 1301 = some (.ifCond .eq 7, 3) := by decide +kernel
theorem cL_1304 : mc_lawcd 1304 = some (.iconst 1, 1) := by decide +kernel
theorem cL_1305 : mc_lawcd 1305 = some (.goto 4, 3) := by decide +kernel
theorem cL_1308 : mc_lawcd 1308 = some (.iconst 0, 1) := by decide +kernel
theorem cL_1309 : mc_lawcd 1309 = some (.invokevirtual 170, 3) := by decide +kernel
theorem cL_1312 : mc_lawcd 1312 = some (.pop, 1) := by decide +kernel
theorem cL_1313 : mc_lawcd 1313 = some (.goto 340, 3) := by decide +kernel
theorem cL_1316 : mc_lawcd 1316 = some (.aload_n 1, 1) := by decide +kernel
theorem cL_1317 : mc_lawcd 1317 = some (.invokevirtual 171, 3) := by decide +kernel
theorem cL_1320 : mc_lawcd 1320 = some (.pop, 1) := by decide +kernel
theorem cL_1321 : mc_lawcd 1321 = some (.aload_n 2, 1) := by decide +kernel
theorem cL_1322 : mc_lawcd 1322 = some (.invokevirtual 174, 3) := by decide +kernel
theorem cL_1325 : mc_lawcd 1325 = some (.pop, 1) := by decide +kernel
theorem cL_1326 : mc_lawcd 1326 = some (.goto 327, 3) := by decide +kernel
theorem cL_1329 : mc_lawcd 1329 = some (.aload_n 1, 1) := by decide +kernel
theorem cL_1330 : mc_lawcd 1330 = some (.invokevirtual 175, 3) := by decide +kernel
theorem cL_1333 : mc_lawcd 1333 = some (.pop, 1) := by decide +kernel
theorem cL_1334 : mc_lawcd 1334 = some (.aload_n 2, 1) := by decide +kernel
theorem cL_1335 : mc_lawcd 1335 = some (.invokevirtual 178, 3) := by decide +kernel
theorem cL_1338 : mc_lawcd 1338 = some (.pop, 1) := by decide +kernel
theorem cL_1339 : mc_lawcd 1339 = some (.goto 314, 3) := by decide +kernel
theorem cL_1342 : mc_lawcd 1342 = some (.aload_n 1, 1) := by decide +kernel
theorem cL_1343 : mc_lawcd 1343 = some (.aload_n 0, 1) := by decide +kernel
theorem cL_1344 : mc_lawcd 1344 = some (.iload 4, 2) := by decide +kernel
theorem cL_1346 : mc_lawcd 1346 = some (.iconst 1, 1) := by decide +kernel
theorem cL_1347 : mc_lawcd 1347 = some (.iadd, 1) := by decide +kernel
theorem cL_1348 : mc_lawcd 1348 = some (.iaload, 1) := by decide +kernel
theorem cL_1349 : mc_lawcd 1349 = some (.invokevirtual 179, 3) := by decide +kernel
theorem cL_1352 : mc_lawcd 1352 = some (.pop, 1) := by decide +kernel
theorem cL_1353 : mc_lawcd 1353 = some (.aload_n 2, 1) := by decide +kernel
theorem cL_1354 : mc_lawcd 1354 = some (.aload_n 0, 1) := by decide +kernel
theorem cL_1355 : mc_lawcd 1355 = some (.iload 4, 2) := by decide +kernel
theorem cL_1357 : mc_lawcd 1357 = some (.iconst 1, 1) := by decide +kernel
theorem cL_1358 : mc_lawcd 1358 = some (.iadd, 1) := by decide +kernel
theorem cL_1359 : mc_lawcd 1359 = some (.iaload, 1) := by decide +kernel
theorem cL_1360 : mc_lawcd 1360 = some (.invokevirtual 182, 3) := by decide +kernel
theorem cL_1363 : mc_lawcd 1363 = some (.pop, 1) := by decide +kernel
theorem cL_1364 : mc_lawcd 1364 = some (.goto 289, 3) := by decide +kernel
theorem cL_1367 : mc_lawcd 1367 = some (.aload_n 1, 1) := by decide +kernel
theorem cL_1368 : mc_lawcd 1368 = some (.aload_n 0, 1) := by decide +kernel
theorem cL_1369 : mc_lawcd 1369 = some (.iload 4, 2) := by decide +kernel
theorem cL_1371 : mc_lawcd 1371 = some (.iconst 1, 1) := by decide +kernel
theorem cL_1372 : mc_lawcd 1372 = some (.iadd, 1) := by decide +kernel
theorem cL_1373 : mc_lawcd 1373 = some (.iaload, 1) := by decide +kernel
theorem cL_1374 : mc_lawcd 1374 = some (.aload_n 0, 1) := by decide +kernel
theorem cL_1375 : mc_lawcd 1375 = some (.iload 4, 2) := by decide +kernel
theorem cL_1377 : mc_lawcd 1377 = some (.iconst 2, 1) := by decide +kernel
theorem cL_1378 : mc_lawcd 1378 = some (.iadd, 1) := by decide +kernel
theorem cL_1379 : mc_lawcd 1379 = some (.iaload, 1) := by decide +kernel
theorem cL_1380 : mc_lawcd 1380 = some (.invokevirtual 183, 3) := by decide +kernel
theorem cL_1383 : mc_lawcd 1383 = some (.pop, 1) := by decide +kernel
theorem cL_1384 : mc_lawcd 1384 = some (.aload_n 2, 1) := by decide +kernel
theorem cL_1385 : mc_lawcd 1385 = some (.aload_n 0, 1) := by decide +kernel
theorem cL_1386 : mc_lawcd 1386 = some (.iload 4, 2) := by decide +kernel
theorem cL_1388 : mc_lawcd 1388 = some (.iconst 1, 1) := by decide +kernel
theorem cL_1389 : mc_lawcd 1389 = some (.iadd, 1) := by decide +kernel
theorem cL_1390 : mc_lawcd 1390 = some (.iaload, 1) := by decide +kernel
theorem cL_1391 : mc_lawcd 1391 = some (.aload_n 0, 1) := by decide +kernel
theorem cL_1392 : mc_lawcd 1392 = some (.iload 4, 2) := by decide +kernel
theorem cL_1394 : mc_lawcd 1394 = some (.iconst 2, 1) := by decide +kernel
theorem cL_1395 : mc_lawcd 1395 = some (.iadd, 1) := by decide +kernel
theorem cL_1396 : mc_lawcd 1396 = some (.iaload, 1) := by decide +kernel
theorem cL_1397 : mc_lawcd 1397 = some (.invokevirtual 186, 3) := by decide +kernel
theorem cL_1400 : mc_lawcd 1400 = some (.pop, 1) := by decide +kernel
theorem cL_1401 : mc_lawcd 1401 = some (.goto 252, 3) := by decide +kernel
theorem cL_1404 : mc_lawcd 1404 = some (.aload_n 1, 1) := by decide +kernel
theorem cL_1405 : mc_lawcd 1405 = some (.aload_n 0, 1) := by decide +kernel
theorem cL_1406 : mc_lawcd 1406 = some (.iload 4, 2) := by decide +kernel
theorem cL_1408 : mc_lawcd 1408 = some (.iconst 1, 1) := by decide +kernel
theorem cL_1409 : mc_lawcd 1409 = some (.iadd, 1) := by decide +kernel
theorem cL_1410 : mc_lawcd 1410 = some (.iaload, 1) := by decide +kernel
theorem cL_1411 : mc_lawcd 1411 = some (.invokevirtual 187, 3) := by decide +kernel
theorem cL_1414 : mc_lawcd 1414 = some (.pop, 1) := by decide +kernel
theorem cL_1415 : mc_lawcd 1415 = some (.aload_n 2, 1) := by decide +kernel
theorem cL_1416 : mc_lawcd 1416 = some (.aload_n 0, 1) := by decide +kernel
theorem cL_1417 : mc_lawcd 1417 = some (.iload 4, 2) := by decide +kernel
theorem cL_1419 : mc_lawcd 1419 = some (.iconst 1, 1) := by decide +kernel
theorem cL_1420 : mc_lawcd 1420 = some (.iadd, 1) := by decide +kernel
theorem cL_1421 : mc_lawcd 1421 = some (.iaload, 1) := by decide +kernel
theorem cL_1422 : mc_lawcd 1422 = some (.invokevirtual 191, 3) := by decide +kernel
theorem cL_1425 : mc_lawcd 1425 = some (.pop, 1) := by decide +kernel
theorem cL_1426 : mc_lawcd 1426 = some (.goto 227, 3) := by decide +kernel
theorem cL_1429 : mc_lawcd 1429 = some (.aload_n 1, 1) := by decide +kernel
theorem cL_1430 : mc_lawcd 1430 = some (.aload_n 0, 1) := by decide +kernel
theorem cL_1431 : mc_lawcd 1431 = some (.iload 4, 2) := by decide +kernel
theorem cL_1433 : mc_lawcd 1433 = some (.iconst 1, 1) := by decide +kernel
theorem cL_1434 : mc_lawcd 1434 = some (.iadd, 1) := by decide +kernel
theorem cL_1435 : mc_lawcd 1435 = some (.iaload, 1) := by decide +kernel
theorem cL_1436 : mc_lawcd 1436 = some (.invokevirtual 192, 3) := by decide +kernel
theorem cL_1439 : mc_lawcd 1439 = some (.pop, 1) := by decide +kernel
theorem cL_1440 : mc_lawcd 1440 = some (.aload_n 2, 1) := by decide +kernel
theorem cL_1441 : mc_lawcd 1441 = some (.aload_n 0, 1) := by decide +kernel
theorem cL_1442 : mc_lawcd 1442 = some (.iload 4, 2) := by decide +kernel
theorem cL_1444 : mc_lawcd 1444 = some (.iconst 1, 1) := by decide +kernel
theorem cL_1445 : mc_lawcd 1445 = some (.iadd, 1) := by decide +kernel
theorem cL_1446 : mc_lawcd 1446 = some (.iaload, 1) := by decide +kernel
theorem cL_1447 : mc_lawcd 1447 = some (.invokevirtual 195, 3) := by decide +kernel
theorem cL_1450 : mc_lawcd 1450 = some (.pop, 1) := by decide +kernel
theorem cL_1451 : mc_lawcd 1451 = some (.goto 202, 3) := by decide +kernel
theorem cL_1454 : mc_lawcd 1454 = some (.aload_n 1, 1) := by decide +kernel
theorem cL_1455 : mc_lawcd 1455 = some (.invokevirtual 196, 3) := by decide +kernel
theorem cL_1458 : mc_lawcd 1458 = some (.pop, 1) := by decide +kernel
theorem cL_1459 : mc_lawcd 1459 = some (.aload_n 2, 1) := by decide +kernel
theorem cL_1460 : mc_lawcd 1460 = some (.invokevirtual 199, 3) := by decide +kernel
theorem cL_1463 : mc_lawcd 1463 = some (.pop, 1) := by decide +kernel
theorem cL_1464 : mc_lawcd 1464 = some (.goto 189, 3) := by decide +kernel
theorem cL_1467 : mc_lawcd 1467 = some (.aload_n 1, 1) := by decide +kernel
theorem cL_1468 : mc_lawcd 1468 = some (.aload_n 0, 1) := by decide +kernel
theorem cL_1469 : mc_lawcd 1469 = some (.iload 4, 2) := by decide +kernel
theorem cL_1471 : mc_lawcd 1471 = some (.iconst 1, 1) := by decide +kernel
theorem cL_1472 : mc_lawcd 1472 = some (.iadd, 1) := by decide +kernel
theorem cL_1473 : mc_lawcd 1473 = some (.iaload, 1) := by decide +kernel
theorem cL_1474 : mc_lawcd 1474 = some (.aload_n 0, 1) := by decide +kernel
theorem cL_1475 : mc_lawcd 1475 = some (.iload 4, 2) := by decide +kernel
theorem cL_1477 : mc_lawcd 1477 = some (.iconst 2, 1) := by decide +kernel
theorem cL_1478 : mc_lawcd 1478 = some (.iadd, 1) := by decide +kernel
theorem cL_1479 : mc_lawcd 1479 = some (.iaload, 1) := by decide +kernel
theorem cL_1480 : mc_lawcd 1480 = some (.invokevirtual 200, 3) := by decide +kernel
theorem cL_1483 : mc_lawcd 1483 = some (.pop, 1) := by decide +kernel
theorem cL_1484 : mc_lawcd 1484 = some (.aload_n 2, 1) := by decide +kernel
theorem cL_1485 : mc_lawcd 1485 = some (.aload_n 0, 1) := by decide +kernel
theorem cL_1486 : mc_lawcd 1486 = some (.iload 4, 2) := by decide +kernel
theorem cL_1488 : mc_lawcd 1488 = some (.iconst 1, 1) := by decide +kernel
theorem cL_1489 : mc_lawcd 1489 = some (.iadd, 1) := by decide +kernel
theorem cL_1490 : mc_lawcd 1490 = some (.iaload, 1) := by decide +kernel
theorem cL_1491 : mc_lawcd 1491 = some (.aload_n 0, 1) := by decide +kernel
theorem cL_1492 : mc_lawcd 1492 = some (.iload 4, 2) := by decide +kernel
theorem cL_1494 : mc_lawcd 1494 = some (.iconst 2, 1) := by decide +kernel
theorem cL_1495 : mc_lawcd 1495 = some (.iadd, 1) := by decide +kernel
theorem cL_1496 : mc_lawcd 1496 = some (.iaload, 1) := by decide +kernel
theorem cL_1497 : mc_lawcd 1497 = some (.invokevirtual 203, 3) := by decide +kernel
theorem cL_1500 : mc_lawcd 1500 = some (.pop, 1) := by decide +kernel
theorem cL_1501 : mc_lawcd 1501 = some (.goto 152, 3) := by decide +kernel
theorem cL_1504 : mc_lawcd 1504 = some (.aload_n 1, 1) := by decide +kernel
theorem cL_1505 : mc_lawcd 1505 = some (.invokevirtual 204, 3) := by decide +kernel
theorem cL_1508 : mc_lawcd 1508 = some (.pop, 1) := by decide +kernel
theorem cL_1509 : mc_lawcd 1509 = some (.aload_n 2, 1) := by decide +kernel
theorem cL_1510 : mc_lawcd 1510 = some (.invokevirtual 208, 3) := by decide +kernel
theorem cL_1513 : mc_lawcd 1513 = some (.pop, 1) := by decide +kernel
theorem cL_1514 : mc_lawcd 1514 = some (.goto 139, 3) := by decide +kernel
theorem cL_1517 : mc_lawcd 1517 = some (.aload_n 1, 1) := by decide +kernel
theorem cL_1518 : mc_lawcd 1518 = some (.invokevirtual 209, 3) := by decide +kernel
theorem cL_1521 : mc_lawcd 1521 = some (.pop2, 1) := by decide +kernel
theorem cL_1522 : mc_lawcd 1522 = some (.aload_n 2, 1) := by decide +kernel
theorem cL_1523 : mc_lawcd 1523 = some (.invokevirtual 212, 3) := by decide +kernel
theorem cL_1526 : mc_lawcd 1526 = some (.pop2, 1) := by decide +kernel
theorem cL_1527 : mc_lawcd 1527 = some (.goto 126, 3) := by decide +kernel
theorem cL_1530 : mc_lawcd 1530 = some (.aload_n 1, 1) := by decide +kernel
theorem cL_1531 : mc_lawcd 1531 = some (.aload_n 0, 1) := by decide +kernel
theorem cL_1532 : mc_lawcd 1532 = some (.iload 4, 2) := by decide +kernel
theorem cL_1534 : mc_lawcd 1534 = some (.iconst 1, 1) := by decide +kernel
theorem cL_1535 : mc_lawcd 1535 = some (.iadd, 1) := by decide +kernel
theorem cL_1536 : mc_lawcd 1536 = some (.iaload, 1) := by decide +kernel
theorem cL_1537 : mc_lawcd 1537 = some (.i2l, 1) := by decide +kernel
theorem cL_1538 : mc_lawcd 1538 = some (.bipush 32, 2) := by decide +kernel
theorem cL_1540 : mc_lawcd 1540 = some (.lshl, 1) := by decide +kernel
theorem cL_1541 : mc_lawcd 1541 = some (.aload_n 0, 1) := by decide +kernel
theorem cL_1542 : mc_lawcd 1542 = some (.iload 4, 2) := by decide +kernel
theorem cL_1544 : mc_lawcd 1544 = some (.iconst 2, 1) := by decide +kernel
theorem cL_1545 : mc_lawcd 1545 = some (.iadd, 1) := by decide +kernel
theorem cL_1546 : mc_lawcd 1546 = some (.iaload, 1) := by decide +kernel
theorem cL_1547 : mc_lawcd 1547 = some (.i2l, 1) := by decide +kernel
theorem cL_1548 : mc_lawcd 1548 = some (.ldc2_w 213, 3) := by decide +kernel
theorem cL_1551 : mc_lawcd 1551 = some (.land, 1) := by decide +kernel
theorem cL_1552 : mc_lawcd 1552 = some (.lor, 1) := by decide +kernel
theorem cL_1553 : mc_lawcd 1553 = some (.invokevirtual 215, 3) := by decide +kernel
theorem cL_1556 : mc_lawcd 1556 = some (.pop, 1) := by decide +kernel
theorem cL_1557 : mc_lawcd 1557 = some (.aload_n 2, 1) := by decide +kernel
theorem cL_1558 : mc_lawcd 1558 = some (.aload_n 0, 1) := by decide +kernel
theorem cL_1559 : mc_lawcd 1559 = some (.iload 4, 2) := by decide +kernel
theorem cL_1561 : mc_lawcd 1561 = some (.iconst 1, 1) := by decide +kernel
theorem cL_1562 : mc_lawcd 1562 = some (.iadd, 1) := by decide +kernel
theorem cL_1563 : mc_lawcd 1563 = some (.iaload, 1) := by decide +kernel
theorem cL_1564 : mc_lawcd 1564 = some (.i2l, 1) := by decide +kernel
theorem cL_1565 : mc_lawcd 1565 = some (.bipush 32, 2) := by decide +kernel
theorem cL_1567 : mc_lawcd 1567 = some (.lshl, 1) := by decide +kernel
theorem cL_1568 : mc_lawcd 1568 = some (.aload_n 0, 1) := by decide +kernel
theorem cL_1569 : mc_lawcd 1569 = some (.iload 4, 2) := by decide +kernel
theorem cL_1571 : mc_lawcd 1571 = some (.iconst 2, 1) := by decide +kernel
theorem cL_1572 : mc_lawcd 1572 = some (.iadd, 1) := by decide +kernel
theorem cL_1573 : mc_lawcd 1573 = some (.iaload, 1) := by decide +kernel
theorem cL_1574 : mc_lawcd 1574 = some (.i2l, 1) := by decide +kernel
theorem cL_1575 : mc_lawcd 1575 = some (.ldc2_w 213, 3) := by decide +kernel
theorem cL_1578 : mc_lawcd 1578 = some (.land, 1) := by decide +kernel
theorem cL_1579 : mc_lawcd 1579 = some (.lor, 1) := by decide +kernel
theorem cL_1580 : mc_lawcd 1580 = some (.invokevirtual 219, 3) := by decide +kernel
theorem cL_1583 : mc_lawcd 1583 = some (.pop, 1) := by decide +kernel
theorem cL_1584 : mc_lawcd 1584 = some (.goto 69, 3) := by decide +kernel
theorem cL_1587 : mc_lawcd 1587 = some (.aload_n 1, 1) := by decide +kernel
theorem cL_1588 : mc_lawcd 1588 = some (.aload_n 0, 1) := by decide +kernel
theorem cL_1589 : mc_lawcd 1589 = some (.iload 4, 2) := by decide +kernel
theorem cL_1591 : mc_lawcd 1591 = some (.iconst 1, 1) := by decide +kernel
theorem cL_1592 : mc_lawcd 1592 = some (.iadd, 1) := by decide +kernel
theorem cL_1593 : mc_lawcd 1593 = some (.iaload, 1) := by decide +kernel
theorem cL_1594 : mc_lawcd 1594 = some (.aload_n 3, 1) := by decide +kernel
theorem cL_1598 : mc_lawcd 1598 = some (.istore 5, 2) := by decide +kernel
theorem cL_1600 : mc_lawcd 1600 = some (.aload_n 2, 1) := by decide +kernel
theorem cL_1601 : mc_lawcd 1601 = some (.aload_n 0, 1) := by decide +kernel
theorem cL_1602 : mc_lawcd 1602 = some (.iload 4, 2) := by decide +kernel
theorem cL_1604 : mc_lawcd 1604 = some (.iconst 1, 1) := by decide +kernel
theorem cL_1605 : mc_lawcd 1605 = some (.iadd, 1) := by decide +kernel
theorem cL_1606 : mc_lawcd 1606 = some (.iaload, 1) := by decide +kernel
theorem cL_1607 : mc_lawcd 1607 = some (.invokevirtual 225, 3) := by decide +kernel
theorem cL_1610 : mc_lawcd 1610 = some (.istore 6, 2) := by decide +kernel
theorem cL_1612 : mc_lawcd 1612 = some (.goto 41, 3) := by decide +kernel
theorem cL_1615 : mc_lawcd 1615 = some (.aload_n 1, 1) := by decide +kernel
theorem cL_1616 : mc_lawcd 1616 = some (.aload_n 0, 1) := by decide +kernel
theorem cL_1617 : mc_lawcd 1617 = some (.iload 4, 2) := by decide +kernel
theorem cL_1619 : mc_lawcd 1619 = some (.iconst 1, 1) := by decide +kernel
theorem cL_1620 : mc_lawcd 1620 = some (.iadd, 1) := by decide +kernel
theorem cL_1621 : mc_lawcd 1621 = some (.iaload, 1) := by decide +kernel
theorem cL_1622 : mc_lawcd 1622 = some (.invokevirtual 226, 3) := by decide +kernel
theorem cL_1625 : mc_lawcd 1625 = some (.pop, 1) := by decide +kernel
theorem cL_1626 : mc_lawcd 1626 = some (.aload_n 2, 1) := by decide +kernel
theorem cL_1627 : mc_lawcd 1627 = some (.aload_n 0, 1) := by decide +kernel
theorem cL_1628 : mc_lawcd 1628 = some (.iload 4, 2) := by decide +kernel
theorem cL_1630 : mc_lawcd 1630 = some (.iconst 1, 1) := by decide +kernel
theorem cL_1631 : mc_lawcd 1631 = some (.iadd, 1) := by decide +kernel
theorem cL_1632 : mc_lawcd 1632 = some (.iaload, 1) := by decide +kernel
theorem cL_1633 : mc_lawcd 1633 = some (.invokevirtual 229, 3) := by decide +kernel
theorem cL_1636 : mc_lawcd 1636 = some (.pop, 1) := by decide +kernel
theorem cL_1637 : mc_lawcd 1637 = some (.goto 16, 3) := by decide +kernel
theorem cL_1640 : mc_lawcd 1640 = some (.aload_n 1, 1) := by decide +kernel
theorem cL_1641 : mc_lawcd 1641 = some (.invokevirtual 230, 3) := by decide +kernel
theorem cL_1644 : mc_lawcd 1644 = some (.pop, 1) := by decide +kernel
theorem cL_1645 : mc_lawcd 1645 = some (.aload_n 2, 1) := by decide +kernel
theorem cL_1646 : mc_lawcd 1646 = some (.invokevirtual 233, 3) := by decide +kernel
theorem cL_1649 : mc_lawcd 1649 = some (.pop, 1) := by decide +kernel
theorem cL_1650 : mc_lawcd 1650 = some (.goto 3, 3) := by decide +kernel
theorem cL_1653 : mc_lawcd 1653 = some (.iinc 4 6, 3) := by decide +kernel
theorem cL_1656 : mc_lawcd 1656 = some (.goto (-1633), 3) := by decide +kernel
theorem cL_1659 : mc_lawcd 1659 = some (.iconst 1, 1) := by decide +kernel
theorem cL_1660 : mc_lawcd 1660 = some (.ireturn, 1) := by decide +kernel
set_option maxHeartbeats 4000000 in
theorem wl_c0 {kt : Nat → Option mc_E} {CB SB : Nat} {X : mc_S → Prop} {T : wq_T} {H : wq_H} {Len x m o : Nat} {i : Int} (hX : wlX kt CB SB X) (hb : T.2.1 ≤ CB ∧ T.2.2.1 ≤ SB) (hI : wlJ Len x m o T H) (hL : Len ≤ 3072) (hi : 0 ≤ i ∧ i + 6 ≤ Len) (hb2 : T.2.1 + 20 ≤ CB ∧ T.2.2.1 + 500 ≤ SB)  (next : ∀ T' H', wlJ Len x m o T' H' → T'.2.1 ≤ T.2.1 + 20 → T'.2.2.1 ≤ T.2.2.1 + 500 → WL kt CB SB X 1653 (wlL i x m o) [] T' H') : WL kt CB SB X 256 (wlL i x m o) [] T H := by
  obtain ⟨⟨hW, g0, gx, gm, go, hK, hr⟩, hXI, hY1, hY2, hY3⟩ := hI
  refine wl_of hX hb cL_256 (rw_aload_n (pc' := 257) (v := .ref x) rfl rfl rfl ?_)
  refine wl_of hX hb cL_257 (rw_aload_n (pc' := 258) (v := .ref 0) rfl rfl rfl ?_)
  refine wl_of hX hb cL_258 (rw_iload (pc' := 260) (z := i) rfl rfl ?_)
  refine wl_of hX hb cL_260 (rw_iconst (pc' := 261) rfl ?_)
  refine wl_of hX hb cL_261 (rw_iadd (pc' := 262) rfl ?_)
  refine wl_of hX hb cL_262 (xa_I (so := 0) (pc' := 263) (a := 0) hW g0 (wsh_s _) (by omega) (wty_s _ _) (by omega) (by omega) rfl (fun b1018 b1019 => ?_))
  refine wl_of hX hb cL_263 (rw_aload_n (pc' := 264) (v := .ref 0) rfl rfl rfl ?_)
  refine wl_of hX hb cL_264 (rw_iload (pc' := 266) (z := i) rfl rfl ?_)
  refine wl_of hX hb cL_266 (rw_iconst (pc' := 267) rfl ?_)
  refine wl_of hX hb cL_267 (rw_iadd (pc' := 268) rfl ?_)
  refine wl_of hX hb cL_268 (xa_I (so := 0) (pc' := 269) (a := 0) hW g0 (wsh_s _) (by omega) (wty_s _ _) (by omega) (by omega) rfl (fun b1020 b1021 => ?_))
  refine wl_of hX hb cL_269 (rw_aload_n (pc' := 270) (v := .ref 0) rfl rfl rfl ?_)
  refine wl_of hX hb cL_270 (rw_iload (pc' := 272) (z := i) rfl rfl ?_)
  refine wl_of hX hb cL_272 (rw_iconst (pc' := 273) rfl ?_)
  refine wl_of hX hb cL_273 (rw_iadd (pc' := 274) rfl ?_)
  refine wl_of hX hb cL_274 (xa_I (so := 0) (pc' := 275) (a := 0) hW g0 (wsh_s _) (by omega) (wty_s _ _) (by omega) (by omega) rfl (fun b1022 b1023 => ?_))
  refine wl_of hX hb cL_275 (rw_aload_n (pc' := 276) (v := .ref 0) rfl rfl rfl ?_)
  refine wl_of hX hb cL_276 (rw_iload (pc' := 278) (z := i) rfl rfl ?_)
  refine wl_of hX hb cL_278 (rw_iconst (pc' := 279) rfl ?_)
  refine wl_of hX hb cL_279 (rw_iadd (pc' := 280) rfl ?_)
  refine wl_of hX hb cL_280 (xa_I (so := 0) (pc' := 281) (a := 0) hW g0 (wsh_s _) (by omega) (wty_s _ _) (by omega) (by omega) rfl (fun b1024 b1025 => ?_))
  refine wl_of hX hb cL_281 (rw_aload_n (pc' := 282) (v := .ref 0) rfl rfl rfl ?_)
  refine wl_of hX hb cL_282 (rw_iload (pc' := 284) (z := i) rfl rfl ?_)
  refine wl_of hX hb cL_284 (rw_iconst (pc' := 285) rfl ?_)
  refine wl_of hX hb cL_285 (rw_iadd (pc' := 286) rfl ?_)
  refine wl_of hX hb cL_286 (xa_I (so := 0) (pc' := 287) (a := 0) hW g0 (wsh_s _) (by omega) (wty_s _ _) (by omega) (by omega) rfl (fun b1026 b1027 => ?_))
  obtain ⟨B, tc, tm, cu, dr, e0, gtc, htc, em, gtm, htm, ecu, gcu, edr, gdr, hcu, hdr, -⟩ := hXI
  obtain ⟨t9, ht9⟩ : ∃ t : Int, t = H x 9 := ⟨_, rfl⟩
  obtain ⟨y9, hy9⟩ : ∃ y : Int, y = H 0 ((i + 5).toNat) := ⟨_, rfl⟩
  obtain ⟨d1, hd1⟩ : ∃ y : Int, y = H 0 ((i + 1).toNat) := ⟨_, rfl⟩
  obtain ⟨d2, hd2⟩ : ∃ y : Int, y = H 0 ((i + 2).toNat) := ⟨_, rfl⟩
  obtain ⟨d3, hd3⟩ : ∃ y : Int, y = H 0 ((i + 3).toNat) := ⟨_, rfl⟩
  obtain ⟨d4, hd4⟩ : ∃ y : Int, y = H 0 ((i + 4).toNat) := ⟨_, rfl⟩
  obtain ⟨d5, hd5⟩ : ∃ y : Int, y = H 0 ((i + 5).toNat) := ⟨_, rfl⟩
  refine wl_of hX hb cL_287 (xc_V (pc' := 290) (r := x) (as := [vI (H 0 ((i + 1).toNat)), vI (H 0 ((i + 2).toNat)), vI (H 0 ((i + 3).toNat)), vI (H 0 ((i + 4).toNat)), vI (H 0 ((i + 5).toNat))]) (st := []) (lm_11_19) rfl rfl (Nat.le_of_ble_eq_true rfl) hW gx sh_1 (by decide) rfl (by decide) (u_9 (B := B) (t := t9) (b1 := d1) (b2 := d2) (b3 := d3) (b4 := d4) (b5 := d5) hW gx ⟨by omega, by omega⟩ ⟨by omega, by omega⟩ ⟨by omega, by omega⟩ ⟨by omega, by omega⟩ ⟨by omega, by omega⟩ e0 gtc (by omega) (by omega) (by omega) (by omega) (by omega) (by omega) htc) (fun R1028 T1029 H1030 p1031 => ?_))
  obtain ⟨e1032, w1034, f1035, z1036, e1033, b1037, p1038⟩ := p1031
  subst e1032
  subst e1033
  rcases p1038 with ⟨a1039, a1040, a1041, a1042⟩ | ⟨a1043, a1044, a1045, a1046, a1047⟩
  · show WL _ _ _ _ 290 [(4, vI i), (3, .ref o), (2, .ref m), (1, .ref x), (0, .ref 0)] [vI z1036] _ H1030
    refine wl_of hX hb cL_290 (rw_pop (pc' := 291) rfl rfl ?_)
    refine wl_of hX hb cL_291 (rw_aload_n (pc' := 292) (v := .ref m) rfl rfl rfl ?_)
    refine wl_of hX hb cL_292 (rw_aload_n (pc' := 293) (v := .ref 0) rfl rfl rfl ?_)
    refine wl_of hX hb cL_293 (rw_iload (pc' := 295) (z := i) rfl rfl ?_)
    refine wl_of hX hb cL_295 (rw_iconst (pc' := 296) rfl ?_)
    refine wl_of hX hb cL_296 (rw_iadd (pc' := 297) rfl ?_)
    have k1050 : H1030 0 ((i + 1).toNat) = H 0 ((i + 1).toNat) := (f1035 0 ((i + 1).toNat) _ g0 (wmem_s rfl))
    refine wl_of hX hb cL_297 (xa_I (so := 0) (pc' := 298) (a := 0) w1034 g0 (wsh_s _) (by omega) (wty_s _ _) (by omega) (by omega) rfl (fun b1048 b1049 => ?_))
    refine wl_of hX hb cL_298 (rw_aload_n (pc' := 299) (v := .ref 0) rfl rfl rfl ?_)
    refine wl_of hX hb cL_299 (rw_iload (pc' := 301) (z := i) rfl rfl ?_)
    refine wl_of hX hb cL_301 (rw_iconst (pc' := 302) rfl ?_)
    refine wl_of hX hb cL_302 (rw_iadd (pc' := 303) rfl ?_)
    have k1053 : H1030 0 ((i + 2).toNat) = H 0 ((i + 2).toNat) := (f1035 0 ((i + 2).toNat) _ g0 (wmem_s rfl))
    refine wl_of hX hb cL_303 (xa_I (so := 0) (pc' := 304) (a := 0) w1034 g0 (wsh_s _) (by omega) (wty_s _ _) (by omega) (by omega) rfl (fun b1051 b1052 => ?_))
    refine wl_of hX hb cL_304 (rw_aload_n (pc' := 305) (v := .ref 0) rfl rfl rfl ?_)
    refine wl_of hX hb cL_305 (rw_iload (pc' := 307) (z := i) rfl rfl ?_)
    refine wl_of hX hb cL_307 (rw_iconst (pc' := 308) rfl ?_)
    refine wl_of hX hb cL_308 (rw_iadd (pc' := 309) rfl ?_)
    have k1056 : H1030 0 ((i + 3).toNat) = H 0 ((i + 3).toNat) := (f1035 0 ((i + 3).toNat) _ g0 (wmem_s rfl))
    refine wl_of hX hb cL_309 (xa_I (so := 0) (pc' := 310) (a := 0) w1034 g0 (wsh_s _) (by omega) (wty_s _ _) (by omega) (by omega) rfl (fun b1054 b1055 => ?_))
    refine wl_of hX hb cL_310 (rw_aload_n (pc' := 311) (v := .ref 0) rfl rfl rfl ?_)
    refine wl_of hX hb cL_311 (rw_iload (pc' := 313) (z := i) rfl rfl ?_)
    refine wl_of hX hb cL_313 (rw_iconst (pc' := 314) rfl ?_)
    refine wl_of hX hb cL_314 (rw_iadd (pc' := 315) rfl ?_)
    have k1059 : H1030 0 ((i + 4).toNat) = H 0 ((i + 4).toNat) := (f1035 0 ((i + 4).toNat) _ g0 (wmem_s rfl))
    refine wl_of hX hb cL_315 (xa_I (so := 0) (pc' := 316) (a := 0) w1034 g0 (wsh_s _) (by omega) (wty_s _ _) (by omega) (by omega) rfl (fun b1057 b1058 => ?_))
    refine wl_of hX hb cL_316 (rw_aload_n (pc' := 317) (v := .ref 0) rfl rfl rfl ?_)
    refine wl_of hX hb cL_317 (rw_iload (pc' := 319) (z := i) rfl rfl ?_)
    refine wl_of hX hb cL_319 (rw_iconst (pc' := 320) rfl ?_)
    refine wl_of hX hb cL_320 (rw_iadd (pc' := 321) rfl ?_)
    have k1062 : H1030 0 ((i + 5).toNat) = H 0 ((i + 5).toNat) := (f1035 0 ((i + 5).toNat) _ g0 (wmem_s rfl))
    refine wl_of hX hb cL_321 (xa_I (so := 0) (pc' := 322) (a := 0) w1034 g0 (wsh_s _) (by omega) (wty_s _ _) (by omega) (by omega) rfl (fun b1060 b1061 => ?_))
    have k1063 : wKI H1030 m = wKI H m := (wKI_fr hW gm f1035 rfl)
    have k1064 : H1030 m 6 = H m 6 := (f1035 m 6 _ gm rfl)
    have k1065 : H1030 x 11 = H x 11 := (f1035 x 11 _ gx rfl)
    have k1066 : H1030 m 13 = H m 13 := (f1035 m 13 _ gm rfl)
    have k1067 : H1030 x 8 = H x 8 := (f1035 x 8 _ gx rfl)
    have k1068 : H1030 m 3 = H m 3 := (f1035 m 3 _ gm rfl)
    have k1069 : H1030 x 10 = H x 10 := (f1035 x 10 _ gx rfl)
    have k1070 : H1030 x 12 = H x 12 := (f1035 x 12 _ gx rfl)
    have k1071 : H1030 m 2 = H m 2 := (f1035 m 2 _ gm rfl)
    have k1072 : H1030 m 5 = H m 5 := (f1035 m 5 _ gm rfl)
    have q1073 : H1030 m 5 = (tm : Int) := k1072.trans em
    have h1074 : TM T H1030 tm B := (TM_fr hW gtm f1035 rfl htm)
    refine wl_of hX hb cL_322 (xc_V (pc' := 325) (r := m) (as := [vI (H1030 0 ((i + 1).toNat)), vI (H1030 0 ((i + 2).toNat)), vI (H1030 0 ((i + 3).toNat)), vI (H1030 0 ((i + 4).toNat)), vI (H1030 0 ((i + 5).toNat))]) (st := []) (lm_11_23) rfl rfl (Nat.le_of_ble_eq_true rfl) w1034 gm sh_42 (by decide) rfl (by decide) (u_168 (B := B) (t := t9) (b1 := d1) (b2 := d2) (b3 := d3) (b4 := d4) (b5 := d5) w1034 gm ⟨by omega, by omega⟩ ⟨by omega, by omega⟩ ⟨by omega, by omega⟩ ⟨by omega, by omega⟩ ⟨by omega, by omega⟩ q1073 gtm (by omega) (by omega) (by omega) (by omega) (by omega) (by omega) h1074) (fun R1075 T1076 H1077 p1078 => ?_))
    obtain ⟨e1079, w1081, f1082, z1083, e1080, b1084, p1085⟩ := p1078
    subst e1079
    subst e1080
    rcases p1085 with ⟨a1086, a1087, a1088, a1089⟩ | ⟨a1090, a1091, a1092, a1093, a1094⟩
    · show WL _ _ _ _ 325 [(4, vI i), (3, .ref o), (2, .ref m), (1, .ref x), (0, .ref 0)] [vI z1083] _ H1077
      refine wl_of hX hb cL_325 (rw_pop (pc' := 326) rfl rfl ?_)
      refine wl_of hX hb cL_326 (rw_goto (p1 := 1653) (by decide) ?_)
      have k1095 : wKI H1077 m = wKI H1030 m := (wKI_fr w1034 gm f1082 rfl)
      have k1096 : H1077 x 9 = H1030 x 9 := (f1082 x 9 _ gx rfl)
      have k1097 : H1077 x 11 = H1030 x 11 := (f1082 x 11 _ gx rfl)
      have k1098 : H1077 m 13 = H1030 m 13 := (f1082 m 13 _ gm rfl)
      have k1099 : H1077 x 8 = H1030 x 8 := (f1082 x 8 _ gx rfl)
      have k1100 : H1077 m 3 = H1030 m 3 := (f1082 m 3 _ gm rfl)
      have k1101 : H1077 x 10 = H1030 x 10 := (f1082 x 10 _ gx rfl)
      have k1102 : H1077 x 12 = H1030 x 12 := (f1082 x 12 _ gx rfl)
      have k1103 : H1077 m 2 = H1030 m 2 := (f1082 m 2 _ gm rfl)
      have k1104 : H1077 x 0 = H x 0 := ((f1082 x 0 _ gx rfl).trans (f1035 x 0 _ gx rfl))
      have q1105 : H1077 x 0 = (tc : Int) := k1104.trans e0
      have k1106 : H1077 m 5 = H1030 m 5 := (f1082 m 5 _ gm rfl)
      have q1107 : H1077 m 5 = (tm : Int) := k1106.trans q1073
      have k1108 : H1077 x 6 = H x 6 := ((f1082 x 6 _ gx rfl).trans (f1035 x 6 _ gx rfl))
      have q1109 : H1077 x 6 = (cu : Int) := k1108.trans ecu
      have k1110 : H1077 x 7 = H x 7 := ((f1082 x 7 _ gx rfl).trans (f1035 x 7 _ gx rfl))
      have q1111 : H1077 x 7 = (dr : Int) := k1110.trans edr
      have h1112 : TP T H1077 tc B := (TP_fr w1034 gtc f1082 rfl a1042)
      have h1113 : DD T H1077 cu  := (DD_fr w1034 gcu f1082 rfl (DD_fr hW gcu f1035 rfl hcu))
      have h1114 : DD T H1077 dr  := (DD_fr w1034 gdr f1082 rfl (DD_fr hW gdr f1035 rfl hdr))
      exact WL.loc hX (by simp) (next T H1077 ⟨⟨w1081, g0, gx, gm, go, by omega, by omega⟩, ⟨_, tc, tm, cu, dr, q1105, gtc, h1112, q1107, gtm, a1089, q1109, gcu, q1111, gdr, h1113, h1114, gm⟩, by omega, by omega, by omega⟩ (by omega) (by omega))
    · show WL _ _ _ _ 325 [(4, vI i), (3, .ref o), (2, .ref m), (1, .ref x), (0, .ref 0)] [vI z1083] _ H1077
      refine wl_of hX hb cL_325 (rw_pop (pc' := 326) rfl rfl ?_)
      refine wl_of hX hb cL_326 (rw_goto (p1 := 1653) (by decide) ?_)
      have k1115 : wKI H1077 m = wKI H1030 m := (wKI_fr w1034 gm f1082 rfl)
      have k1116 : H1077 x 9 = H1030 x 9 := (f1082 x 9 _ gx rfl)
      have k1117 : H1077 x 11 = H1030 x 11 := (f1082 x 11 _ gx rfl)
      have k1118 : H1077 m 13 = H1030 m 13 := (f1082 m 13 _ gm rfl)
      have k1119 : H1077 x 8 = H1030 x 8 := (f1082 x 8 _ gx rfl)
      have k1120 : H1077 m 3 = H1030 m 3 := (f1082 m 3 _ gm rfl)
      have k1121 : H1077 x 10 = H1030 x 10 := (f1082 x 10 _ gx rfl)
      have k1122 : H1077 x 12 = H1030 x 12 := (f1082 x 12 _ gx rfl)
      have k1123 : H1077 m 2 = H1030 m 2 := (f1082 m 2 _ gm rfl)
      have k1124 : H1077 x 0 = H x 0 := ((f1082 x 0 _ gx rfl).trans (f1035 x 0 _ gx rfl))
      have q1125 : H1077 x 0 = (tc : Int) := k1124.trans e0
      have k1126 : H1077 m 5 = H1030 m 5 := (f1082 m 5 _ gm rfl)
      have q1127 : H1077 m 5 = (tm : Int) := k1126.trans q1073
      have k1128 : H1077 x 6 = H x 6 := ((f1082 x 6 _ gx rfl).trans (f1035 x 6 _ gx rfl))
      have q1129 : H1077 x 6 = (cu : Int) := k1128.trans ecu
      have k1130 : H1077 x 7 = H x 7 := ((f1082 x 7 _ gx rfl).trans (f1035 x 7 _ gx rfl))
      have q1131 : H1077 x 7 = (dr : Int) := k1130.trans edr
      have h1132 : TP T H1077 tc B := (TP_fr w1034 gtc f1082 rfl a1042)
      have h1133 : DD T H1077 cu  := (DD_fr w1034 gcu f1082 rfl (DD_fr hW gcu f1035 rfl hcu))
      have h1134 : DD T H1077 dr  := (DD_fr w1034 gdr f1082 rfl (DD_fr hW gdr f1035 rfl hdr))
      exfalso
      omega
  · show WL _ _ _ _ 290 [(4, vI i), (3, .ref o), (2, .ref m), (1, .ref x), (0, .ref 0)] [vI z1036] _ H1030
    refine wl_of hX hb cL_290 (rw_pop (pc' := 291) rfl rfl ?_)
    refine wl_of hX hb cL_291 (rw_aload_n (pc' := 292) (v := .ref m) rfl rfl rfl ?_)
    refine wl_of hX hb cL_292 (rw_aload_n (pc' := 293) (v := .ref 0) rfl rfl rfl ?_)
    refine wl_of hX hb cL_293 (rw_iload (pc' := 295) (z := i) rfl rfl ?_)
    refine wl_of hX hb cL_295 (rw_iconst (pc' := 296) rfl ?_)
    refine wl_of hX hb cL_296 (rw_iadd (pc' := 297) rfl ?_)
    have k1137 : H1030 0 ((i + 1).toNat) = H 0 ((i + 1).toNat) := (f1035 0 ((i + 1).toNat) _ g0 (wmem_s rfl))
    refine wl_of hX hb cL_297 (xa_I (so := 0) (pc' := 298) (a := 0) w1034 g0 (wsh_s _) (by omega) (wty_s _ _) (by omega) (by omega) rfl (fun b1135 b1136 => ?_))
    refine wl_of hX hb cL_298 (rw_aload_n (pc' := 299) (v := .ref 0) rfl rfl rfl ?_)
    refine wl_of hX hb cL_299 (rw_iload (pc' := 301) (z := i) rfl rfl ?_)
    refine wl_of hX hb cL_301 (rw_iconst (pc' := 302) rfl ?_)
    refine wl_of hX hb cL_302 (rw_iadd (pc' := 303) rfl ?_)
    have k1140 : H1030 0 ((i + 2).toNat) = H 0 ((i + 2).toNat) := (f1035 0 ((i + 2).toNat) _ g0 (wmem_s rfl))
    refine wl_of hX hb cL_303 (xa_I (so := 0) (pc' := 304) (a := 0) w1034 g0 (wsh_s _) (by omega) (wty_s _ _) (by omega) (by omega) rfl (fun b1138 b1139 => ?_))
    refine wl_of hX hb cL_304 (rw_aload_n (pc' := 305) (v := .ref 0) rfl rfl rfl ?_)
    refine wl_of hX hb cL_305 (rw_iload (pc' := 307) (z := i) rfl rfl ?_)
    refine wl_of hX hb cL_307 (rw_iconst (pc' := 308) rfl ?_)
    refine wl_of hX hb cL_308 (rw_iadd (pc' := 309) rfl ?_)
    have k1143 : H1030 0 ((i + 3).toNat) = H 0 ((i + 3).toNat) := (f1035 0 ((i + 3).toNat) _ g0 (wmem_s rfl))
    refine wl_of hX hb cL_309 (xa_I (so := 0) (pc' := 310) (a := 0) w1034 g0 (wsh_s _) (by omega) (wty_s _ _) (by omega) (by omega) rfl (fun b1141 b1142 => ?_))
    refine wl_of hX hb cL_310 (rw_aload_n (pc' := 311) (v := .ref 0) rfl rfl rfl ?_)
    refine wl_of hX hb cL_311 (rw_iload (pc' := 313) (z := i) rfl rfl ?_)
    refine wl_of hX hb cL_313 (rw_iconst (pc' := 314) rfl ?_)
    refine wl_of hX hb cL_314 (rw_iadd (pc' := 315) rfl ?_)
    have k1146 : H1030 0 ((i + 4).toNat) = H 0 ((i + 4).toNat) := (f1035 0 ((i + 4).toNat) _ g0 (wmem_s rfl))
    refine wl_of hX hb cL_315 (xa_I (so := 0) (pc' := 316) (a := 0) w1034 g0 (wsh_s _) (by omega) (wty_s _ _) (by omega) (by omega) rfl (fun b1144 b1145 => ?_))
    refine wl_of hX hb cL_316 (rw_aload_n (pc' := 317) (v := .ref 0) rfl rfl rfl ?_)
    refine wl_of hX hb cL_317 (rw_iload (pc' := 319) (z := i) rfl rfl ?_)
    refine wl_of hX hb cL_319 (rw_iconst (pc' := 320) rfl ?_)
    refine wl_of hX hb cL_320 (rw_iadd (pc' := 321) rfl ?_)
    have k1149 : H1030 0 ((i + 5).toNat) = H 0 ((i + 5).toNat) := (f1035 0 ((i + 5).toNat) _ g0 (wmem_s rfl))
    refine wl_of hX hb cL_321 (xa_I (so := 0) (pc' := 322) (a := 0) w1034 g0 (wsh_s _) (by omega) (wty_s _ _) (by omega) (by omega) rfl (fun b1147 b1148 => ?_))
    have k1150 : wKI H1030 m = wKI H m := (wKI_fr hW gm f1035 rfl)
    have k1151 : H1030 m 6 = H m 6 := (f1035 m 6 _ gm rfl)
    have k1152 : H1030 x 11 = H x 11 := (f1035 x 11 _ gx rfl)
    have k1153 : H1030 m 13 = H m 13 := (f1035 m 13 _ gm rfl)
    have k1154 : H1030 x 8 = H x 8 := (f1035 x 8 _ gx rfl)
    have k1155 : H1030 m 3 = H m 3 := (f1035 m 3 _ gm rfl)
    have k1156 : H1030 x 10 = H x 10 := (f1035 x 10 _ gx rfl)
    have k1157 : H1030 x 12 = H x 12 := (f1035 x 12 _ gx rfl)
    have k1158 : H1030 m 2 = H m 2 := (f1035 m 2 _ gm rfl)
    have k1159 : H1030 m 5 = H m 5 := (f1035 m 5 _ gm rfl)
    have q1160 : H1030 m 5 = (tm : Int) := k1159.trans em
    have h1161 : TM T H1030 tm B := (TM_fr hW gtm f1035 rfl htm)
    refine wl_of hX hb cL_322 (xc_V (pc' := 325) (r := m) (as := [vI (H1030 0 ((i + 1).toNat)), vI (H1030 0 ((i + 2).toNat)), vI (H1030 0 ((i + 3).toNat)), vI (H1030 0 ((i + 4).toNat)), vI (H1030 0 ((i + 5).toNat))]) (st := []) (lm_11_23) rfl rfl (Nat.le_of_ble_eq_true rfl) w1034 gm sh_42 (by decide) rfl (by decide) (u_168 (B := B) (t := t9) (b1 := d1) (b2 := d2) (b3 := d3) (b4 := d4) (b5 := d5) w1034 gm ⟨by omega, by omega⟩ ⟨by omega, by omega⟩ ⟨by omega, by omega⟩ ⟨by omega, by omega⟩ ⟨by omega, by omega⟩ q1160 gtm (by omega) (by omega) (by omega) (by omega) (by omega) (by omega) h1161) (fun R1162 T1163 H1164 p1165 => ?_))
    obtain ⟨e1166, w1168, f1169, z1170, e1167, b1171, p1172⟩ := p1165
    subst e1166
    subst e1167
    rcases p1172 with ⟨a1173, a1174, a1175, a1176⟩ | ⟨a1177, a1178, a1179, a1180, a1181⟩
    · show WL _ _ _ _ 325 [(4, vI i), (3, .ref o), (2, .ref m), (1, .ref x), (0, .ref 0)] [vI z1170] _ H1164
      refine wl_of hX hb cL_325 (rw_pop (pc' := 326) rfl rfl ?_)
      refine wl_of hX hb cL_326 (rw_goto (p1 := 1653) (by decide) ?_)
      have k1182 : wKI H1164 m = wKI H1030 m := (wKI_fr w1034 gm f1169 rfl)
      have k1183 : H1164 x 9 = H1030 x 9 := (f1169 x 9 _ gx rfl)
      have k1184 : H1164 x 11 = H1030 x 11 := (f1169 x 11 _ gx rfl)
      have k1185 : H1164 m 13 = H1030 m 13 := (f1169 m 13 _ gm rfl)
      have k1186 : H1164 x 8 = H1030 x 8 := (f1169 x 8 _ gx rfl)
      have k1187 : H1164 m 3 = H1030 m 3 := (f1169 m 3 _ gm rfl)
      have k1188 : H1164 x 10 = H1030 x 10 := (f1169 x 10 _ gx rfl)
      have k1189 : H1164 x 12 = H1030 x 12 := (f1169 x 12 _ gx rfl)
      have k1190 : H1164 m 2 = H1030 m 2 := (f1169 m 2 _ gm rfl)
      have k1191 : H1164 x 0 = H x 0 := ((f1169 x 0 _ gx rfl).trans (f1035 x 0 _ gx rfl))
      have q1192 : H1164 x 0 = (tc : Int) := k1191.trans e0
      have k1193 : H1164 m 5 = H1030 m 5 := (f1169 m 5 _ gm rfl)
      have q1194 : H1164 m 5 = (tm : Int) := k1193.trans q1160
      have k1195 : H1164 x 6 = H x 6 := ((f1169 x 6 _ gx rfl).trans (f1035 x 6 _ gx rfl))
      have q1196 : H1164 x 6 = (cu : Int) := k1195.trans ecu
      have k1197 : H1164 x 7 = H x 7 := ((f1169 x 7 _ gx rfl).trans (f1035 x 7 _ gx rfl))
      have q1198 : H1164 x 7 = (dr : Int) := k1197.trans edr
      have h1199 : TP T H1164 tc (xfk B t9 d1 d2 d3 d4 d5 20) := (TP_fr w1034 gtc f1169 rfl a1047)
      have h1200 : DD T H1164 cu  := (DD_fr w1034 gcu f1169 rfl (DD_fr hW gcu f1035 rfl hcu))
      have h1201 : DD T H1164 dr  := (DD_fr w1034 gdr f1169 rfl (DD_fr hW gdr f1035 rfl hdr))
      exfalso
      omega
    · show WL _ _ _ _ 325 [(4, vI i), (3, .ref o), (2, .ref m), (1, .ref x), (0, .ref 0)] [vI z1170] _ H1164
      refine wl_of hX hb cL_325 (rw_pop (pc' := 326) rfl rfl ?_)
      refine wl_of hX hb cL_326 (rw_goto (p1 := 1653) (by decide) ?_)
      have k1202 : wKI H1164 m = wKI H1030 m := (wKI_fr w1034 gm f1169 rfl)
      have k1203 : H1164 x 9 = H1030 x 9 := (f1169 x 9 _ gx rfl)
      have k1204 : H1164 x 11 = H1030 x 11 := (f1169 x 11 _ gx rfl)
      have k1205 : H1164 m 13 = H1030 m 13 := (f1169 m 13 _ gm rfl)
      have k1206 : H1164 x 8 = H1030 x 8 := (f1169 x 8 _ gx rfl)
      have k1207 : H1164 m 3 = H1030 m 3 := (f1169 m 3 _ gm rfl)
      have k1208 : H1164 x 10 = H1030 x 10 := (f1169 x 10 _ gx rfl)
      have k1209 : H1164 x 12 = H1030 x 12 := (f1169 x 12 _ gx rfl)
      have k1210 : H1164 m 2 = H1030 m 2 := (f1169 m 2 _ gm rfl)
      have k1211 : H1164 x 0 = H x 0 := ((f1169 x 0 _ gx rfl).trans (f1035 x 0 _ gx rfl))
      have q1212 : H1164 x 0 = (tc : Int) := k1211.trans e0
      have k1213 : H1164 m 5 = H1030 m 5 := (f1169 m 5 _ gm rfl)
      have q1214 : H1164 m 5 = (tm : Int) := k1213.trans q1160
      have k1215 : H1164 x 6 = H x 6 := ((f1169 x 6 _ gx rfl).trans (f1035 x 6 _ gx rfl))
      have q1216 : H1164 x 6 = (cu : Int) := k1215.trans ecu
      have k1217 : H1164 x 7 = H x 7 := ((f1169 x 7 _ gx rfl).trans (f1035 x 7 _ gx rfl))
      have q1218 : H1164 x 7 = (dr : Int) := k1217.trans edr
      have h1219 : TP T H1164 tc (xfk B t9 d1 d2 d3 d4 d5 20) := (TP_fr w1034 gtc f1169 rfl a1047)
      have h1220 : DD T H1164 cu  := (DD_fr w1034 gcu f1169 rfl (DD_fr hW gcu f1035 rfl hcu))
      have h1221 : DD T H1164 dr  := (DD_fr w1034 gdr f1169 rfl (DD_fr hW gdr f1035 rfl hdr))
      exact WL.loc hX (by simp) (next T H1164 ⟨⟨w1168, g0, gx, gm, go, by omega, by omega⟩, ⟨_, tc, tm, cu, dr, q1212, gtc, h1219, q1214, gtm, a1181, q1216, gcu, q1218, gdr, h1220, h1221, gm⟩, by omega, by omega, by omega⟩ (by omega) (by omega))
set_option maxHeartbeats 4000000 in
theorem wl_c1 {kt : Nat → Option mc_E} {CB SB : Nat} {X : mc_S → Prop} {T : wq_T} {H : wq_H} {Len x m o : Nat} {i : Int} (hX : wlX kt CB SB X) (hb : T.2.1 ≤ CB ∧ T.2.2.1 ≤ SB) (hI : wlJ Len x m o T H) (hL : Len ≤ 3072) (hi : 0 ≤ i ∧ i + 6 ≤ Len) (hb2 : T.2.1 + 20 ≤ CB ∧ T.2.2.1 + 500 ≤ SB)  (next : ∀ T' H', wlJ Len x m o T' H' → T'.2.1 ≤ T.2.1 + 20 → T'.2.2.1 ≤ T.2.2.1 + 500 → WL kt CB SB X 1653 (wlL i x m o) [] T' H') : WL kt CB SB X 329 (wlL i x m o) [] T H := by
  obtain ⟨⟨hW, g0, gx, gm, go, hK, hr⟩, hXI, hY1, hY2, hY3⟩ := hI
  refine wl_of hX hb cL_329 (rw_aload_n (pc' := 330) (v := .ref x) rfl rfl rfl ?_)
  refine wl_of hX hb cL_330 (rw_aload_n (pc' := 331) (v := .ref 0) rfl rfl rfl ?_)
  refine wl_of hX hb cL_331 (rw_iload (pc' := 333) (z := i) rfl rfl ?_)
  refine wl_of hX hb cL_333 (rw_iconst (pc' := 334) rfl ?_)
  refine wl_of hX hb cL_334 (rw_iadd (pc' := 335) rfl ?_)
  refine wl_of hX hb cL_335 (xa_I (so := 0) (pc' := 336) (a := 0) hW g0 (wsh_s _) (by omega) (wty_s _ _) (by omega) (by omega) rfl (fun b1222 b1223 => ?_))
  obtain ⟨B, tc, tm, cu, dr, e0, gtc, htc, em, gtm, htm, ecu, gcu, edr, gdr, hcu, hdr, -⟩ := hXI
  obtain ⟨t9, ht9⟩ : ∃ t : Int, t = H x 9 := ⟨_, rfl⟩
  obtain ⟨y9, hy9⟩ : ∃ y : Int, y = H 0 ((i + 1).toNat) := ⟨_, rfl⟩
  obtain ⟨r1224, q1225, g1226⟩ := hW.ref gx (t' := 3) (n := 13) (j := 1) (p := 0) (q := 0) rfl (by decide) rfl
  refine wl_of hX hb cL_336 (xc_V (pc' := 339) (r := x) (as := [vI (H 0 ((i + 1).toNat))]) (st := []) (lm_11_24) rfl rfl (Nat.le_of_ble_eq_true rfl) hW gx sh_1 (by decide) rfl (by decide) (u_11 (B := B) (y := y9) hW gx ⟨by omega, by omega⟩ e0 gtc q1225 g1226 ecu gcu edr gdr (by omega) htc hdr) (fun R1227 T1228 H1229 p1230 => ?_))
  obtain ⟨e1231, w1233, f1234, z1235, e1232, b1236, p1237⟩ := p1230
  subst e1231
  subst e1232
  rcases p1237 with ⟨a1238, a1239, a1240, a1241, a1242, a1243, a1244, a1245⟩ | ⟨a1246, a1247, a1248, a1249, a1250, a1251, a1252, a1253, a1254, a1255⟩ | ⟨a1256, a1257, a1258, a1259, a1260, a1261, a1262, a1263, a1264, a1265⟩
  · show WL _ _ _ _ 339 [(4, vI i), (3, .ref o), (2, .ref m), (1, .ref x), (0, .ref 0)] [vI z1235] _ H1229
    refine wl_of hX hb cL_339 (rw_pop (pc' := 340) rfl rfl ?_)
    refine wl_of hX hb cL_340 (rw_aload_n (pc' := 341) (v := .ref m) rfl rfl rfl ?_)
    refine wl_of hX hb cL_341 (rw_aload_n (pc' := 342) (v := .ref 0) rfl rfl rfl ?_)
    refine wl_of hX hb cL_342 (rw_iload (pc' := 344) (z := i) rfl rfl ?_)
    refine wl_of hX hb cL_344 (rw_iconst (pc' := 345) rfl ?_)
    refine wl_of hX hb cL_345 (rw_iadd (pc' := 346) rfl ?_)
    have k1268 : H1229 0 ((i + 1).toNat) = H 0 ((i + 1).toNat) := (f1234 0 ((i + 1).toNat) _ g0 (wmem_s rfl))
    refine wl_of hX hb cL_346 (xa_I (so := 0) (pc' := 347) (a := 0) w1233 g0 (wsh_s _) (by omega) (wty_s _ _) (by omega) (by omega) rfl (fun b1266 b1267 => ?_))
    have k1269 : wKI H1229 m = wKI H m := (wKI_fr hW gm f1234 rfl)
    have k1270 : H1229 m 6 = H m 6 := (f1234 m 6 _ gm rfl)
    have k1271 : H1229 m 13 = H m 13 := (f1234 m 13 _ gm rfl)
    have k1272 : H1229 m 3 = H m 3 := (f1234 m 3 _ gm rfl)
    have k1273 : H1229 m 2 = H m 2 := (f1234 m 2 _ gm rfl)
    have k1274 : H1229 m 5 = H m 5 := (f1234 m 5 _ gm rfl)
    have q1275 : H1229 m 5 = (tm : Int) := k1274.trans em
    have h1276 : TM T H1229 tm B := (TM_fr hW gtm f1234 rfl htm)
    refine wl_of hX hb cL_347 (xc_V (pc' := 350) (r := m) (as := [vI (H1229 0 ((i + 1).toNat))]) (st := []) lm_11_27 rfl rfl (Nat.le_of_ble_eq_true rfl) w1233 gm sh_42 (by decide) rfl (by decide) (u_169 (B := B) (y := y9) w1233 gm ⟨by omega, by omega⟩ q1275 gtm (by omega) (by omega) h1276) (fun R9 T9 H9 p9 => ?_))
    obtain ⟨mT, nT, zT, w9, f9, z9, e9, b9, pa⟩ := p9
    subst e9
    have k1277 : H9 x 9 = H1229 x 9 := (f9 x 9 _ gx rfl)
    have k1278 : H9 x 11 = H1229 x 11 := (f9 x 11 _ gx rfl)
    have k1279 : H9 x 8 = H1229 x 8 := (f9 x 8 _ gx rfl)
    have k1280 : H9 x 10 = H1229 x 10 := (f9 x 10 _ gx rfl)
    have k1281 : H9 x 0 = H x 0 := ((f9 x 0 _ gx rfl).trans (f1234 x 0 _ gx rfl))
    have q1282 : H9 x 0 = (tc : Int) := k1281.trans e0
    have k1283 : H9 m 5 = H1229 m 5 := (f9 m 5 _ gm rfl)
    have q1284 : H9 m 5 = (tm : Int) := k1283.trans q1275
    have k1285 : H9 x 6 = H1229 x 6 := (f9 x 6 _ gx rfl)
    have q1286 : H9 x 6 = (cu : Int) := k1285.trans a1242
    have k1287 : H9 x 7 = H1229 x 7 := (f9 x 7 _ gx rfl)
    have q1288 : H9 x 7 = (dr : Int) := k1287.trans a1243
    have h1289 : TP T H9 tc B := (TP_fr w1233 gtc f9 rfl (TP_fr hW gtc f1234 rfl htc))
    have h1290 : TM T H9 tm B := (TM_fr w1233 gtm f9 rfl h1276)
    have h1291 : DD T H9 cu  := (DD_fr w1233 gcu f9 rfl (DD_fr hW gcu f1234 rfl hcu))
    have h1292 : DD T H9 dr  := (DD_fr w1233 gdr f9 rfl (DD_fr hW gdr f1234 rfl hdr))
    have hb : T9.2.1 ≤ CB ∧ T9.2.2.1 ≤ SB := ⟨by omega, by omega⟩
    have hXI9 : XI T9 H9 x m := ⟨B, tc, tm, cu, dr, q1282, mT _ _ gtc, h1289, q1284, mT _ _ gtm, h1290, q1286, mT _ _ gcu, q1288, mT _ _ gdr, DD_mono mT h1291, DD_mono mT h1292, mT _ _ gm⟩
    have g0 := mT _ _ g0
    have gx := mT _ _ gx
    have gm := mT _ _ gm
    have go := mT _ _ go
    rcases pa with ⟨y0, y1, y2, y3, y4, y5, y6, y7⟩ | ⟨y0, y1, y2, y3, y4, y5, y6, y7, y8⟩ | ⟨y0, y1, y2, y3, y4, y5, y6, y7, y8, y9b⟩
    · show WL _ _ _ _ 350 [(4, vI i), (3, .ref o), (2, .ref m), (1, .ref x), (0, .ref 0)] [vI z9] _ H9
      refine wl_of hX hb cL_350 (rw_pop (pc' := 351) rfl rfl ?_)
      refine wl_of hX hb cL_351 (rw_goto (p1 := 1653) (by decide) ?_)
      exact WL.loc hX (by simp) (next T9 H9 ⟨⟨w9, g0, gx, gm, go, by omega, by omega⟩, hXI9, by omega, by omega, by omega⟩ (by omega) (by omega))
    · show WL _ _ _ _ 350 [(4, vI i), (3, .ref o), (2, .ref m), (1, .ref x), (0, .ref 0)] [vI z9] _ H9
      refine wl_of hX hb cL_350 (rw_pop (pc' := 351) rfl rfl ?_)
      refine wl_of hX hb cL_351 (rw_goto (p1 := 1653) (by decide) ?_)
      exact WL.loc hX (by simp) (next T9 H9 ⟨⟨w9, g0, gx, gm, go, by omega, by omega⟩, hXI9, by omega, by omega, by omega⟩ (by omega) (by omega))
    · show WL _ _ _ _ 350 [(4, vI i), (3, .ref o), (2, .ref m), (1, .ref x), (0, .ref 0)] [vI z9] _ H9
      refine wl_of hX hb cL_350 (rw_pop (pc' := 351) rfl rfl ?_)
      refine wl_of hX hb cL_351 (rw_goto (p1 := 1653) (by decide) ?_)
      exact WL.loc hX (by simp) (next T9 H9 ⟨⟨w9, g0, gx, gm, go, by omega, by omega⟩, hXI9, by omega, by omega, by omega⟩ (by omega) (by omega))
  · show WL _ _ _ _ 339 [(4, vI i), (3, .ref o), (2, .ref m), (1, .ref x), (0, .ref 0)] [vI z1235] _ H1229
    refine wl_of hX hb cL_339 (rw_pop (pc' := 340) rfl rfl ?_)
    refine wl_of hX hb cL_340 (rw_aload_n (pc' := 341) (v := .ref m) rfl rfl rfl ?_)
    refine wl_of hX hb cL_341 (rw_aload_n (pc' := 342) (v := .ref 0) rfl rfl rfl ?_)
    refine wl_of hX hb cL_342 (rw_iload (pc' := 344) (z := i) rfl rfl ?_)
    refine wl_of hX hb cL_344 (rw_iconst (pc' := 345) rfl ?_)
    refine wl_of hX hb cL_345 (rw_iadd (pc' := 346) rfl ?_)
    have k1295 : H1229 0 ((i + 1).toNat) = H 0 ((i + 1).toNat) := (f1234 0 ((i + 1).toNat) _ g0 (wmem_s rfl))
    refine wl_of hX hb cL_346 (xa_I (so := 0) (pc' := 347) (a := 0) w1233 g0 (wsh_s _) (by omega) (wty_s _ _) (by omega) (by omega) rfl (fun b1293 b1294 => ?_))
    have k1296 : wKI H1229 m = wKI H m := (wKI_fr hW gm f1234 rfl)
    have k1297 : H1229 m 6 = H m 6 := (f1234 m 6 _ gm rfl)
    have k1298 : H1229 m 13 = H m 13 := (f1234 m 13 _ gm rfl)
    have k1299 : H1229 m 3 = H m 3 := (f1234 m 3 _ gm rfl)
    have k1300 : H1229 m 2 = H m 2 := (f1234 m 2 _ gm rfl)
    have k1301 : H1229 m 5 = H m 5 := (f1234 m 5 _ gm rfl)
    have q1302 : H1229 m 5 = (tm : Int) := k1301.trans em
    have h1303 : TM T H1229 tm B := (TM_fr hW gtm f1234 rfl htm)
    refine wl_of hX hb cL_347 (xc_V (pc' := 350) (r := m) (as := [vI (H1229 0 ((i + 1).toNat))]) (st := []) lm_11_27 rfl rfl (Nat.le_of_ble_eq_true rfl) w1233 gm sh_42 (by decide) rfl (by decide) (u_169 (B := B) (y := y9) w1233 gm ⟨by omega, by omega⟩ q1302 gtm (by omega) (by omega) h1303) (fun R9 T9 H9 p9 => ?_))
    obtain ⟨mT, nT, zT, w9, f9, z9, e9, b9, pa⟩ := p9
    subst e9
    have k1304 : H9 x 9 = H1229 x 9 := (f9 x 9 _ gx rfl)
    have k1305 : H9 x 11 = H1229 x 11 := (f9 x 11 _ gx rfl)
    have k1306 : H9 x 8 = H1229 x 8 := (f9 x 8 _ gx rfl)
    have k1307 : H9 x 10 = H1229 x 10 := (f9 x 10 _ gx rfl)
    have k1308 : H9 x 12 = H1229 x 12 := (f9 x 12 _ gx rfl)
    have k1309 : H9 x 0 = H x 0 := ((f9 x 0 _ gx rfl).trans (f1234 x 0 _ gx rfl))
    have q1310 : H9 x 0 = (tc : Int) := k1309.trans e0
    have k1311 : H9 m 5 = H1229 m 5 := (f9 m 5 _ gm rfl)
    have q1312 : H9 m 5 = (tm : Int) := k1311.trans q1302
    have k1313 : H9 x 6 = H1229 x 6 := (f9 x 6 _ gx rfl)
    have q1314 : H9 x 6 = (cu : Int) := k1313.trans a1253
    have k1315 : H9 x 7 = H1229 x 7 := (f9 x 7 _ gx rfl)
    have q1316 : H9 x 7 = (dr : Int) := k1315.trans a1254
    have h1317 : TP T H9 tc B := (TP_fr w1233 gtc f9 rfl (TP_fr hW gtc f1234 rfl htc))
    have h1318 : TM T H9 tm B := (TM_fr w1233 gtm f9 rfl h1303)
    have h1319 : DD T H9 cu  := (DD_fr w1233 gcu f9 rfl (DD_fr hW gcu f1234 rfl hcu))
    have h1320 : DD T H9 dr  := (DD_fr w1233 gdr f9 rfl (DD_fr hW gdr f1234 rfl hdr))
    have hb : T9.2.1 ≤ CB ∧ T9.2.2.1 ≤ SB := ⟨by omega, by omega⟩
    have hXI9 : XI T9 H9 x m := ⟨B, tc, tm, cu, dr, q1310, mT _ _ gtc, h1317, q1312, mT _ _ gtm, h1318, q1314, mT _ _ gcu, q1316, mT _ _ gdr, DD_mono mT h1319, DD_mono mT h1320, mT _ _ gm⟩
    have g0 := mT _ _ g0
    have gx := mT _ _ gx
    have gm := mT _ _ gm
    have go := mT _ _ go
    rcases pa with ⟨y0, y1, y2, y3, y4, y5, y6, y7⟩ | ⟨y0, y1, y2, y3, y4, y5, y6, y7, y8⟩ | ⟨y0, y1, y2, y3, y4, y5, y6, y7, y8, y9b⟩
    · show WL _ _ _ _ 350 [(4, vI i), (3, .ref o), (2, .ref m), (1, .ref x), (0, .ref 0)] [vI z9] _ H9
      refine wl_of hX hb cL_350 (rw_pop (pc' := 351) rfl rfl ?_)
      refine wl_of hX hb cL_351 (rw_goto (p1 := 1653) (by decide) ?_)
      exact WL.loc hX (by simp) (next T9 H9 ⟨⟨w9, g0, gx, gm, go, by omega, by omega⟩, hXI9, by omega, by omega, by omega⟩ (by omega) (by omega))
    · show WL _ _ _ _ 350 [(4, vI i), (3, .ref o), (2, .ref m), (1, .ref x), (0, .ref 0)] [vI z9] _ H9
      refine wl_of hX hb cL_350 (rw_pop (pc' := 351) rfl rfl ?_)
      refine wl_of hX hb cL_351 (rw_goto (p1 := 1653) (by decide) ?_)
      exact WL.loc hX (by simp) (next T9 H9 ⟨⟨w9, g0, gx, gm, go, by omega, by omega⟩, hXI9, by omega, by omega, by omega⟩ (by omega) (by omega))
    · show WL _ _ _ _ 350 [(4, vI i), (3, .ref o), (2, .ref m), (1, .ref x), (0, .ref 0)] [vI z9] _ H9
      refine wl_of hX hb cL_350 (rw_pop (pc' := 351) rfl rfl ?_)
      refine wl_of hX hb cL_351 (rw_goto (p1 := 1653) (by decide) ?_)
      exact WL.loc hX (by simp) (next T9 H9 ⟨⟨w9, g0, gx, gm, go, by omega, by omega⟩, hXI9, by omega, by omega, by omega⟩ (by omega) (by omega))
  · show WL _ _ _ _ 339 [(4, vI i), (3, .ref o), (2, .ref m), (1, .ref x), (0, .ref 0)] [vI z1235] _ H1229
    refine wl_of hX hb cL_339 (rw_pop (pc' := 340) rfl rfl ?_)
    refine wl_of hX hb cL_340 (rw_aload_n (pc' := 341) (v := .ref m) rfl rfl rfl ?_)
    refine wl_of hX hb cL_341 (rw_aload_n (pc' := 342) (v := .ref 0) rfl rfl rfl ?_)
    refine wl_of hX hb cL_342 (rw_iload (pc' := 344) (z := i) rfl rfl ?_)
    refine wl_of hX hb cL_344 (rw_iconst (pc' := 345) rfl ?_)
    refine wl_of hX hb cL_345 (rw_iadd (pc' := 346) rfl ?_)
    have k1323 : H1229 0 ((i + 1).toNat) = H 0 ((i + 1).toNat) := (f1234 0 ((i + 1).toNat) _ g0 (wmem_s rfl))
    refine wl_of hX hb cL_346 (xa_I (so := 0) (pc' := 347) (a := 0) w1233 g0 (wsh_s _) (by omega) (wty_s _ _) (by omega) (by omega) rfl (fun b1321 b1322 => ?_))
    have k1324 : wKI H1229 m = wKI H m := (wKI_fr hW gm f1234 rfl)
    have k1325 : H1229 m 6 = H m 6 := (f1234 m 6 _ gm rfl)
    have k1326 : H1229 m 13 = H m 13 := (f1234 m 13 _ gm rfl)
    have k1327 : H1229 m 3 = H m 3 := (f1234 m 3 _ gm rfl)
    have k1328 : H1229 m 2 = H m 2 := (f1234 m 2 _ gm rfl)
    have k1329 : H1229 m 5 = H m 5 := (f1234 m 5 _ gm rfl)
    have q1330 : H1229 m 5 = (tm : Int) := k1329.trans em
    have h1331 : TM T H1229 tm B := (TM_fr hW gtm f1234 rfl htm)
    refine wl_of hX hb cL_347 (xc_V (pc' := 350) (r := m) (as := [vI (H1229 0 ((i + 1).toNat))]) (st := []) lm_11_27 rfl rfl (Nat.le_of_ble_eq_true rfl) w1233 gm sh_42 (by decide) rfl (by decide) (u_169 (B := B) (y := y9) w1233 gm ⟨by omega, by omega⟩ q1330 gtm (by omega) (by omega) h1331) (fun R9 T9 H9 p9 => ?_))
    obtain ⟨mT, nT, zT, w9, f9, z9, e9, b9, pa⟩ := p9
    subst e9
    have k1332 : H9 x 9 = H1229 x 9 := (f9 x 9 _ gx rfl)
    have k1333 : H9 x 11 = H1229 x 11 := (f9 x 11 _ gx rfl)
    have k1334 : H9 x 8 = H1229 x 8 := (f9 x 8 _ gx rfl)
    have k1335 : H9 x 10 = H1229 x 10 := (f9 x 10 _ gx rfl)
    have k1336 : H9 x 12 = H1229 x 12 := (f9 x 12 _ gx rfl)
    have k1337 : H9 x 0 = H x 0 := ((f9 x 0 _ gx rfl).trans (f1234 x 0 _ gx rfl))
    have q1338 : H9 x 0 = (tc : Int) := k1337.trans e0
    have k1339 : H9 m 5 = H1229 m 5 := (f9 m 5 _ gm rfl)
    have q1340 : H9 m 5 = (tm : Int) := k1339.trans q1330
    have k1341 : H9 x 6 = H1229 x 6 := (f9 x 6 _ gx rfl)
    have q1342 : H9 x 6 = (dr : Int) := k1341.trans a1262
    have k1343 : H9 x 7 = H1229 x 7 := (f9 x 7 _ gx rfl)
    have q1344 : H9 x 7 = (cu : Int) := k1343.trans a1263
    have h1345 : TP T H9 tc B := (TP_fr w1233 gtc f9 rfl (TP_fr hW gtc f1234 rfl htc))
    have h1346 : TM T H9 tm B := (TM_fr w1233 gtm f9 rfl h1331)
    have h1347 : DD T H9 cu  := (DD_fr w1233 gcu f9 rfl (DD_fr hW gcu f1234 rfl hcu))
    have h1348 : DD T H9 dr  := (DD_fr w1233 gdr f9 rfl (DD_fr hW gdr f1234 rfl hdr))
    have hb : T9.2.1 ≤ CB ∧ T9.2.2.1 ≤ SB := ⟨by omega, by omega⟩
    have hXI9 : XI T9 H9 x m := ⟨B, tc, tm, dr, cu, q1338, mT _ _ gtc, h1345, q1340, mT _ _ gtm, h1346, q1342, mT _ _ gdr, q1344, mT _ _ gcu, DD_mono mT h1348, DD_mono mT h1347, mT _ _ gm⟩
    have g0 := mT _ _ g0
    have gx := mT _ _ gx
    have gm := mT _ _ gm
    have go := mT _ _ go
    rcases pa with ⟨y0, y1, y2, y3, y4, y5, y6, y7⟩ | ⟨y0, y1, y2, y3, y4, y5, y6, y7, y8⟩ | ⟨y0, y1, y2, y3, y4, y5, y6, y7, y8, y9b⟩
    · show WL _ _ _ _ 350 [(4, vI i), (3, .ref o), (2, .ref m), (1, .ref x), (0, .ref 0)] [vI z9] _ H9
      refine wl_of hX hb cL_350 (rw_pop (pc' := 351) rfl rfl ?_)
      refine wl_of hX hb cL_351 (rw_goto (p1 := 1653) (by decide) ?_)
      exact WL.loc hX (by simp) (next T9 H9 ⟨⟨w9, g0, gx, gm, go, by omega, by omega⟩, hXI9, by omega, by omega, by omega⟩ (by omega) (by omega))
    · show WL _ _ _ _ 350 [(4, vI i), (3, .ref o), (2, .ref m), (1, .ref x), (0, .ref 0)] [vI z9] _ H9
      refine wl_of hX hb cL_350 (rw_pop (pc' := 351) rfl rfl ?_)
      refine wl_of hX hb cL_351 (rw_goto (p1 := 1653) (by decide) ?_)
      exact WL.loc hX (by simp) (next T9 H9 ⟨⟨w9, g0, gx, gm, go, by omega, by omega⟩, hXI9, by omega, by omega, by omega⟩ (by omega) (by omega))
    · show WL _ _ _ _ 350 [(4, vI i), (3, .ref o), (2, .ref m), (1, .ref x), (0, .ref 0)] [vI z9] _ H9
      refine wl_of hX hb cL_350 (rw_pop (pc' := 351) rfl rfl ?_)
      refine wl_of hX hb cL_351 (rw_goto (p1 := 1653) (by decide) ?_)
      exact WL.loc hX (by simp) (next T9 H9 ⟨⟨w9, g0, gx, gm, go, by omega, by omega⟩, hXI9, by omega, by omega, by omega⟩ (by omega) (by omega))
set_option maxHeartbeats 4000000 in
theorem wl_c2 {kt : Nat → Option mc_E} {CB SB : Nat} {X : mc_S → Prop} {T : wq_T} {H : wq_H} {Len x m o : Nat} {i : Int} (hX : wlX kt CB SB X) (hb : T.2.1 ≤ CB ∧ T.2.2.1 ≤ SB) (hI : wlJ Len x m o T H) (hL : Len ≤ 3072) (hi : 0 ≤ i ∧ i + 6 ≤ Len) (hb2 : T.2.1 + 20 ≤ CB ∧ T.2.2.1 + 500 ≤ SB)  (next : ∀ T' H', wlJ Len x m o T' H' → T'.2.1 ≤ T.2.1 + 20 → T'.2.2.1 ≤ T.2.2.1 + 500 → WL kt CB SB X 1653 (wlL i x m o) [] T' H') : WL kt CB SB X 354 (wlL i x m o) [] T H := by
  obtain ⟨⟨hW, g0, gx, gm, go, hK, hr⟩, hXI, hY1, hY2, hY3⟩ := hI
  refine wl_of hX hb cL_354 (rw_aload_n (pc' := 355) (v := .ref x) rfl rfl rfl ?_)
  refine wl_of hX hb cL_355 (xc_V (pc' := 358) (r := x) (as := []) (st := []) (lm_11_28) rfl rfl (Nat.le_of_ble_eq_true rfl) hW gx sh_1 (by decide) rfl (by decide) (s_52 hW gx) (fun R1349 T1350 H1351 p1352 => ?_))
  obtain ⟨e1353, e1355, z1356, e1354, b1357⟩ := p1352
  subst e1353
  subst e1354
  subst e1355
  show WL _ _ _ _ 358 [(4, vI i), (3, .ref o), (2, .ref m), (1, .ref x), (0, .ref 0)] [vI z1356] _ H
  refine wl_of hX hb cL_358 (rw_pop (pc' := 359) rfl rfl ?_)
  refine wl_of hX hb cL_359 (rw_aload_n (pc' := 360) (v := .ref m) rfl rfl rfl ?_)
  refine wl_of hX hb cL_360 (xc_V (pc' := 363) (r := m) (as := []) (st := []) (lm_11_32) rfl rfl (Nat.le_of_ble_eq_true rfl) hW gm sh_42 (by decide) rfl (by decide) (s_210 hW gm (by omega)) (fun R1358 T1359 H1360 p1361 => ?_))
  obtain ⟨e1362, w1364, f1365, z1367, e1363, b1368, p1366⟩ := p1361
  subst e1362
  subst e1363
  show WL _ _ _ _ 363 [(4, vI i), (3, .ref o), (2, .ref m), (1, .ref x), (0, .ref 0)] [vI z1367] _ H1360
  refine wl_of hX hb cL_363 (rw_pop (pc' := 364) rfl rfl ?_)
  refine wl_of hX hb cL_364 (rw_goto (p1 := 1653) (by decide) ?_)
  have k1369 : H1360 x 9 = H x 9 := (f1365 x 9 _ gx rfl)
  have k1370 : H1360 m 6 = H m 6 := (f1365 m 6 _ gm rfl)
  have k1371 : H1360 x 11 = H x 11 := (f1365 x 11 _ gx rfl)
  have k1372 : H1360 m 13 = H m 13 := (f1365 m 13 _ gm rfl)
  have k1373 : H1360 x 8 = H x 8 := (f1365 x 8 _ gx rfl)
  have k1374 : H1360 m 3 = H m 3 := (f1365 m 3 _ gm rfl)
  have k1375 : H1360 x 10 = H x 10 := (f1365 x 10 _ gx rfl)
  have k1376 : H1360 x 12 = H x 12 := (f1365 x 12 _ gx rfl)
  have k1377 : H1360 m 2 = H m 2 := (f1365 m 2 _ gm rfl)
  have h1378 : XI T H1360 x m := (XI_fr hW gx f1365 rfl hXI)
  exact WL.loc hX (by simp) (next T H1360 ⟨⟨w1364, g0, gx, gm, go, by omega, by omega⟩, h1378, by omega, by omega, by omega⟩ (by omega) (by omega))
set_option maxHeartbeats 4000000 in
theorem wl_c3 {kt : Nat → Option mc_E} {CB SB : Nat} {X : mc_S → Prop} {T : wq_T} {H : wq_H} {Len x m o : Nat} {i : Int} (hX : wlX kt CB SB X) (hb : T.2.1 ≤ CB ∧ T.2.2.1 ≤ SB) (hI : wlJ Len x m o T H) (hL : Len ≤ 3072) (hi : 0 ≤ i ∧ i + 6 ≤ Len) (hb2 : T.2.1 + 20 ≤ CB ∧ T.2.2.1 + 500 ≤ SB)  (next : ∀ T' H', wlJ Len x m o T' H' → T'.2.1 ≤ T.2.1 + 20 → T'.2.2.1 ≤ T.2.2.1 + 500 → WL kt CB SB X 1653 (wlL i x m o) [] T' H') : WL kt CB SB X 367 (wlL i x m o) [] T H := by
  obtain ⟨⟨hW, g0, gx, gm, go, hK, hr⟩, hXI, hY1, hY2, hY3⟩ := hI
  refine wl_of hX hb cL_367 (rw_aload_n (pc' := 368) (v := .ref x) rfl rfl rfl ?_)
  refine wl_of hX hb cL_368 (xc_V (pc' := 371) (r := x) (as := []) (st := []) (lm_11_33) rfl rfl (Nat.le_of_ble_eq_true rfl) hW gx sh_1 (by decide) rfl (by decide) (u_53  hW gx) (fun R1379 T1380 H1381 p1382 => ?_))
  obtain ⟨e1383, e1385, z1386, e1384, b1387, p1388⟩ := p1382
  subst e1383
  subst e1384
  subst e1385
  show WL _ _ _ _ 371 [(4, vI i), (3, .ref o), (2, .ref m), (1, .ref x), (0, .ref 0)] [vI z1386] _ H
  refine wl_of hX hb cL_371 (rw_aload_n (pc' := 372) (v := .ref m) rfl rfl rfl ?_)
  refine wl_of hX hb cL_372 (xc_V (pc' := 375) (r := m) (as := []) (st := [vI z1386]) (lm_11_36) rfl rfl (Nat.le_of_ble_eq_true rfl) hW gm sh_42 (by decide) rfl (by decide) (u_211  hW gm) (fun R1390 T1391 H1392 p1393 => ?_))
  obtain ⟨e1394, w1396, f1397, z1398, e1395, b1399, p1400⟩ := p1393
  subst e1394
  subst e1395
  show WL _ _ _ _ 375 [(4, vI i), (3, .ref o), (2, .ref m), (1, .ref x), (0, .ref 0)] [vI z1398, vI z1386] _ H1392
  refine wl_of hX hb cL_375 (rw_icmp_eq (p1 := 1653) (p2 := 378) (by decide) rfl ⟨by omega, by omega⟩ ⟨by omega, by omega⟩ (fun c1402 => ?_) (fun c1402 => ?_))
  · have k1403 : wKI H1392 m = wKI H m := (wKI_fr hW gm f1397 rfl)
    have k1404 : H1392 x 9 = H x 9 := (f1397 x 9 _ gx rfl)
    have k1405 : H1392 m 6 = H m 6 := (f1397 m 6 _ gm rfl)
    have k1406 : H1392 x 11 = H x 11 := (f1397 x 11 _ gx rfl)
    have k1407 : H1392 m 13 = H m 13 := (f1397 m 13 _ gm rfl)
    have k1408 : H1392 x 8 = H x 8 := (f1397 x 8 _ gx rfl)
    have k1409 : H1392 m 3 = H m 3 := (f1397 m 3 _ gm rfl)
    have k1410 : H1392 x 10 = H x 10 := (f1397 x 10 _ gx rfl)
    have k1411 : H1392 x 12 = H x 12 := (f1397 x 12 _ gx rfl)
    have k1412 : H1392 m 2 = H m 2 := (f1397 m 2 _ gm rfl)
    have h1413 : XI T H1392 x m := (XI_fr hW gx f1397 rfl hXI)
    exact WL.loc hX (by simp) (next T H1392 ⟨⟨w1396, g0, gx, gm, go, by omega, by omega⟩, h1413, by omega, by omega, by omega⟩ (by omega) (by omega))
  · refine wl_of hX hb cL_378 (rw_iconst (pc' := 379) rfl ?_)
    exfalso
    omega
set_option maxHeartbeats 4000000 in
theorem wl_c4 {kt : Nat → Option mc_E} {CB SB : Nat} {X : mc_S → Prop} {T : wq_T} {H : wq_H} {Len x m o : Nat} {i : Int} (hX : wlX kt CB SB X) (hb : T.2.1 ≤ CB ∧ T.2.2.1 ≤ SB) (hI : wlJ Len x m o T H) (hL : Len ≤ 3072) (hi : 0 ≤ i ∧ i + 6 ≤ Len) (hb2 : T.2.1 + 20 ≤ CB ∧ T.2.2.1 + 500 ≤ SB)  (next : ∀ T' H', wlJ Len x m o T' H' → T'.2.1 ≤ T.2.1 + 20 → T'.2.2.1 ≤ T.2.2.1 + 500 → WL kt CB SB X 1653 (wlL i x m o) [] T' H') : WL kt CB SB X 380 (wlL i x m o) [] T H := by
  obtain ⟨⟨hW, g0, gx, gm, go, hK, hr⟩, hXI, hY1, hY2, hY3⟩ := hI
  refine wl_of hX hb cL_380 (rw_aload_n (pc' := 381) (v := .ref x) rfl rfl rfl ?_)
  refine wl_of hX hb cL_381 (rw_aload_n (pc' := 382) (v := .ref 0) rfl rfl rfl ?_)
  refine wl_of hX hb cL_382 (rw_iload (pc' := 384) (z := i) rfl rfl ?_)
  refine wl_of hX hb cL_384 (rw_iconst (pc' := 385) rfl ?_)
  refine wl_of hX hb cL_385 (rw_iadd (pc' := 386) rfl ?_)
  refine wl_of hX hb cL_386 (xa_I (so := 0) (pc' := 387) (a := 0) hW g0 (wsh_s _) (by omega) (wty_s _ _) (by omega) (by omega) rfl (fun b1414 b1415 => ?_))
  refine wl_of hX hb cL_387 (xc_V (pc' := 390) (r := x) (as := [vI (H 0 ((i + 1).toNat))]) (st := []) (lm_11_37) rfl rfl (Nat.le_of_ble_eq_true rfl) hW gx sh_1 (by decide) rfl (by decide) (s_54 hW gx ⟨by omega, by omega⟩) (fun R1416 T1417 H1418 p1419 => ?_))
  obtain ⟨e1420, w1422, f1423, z1425, e1421, b1426, p1424⟩ := p1419
  subst e1420
  subst e1421
  show WL _ _ _ _ 390 [(4, vI i), (3, .ref o), (2, .ref m), (1, .ref x), (0, .ref 0)] [vI z1425] _ H1418
  refine wl_of hX hb cL_390 (rw_pop (pc' := 391) rfl rfl ?_)
  refine wl_of hX hb cL_391 (rw_aload_n (pc' := 392) (v := .ref m) rfl rfl rfl ?_)
  refine wl_of hX hb cL_392 (rw_aload_n (pc' := 393) (v := .ref 0) rfl rfl rfl ?_)
  refine wl_of hX hb cL_393 (rw_iload (pc' := 395) (z := i) rfl rfl ?_)
  refine wl_of hX hb cL_395 (rw_iconst (pc' := 396) rfl ?_)
  refine wl_of hX hb cL_396 (rw_iadd (pc' := 397) rfl ?_)
  have k1429 : H1418 0 ((i + 1).toNat) = H 0 ((i + 1).toNat) := (f1423 0 ((i + 1).toNat) _ g0 (wmem_s rfl))
  refine wl_of hX hb cL_397 (xa_I (so := 0) (pc' := 398) (a := 0) w1422 g0 (wsh_s _) (by omega) (wty_s _ _) (by omega) (by omega) rfl (fun b1427 b1428 => ?_))
  have k1430 : wKI H1418 m = wKI H m := (wKI_fr hW gm f1423 rfl)
  have k1431 : H1418 x 9 = H x 9 := (f1423 x 9 _ gx rfl)
  have k1432 : H1418 m 6 = H m 6 := (f1423 m 6 _ gm rfl)
  have k1433 : H1418 x 11 = H x 11 := (f1423 x 11 _ gx rfl)
  have k1434 : H1418 m 13 = H m 13 := (f1423 m 13 _ gm rfl)
  have k1435 : H1418 x 8 = H x 8 := (f1423 x 8 _ gx rfl)
  have k1436 : H1418 m 3 = H m 3 := (f1423 m 3 _ gm rfl)
  have k1437 : H1418 x 12 = H x 12 := (f1423 x 12 _ gx rfl)
  have k1438 : H1418 m 2 = H m 2 := (f1423 m 2 _ gm rfl)
  refine wl_of hX hb cL_398 (xc_V (pc' := 401) (r := m) (as := [vI (H1418 0 ((i + 1).toNat))]) (st := []) (lm_11_40) rfl rfl (Nat.le_of_ble_eq_true rfl) w1422 gm sh_42 (by decide) rfl (by decide) (s_212 w1422 gm ⟨by omega, by omega⟩ (by omega)) (fun R1439 T1440 H1441 p1442 => ?_))
  obtain ⟨e1443, w1445, f1446, z1449, e1444, b1450, p1447, p1448⟩ := p1442
  subst e1443
  subst e1444
  show WL _ _ _ _ 401 [(4, vI i), (3, .ref o), (2, .ref m), (1, .ref x), (0, .ref 0)] [vI z1449] _ H1441
  refine wl_of hX hb cL_401 (rw_pop (pc' := 402) rfl rfl ?_)
  refine wl_of hX hb cL_402 (rw_goto (p1 := 1653) (by decide) ?_)
  have k1451 : H1441 x 9 = H1418 x 9 := (f1446 x 9 _ gx rfl)
  have k1452 : H1441 m 6 = H1418 m 6 := (f1446 m 6 _ gm rfl)
  have k1453 : H1441 x 11 = H1418 x 11 := (f1446 x 11 _ gx rfl)
  have k1454 : H1441 m 13 = H1418 m 13 := (f1446 m 13 _ gm rfl)
  have k1455 : H1441 x 8 = H1418 x 8 := (f1446 x 8 _ gx rfl)
  have k1456 : H1441 m 3 = H1418 m 3 := (f1446 m 3 _ gm rfl)
  have k1457 : H1441 x 10 = H1418 x 10 := (f1446 x 10 _ gx rfl)
  have k1458 : H1441 x 12 = H1418 x 12 := (f1446 x 12 _ gx rfl)
  have h1459 : XI T H1441 x m := (XI_fr w1422 gx f1446 rfl (XI_fr hW gx f1423 rfl hXI))
  exact WL.loc hX (by simp) (next T H1441 ⟨⟨w1445, g0, gx, gm, go, by omega, by omega⟩, h1459, by omega, by omega, by omega⟩ (by omega) (by omega))
set_option maxHeartbeats 4000000 in
theorem wl_c5 {kt : Nat → Option mc_E} {CB SB : Nat} {X : mc_S → Prop} {T : wq_T} {H : wq_H} {Len x m o : Nat} {i : Int} (hX : wlX kt CB SB X) (hb : T.2.1 ≤ CB ∧ T.2.2.1 ≤ SB) (hI : wlJ Len x m o T H) (hL : Len ≤ 3072) (hi : 0 ≤ i ∧ i + 6 ≤ Len) (hb2 : T.2.1 + 20 ≤ CB ∧ T.2.2.1 + 500 ≤ SB)  (next : ∀ T' H', wlJ Len x m o T' H' → T'.2.1 ≤ T.2.1 + 20 → T'.2.2.1 ≤ T.2.2.1 + 500 → WL kt CB SB X 1653 (wlL i x m o) [] T' H') : WL kt CB SB X 405 (wlL i x m o) [] T H := by
  obtain ⟨⟨hW, g0, gx, gm, go, hK, hr⟩, hXI, hY1, hY2, hY3⟩ := hI
  refine wl_of hX hb cL_405 (rw_aload_n (pc' := 406) (v := .ref x) rfl rfl rfl ?_)
  refine wl_of hX hb cL_406 (rw_aload_n (pc' := 407) (v := .ref 0) rfl rfl rfl ?_)
  refine wl_of hX hb cL_407 (rw_iload (pc' := 409) (z := i) rfl rfl ?_)
  refine wl_of hX hb cL_409 (rw_iconst (pc' := 410) rfl ?_)
  refine wl_of hX hb cL_410 (rw_iadd (pc' := 411) rfl ?_)
  refine wl_of hX hb cL_411 (xa_I (so := 0) (pc' := 412) (a := 0) hW g0 (wsh_s _) (by omega) (wty_s _ _) (by omega) (by omega) rfl (fun b1460 b1461 => ?_))
  refine wl_of hX hb cL_412 (rw_aload_n (pc' := 413) (v := .ref 0) rfl rfl rfl ?_)
  refine wl_of hX hb cL_413 (rw_iload (pc' := 415) (z := i) rfl rfl ?_)
  refine wl_of hX hb cL_415 (rw_iconst (pc' := 416) rfl ?_)
  refine wl_of hX hb cL_416 (rw_iadd (pc' := 417) rfl ?_)
  refine wl_of hX hb cL_417 (xa_I (so := 0) (pc' := 418) (a := 0) hW g0 (wsh_s _) (by omega) (wty_s _ _) (by omega) (by omega) rfl (fun b1462 b1463 => ?_))
  refine wl_of hX hb cL_418 (rw_aload_n (pc' := 419) (v := .ref 0) rfl rfl rfl ?_)
  refine wl_of hX hb cL_419 (rw_iload (pc' := 421) (z := i) rfl rfl ?_)
  refine wl_of hX hb cL_421 (rw_iconst (pc' := 422) rfl ?_)
  refine wl_of hX hb cL_422 (rw_iadd (pc' := 423) rfl ?_)
  refine wl_of hX hb cL_423 (xa_I (so := 0) (pc' := 424) (a := 0) hW g0 (wsh_s _) (by omega) (wty_s _ _) (by omega) (by omega) rfl (fun b1464 b1465 => ?_))
  refine wl_of hX hb cL_424 (xc_V (pc' := 427) (r := x) (as := [vI (H 0 ((i + 1).toNat)), vI (H 0 ((i + 2).toNat)), vI (H 0 ((i + 3).toNat))]) (st := []) (lm_11_41) rfl rfl (Nat.le_of_ble_eq_true rfl) hW gx sh_1 (by decide) rfl (by decide) (s_56 hW gx ⟨by omega, by omega⟩ ⟨by omega, by omega⟩ ⟨by omega, by omega⟩) (fun R1466 T1467 H1468 p1469 => ?_))
  obtain ⟨e1470, w1472, f1473, z1475, e1471, b1476, p1474⟩ := p1469
  subst e1470
  subst e1471
  show WL _ _ _ _ 427 [(4, vI i), (3, .ref o), (2, .ref m), (1, .ref x), (0, .ref 0)] [vI z1475] _ H1468
  refine wl_of hX hb cL_427 (rw_pop (pc' := 428) rfl rfl ?_)
  refine wl_of hX hb cL_428 (rw_aload_n (pc' := 429) (v := .ref m) rfl rfl rfl ?_)
  refine wl_of hX hb cL_429 (rw_aload_n (pc' := 430) (v := .ref 0) rfl rfl rfl ?_)
  refine wl_of hX hb cL_430 (rw_iload (pc' := 432) (z := i) rfl rfl ?_)
  refine wl_of hX hb cL_432 (rw_iconst (pc' := 433) rfl ?_)
  refine wl_of hX hb cL_433 (rw_iadd (pc' := 434) rfl ?_)
  have k1479 : H1468 0 ((i + 1).toNat) = H 0 ((i + 1).toNat) := (f1473 0 ((i + 1).toNat) _ g0 (wmem_s rfl))
  refine wl_of hX hb cL_434 (xa_I (so := 0) (pc' := 435) (a := 0) w1472 g0 (wsh_s _) (by omega) (wty_s _ _) (by omega) (by omega) rfl (fun b1477 b1478 => ?_))
  refine wl_of hX hb cL_435 (rw_aload_n (pc' := 436) (v := .ref 0) rfl rfl rfl ?_)
  refine wl_of hX hb cL_436 (rw_iload (pc' := 438) (z := i) rfl rfl ?_)
  refine wl_of hX hb cL_438 (rw_iconst (pc' := 439) rfl ?_)
  refine wl_of hX hb cL_439 (rw_iadd (pc' := 440) rfl ?_)
  have k1482 : H1468 0 ((i + 2).toNat) = H 0 ((i + 2).toNat) := (f1473 0 ((i + 2).toNat) _ g0 (wmem_s rfl))
  refine wl_of hX hb cL_440 (xa_I (so := 0) (pc' := 441) (a := 0) w1472 g0 (wsh_s _) (by omega) (wty_s _ _) (by omega) (by omega) rfl (fun b1480 b1481 => ?_))
  refine wl_of hX hb cL_441 (rw_aload_n (pc' := 442) (v := .ref 0) rfl rfl rfl ?_)
  refine wl_of hX hb cL_442 (rw_iload (pc' := 444) (z := i) rfl rfl ?_)
  refine wl_of hX hb cL_444 (rw_iconst (pc' := 445) rfl ?_)
  refine wl_of hX hb cL_445 (rw_iadd (pc' := 446) rfl ?_)
  have k1485 : H1468 0 ((i + 3).toNat) = H 0 ((i + 3).toNat) := (f1473 0 ((i + 3).toNat) _ g0 (wmem_s rfl))
  refine wl_of hX hb cL_446 (xa_I (so := 0) (pc' := 447) (a := 0) w1472 g0 (wsh_s _) (by omega) (wty_s _ _) (by omega) (by omega) rfl (fun b1483 b1484 => ?_))
  have k1486 : wKI H1468 m = wKI H m := (wKI_fr hW gm f1473 rfl)
  have k1487 : H1468 x 9 = H x 9 := (f1473 x 9 _ gx rfl)
  have k1488 : H1468 m 6 = H m 6 := (f1473 m 6 _ gm rfl)
  have k1489 : H1468 x 11 = H x 11 := (f1473 x 11 _ gx rfl)
  have k1490 : H1468 m 13 = H m 13 := (f1473 m 13 _ gm rfl)
  have k1491 : H1468 x 8 = H x 8 := (f1473 x 8 _ gx rfl)
  have k1492 : H1468 m 3 = H m 3 := (f1473 m 3 _ gm rfl)
  have k1493 : H1468 x 12 = H x 12 := (f1473 x 12 _ gx rfl)
  have k1494 : H1468 m 2 = H m 2 := (f1473 m 2 _ gm rfl)
  refine wl_of hX hb cL_447 (xc_V (pc' := 450) (r := m) (as := [vI (H1468 0 ((i + 1).toNat)), vI (H1468 0 ((i + 2).toNat)), vI (H1468 0 ((i + 3).toNat))]) (st := []) (lm_11_45) rfl rfl (Nat.le_of_ble_eq_true rfl) w1472 gm sh_42 (by decide) rfl (by decide) (s_214 w1472 gm ⟨by omega, by omega⟩ ⟨by omega, by omega⟩ ⟨by omega, by omega⟩ (by omega)) (fun R1495 T1496 H1497 p1498 => ?_))
  obtain ⟨e1499, w1501, f1502, z1505, e1500, b1506, p1503, p1504⟩ := p1498
  subst e1499
  subst e1500
  show WL _ _ _ _ 450 [(4, vI i), (3, .ref o), (2, .ref m), (1, .ref x), (0, .ref 0)] [vI z1505] _ H1497
  refine wl_of hX hb cL_450 (rw_pop (pc' := 451) rfl rfl ?_)
  refine wl_of hX hb cL_451 (rw_goto (p1 := 1653) (by decide) ?_)
  have k1507 : H1497 x 9 = H1468 x 9 := (f1502 x 9 _ gx rfl)
  have k1508 : H1497 m 6 = H1468 m 6 := (f1502 m 6 _ gm rfl)
  have k1509 : H1497 x 11 = H1468 x 11 := (f1502 x 11 _ gx rfl)
  have k1510 : H1497 m 13 = H1468 m 13 := (f1502 m 13 _ gm rfl)
  have k1511 : H1497 x 8 = H1468 x 8 := (f1502 x 8 _ gx rfl)
  have k1512 : H1497 m 3 = H1468 m 3 := (f1502 m 3 _ gm rfl)
  have k1513 : H1497 x 10 = H1468 x 10 := (f1502 x 10 _ gx rfl)
  have k1514 : H1497 x 12 = H1468 x 12 := (f1502 x 12 _ gx rfl)
  have h1515 : XI T H1497 x m := (XI_fr w1472 gx f1502 rfl (XI_fr hW gx f1473 rfl hXI))
  exact WL.loc hX (by simp) (next T H1497 ⟨⟨w1501, g0, gx, gm, go, by omega, by omega⟩, h1515, by omega, by omega, by omega⟩ (by omega) (by omega))
set_option maxHeartbeats 4000000 in
theorem wl_c6 {kt : Nat → Option mc_E} {CB SB : Nat} {X : mc_S → Prop} {T : wq_T} {H : wq_H} {Len x m o : Nat} {i : Int} (hX : wlX kt CB SB X) (hb : T.2.1 ≤ CB ∧ T.2.2.1 ≤ SB) (hI : wlJ Len x m o T H) (hL : Len ≤ 3072) (hi : 0 ≤ i ∧ i + 6 ≤ Len) (hb2 : T.2.1 + 20 ≤ CB ∧ T.2.2.1 + 500 ≤ SB)  (next : ∀ T' H', wlJ Len x m o T' H' → T'.2.1 ≤ T.2.1 + 20 → T'.2.2.1 ≤ T.2.2.1 + 500 → WL kt CB SB X 1653 (wlL i x m o) [] T' H') : WL kt CB SB X 454 (wlL i x m o) [] T H := by
  obtain ⟨⟨hW, g0, gx, gm, go, hK, hr⟩, hXI, hY1, hY2, hY3⟩ := hI
  refine wl_of hX hb cL_454 (rw_aload_n (pc' := 455) (v := .ref x) rfl rfl rfl ?_)
  refine wl_of hX hb cL_455 (rw_aload_n (pc' := 456) (v := .ref 0) rfl rfl rfl ?_)
  refine wl_of hX hb cL_456 (rw_iload (pc' := 458) (z := i) rfl rfl ?_)
  refine wl_of hX hb cL_458 (rw_iconst (pc' := 459) rfl ?_)
  refine wl_of hX hb cL_459 (rw_iadd (pc' := 460) rfl ?_)
  refine wl_of hX hb cL_460 (xa_I (so := 0) (pc' := 461) (a := 0) hW g0 (wsh_s _) (by omega) (wty_s _ _) (by omega) (by omega) rfl (fun b1516 b1517 => ?_))
  refine wl_of hX hb cL_461 (rw_aload_n (pc' := 462) (v := .ref 0) rfl rfl rfl ?_)
  refine wl_of hX hb cL_462 (rw_iload (pc' := 464) (z := i) rfl rfl ?_)
  refine wl_of hX hb cL_464 (rw_iconst (pc' := 465) rfl ?_)
  refine wl_of hX hb cL_465 (rw_iadd (pc' := 466) rfl ?_)
  refine wl_of hX hb cL_466 (xa_I (so := 0) (pc' := 467) (a := 0) hW g0 (wsh_s _) (by omega) (wty_s _ _) (by omega) (by omega) rfl (fun b1518 b1519 => ?_))
  refine wl_of hX hb cL_467 (rw_aload_n (pc' := 468) (v := .ref 0) rfl rfl rfl ?_)
  refine wl_of hX hb cL_468 (rw_iload (pc' := 470) (z := i) rfl rfl ?_)
  refine wl_of hX hb cL_470 (rw_iconst (pc' := 471) rfl ?_)
  refine wl_of hX hb cL_471 (rw_iadd (pc' := 472) rfl ?_)
  refine wl_of hX hb cL_472 (xa_I (so := 0) (pc' := 473) (a := 0) hW g0 (wsh_s _) (by omega) (wty_s _ _) (by omega) (by omega) rfl (fun b1520 b1521 => ?_))
  refine wl_of hX hb cL_473 (xc_V (pc' := 476) (r := x) (as := [vI (H 0 ((i + 1).toNat)), vI (H 0 ((i + 2).toNat)), vI (H 0 ((i + 3).toNat))]) (st := []) (lm_11_46) rfl rfl (Nat.le_of_ble_eq_true rfl) hW gx sh_1 (by decide) rfl (by decide) (s_59 hW gx ⟨by omega, by omega⟩ ⟨by omega, by omega⟩ ⟨by omega, by omega⟩) (fun R1522 T1523 H1524 p1525 => ?_))
  obtain ⟨e1526, w1528, f1529, z1531, e1527, b1532, p1530⟩ := p1525
  subst e1526
  subst e1527
  show WL _ _ _ _ 476 [(4, vI i), (3, .ref o), (2, .ref m), (1, .ref x), (0, .ref 0)] [vI z1531] _ H1524
  refine wl_of hX hb cL_476 (rw_pop (pc' := 477) rfl rfl ?_)
  refine wl_of hX hb cL_477 (rw_aload_n (pc' := 478) (v := .ref m) rfl rfl rfl ?_)
  refine wl_of hX hb cL_478 (rw_aload_n (pc' := 479) (v := .ref 0) rfl rfl rfl ?_)
  refine wl_of hX hb cL_479 (rw_iload (pc' := 481) (z := i) rfl rfl ?_)
  refine wl_of hX hb cL_481 (rw_iconst (pc' := 482) rfl ?_)
  refine wl_of hX hb cL_482 (rw_iadd (pc' := 483) rfl ?_)
  have k1535 : H1524 0 ((i + 1).toNat) = H 0 ((i + 1).toNat) := (f1529 0 ((i + 1).toNat) _ g0 (wmem_s rfl))
  refine wl_of hX hb cL_483 (xa_I (so := 0) (pc' := 484) (a := 0) w1528 g0 (wsh_s _) (by omega) (wty_s _ _) (by omega) (by omega) rfl (fun b1533 b1534 => ?_))
  refine wl_of hX hb cL_484 (rw_aload_n (pc' := 485) (v := .ref 0) rfl rfl rfl ?_)
  refine wl_of hX hb cL_485 (rw_iload (pc' := 487) (z := i) rfl rfl ?_)
  refine wl_of hX hb cL_487 (rw_iconst (pc' := 488) rfl ?_)
  refine wl_of hX hb cL_488 (rw_iadd (pc' := 489) rfl ?_)
  have k1538 : H1524 0 ((i + 2).toNat) = H 0 ((i + 2).toNat) := (f1529 0 ((i + 2).toNat) _ g0 (wmem_s rfl))
  refine wl_of hX hb cL_489 (xa_I (so := 0) (pc' := 490) (a := 0) w1528 g0 (wsh_s _) (by omega) (wty_s _ _) (by omega) (by omega) rfl (fun b1536 b1537 => ?_))
  refine wl_of hX hb cL_490 (rw_aload_n (pc' := 491) (v := .ref 0) rfl rfl rfl ?_)
  refine wl_of hX hb cL_491 (rw_iload (pc' := 493) (z := i) rfl rfl ?_)
  refine wl_of hX hb cL_493 (rw_iconst (pc' := 494) rfl ?_)
  refine wl_of hX hb cL_494 (rw_iadd (pc' := 495) rfl ?_)
  have k1541 : H1524 0 ((i + 3).toNat) = H 0 ((i + 3).toNat) := (f1529 0 ((i + 3).toNat) _ g0 (wmem_s rfl))
  refine wl_of hX hb cL_495 (xa_I (so := 0) (pc' := 496) (a := 0) w1528 g0 (wsh_s _) (by omega) (wty_s _ _) (by omega) (by omega) rfl (fun b1539 b1540 => ?_))
  have k1542 : wKI H1524 m = wKI H m := (wKI_fr hW gm f1529 rfl)
  have k1543 : H1524 x 9 = H x 9 := (f1529 x 9 _ gx rfl)
  have k1544 : H1524 m 6 = H m 6 := (f1529 m 6 _ gm rfl)
  have k1545 : H1524 x 11 = H x 11 := (f1529 x 11 _ gx rfl)
  have k1546 : H1524 m 13 = H m 13 := (f1529 m 13 _ gm rfl)
  have k1547 : H1524 x 8 = H x 8 := (f1529 x 8 _ gx rfl)
  have k1548 : H1524 m 3 = H m 3 := (f1529 m 3 _ gm rfl)
  have k1549 : H1524 x 12 = H x 12 := (f1529 x 12 _ gx rfl)
  have k1550 : H1524 m 2 = H m 2 := (f1529 m 2 _ gm rfl)
  refine wl_of hX hb cL_496 (xc_V (pc' := 499) (r := m) (as := [vI (H1524 0 ((i + 1).toNat)), vI (H1524 0 ((i + 2).toNat)), vI (H1524 0 ((i + 3).toNat))]) (st := []) (lm_11_49) rfl rfl (Nat.le_of_ble_eq_true rfl) w1528 gm sh_42 (by decide) rfl (by decide) (s_217 w1528 gm ⟨by omega, by omega⟩ ⟨by omega, by omega⟩ ⟨by omega, by omega⟩ (by omega)) (fun R1551 T1552 H1553 p1554 => ?_))
  obtain ⟨e1555, w1557, f1558, z1561, e1556, b1562, p1559, p1560⟩ := p1554
  subst e1555
  subst e1556
  show WL _ _ _ _ 499 [(4, vI i), (3, .ref o), (2, .ref m), (1, .ref x), (0, .ref 0)] [vI z1561] _ H1553
  refine wl_of hX hb cL_499 (rw_pop (pc' := 500) rfl rfl ?_)
  refine wl_of hX hb cL_500 (rw_goto (p1 := 1653) (by decide) ?_)
  have k1563 : H1553 x 9 = H1524 x 9 := (f1558 x 9 _ gx rfl)
  have k1564 : H1553 m 6 = H1524 m 6 := (f1558 m 6 _ gm rfl)
  have k1565 : H1553 x 11 = H1524 x 11 := (f1558 x 11 _ gx rfl)
  have k1566 : H1553 m 13 = H1524 m 13 := (f1558 m 13 _ gm rfl)
  have k1567 : H1553 x 8 = H1524 x 8 := (f1558 x 8 _ gx rfl)
  have k1568 : H1553 m 3 = H1524 m 3 := (f1558 m 3 _ gm rfl)
  have k1569 : H1553 x 10 = H1524 x 10 := (f1558 x 10 _ gx rfl)
  have k1570 : H1553 x 12 = H1524 x 12 := (f1558 x 12 _ gx rfl)
  have h1571 : XI T H1553 x m := (XI_fr w1528 gx f1558 rfl (XI_fr hW gx f1529 rfl hXI))
  exact WL.loc hX (by simp) (next T H1553 ⟨⟨w1557, g0, gx, gm, go, by omega, by omega⟩, h1571, by omega, by omega, by omega⟩ (by omega) (by omega))
set_option maxHeartbeats 4000000 in
theorem wl_c7 {kt : Nat → Option mc_E} {CB SB : Nat} {X : mc_S → Prop} {T : wq_T} {H : wq_H} {Len x m o : Nat} {i : Int} (hX : wlX kt CB SB X) (hb : T.2.1 ≤ CB ∧ T.2.2.1 ≤ SB) (hI : wlJ Len x m o T H) (hL : Len ≤ 3072) (hi : 0 ≤ i ∧ i + 6 ≤ Len) (hb2 : T.2.1 + 20 ≤ CB ∧ T.2.2.1 + 500 ≤ SB)  (next : ∀ T' H', wlJ Len x m o T' H' → T'.2.1 ≤ T.2.1 + 20 → T'.2.2.1 ≤ T.2.2.1 + 500 → WL kt CB SB X 1653 (wlL i x m o) [] T' H') : WL kt CB SB X 503 (wlL i x m o) [] T H := by
  obtain ⟨⟨hW, g0, gx, gm, go, hK, hr⟩, hXI, hY1, hY2, hY3⟩ := hI
  refine wl_of hX hb cL_503 (rw_aload_n (pc' := 504) (v := .ref x) rfl rfl rfl ?_)
  refine wl_of hX hb cL_504 (xc_V (pc' := 507) (r := x) (as := []) (st := []) (lm_11_50) rfl rfl (Nat.le_of_ble_eq_true rfl) hW gx sh_1 (by decide) rfl (by decide) (s_61 hW gx) (fun R1572 T1573 H1574 p1575 => ?_))
  obtain ⟨e1576, w1578, f1579, z1581, e1577, b1582, p1580⟩ := p1575
  subst e1576
  subst e1577
  show WL _ _ _ _ 507 [(4, vI i), (3, .ref o), (2, .ref m), (1, .ref x), (0, .ref 0)] [vL z1581] _ H1574
  refine wl_of hX hb cL_507 (rw_pop2 (pc' := 508) rfl rfl ?_)
  refine wl_of hX hb cL_508 (rw_aload_n (pc' := 509) (v := .ref m) rfl rfl rfl ?_)
  have k1583 : wKI H1574 m = wKI H m := (wKI_fr hW gm f1579 rfl)
  have k1584 : H1574 x 9 = H x 9 := (f1579 x 9 _ gx rfl)
  have k1585 : H1574 m 6 = H m 6 := (f1579 m 6 _ gm rfl)
  have k1586 : H1574 x 11 = H x 11 := (f1579 x 11 _ gx rfl)
  have k1587 : H1574 m 13 = H m 13 := (f1579 m 13 _ gm rfl)
  have k1588 : H1574 x 8 = H x 8 := (f1579 x 8 _ gx rfl)
  have k1589 : H1574 m 3 = H m 3 := (f1579 m 3 _ gm rfl)
  have k1590 : H1574 x 12 = H x 12 := (f1579 x 12 _ gx rfl)
  have k1591 : H1574 m 2 = H m 2 := (f1579 m 2 _ gm rfl)
  refine wl_of hX hb cL_509 (xc_V (pc' := 512) (r := m) (as := []) (st := []) (lm_11_54) rfl rfl (Nat.le_of_ble_eq_true rfl) w1578 gm sh_42 (by decide) rfl (by decide) (s_219 w1578 gm (by omega)) (fun R1592 T1593 H1594 p1595 => ?_))
  obtain ⟨e1596, w1598, f1599, z1602, e1597, b1603, p1600, p1601⟩ := p1595
  subst e1596
  subst e1597
  show WL _ _ _ _ 512 [(4, vI i), (3, .ref o), (2, .ref m), (1, .ref x), (0, .ref 0)] [vL z1602] _ H1594
  refine wl_of hX hb cL_512 (rw_pop2 (pc' := 513) rfl rfl ?_)
  refine wl_of hX hb cL_513 (rw_goto (p1 := 1653) (by decide) ?_)
  have k1604 : H1594 x 9 = H1574 x 9 := (f1599 x 9 _ gx rfl)
  have k1605 : H1594 m 6 = H1574 m 6 := (f1599 m 6 _ gm rfl)
  have k1606 : H1594 x 11 = H1574 x 11 := (f1599 x 11 _ gx rfl)
  have k1607 : H1594 m 13 = H1574 m 13 := (f1599 m 13 _ gm rfl)
  have k1608 : H1594 x 8 = H1574 x 8 := (f1599 x 8 _ gx rfl)
  have k1609 : H1594 m 3 = H1574 m 3 := (f1599 m 3 _ gm rfl)
  have k1610 : H1594 x 10 = H1574 x 10 := (f1599 x 10 _ gx rfl)
  have k1611 : H1594 x 12 = H1574 x 12 := (f1599 x 12 _ gx rfl)
  have h1612 : XI T H1594 x m := (XI_fr w1578 gx f1599 rfl (XI_fr hW gx f1579 rfl hXI))
  exact WL.loc hX (by simp) (next T H1594 ⟨⟨w1598, g0, gx, gm, go, by omega, by omega⟩, h1612, by omega, by omega, by omega⟩ (by omega) (by omega))
set_option maxHeartbeats 4000000 in
theorem wl_c8 {kt : Nat → Option mc_E} {CB SB : Nat} {X : mc_S → Prop} {T : wq_T} {H : wq_H} {Len x m o : Nat} {i : Int} (hX : wlX kt CB SB X) (hb : T.2.1 ≤ CB ∧ T.2.2.1 ≤ SB) (hI : wlJ Len x m o T H) (hL : Len ≤ 3072) (hi : 0 ≤ i ∧ i + 6 ≤ Len) (hb2 : T.2.1 + 20 ≤ CB ∧ T.2.2.1 + 500 ≤ SB)  (next : ∀ T' H', wlJ Len x m o T' H' → T'.2.1 ≤ T.2.1 + 20 → T'.2.2.1 ≤ T.2.2.1 + 500 → WL kt CB SB X 1653 (wlL i x m o) [] T' H') : WL kt CB SB X 516 (wlL i x m o) [] T H := by
  obtain ⟨⟨hW, g0, gx, gm, go, hK, hr⟩, hXI, hY1, hY2, hY3⟩ := hI
  refine wl_of hX hb cL_516 (rw_aload_n (pc' := 517) (v := .ref x) rfl rfl rfl ?_)
  refine wl_of hX hb cL_517 (rw_aload_n (pc' := 518) (v := .ref 0) rfl rfl rfl ?_)
  refine wl_of hX hb cL_518 (rw_iload (pc' := 520) (z := i) rfl rfl ?_)
  refine wl_of hX hb cL_520 (rw_iconst (pc' := 521) rfl ?_)
  refine wl_of hX hb cL_521 (rw_iadd (pc' := 522) rfl ?_)
  refine wl_of hX hb cL_522 (xa_I (so := 0) (pc' := 523) (a := 0) hW g0 (wsh_s _) (by omega) (wty_s _ _) (by omega) (by omega) rfl (fun b1613 b1614 => ?_))
  refine wl_of hX hb cL_523 (rw_aload_n (pc' := 524) (v := .ref 0) rfl rfl rfl ?_)
  refine wl_of hX hb cL_524 (rw_iload (pc' := 526) (z := i) rfl rfl ?_)
  refine wl_of hX hb cL_526 (rw_iconst (pc' := 527) rfl ?_)
  refine wl_of hX hb cL_527 (rw_iadd (pc' := 528) rfl ?_)
  refine wl_of hX hb cL_528 (xa_I (so := 0) (pc' := 529) (a := 0) hW g0 (wsh_s _) (by omega) (wty_s _ _) (by omega) (by omega) rfl (fun b1615 b1616 => ?_))
  refine wl_of hX hb cL_529 (xc_V (pc' := 532) (r := x) (as := [vI (H 0 ((i + 1).toNat)), vI (H 0 ((i + 2).toNat))]) (st := []) (lm_11_55) rfl rfl (Nat.le_of_ble_eq_true rfl) hW gx sh_1 (by decide) rfl (by decide) (s_62 hW gx ⟨by omega, by omega⟩ ⟨by omega, by omega⟩) (fun R1617 T1618 H1619 p1620 => ?_))
  obtain ⟨e1621, w1623, f1624, z1626, e1622, b1627, p1625⟩ := p1620
  subst e1621
  subst e1622
  show WL _ _ _ _ 532 [(4, vI i), (3, .ref o), (2, .ref m), (1, .ref x), (0, .ref 0)] [vI z1626] _ H1619
  refine wl_of hX hb cL_532 (rw_pop (pc' := 533) rfl rfl ?_)
  refine wl_of hX hb cL_533 (rw_aload_n (pc' := 534) (v := .ref m) rfl rfl rfl ?_)
  refine wl_of hX hb cL_534 (rw_aload_n (pc' := 535) (v := .ref 0) rfl rfl rfl ?_)
  refine wl_of hX hb cL_535 (rw_iload (pc' := 537) (z := i) rfl rfl ?_)
  refine wl_of hX hb cL_537 (rw_iconst (pc' := 538) rfl ?_)
  refine wl_of hX hb cL_538 (rw_iadd (pc' := 539) rfl ?_)
  have k1630 : H1619 0 ((i + 1).toNat) = H 0 ((i + 1).toNat) := (f1624 0 ((i + 1).toNat) _ g0 (wmem_s rfl))
  refine wl_of hX hb cL_539 (xa_I (so := 0) (pc' := 540) (a := 0) w1623 g0 (wsh_s _) (by omega) (wty_s _ _) (by omega) (by omega) rfl (fun b1628 b1629 => ?_))
  refine wl_of hX hb cL_540 (rw_aload_n (pc' := 541) (v := .ref 0) rfl rfl rfl ?_)
  refine wl_of hX hb cL_541 (rw_iload (pc' := 543) (z := i) rfl rfl ?_)
  refine wl_of hX hb cL_543 (rw_iconst (pc' := 544) rfl ?_)
  refine wl_of hX hb cL_544 (rw_iadd (pc' := 545) rfl ?_)
  have k1633 : H1619 0 ((i + 2).toNat) = H 0 ((i + 2).toNat) := (f1624 0 ((i + 2).toNat) _ g0 (wmem_s rfl))
  refine wl_of hX hb cL_545 (xa_I (so := 0) (pc' := 546) (a := 0) w1623 g0 (wsh_s _) (by omega) (wty_s _ _) (by omega) (by omega) rfl (fun b1631 b1632 => ?_))
  have k1634 : wKI H1619 m = wKI H m := (wKI_fr hW gm f1624 rfl)
  have k1635 : H1619 x 9 = H x 9 := (f1624 x 9 _ gx rfl)
  have k1636 : H1619 m 6 = H m 6 := (f1624 m 6 _ gm rfl)
  have k1637 : H1619 x 11 = H x 11 := (f1624 x 11 _ gx rfl)
  have k1638 : H1619 m 13 = H m 13 := (f1624 m 13 _ gm rfl)
  have k1639 : H1619 x 8 = H x 8 := (f1624 x 8 _ gx rfl)
  have k1640 : H1619 m 3 = H m 3 := (f1624 m 3 _ gm rfl)
  have k1641 : H1619 x 12 = H x 12 := (f1624 x 12 _ gx rfl)
  have k1642 : H1619 m 2 = H m 2 := (f1624 m 2 _ gm rfl)
  refine wl_of hX hb cL_546 (xc_V (pc' := 549) (r := m) (as := [vI (H1619 0 ((i + 1).toNat)), vI (H1619 0 ((i + 2).toNat))]) (st := []) (lm_11_59) rfl rfl (Nat.le_of_ble_eq_true rfl) w1623 gm sh_42 (by decide) rfl (by decide) (s_222 w1623 gm ⟨by omega, by omega⟩ ⟨by omega, by omega⟩ (by omega)) (fun R1643 T1644 H1645 p1646 => ?_))
  obtain ⟨e1647, w1649, f1650, z1653, e1648, b1654, p1651, p1652⟩ := p1646
  subst e1647
  subst e1648
  show WL _ _ _ _ 549 [(4, vI i), (3, .ref o), (2, .ref m), (1, .ref x), (0, .ref 0)] [vI z1653] _ H1645
  refine wl_of hX hb cL_549 (rw_pop (pc' := 550) rfl rfl ?_)
  refine wl_of hX hb cL_550 (rw_goto (p1 := 1653) (by decide) ?_)
  have k1655 : H1645 x 9 = H1619 x 9 := (f1650 x 9 _ gx rfl)
  have k1656 : H1645 m 6 = H1619 m 6 := (f1650 m 6 _ gm rfl)
  have k1657 : H1645 x 11 = H1619 x 11 := (f1650 x 11 _ gx rfl)
  have k1658 : H1645 m 13 = H1619 m 13 := (f1650 m 13 _ gm rfl)
  have k1659 : H1645 x 8 = H1619 x 8 := (f1650 x 8 _ gx rfl)
  have k1660 : H1645 m 3 = H1619 m 3 := (f1650 m 3 _ gm rfl)
  have k1661 : H1645 x 10 = H1619 x 10 := (f1650 x 10 _ gx rfl)
  have k1662 : H1645 x 12 = H1619 x 12 := (f1650 x 12 _ gx rfl)
  have h1663 : XI T H1645 x m := (XI_fr w1623 gx f1650 rfl (XI_fr hW gx f1624 rfl hXI))
  exact WL.loc hX (by simp) (next T H1645 ⟨⟨w1649, g0, gx, gm, go, by omega, by omega⟩, h1663, by omega, by omega, by omega⟩ (by omega) (by omega))
set_option maxHeartbeats 4000000 in
theorem wl_c9 {kt : Nat → Option mc_E} {CB SB : Nat} {X : mc_S → Prop} {T : wq_T} {H : wq_H} {Len x m o : Nat} {i : Int} (hX : wlX kt CB SB X) (hb : T.2.1 ≤ CB ∧ T.2.2.1 ≤ SB) (hI : wlJ Len x m o T H) (hL : Len ≤ 3072) (hi : 0 ≤ i ∧ i + 6 ≤ Len) (hb2 : T.2.1 + 20 ≤ CB ∧ T.2.2.1 + 500 ≤ SB)  (next : ∀ T' H', wlJ Len x m o T' H' → T'.2.1 ≤ T.2.1 + 20 → T'.2.2.1 ≤ T.2.2.1 + 500 → WL kt CB SB X 1653 (wlL i x m o) [] T' H') : WL kt CB SB X 553 (wlL i x m o) [] T H := by
  obtain ⟨⟨hW, g0, gx, gm, go, hK, hr⟩, hXI, hY1, hY2, hY3⟩ := hI
  refine wl_of hX hb cL_553 (rw_aload_n (pc' := 554) (v := .ref x) rfl rfl rfl ?_)
  refine wl_of hX hb cL_554 (rw_aload_n (pc' := 555) (v := .ref 0) rfl rfl rfl ?_)
  refine wl_of hX hb cL_555 (rw_iload (pc' := 557) (z := i) rfl rfl ?_)
  refine wl_of hX hb cL_557 (rw_iconst (pc' := 558) rfl ?_)
  refine wl_of hX hb cL_558 (rw_iadd (pc' := 559) rfl ?_)
  refine wl_of hX hb cL_559 (xa_I (so := 0) (pc' := 560) (a := 0) hW g0 (wsh_s _) (by omega) (wty_s _ _) (by omega) (by omega) rfl (fun b1664 b1665 => ?_))
  refine wl_of hX hb cL_560 (xc_V (pc' := 563) (r := x) (as := [vI (H 0 ((i + 1).toNat))]) (st := []) (lm_11_60) rfl rfl (Nat.le_of_ble_eq_true rfl) hW gx sh_1 (by decide) rfl (by decide) (s_65 hW gx ⟨by omega, by omega⟩) (fun R1666 T1667 H1668 p1669 => ?_))
  obtain ⟨e1670, w1672, f1673, z1675, e1671, b1676, p1674⟩ := p1669
  subst e1670
  subst e1671
  show WL _ _ _ _ 563 [(4, vI i), (3, .ref o), (2, .ref m), (1, .ref x), (0, .ref 0)] [vI z1675] _ H1668
  refine wl_of hX hb cL_563 (rw_pop (pc' := 564) rfl rfl ?_)
  refine wl_of hX hb cL_564 (rw_aload_n (pc' := 565) (v := .ref m) rfl rfl rfl ?_)
  refine wl_of hX hb cL_565 (rw_aload_n (pc' := 566) (v := .ref 0) rfl rfl rfl ?_)
  refine wl_of hX hb cL_566 (rw_iload (pc' := 568) (z := i) rfl rfl ?_)
  refine wl_of hX hb cL_568 (rw_iconst (pc' := 569) rfl ?_)
  refine wl_of hX hb cL_569 (rw_iadd (pc' := 570) rfl ?_)
  have k1679 : H1668 0 ((i + 1).toNat) = H 0 ((i + 1).toNat) := (f1673 0 ((i + 1).toNat) _ g0 (wmem_s rfl))
  refine wl_of hX hb cL_570 (xa_I (so := 0) (pc' := 571) (a := 0) w1672 g0 (wsh_s _) (by omega) (wty_s _ _) (by omega) (by omega) rfl (fun b1677 b1678 => ?_))
  have k1680 : wKI H1668 m = wKI H m := (wKI_fr hW gm f1673 rfl)
  have k1681 : H1668 x 9 = H x 9 := (f1673 x 9 _ gx rfl)
  have k1682 : H1668 m 6 = H m 6 := (f1673 m 6 _ gm rfl)
  have k1683 : H1668 x 11 = H x 11 := (f1673 x 11 _ gx rfl)
  have k1684 : H1668 m 13 = H m 13 := (f1673 m 13 _ gm rfl)
  have k1685 : H1668 x 8 = H x 8 := (f1673 x 8 _ gx rfl)
  have k1686 : H1668 m 3 = H m 3 := (f1673 m 3 _ gm rfl)
  have k1687 : H1668 x 12 = H x 12 := (f1673 x 12 _ gx rfl)
  have k1688 : H1668 m 2 = H m 2 := (f1673 m 2 _ gm rfl)
  refine wl_of hX hb cL_571 (xc_V (pc' := 574) (r := m) (as := [vI (H1668 0 ((i + 1).toNat))]) (st := []) (lm_11_63) rfl rfl (Nat.le_of_ble_eq_true rfl) w1672 gm sh_42 (by decide) rfl (by decide) (s_225 w1672 gm ⟨by omega, by omega⟩ (by omega)) (fun R1689 T1690 H1691 p1692 => ?_))
  obtain ⟨e1693, w1695, f1696, z1699, e1694, b1700, p1697, p1698⟩ := p1692
  subst e1693
  subst e1694
  show WL _ _ _ _ 574 [(4, vI i), (3, .ref o), (2, .ref m), (1, .ref x), (0, .ref 0)] [vI z1699] _ H1691
  refine wl_of hX hb cL_574 (rw_pop (pc' := 575) rfl rfl ?_)
  refine wl_of hX hb cL_575 (rw_goto (p1 := 1653) (by decide) ?_)
  have k1701 : H1691 x 9 = H1668 x 9 := (f1696 x 9 _ gx rfl)
  have k1702 : H1691 m 6 = H1668 m 6 := (f1696 m 6 _ gm rfl)
  have k1703 : H1691 x 11 = H1668 x 11 := (f1696 x 11 _ gx rfl)
  have k1704 : H1691 m 13 = H1668 m 13 := (f1696 m 13 _ gm rfl)
  have k1705 : H1691 x 8 = H1668 x 8 := (f1696 x 8 _ gx rfl)
  have k1706 : H1691 m 3 = H1668 m 3 := (f1696 m 3 _ gm rfl)
  have k1707 : H1691 x 10 = H1668 x 10 := (f1696 x 10 _ gx rfl)
  have k1708 : H1691 x 12 = H1668 x 12 := (f1696 x 12 _ gx rfl)
  have h1709 : XI T H1691 x m := (XI_fr w1672 gx f1696 rfl (XI_fr hW gx f1673 rfl hXI))
  exact WL.loc hX (by simp) (next T H1691 ⟨⟨w1695, g0, gx, gm, go, by omega, by omega⟩, h1709, by omega, by omega, by omega⟩ (by omega) (by omega))
set_option maxHeartbeats 4000000 in
theorem wl_c10 {kt : Nat → Option mc_E} {CB SB : Nat} {X : mc_S → Prop} {T : wq_T} {H : wq_H} {Len x m o : Nat} {i : Int} (hX : wlX kt CB SB X) (hb : T.2.1 ≤ CB ∧ T.2.2.1 ≤ SB) (hI : wlJ Len x m o T H) (hL : Len ≤ 3072) (hi : 0 ≤ i ∧ i + 6 ≤ Len) (hb2 : T.2.1 + 20 ≤ CB ∧ T.2.2.1 + 500 ≤ SB)  (next : ∀ T' H', wlJ Len x m o T' H' → T'.2.1 ≤ T.2.1 + 20 → T'.2.2.1 ≤ T.2.2.1 + 500 → WL kt CB SB X 1653 (wlL i x m o) [] T' H') : WL kt CB SB X 578 (wlL i x m o) [] T H := by
  obtain ⟨⟨hW, g0, gx, gm, go, hK, hr⟩, hXI, hY1, hY2, hY3⟩ := hI
  refine wl_of hX hb cL_578 (rw_aload_n (pc' := 579) (v := .ref x) rfl rfl rfl ?_)
  refine wl_of hX hb cL_579 (rw_aload_n (pc' := 580) (v := .ref 0) rfl rfl rfl ?_)
  refine wl_of hX hb cL_580 (rw_iload (pc' := 582) (z := i) rfl rfl ?_)
  refine wl_of hX hb cL_582 (rw_iconst (pc' := 583) rfl ?_)
  refine wl_of hX hb cL_583 (rw_iadd (pc' := 584) rfl ?_)
  refine wl_of hX hb cL_584 (xa_I (so := 0) (pc' := 585) (a := 0) hW g0 (wsh_s _) (by omega) (wty_s _ _) (by omega) (by omega) rfl (fun b1710 b1711 => ?_))
  refine wl_of hX hb cL_585 (xc_V (pc' := 588) (r := x) (as := [vI (H 0 ((i + 1).toNat))]) (st := []) (lm_11_64) rfl rfl (Nat.le_of_ble_eq_true rfl) hW gx sh_1 (by decide) rfl (by decide) (s_66 hW gx ⟨by omega, by omega⟩) (fun R1712 T1713 H1714 p1715 => ?_))
  obtain ⟨e1716, w1718, f1719, z1721, e1717, b1722, p1720⟩ := p1715
  subst e1716
  subst e1717
  show WL _ _ _ _ 588 [(4, vI i), (3, .ref o), (2, .ref m), (1, .ref x), (0, .ref 0)] [vI z1721] _ H1714
  refine wl_of hX hb cL_588 (rw_pop (pc' := 589) rfl rfl ?_)
  refine wl_of hX hb cL_589 (rw_aload_n (pc' := 590) (v := .ref m) rfl rfl rfl ?_)
  refine wl_of hX hb cL_590 (rw_aload_n (pc' := 591) (v := .ref 0) rfl rfl rfl ?_)
  refine wl_of hX hb cL_591 (rw_iload (pc' := 593) (z := i) rfl rfl ?_)
  refine wl_of hX hb cL_593 (rw_iconst (pc' := 594) rfl ?_)
  refine wl_of hX hb cL_594 (rw_iadd (pc' := 595) rfl ?_)
  have k1725 : H1714 0 ((i + 1).toNat) = H 0 ((i + 1).toNat) := (f1719 0 ((i + 1).toNat) _ g0 (wmem_s rfl))
  refine wl_of hX hb cL_595 (xa_I (so := 0) (pc' := 596) (a := 0) w1718 g0 (wsh_s _) (by omega) (wty_s _ _) (by omega) (by omega) rfl (fun b1723 b1724 => ?_))
  have k1726 : wKI H1714 m = wKI H m := (wKI_fr hW gm f1719 rfl)
  have k1727 : H1714 x 9 = H x 9 := (f1719 x 9 _ gx rfl)
  have k1728 : H1714 m 6 = H m 6 := (f1719 m 6 _ gm rfl)
  have k1729 : H1714 x 11 = H x 11 := (f1719 x 11 _ gx rfl)
  have k1730 : H1714 m 13 = H m 13 := (f1719 m 13 _ gm rfl)
  have k1731 : H1714 x 8 = H x 8 := (f1719 x 8 _ gx rfl)
  have k1732 : H1714 m 3 = H m 3 := (f1719 m 3 _ gm rfl)
  have k1733 : H1714 x 12 = H x 12 := (f1719 x 12 _ gx rfl)
  have k1734 : H1714 m 2 = H m 2 := (f1719 m 2 _ gm rfl)
  refine wl_of hX hb cL_596 (xc_V (pc' := 599) (r := m) (as := [vI (H1714 0 ((i + 1).toNat))]) (st := []) (lm_11_67) rfl rfl (Nat.le_of_ble_eq_true rfl) w1718 gm sh_42 (by decide) rfl (by decide) (s_226 w1718 gm ⟨by omega, by omega⟩ (by omega)) (fun R1735 T1736 H1737 p1738 => ?_))
  obtain ⟨e1739, w1741, f1742, z1745, e1740, b1746, p1743, p1744⟩ := p1738
  subst e1739
  subst e1740
  show WL _ _ _ _ 599 [(4, vI i), (3, .ref o), (2, .ref m), (1, .ref x), (0, .ref 0)] [vI z1745] _ H1737
  refine wl_of hX hb cL_599 (rw_pop (pc' := 600) rfl rfl ?_)
  refine wl_of hX hb cL_600 (rw_goto (p1 := 1653) (by decide) ?_)
  have k1747 : H1737 x 9 = H1714 x 9 := (f1742 x 9 _ gx rfl)
  have k1748 : H1737 m 6 = H1714 m 6 := (f1742 m 6 _ gm rfl)
  have k1749 : H1737 x 11 = H1714 x 11 := (f1742 x 11 _ gx rfl)
  have k1750 : H1737 m 13 = H1714 m 13 := (f1742 m 13 _ gm rfl)
  have k1751 : H1737 x 8 = H1714 x 8 := (f1742 x 8 _ gx rfl)
  have k1752 : H1737 m 3 = H1714 m 3 := (f1742 m 3 _ gm rfl)
  have k1753 : H1737 x 10 = H1714 x 10 := (f1742 x 10 _ gx rfl)
  have k1754 : H1737 x 12 = H1714 x 12 := (f1742 x 12 _ gx rfl)
  have h1755 : XI T H1737 x m := (XI_fr w1718 gx f1742 rfl (XI_fr hW gx f1719 rfl hXI))
  exact WL.loc hX (by simp) (next T H1737 ⟨⟨w1741, g0, gx, gm, go, by omega, by omega⟩, h1755, by omega, by omega, by omega⟩ (by omega) (by omega))
set_option maxHeartbeats 4000000 in
theorem wl_c11 {kt : Nat → Option mc_E} {CB SB : Nat} {X : mc_S → Prop} {T : wq_T} {H : wq_H} {Len x m o : Nat} {i : Int} (hX : wlX kt CB SB X) (hb : T.2.1 ≤ CB ∧ T.2.2.1 ≤ SB) (hI : wlJ Len x m o T H) (hL : Len ≤ 3072) (hi : 0 ≤ i ∧ i + 6 ≤ Len) (hb2 : T.2.1 + 20 ≤ CB ∧ T.2.2.1 + 500 ≤ SB)  (next : ∀ T' H', wlJ Len x m o T' H' → T'.2.1 ≤ T.2.1 + 20 → T'.2.2.1 ≤ T.2.2.1 + 500 → WL kt CB SB X 1653 (wlL i x m o) [] T' H') : WL kt CB SB X 603 (wlL i x m o) [] T H := by
  obtain ⟨⟨hW, g0, gx, gm, go, hK, hr⟩, hXI, hY1, hY2, hY3⟩ := hI
  refine wl_of hX hb cL_603 (rw_aload_n (pc' := 604) (v := .ref x) rfl rfl rfl ?_)
  refine wl_of hX hb cL_604 (xc_V (pc' := 607) (r := x) (as := []) (st := []) (lm_11_68) rfl rfl (Nat.le_of_ble_eq_true rfl) hW gx sh_1 (by decide) rfl (by decide) (s_73 hW gx) (fun R1756 T1757 H1758 p1759 => ?_))
  obtain ⟨e1760, w1762, f1763, z1765, e1761, b1766, p1764⟩ := p1759
  subst e1760
  subst e1761
  show WL _ _ _ _ 607 [(4, vI i), (3, .ref o), (2, .ref m), (1, .ref x), (0, .ref 0)] [vI z1765] _ H1758
  refine wl_of hX hb cL_607 (rw_pop (pc' := 608) rfl rfl ?_)
  refine wl_of hX hb cL_608 (rw_aload_n (pc' := 609) (v := .ref m) rfl rfl rfl ?_)
  have k1767 : wKI H1758 m = wKI H m := (wKI_fr hW gm f1763 rfl)
  have k1768 : H1758 x 9 = H x 9 := (f1763 x 9 _ gx rfl)
  have k1769 : H1758 m 6 = H m 6 := (f1763 m 6 _ gm rfl)
  have k1770 : H1758 x 11 = H x 11 := (f1763 x 11 _ gx rfl)
  have k1771 : H1758 m 13 = H m 13 := (f1763 m 13 _ gm rfl)
  have k1772 : H1758 x 8 = H x 8 := (f1763 x 8 _ gx rfl)
  have k1773 : H1758 m 3 = H m 3 := (f1763 m 3 _ gm rfl)
  have k1774 : H1758 x 12 = H x 12 := (f1763 x 12 _ gx rfl)
  have k1775 : H1758 m 2 = H m 2 := (f1763 m 2 _ gm rfl)
  refine wl_of hX hb cL_609 (xc_V (pc' := 612) (r := m) (as := []) (st := []) (lm_11_71) rfl rfl (Nat.le_of_ble_eq_true rfl) w1762 gm sh_42 (by decide) rfl (by decide) (s_230 w1762 gm (by omega)) (fun R1776 T1777 H1778 p1779 => ?_))
  obtain ⟨e1780, w1782, f1783, z1786, e1781, b1787, p1784, p1785⟩ := p1779
  subst e1780
  subst e1781
  show WL _ _ _ _ 612 [(4, vI i), (3, .ref o), (2, .ref m), (1, .ref x), (0, .ref 0)] [vI z1786] _ H1778
  refine wl_of hX hb cL_612 (rw_pop (pc' := 613) rfl rfl ?_)
  refine wl_of hX hb cL_613 (rw_goto (p1 := 1653) (by decide) ?_)
  have k1788 : H1778 x 9 = H1758 x 9 := (f1783 x 9 _ gx rfl)
  have k1789 : H1778 m 6 = H1758 m 6 := (f1783 m 6 _ gm rfl)
  have k1790 : H1778 x 11 = H1758 x 11 := (f1783 x 11 _ gx rfl)
  have k1791 : H1778 m 13 = H1758 m 13 := (f1783 m 13 _ gm rfl)
  have k1792 : H1778 x 8 = H1758 x 8 := (f1783 x 8 _ gx rfl)
  have k1793 : H1778 m 3 = H1758 m 3 := (f1783 m 3 _ gm rfl)
  have k1794 : H1778 x 10 = H1758 x 10 := (f1783 x 10 _ gx rfl)
  have k1795 : H1778 x 12 = H1758 x 12 := (f1783 x 12 _ gx rfl)
  have h1796 : XI T H1778 x m := (XI_fr w1762 gx f1783 rfl (XI_fr hW gx f1763 rfl hXI))
  exact WL.loc hX (by simp) (next T H1778 ⟨⟨w1782, g0, gx, gm, go, by omega, by omega⟩, h1796, by omega, by omega, by omega⟩ (by omega) (by omega))
set_option maxHeartbeats 4000000 in
theorem wl_c12 {kt : Nat → Option mc_E} {CB SB : Nat} {X : mc_S → Prop} {T : wq_T} {H : wq_H} {Len x m o : Nat} {i : Int} (hX : wlX kt CB SB X) (hb : T.2.1 ≤ CB ∧ T.2.2.1 ≤ SB) (hI : wlJ Len x m o T H) (hL : Len ≤ 3072) (hi : 0 ≤ i ∧ i + 6 ≤ Len) (hb2 : T.2.1 + 20 ≤ CB ∧ T.2.2.1 + 500 ≤ SB)  (next : ∀ T' H', wlJ Len x m o T' H' → T'.2.1 ≤ T.2.1 + 20 → T'.2.2.1 ≤ T.2.2.1 + 500 → WL kt CB SB X 1653 (wlL i x m o) [] T' H') : WL kt CB SB X 616 (wlL i x m o) [] T H := by
  obtain ⟨⟨hW, g0, gx, gm, go, hK, hr⟩, hXI, hY1, hY2, hY3⟩ := hI
  refine wl_of hX hb cL_616 (rw_aload_n (pc' := 617) (v := .ref x) rfl rfl rfl ?_)
  refine wl_of hX hb cL_617 (xc_V (pc' := 620) (r := x) (as := []) (st := []) (lm_11_72) rfl rfl (Nat.le_of_ble_eq_true rfl) hW gx sh_1 (by decide) rfl (by decide) (s_77 hW gx) (fun R1797 T1798 H1799 p1800 => ?_))
  obtain ⟨e1801, w1803, f1804, z1806, e1802, b1807, p1805⟩ := p1800
  subst e1801
  subst e1802
  show WL _ _ _ _ 620 [(4, vI i), (3, .ref o), (2, .ref m), (1, .ref x), (0, .ref 0)] [vI z1806] _ H1799
  refine wl_of hX hb cL_620 (rw_pop (pc' := 621) rfl rfl ?_)
  refine wl_of hX hb cL_621 (rw_aload_n (pc' := 622) (v := .ref m) rfl rfl rfl ?_)
  have k1808 : wKI H1799 m = wKI H m := (wKI_fr hW gm f1804 rfl)
  have k1809 : H1799 x 9 = H x 9 := (f1804 x 9 _ gx rfl)
  have k1810 : H1799 m 6 = H m 6 := (f1804 m 6 _ gm rfl)
  have k1811 : H1799 x 11 = H x 11 := (f1804 x 11 _ gx rfl)
  have k1812 : H1799 m 13 = H m 13 := (f1804 m 13 _ gm rfl)
  have k1813 : H1799 x 8 = H x 8 := (f1804 x 8 _ gx rfl)
  have k1814 : H1799 m 3 = H m 3 := (f1804 m 3 _ gm rfl)
  have k1815 : H1799 x 12 = H x 12 := (f1804 x 12 _ gx rfl)
  have k1816 : H1799 m 2 = H m 2 := (f1804 m 2 _ gm rfl)
  refine wl_of hX hb cL_622 (xc_V (pc' := 625) (r := m) (as := []) (st := []) (lm_11_75) rfl rfl (Nat.le_of_ble_eq_true rfl) w1803 gm sh_42 (by decide) rfl (by decide) (s_236 w1803 gm (by omega)) (fun R1817 T1818 H1819 p1820 => ?_))
  obtain ⟨e1821, w1823, f1824, z1827, e1822, b1828, p1825, p1826⟩ := p1820
  subst e1821
  subst e1822
  show WL _ _ _ _ 625 [(4, vI i), (3, .ref o), (2, .ref m), (1, .ref x), (0, .ref 0)] [vI z1827] _ H1819
  refine wl_of hX hb cL_625 (rw_pop (pc' := 626) rfl rfl ?_)
  refine wl_of hX hb cL_626 (rw_goto (p1 := 1653) (by decide) ?_)
  have k1829 : H1819 x 9 = H1799 x 9 := (f1824 x 9 _ gx rfl)
  have k1830 : H1819 m 6 = H1799 m 6 := (f1824 m 6 _ gm rfl)
  have k1831 : H1819 x 11 = H1799 x 11 := (f1824 x 11 _ gx rfl)
  have k1832 : H1819 m 13 = H1799 m 13 := (f1824 m 13 _ gm rfl)
  have k1833 : H1819 x 8 = H1799 x 8 := (f1824 x 8 _ gx rfl)
  have k1834 : H1819 m 3 = H1799 m 3 := (f1824 m 3 _ gm rfl)
  have k1835 : H1819 x 10 = H1799 x 10 := (f1824 x 10 _ gx rfl)
  have k1836 : H1819 x 12 = H1799 x 12 := (f1824 x 12 _ gx rfl)
  have h1837 : XI T H1819 x m := (XI_fr w1803 gx f1824 rfl (XI_fr hW gx f1804 rfl hXI))
  exact WL.loc hX (by simp) (next T H1819 ⟨⟨w1823, g0, gx, gm, go, by omega, by omega⟩, h1837, by omega, by omega, by omega⟩ (by omega) (by omega))
set_option maxHeartbeats 4000000 in
theorem wl_c13 {kt : Nat → Option mc_E} {CB SB : Nat} {X : mc_S → Prop} {T : wq_T} {H : wq_H} {Len x m o : Nat} {i : Int} (hX : wlX kt CB SB X) (hb : T.2.1 ≤ CB ∧ T.2.2.1 ≤ SB) (hI : wlJ Len x m o T H) (hL : Len ≤ 3072) (hi : 0 ≤ i ∧ i + 6 ≤ Len) (hb2 : T.2.1 + 20 ≤ CB ∧ T.2.2.1 + 500 ≤ SB)  (next : ∀ T' H', wlJ Len x m o T' H' → T'.2.1 ≤ T.2.1 + 20 → T'.2.2.1 ≤ T.2.2.1 + 500 → WL kt CB SB X 1653 (wlL i x m o) [] T' H') : WL kt CB SB X 629 (wlL i x m o) [] T H := by
  obtain ⟨⟨hW, g0, gx, gm, go, hK, hr⟩, hXI, hY1, hY2, hY3⟩ := hI
  refine wl_of hX hb cL_629 (rw_aload_n (pc' := 630) (v := .ref x) rfl rfl rfl ?_)
  refine wl_of hX hb cL_630 (xc_V (pc' := 633) (r := x) (as := []) (st := []) (lm_11_76) rfl rfl (Nat.le_of_ble_eq_true rfl) hW gx sh_1 (by decide) rfl (by decide) (s_78 hW gx) (fun R1838 T1839 H1840 p1841 => ?_))
  obtain ⟨e1842, w1844, f1845, z1847, e1843, b1848, p1846⟩ := p1841
  subst e1842
  subst e1843
  show WL _ _ _ _ 633 [(4, vI i), (3, .ref o), (2, .ref m), (1, .ref x), (0, .ref 0)] [vI z1847] _ H1840
  refine wl_of hX hb cL_633 (rw_pop (pc' := 634) rfl rfl ?_)
  refine wl_of hX hb cL_634 (rw_aload_n (pc' := 635) (v := .ref m) rfl rfl rfl ?_)
  have k1849 : wKI H1840 m = wKI H m := (wKI_fr hW gm f1845 rfl)
  have k1850 : H1840 x 9 = H x 9 := (f1845 x 9 _ gx rfl)
  have k1851 : H1840 m 6 = H m 6 := (f1845 m 6 _ gm rfl)
  have k1852 : H1840 x 11 = H x 11 := (f1845 x 11 _ gx rfl)
  have k1853 : H1840 m 13 = H m 13 := (f1845 m 13 _ gm rfl)
  have k1854 : H1840 x 8 = H x 8 := (f1845 x 8 _ gx rfl)
  have k1855 : H1840 m 3 = H m 3 := (f1845 m 3 _ gm rfl)
  have k1856 : H1840 x 12 = H x 12 := (f1845 x 12 _ gx rfl)
  have k1857 : H1840 m 2 = H m 2 := (f1845 m 2 _ gm rfl)
  refine wl_of hX hb cL_635 (xc_V (pc' := 638) (r := m) (as := []) (st := []) (lm_11_79) rfl rfl (Nat.le_of_ble_eq_true rfl) w1844 gm sh_42 (by decide) rfl (by decide) (s_237 w1844 gm (by omega)) (fun R1858 T1859 H1860 p1861 => ?_))
  obtain ⟨e1862, w1864, f1865, z1868, e1863, b1869, p1866, p1867⟩ := p1861
  subst e1862
  subst e1863
  show WL _ _ _ _ 638 [(4, vI i), (3, .ref o), (2, .ref m), (1, .ref x), (0, .ref 0)] [vI z1868] _ H1860
  refine wl_of hX hb cL_638 (rw_pop (pc' := 639) rfl rfl ?_)
  refine wl_of hX hb cL_639 (rw_goto (p1 := 1653) (by decide) ?_)
  have k1870 : H1860 x 9 = H1840 x 9 := (f1865 x 9 _ gx rfl)
  have k1871 : H1860 m 6 = H1840 m 6 := (f1865 m 6 _ gm rfl)
  have k1872 : H1860 x 11 = H1840 x 11 := (f1865 x 11 _ gx rfl)
  have k1873 : H1860 m 13 = H1840 m 13 := (f1865 m 13 _ gm rfl)
  have k1874 : H1860 x 8 = H1840 x 8 := (f1865 x 8 _ gx rfl)
  have k1875 : H1860 m 3 = H1840 m 3 := (f1865 m 3 _ gm rfl)
  have k1876 : H1860 x 10 = H1840 x 10 := (f1865 x 10 _ gx rfl)
  have k1877 : H1860 x 12 = H1840 x 12 := (f1865 x 12 _ gx rfl)
  have h1878 : XI T H1860 x m := (XI_fr w1844 gx f1865 rfl (XI_fr hW gx f1845 rfl hXI))
  exact WL.loc hX (by simp) (next T H1860 ⟨⟨w1864, g0, gx, gm, go, by omega, by omega⟩, h1878, by omega, by omega, by omega⟩ (by omega) (by omega))
set_option maxHeartbeats 4000000 in
theorem wl_c14 {kt : Nat → Option mc_E} {CB SB : Nat} {X : mc_S → Prop} {T : wq_T} {H : wq_H} {Len x m o : Nat} {i : Int} (hX : wlX kt CB SB X) (hb : T.2.1 ≤ CB ∧ T.2.2.1 ≤ SB) (hI : wlJ Len x m o T H) (hL : Len ≤ 3072) (hi : 0 ≤ i ∧ i + 6 ≤ Len) (hb2 : T.2.1 + 20 ≤ CB ∧ T.2.2.1 + 500 ≤ SB)  (next : ∀ T' H', wlJ Len x m o T' H' → T'.2.1 ≤ T.2.1 + 20 → T'.2.2.1 ≤ T.2.2.1 + 500 → WL kt CB SB X 1653 (wlL i x m o) [] T' H') : WL kt CB SB X 642 (wlL i x m o) [] T H := by
  obtain ⟨⟨hW, g0, gx, gm, go, hK, hr⟩, hXI, hY1, hY2, hY3⟩ := hI
  refine wl_of hX hb cL_642 (rw_aload_n (pc' := 643) (v := .ref x) rfl rfl rfl ?_)
  refine wl_of hX hb cL_643 (xc_V (pc' := 646) (r := x) (as := []) (st := []) (lm_11_80) rfl rfl (Nat.le_of_ble_eq_true rfl) hW gx sh_1 (by decide) rfl (by decide) (s_82 hW gx) (fun R1879 T1880 H1881 p1882 => ?_))
  obtain ⟨e1883, w1885, f1886, z1888, e1884, b1889, p1887⟩ := p1882
  subst e1883
  subst e1884
  show WL _ _ _ _ 646 [(4, vI i), (3, .ref o), (2, .ref m), (1, .ref x), (0, .ref 0)] [vI z1888] _ H1881
  refine wl_of hX hb cL_646 (rw_pop (pc' := 647) rfl rfl ?_)
  refine wl_of hX hb cL_647 (rw_aload_n (pc' := 648) (v := .ref m) rfl rfl rfl ?_)
  have k1890 : wKI H1881 m = wKI H m := (wKI_fr hW gm f1886 rfl)
  have k1891 : H1881 x 9 = H x 9 := (f1886 x 9 _ gx rfl)
  have k1892 : H1881 m 6 = H m 6 := (f1886 m 6 _ gm rfl)
  have k1893 : H1881 x 11 = H x 11 := (f1886 x 11 _ gx rfl)
  have k1894 : H1881 m 13 = H m 13 := (f1886 m 13 _ gm rfl)
  have k1895 : H1881 x 8 = H x 8 := (f1886 x 8 _ gx rfl)
  have k1896 : H1881 m 3 = H m 3 := (f1886 m 3 _ gm rfl)
  have k1897 : H1881 x 12 = H x 12 := (f1886 x 12 _ gx rfl)
  have k1898 : H1881 m 2 = H m 2 := (f1886 m 2 _ gm rfl)
  refine wl_of hX hb cL_648 (xc_V (pc' := 651) (r := m) (as := []) (st := []) (lm_11_83) rfl rfl (Nat.le_of_ble_eq_true rfl) w1885 gm sh_42 (by decide) rfl (by decide) (s_240 w1885 gm (by omega)) (fun R1899 T1900 H1901 p1902 => ?_))
  obtain ⟨e1903, w1905, f1906, z1909, e1904, b1910, p1907, p1908⟩ := p1902
  subst e1903
  subst e1904
  show WL _ _ _ _ 651 [(4, vI i), (3, .ref o), (2, .ref m), (1, .ref x), (0, .ref 0)] [vI z1909] _ H1901
  refine wl_of hX hb cL_651 (rw_pop (pc' := 652) rfl rfl ?_)
  refine wl_of hX hb cL_652 (rw_goto (p1 := 1653) (by decide) ?_)
  have k1911 : H1901 x 9 = H1881 x 9 := (f1906 x 9 _ gx rfl)
  have k1912 : H1901 m 6 = H1881 m 6 := (f1906 m 6 _ gm rfl)
  have k1913 : H1901 x 11 = H1881 x 11 := (f1906 x 11 _ gx rfl)
  have k1914 : H1901 m 13 = H1881 m 13 := (f1906 m 13 _ gm rfl)
  have k1915 : H1901 x 8 = H1881 x 8 := (f1906 x 8 _ gx rfl)
  have k1916 : H1901 m 3 = H1881 m 3 := (f1906 m 3 _ gm rfl)
  have k1917 : H1901 x 10 = H1881 x 10 := (f1906 x 10 _ gx rfl)
  have k1918 : H1901 x 12 = H1881 x 12 := (f1906 x 12 _ gx rfl)
  have h1919 : XI T H1901 x m := (XI_fr w1885 gx f1906 rfl (XI_fr hW gx f1886 rfl hXI))
  exact WL.loc hX (by simp) (next T H1901 ⟨⟨w1905, g0, gx, gm, go, by omega, by omega⟩, h1919, by omega, by omega, by omega⟩ (by omega) (by omega))
set_option maxHeartbeats 4000000 in
theorem wl_c15 {kt : Nat → Option mc_E} {CB SB : Nat} {X : mc_S → Prop} {T : wq_T} {H : wq_H} {Len x m o : Nat} {i : Int} (hX : wlX kt CB SB X) (hb : T.2.1 ≤ CB ∧ T.2.2.1 ≤ SB) (hI : wlJ Len x m o T H) (hL : Len ≤ 3072) (hi : 0 ≤ i ∧ i + 6 ≤ Len) (hb2 : T.2.1 + 20 ≤ CB ∧ T.2.2.1 + 500 ≤ SB)  (next : ∀ T' H', wlJ Len x m o T' H' → T'.2.1 ≤ T.2.1 + 20 → T'.2.2.1 ≤ T.2.2.1 + 500 → WL kt CB SB X 1653 (wlL i x m o) [] T' H') : WL kt CB SB X 655 (wlL i x m o) [] T H := by
  obtain ⟨⟨hW, g0, gx, gm, go, hK, hr⟩, hXI, hY1, hY2, hY3⟩ := hI
  refine wl_of hX hb cL_655 (rw_aload_n (pc' := 656) (v := .ref x) rfl rfl rfl ?_)
  refine wl_of hX hb cL_656 (xc_V (pc' := 659) (r := x) (as := []) (st := []) (lm_11_84) rfl rfl (Nat.le_of_ble_eq_true rfl) hW gx sh_1 (by decide) rfl (by decide) (s_92 hW gx) (fun R1920 T1921 H1922 p1923 => ?_))
  obtain ⟨e1924, w1926, f1927, z1929, e1925, b1930, p1928⟩ := p1923
  subst e1924
  subst e1925
  show WL _ _ _ _ 659 [(4, vI i), (3, .ref o), (2, .ref m), (1, .ref x), (0, .ref 0)] [vI z1929] _ H1922
  refine wl_of hX hb cL_659 (rw_pop (pc' := 660) rfl rfl ?_)
  refine wl_of hX hb cL_660 (rw_aload_n (pc' := 661) (v := .ref m) rfl rfl rfl ?_)
  have k1931 : wKI H1922 m = wKI H m := (wKI_fr hW gm f1927 rfl)
  have k1932 : H1922 x 9 = H x 9 := (f1927 x 9 _ gx rfl)
  have k1933 : H1922 m 6 = H m 6 := (f1927 m 6 _ gm rfl)
  have k1934 : H1922 x 11 = H x 11 := (f1927 x 11 _ gx rfl)
  have k1935 : H1922 m 13 = H m 13 := (f1927 m 13 _ gm rfl)
  have k1936 : H1922 x 8 = H x 8 := (f1927 x 8 _ gx rfl)
  have k1937 : H1922 m 3 = H m 3 := (f1927 m 3 _ gm rfl)
  have k1938 : H1922 x 12 = H x 12 := (f1927 x 12 _ gx rfl)
  have k1939 : H1922 m 2 = H m 2 := (f1927 m 2 _ gm rfl)
  refine wl_of hX hb cL_661 (xc_V (pc' := 664) (r := m) (as := []) (st := []) (lm_11_87) rfl rfl (Nat.le_of_ble_eq_true rfl) w1926 gm sh_42 (by decide) rfl (by decide) (s_244 w1926 gm (by omega)) (fun R1940 T1941 H1942 p1943 => ?_))
  obtain ⟨e1944, w1946, f1947, z1950, e1945, b1951, p1948, p1949⟩ := p1943
  subst e1944
  subst e1945
  show WL _ _ _ _ 664 [(4, vI i), (3, .ref o), (2, .ref m), (1, .ref x), (0, .ref 0)] [vI z1950] _ H1942
  refine wl_of hX hb cL_664 (rw_pop (pc' := 665) rfl rfl ?_)
  refine wl_of hX hb cL_665 (rw_goto (p1 := 1653) (by decide) ?_)
  have k1952 : H1942 x 9 = H1922 x 9 := (f1947 x 9 _ gx rfl)
  have k1953 : H1942 m 6 = H1922 m 6 := (f1947 m 6 _ gm rfl)
  have k1954 : H1942 x 11 = H1922 x 11 := (f1947 x 11 _ gx rfl)
  have k1955 : H1942 m 13 = H1922 m 13 := (f1947 m 13 _ gm rfl)
  have k1956 : H1942 x 8 = H1922 x 8 := (f1947 x 8 _ gx rfl)
  have k1957 : H1942 m 3 = H1922 m 3 := (f1947 m 3 _ gm rfl)
  have k1958 : H1942 x 10 = H1922 x 10 := (f1947 x 10 _ gx rfl)
  have k1959 : H1942 x 12 = H1922 x 12 := (f1947 x 12 _ gx rfl)
  have h1960 : XI T H1942 x m := (XI_fr w1926 gx f1947 rfl (XI_fr hW gx f1927 rfl hXI))
  exact WL.loc hX (by simp) (next T H1942 ⟨⟨w1946, g0, gx, gm, go, by omega, by omega⟩, h1960, by omega, by omega, by omega⟩ (by omega) (by omega))
set_option maxHeartbeats 4000000 in
theorem wl_c16 {kt : Nat → Option mc_E} {CB SB : Nat} {X : mc_S → Prop} {T : wq_T} {H : wq_H} {Len x m o : Nat} {i : Int} (hX : wlX kt CB SB X) (hb : T.2.1 ≤ CB ∧ T.2.2.1 ≤ SB) (hI : wlJ Len x m o T H) (hL : Len ≤ 3072) (hi : 0 ≤ i ∧ i + 6 ≤ Len) (hb2 : T.2.1 + 20 ≤ CB ∧ T.2.2.1 + 500 ≤ SB)  (next : ∀ T' H', wlJ Len x m o T' H' → T'.2.1 ≤ T.2.1 + 20 → T'.2.2.1 ≤ T.2.2.1 + 500 → WL kt CB SB X 1653 (wlL i x m o) [] T' H') : WL kt CB SB X 668 (wlL i x m o) [] T H := by
  obtain ⟨⟨hW, g0, gx, gm, go, hK, hr⟩, hXI, hY1, hY2, hY3⟩ := hI
  refine wl_of hX hb cL_668 (rw_aload_n (pc' := 669) (v := .ref x) rfl rfl rfl ?_)
  refine wl_of hX hb cL_669 (rw_aload_n (pc' := 670) (v := .ref 0) rfl rfl rfl ?_)
  refine wl_of hX hb cL_670 (rw_iload (pc' := 672) (z := i) rfl rfl ?_)
  refine wl_of hX hb cL_672 (rw_iconst (pc' := 673) rfl ?_)
  refine wl_of hX hb cL_673 (rw_iadd (pc' := 674) rfl ?_)
  refine wl_of hX hb cL_674 (xa_I (so := 0) (pc' := 675) (a := 0) hW g0 (wsh_s _) (by omega) (wty_s _ _) (by omega) (by omega) rfl (fun b1961 b1962 => ?_))
  refine wl_of hX hb cL_675 (rw_aload_n (pc' := 676) (v := .ref 0) rfl rfl rfl ?_)
  refine wl_of hX hb cL_676 (rw_iload (pc' := 678) (z := i) rfl rfl ?_)
  refine wl_of hX hb cL_678 (rw_iconst (pc' := 679) rfl ?_)
  refine wl_of hX hb cL_679 (rw_iadd (pc' := 680) rfl ?_)
  refine wl_of hX hb cL_680 (xa_I (so := 0) (pc' := 681) (a := 0) hW g0 (wsh_s _) (by omega) (wty_s _ _) (by omega) (by omega) rfl (fun b1963 b1964 => ?_))
  refine wl_of hX hb cL_681 (xc_V (pc' := 684) (r := x) (as := [vI (H 0 ((i + 1).toNat)), vI (H 0 ((i + 2).toNat))]) (st := []) (lm_11_88) rfl rfl (Nat.le_of_ble_eq_true rfl) hW gx sh_1 (by decide) rfl (by decide) (s_93 hW gx ⟨by omega, by omega⟩ ⟨by omega, by omega⟩) (fun R1965 T1966 H1967 p1968 => ?_))
  obtain ⟨e1969, w1971, f1972, z1974, e1970, b1975, p1973⟩ := p1968
  subst e1969
  subst e1970
  show WL _ _ _ _ 684 [(4, vI i), (3, .ref o), (2, .ref m), (1, .ref x), (0, .ref 0)] [vI z1974] _ H1967
  refine wl_of hX hb cL_684 (rw_pop (pc' := 685) rfl rfl ?_)
  refine wl_of hX hb cL_685 (rw_aload_n (pc' := 686) (v := .ref m) rfl rfl rfl ?_)
  refine wl_of hX hb cL_686 (rw_aload_n (pc' := 687) (v := .ref 0) rfl rfl rfl ?_)
  refine wl_of hX hb cL_687 (rw_iload (pc' := 689) (z := i) rfl rfl ?_)
  refine wl_of hX hb cL_689 (rw_iconst (pc' := 690) rfl ?_)
  refine wl_of hX hb cL_690 (rw_iadd (pc' := 691) rfl ?_)
  have k1978 : H1967 0 ((i + 1).toNat) = H 0 ((i + 1).toNat) := (f1972 0 ((i + 1).toNat) _ g0 (wmem_s rfl))
  refine wl_of hX hb cL_691 (xa_I (so := 0) (pc' := 692) (a := 0) w1971 g0 (wsh_s _) (by omega) (wty_s _ _) (by omega) (by omega) rfl (fun b1976 b1977 => ?_))
  refine wl_of hX hb cL_692 (rw_aload_n (pc' := 693) (v := .ref 0) rfl rfl rfl ?_)
  refine wl_of hX hb cL_693 (rw_iload (pc' := 695) (z := i) rfl rfl ?_)
  refine wl_of hX hb cL_695 (rw_iconst (pc' := 696) rfl ?_)
  refine wl_of hX hb cL_696 (rw_iadd (pc' := 697) rfl ?_)
  have k1981 : H1967 0 ((i + 2).toNat) = H 0 ((i + 2).toNat) := (f1972 0 ((i + 2).toNat) _ g0 (wmem_s rfl))
  refine wl_of hX hb cL_697 (xa_I (so := 0) (pc' := 698) (a := 0) w1971 g0 (wsh_s _) (by omega) (wty_s _ _) (by omega) (by omega) rfl (fun b1979 b1980 => ?_))
  have k1982 : wKI H1967 m = wKI H m := (wKI_fr hW gm f1972 rfl)
  have k1983 : H1967 x 9 = H x 9 := (f1972 x 9 _ gx rfl)
  have k1984 : H1967 m 6 = H m 6 := (f1972 m 6 _ gm rfl)
  have k1985 : H1967 x 11 = H x 11 := (f1972 x 11 _ gx rfl)
  have k1986 : H1967 m 13 = H m 13 := (f1972 m 13 _ gm rfl)
  have k1987 : H1967 x 8 = H x 8 := (f1972 x 8 _ gx rfl)
  have k1988 : H1967 m 3 = H m 3 := (f1972 m 3 _ gm rfl)
  have k1989 : H1967 x 12 = H x 12 := (f1972 x 12 _ gx rfl)
  have k1990 : H1967 m 2 = H m 2 := (f1972 m 2 _ gm rfl)
  refine wl_of hX hb cL_698 (xc_V (pc' := 701) (r := m) (as := [vI (H1967 0 ((i + 1).toNat)), vI (H1967 0 ((i + 2).toNat))]) (st := []) (lm_11_92) rfl rfl (Nat.le_of_ble_eq_true rfl) w1971 gm sh_42 (by decide) rfl (by decide) (s_245 w1971 gm ⟨by omega, by omega⟩ ⟨by omega, by omega⟩ (by omega)) (fun R1991 T1992 H1993 p1994 => ?_))
  obtain ⟨e1995, w1997, f1998, z2001, e1996, b2002, p1999, p2000⟩ := p1994
  subst e1995
  subst e1996
  show WL _ _ _ _ 701 [(4, vI i), (3, .ref o), (2, .ref m), (1, .ref x), (0, .ref 0)] [vI z2001] _ H1993
  refine wl_of hX hb cL_701 (rw_pop (pc' := 702) rfl rfl ?_)
  refine wl_of hX hb cL_702 (rw_goto (p1 := 1653) (by decide) ?_)
  have k2003 : H1993 x 9 = H1967 x 9 := (f1998 x 9 _ gx rfl)
  have k2004 : H1993 m 6 = H1967 m 6 := (f1998 m 6 _ gm rfl)
  have k2005 : H1993 x 11 = H1967 x 11 := (f1998 x 11 _ gx rfl)
  have k2006 : H1993 m 13 = H1967 m 13 := (f1998 m 13 _ gm rfl)
  have k2007 : H1993 x 8 = H1967 x 8 := (f1998 x 8 _ gx rfl)
  have k2008 : H1993 m 3 = H1967 m 3 := (f1998 m 3 _ gm rfl)
  have k2009 : H1993 x 10 = H1967 x 10 := (f1998 x 10 _ gx rfl)
  have k2010 : H1993 x 12 = H1967 x 12 := (f1998 x 12 _ gx rfl)
  have h2011 : XI T H1993 x m := (XI_fr w1971 gx f1998 rfl (XI_fr hW gx f1972 rfl hXI))
  exact WL.loc hX (by simp) (next T H1993 ⟨⟨w1997, g0, gx, gm, go, by omega, by omega⟩, h2011, by omega, by omega, by omega⟩ (by omega) (by omega))
set_option maxHeartbeats 4000000 in
theorem wl_c17 {kt : Nat → Option mc_E} {CB SB : Nat} {X : mc_S → Prop} {T : wq_T} {H : wq_H} {Len x m o : Nat} {i : Int} (hX : wlX kt CB SB X) (hb : T.2.1 ≤ CB ∧ T.2.2.1 ≤ SB) (hI : wlJ Len x m o T H) (hL : Len ≤ 3072) (hi : 0 ≤ i ∧ i + 6 ≤ Len) (hb2 : T.2.1 + 20 ≤ CB ∧ T.2.2.1 + 500 ≤ SB)  (next : ∀ T' H', wlJ Len x m o T' H' → T'.2.1 ≤ T.2.1 + 20 → T'.2.2.1 ≤ T.2.2.1 + 500 → WL kt CB SB X 1653 (wlL i x m o) [] T' H') : WL kt CB SB X 705 (wlL i x m o) [] T H := by
  obtain ⟨⟨hW, g0, gx, gm, go, hK, hr⟩, hXI, hY1, hY2, hY3⟩ := hI
  refine wl_of hX hb cL_705 (rw_aload_n (pc' := 706) (v := .ref x) rfl rfl rfl ?_)
  refine wl_of hX hb cL_706 (xc_V (pc' := 709) (r := x) (as := []) (st := []) (lm_11_93) rfl rfl (Nat.le_of_ble_eq_true rfl) hW gx sh_1 (by decide) rfl (by decide) (s_97 hW gx) (fun R2012 T2013 H2014 p2015 => ?_))
  obtain ⟨e2016, w2018, f2019, z2021, e2017, b2022, p2020⟩ := p2015
  subst e2016
  subst e2017
  show WL _ _ _ _ 709 [(4, vI i), (3, .ref o), (2, .ref m), (1, .ref x), (0, .ref 0)] [vL z2021] _ H2014
  refine wl_of hX hb cL_709 (rw_pop2 (pc' := 710) rfl rfl ?_)
  refine wl_of hX hb cL_710 (rw_aload_n (pc' := 711) (v := .ref m) rfl rfl rfl ?_)
  have k2023 : wKI H2014 m = wKI H m := (wKI_fr hW gm f2019 rfl)
  have k2024 : H2014 x 9 = H x 9 := (f2019 x 9 _ gx rfl)
  have k2025 : H2014 m 6 = H m 6 := (f2019 m 6 _ gm rfl)
  have k2026 : H2014 x 11 = H x 11 := (f2019 x 11 _ gx rfl)
  have k2027 : H2014 m 13 = H m 13 := (f2019 m 13 _ gm rfl)
  have k2028 : H2014 x 8 = H x 8 := (f2019 x 8 _ gx rfl)
  have k2029 : H2014 m 3 = H m 3 := (f2019 m 3 _ gm rfl)
  have k2030 : H2014 x 12 = H x 12 := (f2019 x 12 _ gx rfl)
  have k2031 : H2014 m 2 = H m 2 := (f2019 m 2 _ gm rfl)
  refine wl_of hX hb cL_711 (xc_V (pc' := 714) (r := m) (as := []) (st := []) (lm_11_96) rfl rfl (Nat.le_of_ble_eq_true rfl) w2018 gm sh_42 (by decide) rfl (by decide) (s_246 w2018 gm (by omega)) (fun R2032 T2033 H2034 p2035 => ?_))
  obtain ⟨e2036, w2038, f2039, z2042, e2037, b2043, p2040, p2041⟩ := p2035
  subst e2036
  subst e2037
  show WL _ _ _ _ 714 [(4, vI i), (3, .ref o), (2, .ref m), (1, .ref x), (0, .ref 0)] [vL z2042] _ H2034
  refine wl_of hX hb cL_714 (rw_pop2 (pc' := 715) rfl rfl ?_)
  refine wl_of hX hb cL_715 (rw_goto (p1 := 1653) (by decide) ?_)
  have k2044 : H2034 x 9 = H2014 x 9 := (f2039 x 9 _ gx rfl)
  have k2045 : H2034 m 6 = H2014 m 6 := (f2039 m 6 _ gm rfl)
  have k2046 : H2034 x 11 = H2014 x 11 := (f2039 x 11 _ gx rfl)
  have k2047 : H2034 m 13 = H2014 m 13 := (f2039 m 13 _ gm rfl)
  have k2048 : H2034 x 8 = H2014 x 8 := (f2039 x 8 _ gx rfl)
  have k2049 : H2034 m 3 = H2014 m 3 := (f2039 m 3 _ gm rfl)
  have k2050 : H2034 x 10 = H2014 x 10 := (f2039 x 10 _ gx rfl)
  have k2051 : H2034 x 12 = H2014 x 12 := (f2039 x 12 _ gx rfl)
  have h2052 : XI T H2034 x m := (XI_fr w2018 gx f2039 rfl (XI_fr hW gx f2019 rfl hXI))
  exact WL.loc hX (by simp) (next T H2034 ⟨⟨w2038, g0, gx, gm, go, by omega, by omega⟩, h2052, by omega, by omega, by omega⟩ (by omega) (by omega))
set_option maxHeartbeats 4000000 in
theorem wl_c18 {kt : Nat → Option mc_E} {CB SB : Nat} {X : mc_S → Prop} {T : wq_T} {H : wq_H} {Len x m o : Nat} {i : Int} (hX : wlX kt CB SB X) (hb : T.2.1 ≤ CB ∧ T.2.2.1 ≤ SB) (hI : wlJ Len x m o T H) (hL : Len ≤ 3072) (hi : 0 ≤ i ∧ i + 6 ≤ Len) (hb2 : T.2.1 + 20 ≤ CB ∧ T.2.2.1 + 500 ≤ SB)  (next : ∀ T' H', wlJ Len x m o T' H' → T'.2.1 ≤ T.2.1 + 20 → T'.2.2.1 ≤ T.2.2.1 + 500 → WL kt CB SB X 1653 (wlL i x m o) [] T' H') : WL kt CB SB X 718 (wlL i x m o) [] T H := by
  obtain ⟨⟨hW, g0, gx, gm, go, hK, hr⟩, hXI, hY1, hY2, hY3⟩ := hI
  refine wl_of hX hb cL_718 (rw_aload_n (pc' := 719) (v := .ref x) rfl rfl rfl ?_)
  refine wl_of hX hb cL_719 (rw_aload_n (pc' := 720) (v := .ref 0) rfl rfl rfl ?_)
  refine wl_of hX hb cL_720 (rw_iload (pc' := 722) (z := i) rfl rfl ?_)
  refine wl_of hX hb cL_722 (rw_iconst (pc' := 723) rfl ?_)
  refine wl_of hX hb cL_723 (rw_iadd (pc' := 724) rfl ?_)
  refine wl_of hX hb cL_724 (xa_I (so := 0) (pc' := 725) (a := 0) hW g0 (wsh_s _) (by omega) (wty_s _ _) (by omega) (by omega) rfl (fun b2053 b2054 => ?_))
  refine wl_of hX hb cL_725 (rw_aload_n (pc' := 726) (v := .ref 0) rfl rfl rfl ?_)
  refine wl_of hX hb cL_726 (rw_iload (pc' := 728) (z := i) rfl rfl ?_)
  refine wl_of hX hb cL_728 (rw_iconst (pc' := 729) rfl ?_)
  refine wl_of hX hb cL_729 (rw_iadd (pc' := 730) rfl ?_)
  refine wl_of hX hb cL_730 (xa_I (so := 0) (pc' := 731) (a := 0) hW g0 (wsh_s _) (by omega) (wty_s _ _) (by omega) (by omega) rfl (fun b2055 b2056 => ?_))
  refine wl_of hX hb cL_731 (xc_V (pc' := 734) (r := x) (as := [vI (H 0 ((i + 1).toNat)), vI (H 0 ((i + 2).toNat))]) (st := []) (lm_11_97) rfl rfl (Nat.le_of_ble_eq_true rfl) hW gx sh_1 (by decide) rfl (by decide) (s_98 hW gx ⟨by omega, by omega⟩ ⟨by omega, by omega⟩) (fun R2057 T2058 H2059 p2060 => ?_))
  obtain ⟨e2061, w2063, f2064, z2066, e2062, b2067, p2065⟩ := p2060
  subst e2061
  subst e2062
  show WL _ _ _ _ 734 [(4, vI i), (3, .ref o), (2, .ref m), (1, .ref x), (0, .ref 0)] [vI z2066] _ H2059
  refine wl_of hX hb cL_734 (rw_pop (pc' := 735) rfl rfl ?_)
  refine wl_of hX hb cL_735 (rw_aload_n (pc' := 736) (v := .ref m) rfl rfl rfl ?_)
  refine wl_of hX hb cL_736 (rw_aload_n (pc' := 737) (v := .ref 0) rfl rfl rfl ?_)
  refine wl_of hX hb cL_737 (rw_iload (pc' := 739) (z := i) rfl rfl ?_)
  refine wl_of hX hb cL_739 (rw_iconst (pc' := 740) rfl ?_)
  refine wl_of hX hb cL_740 (rw_iadd (pc' := 741) rfl ?_)
  have k2070 : H2059 0 ((i + 1).toNat) = H 0 ((i + 1).toNat) := (f2064 0 ((i + 1).toNat) _ g0 (wmem_s rfl))
  refine wl_of hX hb cL_741 (xa_I (so := 0) (pc' := 742) (a := 0) w2063 g0 (wsh_s _) (by omega) (wty_s _ _) (by omega) (by omega) rfl (fun b2068 b2069 => ?_))
  refine wl_of hX hb cL_742 (rw_aload_n (pc' := 743) (v := .ref 0) rfl rfl rfl ?_)
  refine wl_of hX hb cL_743 (rw_iload (pc' := 745) (z := i) rfl rfl ?_)
  refine wl_of hX hb cL_745 (rw_iconst (pc' := 746) rfl ?_)
  refine wl_of hX hb cL_746 (rw_iadd (pc' := 747) rfl ?_)
  have k2073 : H2059 0 ((i + 2).toNat) = H 0 ((i + 2).toNat) := (f2064 0 ((i + 2).toNat) _ g0 (wmem_s rfl))
  refine wl_of hX hb cL_747 (xa_I (so := 0) (pc' := 748) (a := 0) w2063 g0 (wsh_s _) (by omega) (wty_s _ _) (by omega) (by omega) rfl (fun b2071 b2072 => ?_))
  have k2074 : wKI H2059 m = wKI H m := (wKI_fr hW gm f2064 rfl)
  have k2075 : H2059 x 9 = H x 9 := (f2064 x 9 _ gx rfl)
  have k2076 : H2059 m 6 = H m 6 := (f2064 m 6 _ gm rfl)
  have k2077 : H2059 x 11 = H x 11 := (f2064 x 11 _ gx rfl)
  have k2078 : H2059 m 13 = H m 13 := (f2064 m 13 _ gm rfl)
  have k2079 : H2059 x 8 = H x 8 := (f2064 x 8 _ gx rfl)
  have k2080 : H2059 m 3 = H m 3 := (f2064 m 3 _ gm rfl)
  have k2081 : H2059 x 12 = H x 12 := (f2064 x 12 _ gx rfl)
  have k2082 : H2059 m 2 = H m 2 := (f2064 m 2 _ gm rfl)
  refine wl_of hX hb cL_748 (xc_V (pc' := 751) (r := m) (as := [vI (H2059 0 ((i + 1).toNat)), vI (H2059 0 ((i + 2).toNat))]) (st := []) (lm_11_100) rfl rfl (Nat.le_of_ble_eq_true rfl) w2063 gm sh_42 (by decide) rfl (by decide) (s_249 w2063 gm ⟨by omega, by omega⟩ ⟨by omega, by omega⟩ (by omega)) (fun R2083 T2084 H2085 p2086 => ?_))
  obtain ⟨e2087, w2089, f2090, z2093, e2088, b2094, p2091, p2092⟩ := p2086
  subst e2087
  subst e2088
  show WL _ _ _ _ 751 [(4, vI i), (3, .ref o), (2, .ref m), (1, .ref x), (0, .ref 0)] [vI z2093] _ H2085
  refine wl_of hX hb cL_751 (rw_pop (pc' := 752) rfl rfl ?_)
  refine wl_of hX hb cL_752 (rw_goto (p1 := 1653) (by decide) ?_)
  have k2095 : H2085 x 9 = H2059 x 9 := (f2090 x 9 _ gx rfl)
  have k2096 : H2085 m 6 = H2059 m 6 := (f2090 m 6 _ gm rfl)
  have k2097 : H2085 x 11 = H2059 x 11 := (f2090 x 11 _ gx rfl)
  have k2098 : H2085 m 13 = H2059 m 13 := (f2090 m 13 _ gm rfl)
  have k2099 : H2085 x 8 = H2059 x 8 := (f2090 x 8 _ gx rfl)
  have k2100 : H2085 m 3 = H2059 m 3 := (f2090 m 3 _ gm rfl)
  have k2101 : H2085 x 10 = H2059 x 10 := (f2090 x 10 _ gx rfl)
  have k2102 : H2085 x 12 = H2059 x 12 := (f2090 x 12 _ gx rfl)
  have h2103 : XI T H2085 x m := (XI_fr w2063 gx f2090 rfl (XI_fr hW gx f2064 rfl hXI))
  exact WL.loc hX (by simp) (next T H2085 ⟨⟨w2089, g0, gx, gm, go, by omega, by omega⟩, h2103, by omega, by omega, by omega⟩ (by omega) (by omega))
set_option maxHeartbeats 4000000 in
theorem wl_c19 {kt : Nat → Option mc_E} {CB SB : Nat} {X : mc_S → Prop} {T : wq_T} {H : wq_H} {Len x m o : Nat} {i : Int} (hX : wlX kt CB SB X) (hb : T.2.1 ≤ CB ∧ T.2.2.1 ≤ SB) (hI : wlJ Len x m o T H) (hL : Len ≤ 3072) (hi : 0 ≤ i ∧ i + 6 ≤ Len) (hb2 : T.2.1 + 20 ≤ CB ∧ T.2.2.1 + 500 ≤ SB)  (next : ∀ T' H', wlJ Len x m o T' H' → T'.2.1 ≤ T.2.1 + 20 → T'.2.2.1 ≤ T.2.2.1 + 500 → WL kt CB SB X 1653 (wlL i x m o) [] T' H') : WL kt CB SB X 755 (wlL i x m o) [] T H := by
  obtain ⟨⟨hW, g0, gx, gm, go, hK, hr⟩, hXI, hY1, hY2, hY3⟩ := hI
  refine wl_of hX hb cL_755 (rw_aload_n (pc' := 756) (v := .ref x) rfl rfl rfl ?_)
  refine wl_of hX hb cL_756 (rw_aload_n (pc' := 757) (v := .ref 0) rfl rfl rfl ?_)
  refine wl_of hX hb cL_757 (rw_iload (pc' := 759) (z := i) rfl rfl ?_)
  refine wl_of hX hb cL_759 (rw_iconst (pc' := 760) rfl ?_)
  refine wl_of hX hb cL_760 (rw_iadd (pc' := 761) rfl ?_)
  refine wl_of hX hb cL_761 (xa_I (so := 0) (pc' := 762) (a := 0) hW g0 (wsh_s _) (by omega) (wty_s _ _) (by omega) (by omega) rfl (fun b2104 b2105 => ?_))
  refine wl_of hX hb cL_762 (rw_aload_n (pc' := 763) (v := .ref 0) rfl rfl rfl ?_)
  refine wl_of hX hb cL_763 (rw_iload (pc' := 765) (z := i) rfl rfl ?_)
  refine wl_of hX hb cL_765 (rw_iconst (pc' := 766) rfl ?_)
  refine wl_of hX hb cL_766 (rw_iadd (pc' := 767) rfl ?_)
  refine wl_of hX hb cL_767 (xa_I (so := 0) (pc' := 768) (a := 0) hW g0 (wsh_s _) (by omega) (wty_s _ _) (by omega) (by omega) rfl (fun b2106 b2107 => ?_))
  refine wl_of hX hb cL_768 (xc_V (pc' := 771) (r := x) (as := [vI (H 0 ((i + 1).toNat)), vI (H 0 ((i + 2).toNat))]) (st := []) (lm_11_101) rfl rfl (Nat.le_of_ble_eq_true rfl) hW gx sh_1 (by decide) rfl (by decide) (s_99 hW gx ⟨by omega, by omega⟩ ⟨by omega, by omega⟩) (fun R2108 T2109 H2110 p2111 => ?_))
  obtain ⟨e2112, w2114, f2115, z2117, e2113, b2118, p2116⟩ := p2111
  subst e2112
  subst e2113
  show WL _ _ _ _ 771 [(4, vI i), (3, .ref o), (2, .ref m), (1, .ref x), (0, .ref 0)] [vI z2117] _ H2110
  refine wl_of hX hb cL_771 (rw_pop (pc' := 772) rfl rfl ?_)
  refine wl_of hX hb cL_772 (rw_aload_n (pc' := 773) (v := .ref m) rfl rfl rfl ?_)
  refine wl_of hX hb cL_773 (rw_aload_n (pc' := 774) (v := .ref 0) rfl rfl rfl ?_)
  refine wl_of hX hb cL_774 (rw_iload (pc' := 776) (z := i) rfl rfl ?_)
  refine wl_of hX hb cL_776 (rw_iconst (pc' := 777) rfl ?_)
  refine wl_of hX hb cL_777 (rw_iadd (pc' := 778) rfl ?_)
  have k2121 : H2110 0 ((i + 1).toNat) = H 0 ((i + 1).toNat) := (f2115 0 ((i + 1).toNat) _ g0 (wmem_s rfl))
  refine wl_of hX hb cL_778 (xa_I (so := 0) (pc' := 779) (a := 0) w2114 g0 (wsh_s _) (by omega) (wty_s _ _) (by omega) (by omega) rfl (fun b2119 b2120 => ?_))
  refine wl_of hX hb cL_779 (rw_aload_n (pc' := 780) (v := .ref 0) rfl rfl rfl ?_)
  refine wl_of hX hb cL_780 (rw_iload (pc' := 782) (z := i) rfl rfl ?_)
  refine wl_of hX hb cL_782 (rw_iconst (pc' := 783) rfl ?_)
  refine wl_of hX hb cL_783 (rw_iadd (pc' := 784) rfl ?_)
  have k2124 : H2110 0 ((i + 2).toNat) = H 0 ((i + 2).toNat) := (f2115 0 ((i + 2).toNat) _ g0 (wmem_s rfl))
  refine wl_of hX hb cL_784 (xa_I (so := 0) (pc' := 785) (a := 0) w2114 g0 (wsh_s _) (by omega) (wty_s _ _) (by omega) (by omega) rfl (fun b2122 b2123 => ?_))
  have k2125 : wKI H2110 m = wKI H m := (wKI_fr hW gm f2115 rfl)
  have k2126 : H2110 x 9 = H x 9 := (f2115 x 9 _ gx rfl)
  have k2127 : H2110 m 6 = H m 6 := (f2115 m 6 _ gm rfl)
  have k2128 : H2110 x 11 = H x 11 := (f2115 x 11 _ gx rfl)
  have k2129 : H2110 m 13 = H m 13 := (f2115 m 13 _ gm rfl)
  have k2130 : H2110 x 8 = H x 8 := (f2115 x 8 _ gx rfl)
  have k2131 : H2110 m 3 = H m 3 := (f2115 m 3 _ gm rfl)
  have k2132 : H2110 x 12 = H x 12 := (f2115 x 12 _ gx rfl)
  have k2133 : H2110 m 2 = H m 2 := (f2115 m 2 _ gm rfl)
  refine wl_of hX hb cL_785 (xc_V (pc' := 788) (r := m) (as := [vI (H2110 0 ((i + 1).toNat)), vI (H2110 0 ((i + 2).toNat))]) (st := []) (lm_11_104) rfl rfl (Nat.le_of_ble_eq_true rfl) w2114 gm sh_42 (by decide) rfl (by decide) (s_250 w2114 gm ⟨by omega, by omega⟩ ⟨by omega, by omega⟩ (by omega)) (fun R2134 T2135 H2136 p2137 => ?_))
  obtain ⟨e2138, w2140, f2141, z2144, e2139, b2145, p2142, p2143⟩ := p2137
  subst e2138
  subst e2139
  show WL _ _ _ _ 788 [(4, vI i), (3, .ref o), (2, .ref m), (1, .ref x), (0, .ref 0)] [vI z2144] _ H2136
  refine wl_of hX hb cL_788 (rw_pop (pc' := 789) rfl rfl ?_)
  refine wl_of hX hb cL_789 (rw_goto (p1 := 1653) (by decide) ?_)
  have k2146 : H2136 x 9 = H2110 x 9 := (f2141 x 9 _ gx rfl)
  have k2147 : H2136 m 6 = H2110 m 6 := (f2141 m 6 _ gm rfl)
  have k2148 : H2136 x 11 = H2110 x 11 := (f2141 x 11 _ gx rfl)
  have k2149 : H2136 m 13 = H2110 m 13 := (f2141 m 13 _ gm rfl)
  have k2150 : H2136 x 8 = H2110 x 8 := (f2141 x 8 _ gx rfl)
  have k2151 : H2136 m 3 = H2110 m 3 := (f2141 m 3 _ gm rfl)
  have k2152 : H2136 x 10 = H2110 x 10 := (f2141 x 10 _ gx rfl)
  have k2153 : H2136 x 12 = H2110 x 12 := (f2141 x 12 _ gx rfl)
  have h2154 : XI T H2136 x m := (XI_fr w2114 gx f2141 rfl (XI_fr hW gx f2115 rfl hXI))
  exact WL.loc hX (by simp) (next T H2136 ⟨⟨w2140, g0, gx, gm, go, by omega, by omega⟩, h2154, by omega, by omega, by omega⟩ (by omega) (by omega))
set_option maxHeartbeats 4000000 in
theorem wl_c20 {kt : Nat → Option mc_E} {CB SB : Nat} {X : mc_S → Prop} {T : wq_T} {H : wq_H} {Len x m o : Nat} {i : Int} (hX : wlX kt CB SB X) (hb : T.2.1 ≤ CB ∧ T.2.2.1 ≤ SB) (hI : wlJ Len x m o T H) (hL : Len ≤ 3072) (hi : 0 ≤ i ∧ i + 6 ≤ Len) (hb2 : T.2.1 + 20 ≤ CB ∧ T.2.2.1 + 500 ≤ SB)  (next : ∀ T' H', wlJ Len x m o T' H' → T'.2.1 ≤ T.2.1 + 20 → T'.2.2.1 ≤ T.2.2.1 + 500 → WL kt CB SB X 1653 (wlL i x m o) [] T' H') : WL kt CB SB X 792 (wlL i x m o) [] T H := by
  obtain ⟨⟨hW, g0, gx, gm, go, hK, hr⟩, hXI, hY1, hY2, hY3⟩ := hI
  refine wl_of hX hb cL_792 (rw_aload_n (pc' := 793) (v := .ref x) rfl rfl rfl ?_)
  refine wl_of hX hb cL_793 (rw_aload_n (pc' := 794) (v := .ref 0) rfl rfl rfl ?_)
  refine wl_of hX hb cL_794 (rw_iload (pc' := 796) (z := i) rfl rfl ?_)
  refine wl_of hX hb cL_796 (rw_iconst (pc' := 797) rfl ?_)
  refine wl_of hX hb cL_797 (rw_iadd (pc' := 798) rfl ?_)
  refine wl_of hX hb cL_798 (xa_I (so := 0) (pc' := 799) (a := 0) hW g0 (wsh_s _) (by omega) (wty_s _ _) (by omega) (by omega) rfl (fun b2155 b2156 => ?_))
  refine wl_of hX hb cL_799 (rw_aload_n (pc' := 800) (v := .ref 0) rfl rfl rfl ?_)
  refine wl_of hX hb cL_800 (rw_iload (pc' := 802) (z := i) rfl rfl ?_)
  refine wl_of hX hb cL_802 (rw_iconst (pc' := 803) rfl ?_)
  refine wl_of hX hb cL_803 (rw_iadd (pc' := 804) rfl ?_)
  refine wl_of hX hb cL_804 (xa_I (so := 0) (pc' := 805) (a := 0) hW g0 (wsh_s _) (by omega) (wty_s _ _) (by omega) (by omega) rfl (fun b2157 b2158 => ?_))
  refine wl_of hX hb cL_805 (xc_V (pc' := 808) (r := x) (as := [vI (H 0 ((i + 1).toNat)), vI (H 0 ((i + 2).toNat))]) (st := []) (lm_11_105) rfl rfl (Nat.le_of_ble_eq_true rfl) hW gx sh_1 (by decide) rfl (by decide) (s_101 hW gx ⟨by omega, by omega⟩ ⟨by omega, by omega⟩) (fun R2159 T2160 H2161 p2162 => ?_))
  obtain ⟨e2163, w2165, f2166, z2168, e2164, b2169, p2167⟩ := p2162
  subst e2163
  subst e2164
  show WL _ _ _ _ 808 [(4, vI i), (3, .ref o), (2, .ref m), (1, .ref x), (0, .ref 0)] [vI z2168] _ H2161
  refine wl_of hX hb cL_808 (rw_pop (pc' := 809) rfl rfl ?_)
  refine wl_of hX hb cL_809 (rw_aload_n (pc' := 810) (v := .ref m) rfl rfl rfl ?_)
  refine wl_of hX hb cL_810 (rw_aload_n (pc' := 811) (v := .ref 0) rfl rfl rfl ?_)
  refine wl_of hX hb cL_811 (rw_iload (pc' := 813) (z := i) rfl rfl ?_)
  refine wl_of hX hb cL_813 (rw_iconst (pc' := 814) rfl ?_)
  refine wl_of hX hb cL_814 (rw_iadd (pc' := 815) rfl ?_)
  have k2172 : H2161 0 ((i + 1).toNat) = H 0 ((i + 1).toNat) := (f2166 0 ((i + 1).toNat) _ g0 (wmem_s rfl))
  refine wl_of hX hb cL_815 (xa_I (so := 0) (pc' := 816) (a := 0) w2165 g0 (wsh_s _) (by omega) (wty_s _ _) (by omega) (by omega) rfl (fun b2170 b2171 => ?_))
  refine wl_of hX hb cL_816 (rw_aload_n (pc' := 817) (v := .ref 0) rfl rfl rfl ?_)
  refine wl_of hX hb cL_817 (rw_iload (pc' := 819) (z := i) rfl rfl ?_)
  refine wl_of hX hb cL_819 (rw_iconst (pc' := 820) rfl ?_)
  refine wl_of hX hb cL_820 (rw_iadd (pc' := 821) rfl ?_)
  have k2175 : H2161 0 ((i + 2).toNat) = H 0 ((i + 2).toNat) := (f2166 0 ((i + 2).toNat) _ g0 (wmem_s rfl))
  refine wl_of hX hb cL_821 (xa_I (so := 0) (pc' := 822) (a := 0) w2165 g0 (wsh_s _) (by omega) (wty_s _ _) (by omega) (by omega) rfl (fun b2173 b2174 => ?_))
  have k2176 : wKI H2161 m = wKI H m := (wKI_fr hW gm f2166 rfl)
  have k2177 : H2161 x 9 = H x 9 := (f2166 x 9 _ gx rfl)
  have k2178 : H2161 m 6 = H m 6 := (f2166 m 6 _ gm rfl)
  have k2179 : H2161 x 11 = H x 11 := (f2166 x 11 _ gx rfl)
  have k2180 : H2161 m 13 = H m 13 := (f2166 m 13 _ gm rfl)
  have k2181 : H2161 x 8 = H x 8 := (f2166 x 8 _ gx rfl)
  have k2182 : H2161 m 3 = H m 3 := (f2166 m 3 _ gm rfl)
  have k2183 : H2161 x 12 = H x 12 := (f2166 x 12 _ gx rfl)
  have k2184 : H2161 m 2 = H m 2 := (f2166 m 2 _ gm rfl)
  refine wl_of hX hb cL_822 (xc_V (pc' := 825) (r := m) (as := [vI (H2161 0 ((i + 1).toNat)), vI (H2161 0 ((i + 2).toNat))]) (st := []) (lm_11_108) rfl rfl (Nat.le_of_ble_eq_true rfl) w2165 gm sh_42 (by decide) rfl (by decide) (s_252 w2165 gm ⟨by omega, by omega⟩ ⟨by omega, by omega⟩ (by omega)) (fun R2185 T2186 H2187 p2188 => ?_))
  obtain ⟨e2189, w2191, f2192, z2195, e2190, b2196, p2193, p2194⟩ := p2188
  subst e2189
  subst e2190
  show WL _ _ _ _ 825 [(4, vI i), (3, .ref o), (2, .ref m), (1, .ref x), (0, .ref 0)] [vI z2195] _ H2187
  refine wl_of hX hb cL_825 (rw_pop (pc' := 826) rfl rfl ?_)
  refine wl_of hX hb cL_826 (rw_goto (p1 := 1653) (by decide) ?_)
  have k2197 : H2187 x 9 = H2161 x 9 := (f2192 x 9 _ gx rfl)
  have k2198 : H2187 m 6 = H2161 m 6 := (f2192 m 6 _ gm rfl)
  have k2199 : H2187 x 11 = H2161 x 11 := (f2192 x 11 _ gx rfl)
  have k2200 : H2187 m 13 = H2161 m 13 := (f2192 m 13 _ gm rfl)
  have k2201 : H2187 x 8 = H2161 x 8 := (f2192 x 8 _ gx rfl)
  have k2202 : H2187 m 3 = H2161 m 3 := (f2192 m 3 _ gm rfl)
  have k2203 : H2187 x 10 = H2161 x 10 := (f2192 x 10 _ gx rfl)
  have k2204 : H2187 x 12 = H2161 x 12 := (f2192 x 12 _ gx rfl)
  have h2205 : XI T H2187 x m := (XI_fr w2165 gx f2192 rfl (XI_fr hW gx f2166 rfl hXI))
  exact WL.loc hX (by simp) (next T H2187 ⟨⟨w2191, g0, gx, gm, go, by omega, by omega⟩, h2205, by omega, by omega, by omega⟩ (by omega) (by omega))
set_option maxHeartbeats 4000000 in
theorem wl_c21 {kt : Nat → Option mc_E} {CB SB : Nat} {X : mc_S → Prop} {T : wq_T} {H : wq_H} {Len x m o : Nat} {i : Int} (hX : wlX kt CB SB X) (hb : T.2.1 ≤ CB ∧ T.2.2.1 ≤ SB) (hI : wlJ Len x m o T H) (hL : Len ≤ 3072) (hi : 0 ≤ i ∧ i + 6 ≤ Len) (hb2 : T.2.1 + 20 ≤ CB ∧ T.2.2.1 + 500 ≤ SB)  (next : ∀ T' H', wlJ Len x m o T' H' → T'.2.1 ≤ T.2.1 + 20 → T'.2.2.1 ≤ T.2.2.1 + 500 → WL kt CB SB X 1653 (wlL i x m o) [] T' H') : WL kt CB SB X 829 (wlL i x m o) [] T H := by
  obtain ⟨⟨hW, g0, gx, gm, go, hK, hr⟩, hXI, hY1, hY2, hY3⟩ := hI
  refine wl_of hX hb cL_829 (rw_aload_n (pc' := 830) (v := .ref x) rfl rfl rfl ?_)
  refine wl_of hX hb cL_830 (rw_aload_n (pc' := 831) (v := .ref 0) rfl rfl rfl ?_)
  refine wl_of hX hb cL_831 (rw_iload (pc' := 833) (z := i) rfl rfl ?_)
  refine wl_of hX hb cL_833 (rw_iconst (pc' := 834) rfl ?_)
  refine wl_of hX hb cL_834 (rw_iadd (pc' := 835) rfl ?_)
  refine wl_of hX hb cL_835 (xa_I (so := 0) (pc' := 836) (a := 0) hW g0 (wsh_s _) (by omega) (wty_s _ _) (by omega) (by omega) rfl (fun b2206 b2207 => ?_))
  refine wl_of hX hb cL_836 (rw_aload_n (pc' := 837) (v := .ref 0) rfl rfl rfl ?_)
  refine wl_of hX hb cL_837 (rw_iload (pc' := 839) (z := i) rfl rfl ?_)
  refine wl_of hX hb cL_839 (rw_iconst (pc' := 840) rfl ?_)
  refine wl_of hX hb cL_840 (rw_iadd (pc' := 841) rfl ?_)
  refine wl_of hX hb cL_841 (xa_I (so := 0) (pc' := 842) (a := 0) hW g0 (wsh_s _) (by omega) (wty_s _ _) (by omega) (by omega) rfl (fun b2208 b2209 => ?_))
  refine wl_of hX hb cL_842 (rw_if_eq (p1 := 849) (p2 := 845) (by decide) rfl ⟨by omega, by omega⟩ (fun c2210 => ?_) (fun c2210 => ?_))
  · refine wl_of hX hb cL_849 (rw_iconst (pc' := 850) rfl ?_)
    refine wl_of hX hb cL_850 (xc_V (pc' := 853) (r := x) (as := [vI (H 0 ((i + 1).toNat)), vI 0]) (st := []) (lm_11_109) rfl rfl (Nat.le_of_ble_eq_true rfl) hW gx sh_1 (by decide) rfl (by decide) (s_104 hW gx ⟨by omega, by omega⟩ ⟨by omega, by omega⟩) (fun R2211 T2212 H2213 p2214 => ?_))
    obtain ⟨e2215, w2217, f2218, z2220, e2216, b2221, p2219⟩ := p2214
    subst e2215
    subst e2216
    show WL _ _ _ _ 853 [(4, vI i), (3, .ref o), (2, .ref m), (1, .ref x), (0, .ref 0)] [vI z2220] _ H2213
    refine wl_of hX hb cL_853 (rw_pop (pc' := 854) rfl rfl ?_)
    refine wl_of hX hb cL_854 (rw_aload_n (pc' := 855) (v := .ref m) rfl rfl rfl ?_)
    refine wl_of hX hb cL_855 (rw_aload_n (pc' := 856) (v := .ref 0) rfl rfl rfl ?_)
    refine wl_of hX hb cL_856 (rw_iload (pc' := 858) (z := i) rfl rfl ?_)
    refine wl_of hX hb cL_858 (rw_iconst (pc' := 859) rfl ?_)
    refine wl_of hX hb cL_859 (rw_iadd (pc' := 860) rfl ?_)
    have k2224 : H2213 0 ((i + 1).toNat) = H 0 ((i + 1).toNat) := (f2218 0 ((i + 1).toNat) _ g0 (wmem_s rfl))
    refine wl_of hX hb cL_860 (xa_I (so := 0) (pc' := 861) (a := 0) w2217 g0 (wsh_s _) (by omega) (wty_s _ _) (by omega) (by omega) rfl (fun b2222 b2223 => ?_))
    refine wl_of hX hb cL_861 (rw_aload_n (pc' := 862) (v := .ref 0) rfl rfl rfl ?_)
    refine wl_of hX hb cL_862 (rw_iload (pc' := 864) (z := i) rfl rfl ?_)
    refine wl_of hX hb cL_864 (rw_iconst (pc' := 865) rfl ?_)
    refine wl_of hX hb cL_865 (rw_iadd (pc' := 866) rfl ?_)
    have k2227 : H2213 0 ((i + 2).toNat) = H 0 ((i + 2).toNat) := (f2218 0 ((i + 2).toNat) _ g0 (wmem_s rfl))
    refine wl_of hX hb cL_866 (xa_I (so := 0) (pc' := 867) (a := 0) w2217 g0 (wsh_s _) (by omega) (wty_s _ _) (by omega) (by omega) rfl (fun b2225 b2226 => ?_))
    refine wl_of hX hb cL_867 (rw_if_eq (p1 := 874) (p2 := 870) (by decide) rfl ⟨by omega, by omega⟩ (fun c2228 => ?_) (fun c2228 => ?_))
    · refine wl_of hX hb cL_874 (rw_iconst (pc' := 875) rfl ?_)
      have k2229 : wKI H2213 m = wKI H m := (wKI_fr hW gm f2218 rfl)
      have k2230 : H2213 x 9 = H x 9 := (f2218 x 9 _ gx rfl)
      have k2231 : H2213 m 6 = H m 6 := (f2218 m 6 _ gm rfl)
      have k2232 : H2213 x 11 = H x 11 := (f2218 x 11 _ gx rfl)
      have k2233 : H2213 m 13 = H m 13 := (f2218 m 13 _ gm rfl)
      have k2234 : H2213 x 8 = H x 8 := (f2218 x 8 _ gx rfl)
      have k2235 : H2213 m 3 = H m 3 := (f2218 m 3 _ gm rfl)
      have k2236 : H2213 x 12 = H x 12 := (f2218 x 12 _ gx rfl)
      have k2237 : H2213 m 2 = H m 2 := (f2218 m 2 _ gm rfl)
      refine wl_of hX hb cL_875 (xc_V (pc' := 878) (r := m) (as := [vI (H2213 0 ((i + 1).toNat)), vI 0]) (st := []) (lm_11_113) rfl rfl (Nat.le_of_ble_eq_true rfl) w2217 gm sh_42 (by decide) rfl (by decide) (s_254 w2217 gm ⟨by omega, by omega⟩ ⟨by omega, by omega⟩ (by omega)) (fun R2238 T2239 H2240 p2241 => ?_))
      obtain ⟨e2242, w2244, f2245, z2248, e2243, b2249, p2246, p2247⟩ := p2241
      subst e2242
      subst e2243
      show WL _ _ _ _ 878 [(4, vI i), (3, .ref o), (2, .ref m), (1, .ref x), (0, .ref 0)] [vI z2248] _ H2240
      refine wl_of hX hb cL_878 (rw_pop (pc' := 879) rfl rfl ?_)
      refine wl_of hX hb cL_879 (rw_goto (p1 := 1653) (by decide) ?_)
      have k2250 : H2240 x 9 = H2213 x 9 := (f2245 x 9 _ gx rfl)
      have k2251 : H2240 m 6 = H2213 m 6 := (f2245 m 6 _ gm rfl)
      have k2252 : H2240 x 11 = H2213 x 11 := (f2245 x 11 _ gx rfl)
      have k2253 : H2240 m 13 = H2213 m 13 := (f2245 m 13 _ gm rfl)
      have k2254 : H2240 x 8 = H2213 x 8 := (f2245 x 8 _ gx rfl)
      have k2255 : H2240 m 3 = H2213 m 3 := (f2245 m 3 _ gm rfl)
      have k2256 : H2240 x 10 = H2213 x 10 := (f2245 x 10 _ gx rfl)
      have k2257 : H2240 x 12 = H2213 x 12 := (f2245 x 12 _ gx rfl)
      have h2258 : XI T H2240 x m := (XI_fr w2217 gx f2245 rfl (XI_fr hW gx f2218 rfl hXI))
      exact WL.loc hX (by simp) (next T H2240 ⟨⟨w2244, g0, gx, gm, go, by omega, by omega⟩, h2258, by omega, by omega, by omega⟩ (by omega) (by omega))
    · exfalso
      omega
  · refine wl_of hX hb cL_845 (rw_iconst (pc' := 846) rfl ?_)
    refine wl_of hX hb cL_846 (rw_goto (p1 := 850) (by decide) ?_)
    refine wl_of hX hb cL_850 (xc_V (pc' := 853) (r := x) (as := [vI (H 0 ((i + 1).toNat)), vI 1]) (st := []) (lm_11_109) rfl rfl (Nat.le_of_ble_eq_true rfl) hW gx sh_1 (by decide) rfl (by decide) (s_104 hW gx ⟨by omega, by omega⟩ ⟨by omega, by omega⟩) (fun R2259 T2260 H2261 p2262 => ?_))
    obtain ⟨e2263, w2265, f2266, z2268, e2264, b2269, p2267⟩ := p2262
    subst e2263
    subst e2264
    show WL _ _ _ _ 853 [(4, vI i), (3, .ref o), (2, .ref m), (1, .ref x), (0, .ref 0)] [vI z2268] _ H2261
    refine wl_of hX hb cL_853 (rw_pop (pc' := 854) rfl rfl ?_)
    refine wl_of hX hb cL_854 (rw_aload_n (pc' := 855) (v := .ref m) rfl rfl rfl ?_)
    refine wl_of hX hb cL_855 (rw_aload_n (pc' := 856) (v := .ref 0) rfl rfl rfl ?_)
    refine wl_of hX hb cL_856 (rw_iload (pc' := 858) (z := i) rfl rfl ?_)
    refine wl_of hX hb cL_858 (rw_iconst (pc' := 859) rfl ?_)
    refine wl_of hX hb cL_859 (rw_iadd (pc' := 860) rfl ?_)
    have k2272 : H2261 0 ((i + 1).toNat) = H 0 ((i + 1).toNat) := (f2266 0 ((i + 1).toNat) _ g0 (wmem_s rfl))
    refine wl_of hX hb cL_860 (xa_I (so := 0) (pc' := 861) (a := 0) w2265 g0 (wsh_s _) (by omega) (wty_s _ _) (by omega) (by omega) rfl (fun b2270 b2271 => ?_))
    refine wl_of hX hb cL_861 (rw_aload_n (pc' := 862) (v := .ref 0) rfl rfl rfl ?_)
    refine wl_of hX hb cL_862 (rw_iload (pc' := 864) (z := i) rfl rfl ?_)
    refine wl_of hX hb cL_864 (rw_iconst (pc' := 865) rfl ?_)
    refine wl_of hX hb cL_865 (rw_iadd (pc' := 866) rfl ?_)
    have k2275 : H2261 0 ((i + 2).toNat) = H 0 ((i + 2).toNat) := (f2266 0 ((i + 2).toNat) _ g0 (wmem_s rfl))
    refine wl_of hX hb cL_866 (xa_I (so := 0) (pc' := 867) (a := 0) w2265 g0 (wsh_s _) (by omega) (wty_s _ _) (by omega) (by omega) rfl (fun b2273 b2274 => ?_))
    refine wl_of hX hb cL_867 (rw_if_eq (p1 := 874) (p2 := 870) (by decide) rfl ⟨by omega, by omega⟩ (fun c2276 => ?_) (fun c2276 => ?_))
    · refine wl_of hX hb cL_874 (rw_iconst (pc' := 875) rfl ?_)
      have k2277 : wKI H2261 m = wKI H m := (wKI_fr hW gm f2266 rfl)
      have k2278 : H2261 x 9 = H x 9 := (f2266 x 9 _ gx rfl)
      have k2279 : H2261 m 6 = H m 6 := (f2266 m 6 _ gm rfl)
      have k2280 : H2261 x 11 = H x 11 := (f2266 x 11 _ gx rfl)
      have k2281 : H2261 m 13 = H m 13 := (f2266 m 13 _ gm rfl)
      have k2282 : H2261 x 8 = H x 8 := (f2266 x 8 _ gx rfl)
      have k2283 : H2261 m 3 = H m 3 := (f2266 m 3 _ gm rfl)
      have k2284 : H2261 x 12 = H x 12 := (f2266 x 12 _ gx rfl)
      have k2285 : H2261 m 2 = H m 2 := (f2266 m 2 _ gm rfl)
      refine wl_of hX hb cL_875 (xc_V (pc' := 878) (r := m) (as := [vI (H2261 0 ((i + 1).toNat)), vI 0]) (st := []) (lm_11_113) rfl rfl (Nat.le_of_ble_eq_true rfl) w2265 gm sh_42 (by decide) rfl (by decide) (s_254 w2265 gm ⟨by omega, by omega⟩ ⟨by omega, by omega⟩ (by omega)) (fun R2286 T2287 H2288 p2289 => ?_))
      obtain ⟨e2290, w2292, f2293, z2296, e2291, b2297, p2294, p2295⟩ := p2289
      subst e2290
      subst e2291
      show WL _ _ _ _ 878 [(4, vI i), (3, .ref o), (2, .ref m), (1, .ref x), (0, .ref 0)] [vI z2296] _ H2288
      refine wl_of hX hb cL_878 (rw_pop (pc' := 879) rfl rfl ?_)
      refine wl_of hX hb cL_879 (rw_goto (p1 := 1653) (by decide) ?_)
      have k2298 : H2288 x 9 = H2261 x 9 := (f2293 x 9 _ gx rfl)
      have k2299 : H2288 m 6 = H2261 m 6 := (f2293 m 6 _ gm rfl)
      have k2300 : H2288 x 11 = H2261 x 11 := (f2293 x 11 _ gx rfl)
      have k2301 : H2288 m 13 = H2261 m 13 := (f2293 m 13 _ gm rfl)
      have k2302 : H2288 x 8 = H2261 x 8 := (f2293 x 8 _ gx rfl)
      have k2303 : H2288 m 3 = H2261 m 3 := (f2293 m 3 _ gm rfl)
      have k2304 : H2288 x 10 = H2261 x 10 := (f2293 x 10 _ gx rfl)
      have k2305 : H2288 x 12 = H2261 x 12 := (f2293 x 12 _ gx rfl)
      have h2306 : XI T H2288 x m := (XI_fr w2265 gx f2293 rfl (XI_fr hW gx f2266 rfl hXI))
      exact WL.loc hX (by simp) (next T H2288 ⟨⟨w2292, g0, gx, gm, go, by omega, by omega⟩, h2306, by omega, by omega, by omega⟩ (by omega) (by omega))
    · refine wl_of hX hb cL_870 (rw_iconst (pc' := 871) rfl ?_)
      refine wl_of hX hb cL_871 (rw_goto (p1 := 875) (by decide) ?_)
      have k2307 : wKI H2261 m = wKI H m := (wKI_fr hW gm f2266 rfl)
      have k2308 : H2261 x 9 = H x 9 := (f2266 x 9 _ gx rfl)
      have k2309 : H2261 m 6 = H m 6 := (f2266 m 6 _ gm rfl)
      have k2310 : H2261 x 11 = H x 11 := (f2266 x 11 _ gx rfl)
      have k2311 : H2261 m 13 = H m 13 := (f2266 m 13 _ gm rfl)
      have k2312 : H2261 x 8 = H x 8 := (f2266 x 8 _ gx rfl)
      have k2313 : H2261 m 3 = H m 3 := (f2266 m 3 _ gm rfl)
      have k2314 : H2261 x 12 = H x 12 := (f2266 x 12 _ gx rfl)
      have k2315 : H2261 m 2 = H m 2 := (f2266 m 2 _ gm rfl)
      refine wl_of hX hb cL_875 (xc_V (pc' := 878) (r := m) (as := [vI (H2261 0 ((i + 1).toNat)), vI 1]) (st := []) (lm_11_113) rfl rfl (Nat.le_of_ble_eq_true rfl) w2265 gm sh_42 (by decide) rfl (by decide) (s_254 w2265 gm ⟨by omega, by omega⟩ ⟨by omega, by omega⟩ (by omega)) (fun R2316 T2317 H2318 p2319 => ?_))
      obtain ⟨e2320, w2322, f2323, z2326, e2321, b2327, p2324, p2325⟩ := p2319
      subst e2320
      subst e2321
      show WL _ _ _ _ 878 [(4, vI i), (3, .ref o), (2, .ref m), (1, .ref x), (0, .ref 0)] [vI z2326] _ H2318
      refine wl_of hX hb cL_878 (rw_pop (pc' := 879) rfl rfl ?_)
      refine wl_of hX hb cL_879 (rw_goto (p1 := 1653) (by decide) ?_)
      have k2328 : H2318 x 9 = H2261 x 9 := (f2323 x 9 _ gx rfl)
      have k2329 : H2318 m 6 = H2261 m 6 := (f2323 m 6 _ gm rfl)
      have k2330 : H2318 x 11 = H2261 x 11 := (f2323 x 11 _ gx rfl)
      have k2331 : H2318 m 13 = H2261 m 13 := (f2323 m 13 _ gm rfl)
      have k2332 : H2318 x 8 = H2261 x 8 := (f2323 x 8 _ gx rfl)
      have k2333 : H2318 m 3 = H2261 m 3 := (f2323 m 3 _ gm rfl)
      have k2334 : H2318 x 10 = H2261 x 10 := (f2323 x 10 _ gx rfl)
      have k2335 : H2318 x 12 = H2261 x 12 := (f2323 x 12 _ gx rfl)
      have h2336 : XI T H2318 x m := (XI_fr w2265 gx f2323 rfl (XI_fr hW gx f2266 rfl hXI))
      exact WL.loc hX (by simp) (next T H2318 ⟨⟨w2322, g0, gx, gm, go, by omega, by omega⟩, h2336, by omega, by omega, by omega⟩ (by omega) (by omega))
set_option maxHeartbeats 4000000 in
theorem wl_c22 {kt : Nat → Option mc_E} {CB SB : Nat} {X : mc_S → Prop} {T : wq_T} {H : wq_H} {Len x m o : Nat} {i : Int} (hX : wlX kt CB SB X) (hb : T.2.1 ≤ CB ∧ T.2.2.1 ≤ SB) (hI : wlJ Len x m o T H) (hL : Len ≤ 3072) (hi : 0 ≤ i ∧ i + 6 ≤ Len) (hb2 : T.2.1 + 20 ≤ CB ∧ T.2.2.1 + 500 ≤ SB)  (next : ∀ T' H', wlJ Len x m o T' H' → T'.2.1 ≤ T.2.1 + 20 → T'.2.2.1 ≤ T.2.2.1 + 500 → WL kt CB SB X 1653 (wlL i x m o) [] T' H') : WL kt CB SB X 882 (wlL i x m o) [] T H := by
  obtain ⟨⟨hW, g0, gx, gm, go, hK, hr⟩, hXI, hY1, hY2, hY3⟩ := hI
  refine wl_of hX hb cL_882 (rw_aload_n (pc' := 883) (v := .ref x) rfl rfl rfl ?_)
  refine wl_of hX hb cL_883 (rw_aload_n (pc' := 884) (v := .ref 0) rfl rfl rfl ?_)
  refine wl_of hX hb cL_884 (rw_iload (pc' := 886) (z := i) rfl rfl ?_)
  refine wl_of hX hb cL_886 (rw_iconst (pc' := 887) rfl ?_)
  refine wl_of hX hb cL_887 (rw_iadd (pc' := 888) rfl ?_)
  refine wl_of hX hb cL_888 (xa_I (so := 0) (pc' := 889) (a := 0) hW g0 (wsh_s _) (by omega) (wty_s _ _) (by omega) (by omega) rfl (fun b2337 b2338 => ?_))
  refine wl_of hX hb cL_889 (rw_aload_n (pc' := 890) (v := .ref 0) rfl rfl rfl ?_)
  refine wl_of hX hb cL_890 (rw_iload (pc' := 892) (z := i) rfl rfl ?_)
  refine wl_of hX hb cL_892 (rw_iconst (pc' := 893) rfl ?_)
  refine wl_of hX hb cL_893 (rw_iadd (pc' := 894) rfl ?_)
  refine wl_of hX hb cL_894 (xa_I (so := 0) (pc' := 895) (a := 0) hW g0 (wsh_s _) (by omega) (wty_s _ _) (by omega) (by omega) rfl (fun b2339 b2340 => ?_))
  refine wl_of hX hb cL_895 (xc_V (pc' := 898) (r := x) (as := [vI (H 0 ((i + 1).toNat)), vI (H 0 ((i + 2).toNat))]) (st := []) (lm_11_114) rfl rfl (Nat.le_of_ble_eq_true rfl) hW gx sh_1 (by decide) rfl (by decide) (s_105 hW gx ⟨by omega, by omega⟩ ⟨by omega, by omega⟩) (fun R2341 T2342 H2343 p2344 => ?_))
  obtain ⟨e2345, w2347, f2348, z2350, e2346, b2351, p2349⟩ := p2344
  subst e2345
  subst e2346
  show WL _ _ _ _ 898 [(4, vI i), (3, .ref o), (2, .ref m), (1, .ref x), (0, .ref 0)] [vI z2350] _ H2343
  refine wl_of hX hb cL_898 (rw_pop (pc' := 899) rfl rfl ?_)
  refine wl_of hX hb cL_899 (rw_aload_n (pc' := 900) (v := .ref m) rfl rfl rfl ?_)
  refine wl_of hX hb cL_900 (rw_aload_n (pc' := 901) (v := .ref 0) rfl rfl rfl ?_)
  refine wl_of hX hb cL_901 (rw_iload (pc' := 903) (z := i) rfl rfl ?_)
  refine wl_of hX hb cL_903 (rw_iconst (pc' := 904) rfl ?_)
  refine wl_of hX hb cL_904 (rw_iadd (pc' := 905) rfl ?_)
  have k2354 : H2343 0 ((i + 1).toNat) = H 0 ((i + 1).toNat) := (f2348 0 ((i + 1).toNat) _ g0 (wmem_s rfl))
  refine wl_of hX hb cL_905 (xa_I (so := 0) (pc' := 906) (a := 0) w2347 g0 (wsh_s _) (by omega) (wty_s _ _) (by omega) (by omega) rfl (fun b2352 b2353 => ?_))
  refine wl_of hX hb cL_906 (rw_aload_n (pc' := 907) (v := .ref 0) rfl rfl rfl ?_)
  refine wl_of hX hb cL_907 (rw_iload (pc' := 909) (z := i) rfl rfl ?_)
  refine wl_of hX hb cL_909 (rw_iconst (pc' := 910) rfl ?_)
  refine wl_of hX hb cL_910 (rw_iadd (pc' := 911) rfl ?_)
  have k2357 : H2343 0 ((i + 2).toNat) = H 0 ((i + 2).toNat) := (f2348 0 ((i + 2).toNat) _ g0 (wmem_s rfl))
  refine wl_of hX hb cL_911 (xa_I (so := 0) (pc' := 912) (a := 0) w2347 g0 (wsh_s _) (by omega) (wty_s _ _) (by omega) (by omega) rfl (fun b2355 b2356 => ?_))
  have k2358 : wKI H2343 m = wKI H m := (wKI_fr hW gm f2348 rfl)
  have k2359 : H2343 x 9 = H x 9 := (f2348 x 9 _ gx rfl)
  have k2360 : H2343 m 6 = H m 6 := (f2348 m 6 _ gm rfl)
  have k2361 : H2343 x 11 = H x 11 := (f2348 x 11 _ gx rfl)
  have k2362 : H2343 m 13 = H m 13 := (f2348 m 13 _ gm rfl)
  have k2363 : H2343 x 8 = H x 8 := (f2348 x 8 _ gx rfl)
  have k2364 : H2343 m 3 = H m 3 := (f2348 m 3 _ gm rfl)
  have k2365 : H2343 x 12 = H x 12 := (f2348 x 12 _ gx rfl)
  have k2366 : H2343 m 2 = H m 2 := (f2348 m 2 _ gm rfl)
  refine wl_of hX hb cL_912 (xc_V (pc' := 915) (r := m) (as := [vI (H2343 0 ((i + 1).toNat)), vI (H2343 0 ((i + 2).toNat))]) (st := []) (lm_11_117) rfl rfl (Nat.le_of_ble_eq_true rfl) w2347 gm sh_42 (by decide) rfl (by decide) (s_255 w2347 gm ⟨by omega, by omega⟩ ⟨by omega, by omega⟩ (by omega)) (fun R2367 T2368 H2369 p2370 => ?_))
  obtain ⟨e2371, w2373, f2374, z2377, e2372, b2378, p2375, p2376⟩ := p2370
  subst e2371
  subst e2372
  show WL _ _ _ _ 915 [(4, vI i), (3, .ref o), (2, .ref m), (1, .ref x), (0, .ref 0)] [vI z2377] _ H2369
  refine wl_of hX hb cL_915 (rw_pop (pc' := 916) rfl rfl ?_)
  refine wl_of hX hb cL_916 (rw_goto (p1 := 1653) (by decide) ?_)
  have k2379 : H2369 x 9 = H2343 x 9 := (f2374 x 9 _ gx rfl)
  have k2380 : H2369 m 6 = H2343 m 6 := (f2374 m 6 _ gm rfl)
  have k2381 : H2369 x 11 = H2343 x 11 := (f2374 x 11 _ gx rfl)
  have k2382 : H2369 m 13 = H2343 m 13 := (f2374 m 13 _ gm rfl)
  have k2383 : H2369 x 8 = H2343 x 8 := (f2374 x 8 _ gx rfl)
  have k2384 : H2369 m 3 = H2343 m 3 := (f2374 m 3 _ gm rfl)
  have k2385 : H2369 x 10 = H2343 x 10 := (f2374 x 10 _ gx rfl)
  have k2386 : H2369 x 12 = H2343 x 12 := (f2374 x 12 _ gx rfl)
  have h2387 : XI T H2369 x m := (XI_fr w2347 gx f2374 rfl (XI_fr hW gx f2348 rfl hXI))
  exact WL.loc hX (by simp) (next T H2369 ⟨⟨w2373, g0, gx, gm, go, by omega, by omega⟩, h2387, by omega, by omega, by omega⟩ (by omega) (by omega))
set_option maxHeartbeats 4000000 in
theorem wl_c23 {kt : Nat → Option mc_E} {CB SB : Nat} {X : mc_S → Prop} {T : wq_T} {H : wq_H} {Len x m o : Nat} {i : Int} (hX : wlX kt CB SB X) (hb : T.2.1 ≤ CB ∧ T.2.2.1 ≤ SB) (hI : wlJ Len x m o T H) (hL : Len ≤ 3072) (hi : 0 ≤ i ∧ i + 6 ≤ Len) (hb2 : T.2.1 + 20 ≤ CB ∧ T.2.2.1 + 500 ≤ SB)  (next : ∀ T' H', wlJ Len x m o T' H' → T'.2.1 ≤ T.2.1 + 20 → T'.2.2.1 ≤ T.2.2.1 + 500 → WL kt CB SB X 1653 (wlL i x m o) [] T' H') : WL kt CB SB X 919 (wlL i x m o) [] T H := by
  obtain ⟨⟨hW, g0, gx, gm, go, hK, hr⟩, hXI, hY1, hY2, hY3⟩ := hI
  refine wl_of hX hb cL_919 (rw_aload_n (pc' := 920) (v := .ref x) rfl rfl rfl ?_)
  refine wl_of hX hb cL_920 (rw_aload_n (pc' := 921) (v := .ref 0) rfl rfl rfl ?_)
  refine wl_of hX hb cL_921 (rw_iload (pc' := 923) (z := i) rfl rfl ?_)
  refine wl_of hX hb cL_923 (rw_iconst (pc' := 924) rfl ?_)
  refine wl_of hX hb cL_924 (rw_iadd (pc' := 925) rfl ?_)
  refine wl_of hX hb cL_925 (xa_I (so := 0) (pc' := 926) (a := 0) hW g0 (wsh_s _) (by omega) (wty_s _ _) (by omega) (by omega) rfl (fun b2388 b2389 => ?_))
  refine wl_of hX hb cL_926 (xc_V (pc' := 929) (r := x) (as := [vI (H 0 ((i + 1).toNat))]) (st := []) (lm_11_118) rfl rfl (Nat.le_of_ble_eq_true rfl) hW gx sh_1 (by decide) rfl (by decide) (s_107 hW gx ⟨by omega, by omega⟩) (fun R2390 T2391 H2392 p2393 => ?_))
  obtain ⟨e2394, w2396, f2397, z2399, e2395, b2400, p2398⟩ := p2393
  subst e2394
  subst e2395
  show WL _ _ _ _ 929 [(4, vI i), (3, .ref o), (2, .ref m), (1, .ref x), (0, .ref 0)] [vI z2399] _ H2392
  refine wl_of hX hb cL_929 (rw_pop (pc' := 930) rfl rfl ?_)
  refine wl_of hX hb cL_930 (rw_aload_n (pc' := 931) (v := .ref m) rfl rfl rfl ?_)
  refine wl_of hX hb cL_931 (rw_aload_n (pc' := 932) (v := .ref 0) rfl rfl rfl ?_)
  refine wl_of hX hb cL_932 (rw_iload (pc' := 934) (z := i) rfl rfl ?_)
  refine wl_of hX hb cL_934 (rw_iconst (pc' := 935) rfl ?_)
  refine wl_of hX hb cL_935 (rw_iadd (pc' := 936) rfl ?_)
  have k2403 : H2392 0 ((i + 1).toNat) = H 0 ((i + 1).toNat) := (f2397 0 ((i + 1).toNat) _ g0 (wmem_s rfl))
  refine wl_of hX hb cL_936 (xa_I (so := 0) (pc' := 937) (a := 0) w2396 g0 (wsh_s _) (by omega) (wty_s _ _) (by omega) (by omega) rfl (fun b2401 b2402 => ?_))
  have k2404 : wKI H2392 m = wKI H m := (wKI_fr hW gm f2397 rfl)
  have k2405 : H2392 x 9 = H x 9 := (f2397 x 9 _ gx rfl)
  have k2406 : H2392 m 6 = H m 6 := (f2397 m 6 _ gm rfl)
  have k2407 : H2392 x 11 = H x 11 := (f2397 x 11 _ gx rfl)
  have k2408 : H2392 m 13 = H m 13 := (f2397 m 13 _ gm rfl)
  have k2409 : H2392 x 8 = H x 8 := (f2397 x 8 _ gx rfl)
  have k2410 : H2392 m 3 = H m 3 := (f2397 m 3 _ gm rfl)
  have k2411 : H2392 x 12 = H x 12 := (f2397 x 12 _ gx rfl)
  have k2412 : H2392 m 2 = H m 2 := (f2397 m 2 _ gm rfl)
  refine wl_of hX hb cL_937 (xc_V (pc' := 940) (r := m) (as := [vI (H2392 0 ((i + 1).toNat))]) (st := []) (lm_11_121) rfl rfl (Nat.le_of_ble_eq_true rfl) w2396 gm sh_42 (by decide) rfl (by decide) (s_256 w2396 gm ⟨by omega, by omega⟩ (by omega)) (fun R2413 T2414 H2415 p2416 => ?_))
  obtain ⟨e2417, w2419, f2420, z2423, e2418, b2424, p2421, p2422⟩ := p2416
  subst e2417
  subst e2418
  show WL _ _ _ _ 940 [(4, vI i), (3, .ref o), (2, .ref m), (1, .ref x), (0, .ref 0)] [vI z2423] _ H2415
  refine wl_of hX hb cL_940 (rw_pop (pc' := 941) rfl rfl ?_)
  refine wl_of hX hb cL_941 (rw_goto (p1 := 1653) (by decide) ?_)
  have k2425 : H2415 x 9 = H2392 x 9 := (f2420 x 9 _ gx rfl)
  have k2426 : H2415 m 6 = H2392 m 6 := (f2420 m 6 _ gm rfl)
  have k2427 : H2415 x 11 = H2392 x 11 := (f2420 x 11 _ gx rfl)
  have k2428 : H2415 m 13 = H2392 m 13 := (f2420 m 13 _ gm rfl)
  have k2429 : H2415 x 8 = H2392 x 8 := (f2420 x 8 _ gx rfl)
  have k2430 : H2415 m 3 = H2392 m 3 := (f2420 m 3 _ gm rfl)
  have k2431 : H2415 x 10 = H2392 x 10 := (f2420 x 10 _ gx rfl)
  have k2432 : H2415 x 12 = H2392 x 12 := (f2420 x 12 _ gx rfl)
  have h2433 : XI T H2415 x m := (XI_fr w2396 gx f2420 rfl (XI_fr hW gx f2397 rfl hXI))
  exact WL.loc hX (by simp) (next T H2415 ⟨⟨w2419, g0, gx, gm, go, by omega, by omega⟩, h2433, by omega, by omega, by omega⟩ (by omega) (by omega))
set_option maxHeartbeats 4000000 in
theorem wl_c24 {kt : Nat → Option mc_E} {CB SB : Nat} {X : mc_S → Prop} {T : wq_T} {H : wq_H} {Len x m o : Nat} {i : Int} (hX : wlX kt CB SB X) (hb : T.2.1 ≤ CB ∧ T.2.2.1 ≤ SB) (hI : wlJ Len x m o T H) (hL : Len ≤ 3072) (hi : 0 ≤ i ∧ i + 6 ≤ Len) (hb2 : T.2.1 + 20 ≤ CB ∧ T.2.2.1 + 500 ≤ SB)  (next : ∀ T' H', wlJ Len x m o T' H' → T'.2.1 ≤ T.2.1 + 20 → T'.2.2.1 ≤ T.2.2.1 + 500 → WL kt CB SB X 1653 (wlL i x m o) [] T' H') : WL kt CB SB X 944 (wlL i x m o) [] T H := by
  obtain ⟨⟨hW, g0, gx, gm, go, hK, hr⟩, hXI, hY1, hY2, hY3⟩ := hI
  refine wl_of hX hb cL_944 (rw_aload_n (pc' := 945) (v := .ref x) rfl rfl rfl ?_)
  refine wl_of hX hb cL_945 (xc_V (pc' := 948) (r := x) (as := []) (st := []) (lm_11_122) rfl rfl (Nat.le_of_ble_eq_true rfl) hW gx sh_1 (by decide) rfl (by decide) (s_108 hW gx) (fun R2434 T2435 H2436 p2437 => ?_))
  obtain ⟨e2438, w2440, f2441, z2443, e2439, b2444, p2442⟩ := p2437
  subst e2438
  subst e2439
  show WL _ _ _ _ 948 [(4, vI i), (3, .ref o), (2, .ref m), (1, .ref x), (0, .ref 0)] [vL z2443] _ H2436
  refine wl_of hX hb cL_948 (rw_pop2 (pc' := 949) rfl rfl ?_)
  refine wl_of hX hb cL_949 (rw_aload_n (pc' := 950) (v := .ref m) rfl rfl rfl ?_)
  have k2445 : wKI H2436 m = wKI H m := (wKI_fr hW gm f2441 rfl)
  have k2446 : H2436 x 9 = H x 9 := (f2441 x 9 _ gx rfl)
  have k2447 : H2436 m 6 = H m 6 := (f2441 m 6 _ gm rfl)
  have k2448 : H2436 x 11 = H x 11 := (f2441 x 11 _ gx rfl)
  have k2449 : H2436 m 13 = H m 13 := (f2441 m 13 _ gm rfl)
  have k2450 : H2436 x 8 = H x 8 := (f2441 x 8 _ gx rfl)
  have k2451 : H2436 m 3 = H m 3 := (f2441 m 3 _ gm rfl)
  have k2452 : H2436 x 12 = H x 12 := (f2441 x 12 _ gx rfl)
  have k2453 : H2436 m 2 = H m 2 := (f2441 m 2 _ gm rfl)
  refine wl_of hX hb cL_950 (xc_V (pc' := 953) (r := m) (as := []) (st := []) (lm_11_125) rfl rfl (Nat.le_of_ble_eq_true rfl) w2440 gm sh_42 (by decide) rfl (by decide) (s_258 w2440 gm (by omega)) (fun R2454 T2455 H2456 p2457 => ?_))
  obtain ⟨e2458, w2460, f2461, z2464, e2459, b2465, p2462, p2463⟩ := p2457
  subst e2458
  subst e2459
  show WL _ _ _ _ 953 [(4, vI i), (3, .ref o), (2, .ref m), (1, .ref x), (0, .ref 0)] [vL z2464] _ H2456
  refine wl_of hX hb cL_953 (rw_pop2 (pc' := 954) rfl rfl ?_)
  refine wl_of hX hb cL_954 (rw_goto (p1 := 1653) (by decide) ?_)
  have k2466 : H2456 x 9 = H2436 x 9 := (f2461 x 9 _ gx rfl)
  have k2467 : H2456 m 6 = H2436 m 6 := (f2461 m 6 _ gm rfl)
  have k2468 : H2456 x 11 = H2436 x 11 := (f2461 x 11 _ gx rfl)
  have k2469 : H2456 m 13 = H2436 m 13 := (f2461 m 13 _ gm rfl)
  have k2470 : H2456 x 8 = H2436 x 8 := (f2461 x 8 _ gx rfl)
  have k2471 : H2456 m 3 = H2436 m 3 := (f2461 m 3 _ gm rfl)
  have k2472 : H2456 x 10 = H2436 x 10 := (f2461 x 10 _ gx rfl)
  have k2473 : H2456 x 12 = H2436 x 12 := (f2461 x 12 _ gx rfl)
  have h2474 : XI T H2456 x m := (XI_fr w2440 gx f2461 rfl (XI_fr hW gx f2441 rfl hXI))
  exact WL.loc hX (by simp) (next T H2456 ⟨⟨w2460, g0, gx, gm, go, by omega, by omega⟩, h2474, by omega, by omega, by omega⟩ (by omega) (by omega))
set_option maxHeartbeats 4000000 in
theorem wl_c25 {kt : Nat → Option mc_E} {CB SB : Nat} {X : mc_S → Prop} {T : wq_T} {H : wq_H} {Len x m o : Nat} {i : Int} (hX : wlX kt CB SB X) (hb : T.2.1 ≤ CB ∧ T.2.2.1 ≤ SB) (hI : wlJ Len x m o T H) (hL : Len ≤ 3072) (hi : 0 ≤ i ∧ i + 6 ≤ Len) (hb2 : T.2.1 + 20 ≤ CB ∧ T.2.2.1 + 500 ≤ SB)  (next : ∀ T' H', wlJ Len x m o T' H' → T'.2.1 ≤ T.2.1 + 20 → T'.2.2.1 ≤ T.2.2.1 + 500 → WL kt CB SB X 1653 (wlL i x m o) [] T' H') : WL kt CB SB X 957 (wlL i x m o) [] T H := by
  obtain ⟨⟨hW, g0, gx, gm, go, hK, hr⟩, hXI, hY1, hY2, hY3⟩ := hI
  refine wl_of hX hb cL_957 (rw_aload_n (pc' := 958) (v := .ref x) rfl rfl rfl ?_)
  refine wl_of hX hb cL_958 (rw_aload_n (pc' := 959) (v := .ref 0) rfl rfl rfl ?_)
  refine wl_of hX hb cL_959 (rw_iload (pc' := 961) (z := i) rfl rfl ?_)
  refine wl_of hX hb cL_961 (rw_iconst (pc' := 962) rfl ?_)
  refine wl_of hX hb cL_962 (rw_iadd (pc' := 963) rfl ?_)
  refine wl_of hX hb cL_963 (xa_I (so := 0) (pc' := 964) (a := 0) hW g0 (wsh_s _) (by omega) (wty_s _ _) (by omega) (by omega) rfl (fun b2475 b2476 => ?_))
  refine wl_of hX hb cL_964 (rw_aload_n (pc' := 965) (v := .ref 0) rfl rfl rfl ?_)
  refine wl_of hX hb cL_965 (rw_iload (pc' := 967) (z := i) rfl rfl ?_)
  refine wl_of hX hb cL_967 (rw_iconst (pc' := 968) rfl ?_)
  refine wl_of hX hb cL_968 (rw_iadd (pc' := 969) rfl ?_)
  refine wl_of hX hb cL_969 (xa_I (so := 0) (pc' := 970) (a := 0) hW g0 (wsh_s _) (by omega) (wty_s _ _) (by omega) (by omega) rfl (fun b2477 b2478 => ?_))
  refine wl_of hX hb cL_970 (xc_V (pc' := 973) (r := x) (as := [vI (H 0 ((i + 1).toNat)), vI (H 0 ((i + 2).toNat))]) (st := []) (lm_11_126) rfl rfl (Nat.le_of_ble_eq_true rfl) hW gx sh_1 (by decide) rfl (by decide) (s_109 hW gx ⟨by omega, by omega⟩ ⟨by omega, by omega⟩) (fun R2479 T2480 H2481 p2482 => ?_))
  obtain ⟨e2483, w2485, f2486, z2488, e2484, b2489, p2487⟩ := p2482
  subst e2483
  subst e2484
  show WL _ _ _ _ 973 [(4, vI i), (3, .ref o), (2, .ref m), (1, .ref x), (0, .ref 0)] [vI z2488] _ H2481
  refine wl_of hX hb cL_973 (rw_pop (pc' := 974) rfl rfl ?_)
  refine wl_of hX hb cL_974 (rw_aload_n (pc' := 975) (v := .ref m) rfl rfl rfl ?_)
  refine wl_of hX hb cL_975 (rw_aload_n (pc' := 976) (v := .ref 0) rfl rfl rfl ?_)
  refine wl_of hX hb cL_976 (rw_iload (pc' := 978) (z := i) rfl rfl ?_)
  refine wl_of hX hb cL_978 (rw_iconst (pc' := 979) rfl ?_)
  refine wl_of hX hb cL_979 (rw_iadd (pc' := 980) rfl ?_)
  have k2492 : H2481 0 ((i + 1).toNat) = H 0 ((i + 1).toNat) := (f2486 0 ((i + 1).toNat) _ g0 (wmem_s rfl))
  refine wl_of hX hb cL_980 (xa_I (so := 0) (pc' := 981) (a := 0) w2485 g0 (wsh_s _) (by omega) (wty_s _ _) (by omega) (by omega) rfl (fun b2490 b2491 => ?_))
  refine wl_of hX hb cL_981 (rw_aload_n (pc' := 982) (v := .ref 0) rfl rfl rfl ?_)
  refine wl_of hX hb cL_982 (rw_iload (pc' := 984) (z := i) rfl rfl ?_)
  refine wl_of hX hb cL_984 (rw_iconst (pc' := 985) rfl ?_)
  refine wl_of hX hb cL_985 (rw_iadd (pc' := 986) rfl ?_)
  have k2495 : H2481 0 ((i + 2).toNat) = H 0 ((i + 2).toNat) := (f2486 0 ((i + 2).toNat) _ g0 (wmem_s rfl))
  refine wl_of hX hb cL_986 (xa_I (so := 0) (pc' := 987) (a := 0) w2485 g0 (wsh_s _) (by omega) (wty_s _ _) (by omega) (by omega) rfl (fun b2493 b2494 => ?_))
  have k2496 : wKI H2481 m = wKI H m := (wKI_fr hW gm f2486 rfl)
  have k2497 : H2481 x 9 = H x 9 := (f2486 x 9 _ gx rfl)
  have k2498 : H2481 m 6 = H m 6 := (f2486 m 6 _ gm rfl)
  have k2499 : H2481 x 11 = H x 11 := (f2486 x 11 _ gx rfl)
  have k2500 : H2481 m 13 = H m 13 := (f2486 m 13 _ gm rfl)
  have k2501 : H2481 x 8 = H x 8 := (f2486 x 8 _ gx rfl)
  have k2502 : H2481 m 3 = H m 3 := (f2486 m 3 _ gm rfl)
  have k2503 : H2481 x 12 = H x 12 := (f2486 x 12 _ gx rfl)
  have k2504 : H2481 m 2 = H m 2 := (f2486 m 2 _ gm rfl)
  refine wl_of hX hb cL_987 (xc_V (pc' := 990) (r := m) (as := [vI (H2481 0 ((i + 1).toNat)), vI (H2481 0 ((i + 2).toNat))]) (st := []) (lm_11_129) rfl rfl (Nat.le_of_ble_eq_true rfl) w2485 gm sh_42 (by decide) rfl (by decide) (s_259 w2485 gm ⟨by omega, by omega⟩ ⟨by omega, by omega⟩ (by omega)) (fun R2505 T2506 H2507 p2508 => ?_))
  obtain ⟨e2509, w2511, f2512, z2515, e2510, b2516, p2513, p2514⟩ := p2508
  subst e2509
  subst e2510
  show WL _ _ _ _ 990 [(4, vI i), (3, .ref o), (2, .ref m), (1, .ref x), (0, .ref 0)] [vI z2515] _ H2507
  refine wl_of hX hb cL_990 (rw_pop (pc' := 991) rfl rfl ?_)
  refine wl_of hX hb cL_991 (rw_goto (p1 := 1653) (by decide) ?_)
  have k2517 : H2507 x 9 = H2481 x 9 := (f2512 x 9 _ gx rfl)
  have k2518 : H2507 m 6 = H2481 m 6 := (f2512 m 6 _ gm rfl)
  have k2519 : H2507 x 11 = H2481 x 11 := (f2512 x 11 _ gx rfl)
  have k2520 : H2507 m 13 = H2481 m 13 := (f2512 m 13 _ gm rfl)
  have k2521 : H2507 x 8 = H2481 x 8 := (f2512 x 8 _ gx rfl)
  have k2522 : H2507 m 3 = H2481 m 3 := (f2512 m 3 _ gm rfl)
  have k2523 : H2507 x 10 = H2481 x 10 := (f2512 x 10 _ gx rfl)
  have k2524 : H2507 x 12 = H2481 x 12 := (f2512 x 12 _ gx rfl)
  have h2525 : XI T H2507 x m := (XI_fr w2485 gx f2512 rfl (XI_fr hW gx f2486 rfl hXI))
  exact WL.loc hX (by simp) (next T H2507 ⟨⟨w2511, g0, gx, gm, go, by omega, by omega⟩, h2525, by omega, by omega, by omega⟩ (by omega) (by omega))
set_option maxHeartbeats 4000000 in
theorem wl_c26 {kt : Nat → Option mc_E} {CB SB : Nat} {X : mc_S → Prop} {T : wq_T} {H : wq_H} {Len x m o : Nat} {i : Int} (hX : wlX kt CB SB X) (hb : T.2.1 ≤ CB ∧ T.2.2.1 ≤ SB) (hI : wlJ Len x m o T H) (hL : Len ≤ 3072) (hi : 0 ≤ i ∧ i + 6 ≤ Len) (hb2 : T.2.1 + 20 ≤ CB ∧ T.2.2.1 + 500 ≤ SB)  (next : ∀ T' H', wlJ Len x m o T' H' → T'.2.1 ≤ T.2.1 + 20 → T'.2.2.1 ≤ T.2.2.1 + 500 → WL kt CB SB X 1653 (wlL i x m o) [] T' H') : WL kt CB SB X 994 (wlL i x m o) [] T H := by
  obtain ⟨⟨hW, g0, gx, gm, go, hK, hr⟩, hXI, hY1, hY2, hY3⟩ := hI
  refine wl_of hX hb cL_994 (rw_aload_n (pc' := 995) (v := .ref x) rfl rfl rfl ?_)
  refine wl_of hX hb cL_995 (rw_aload_n (pc' := 996) (v := .ref 0) rfl rfl rfl ?_)
  refine wl_of hX hb cL_996 (rw_iload (pc' := 998) (z := i) rfl rfl ?_)
  refine wl_of hX hb cL_998 (rw_iconst (pc' := 999) rfl ?_)
  refine wl_of hX hb cL_999 (rw_iadd (pc' := 1000) rfl ?_)
  refine wl_of hX hb cL_1000 (xa_I (so := 0) (pc' := 1001) (a := 0) hW g0 (wsh_s _) (by omega) (wty_s _ _) (by omega) (by omega) rfl (fun b2526 b2527 => ?_))
  refine wl_of hX hb cL_1001 (xc_V (pc' := 1004) (r := x) (as := [vI (H 0 ((i + 1).toNat))]) (st := []) (lm_11_130) rfl rfl (Nat.le_of_ble_eq_true rfl) hW gx sh_1 (by decide) rfl (by decide) (s_112 hW gx ⟨by omega, by omega⟩) (fun R2528 T2529 H2530 p2531 => ?_))
  obtain ⟨e2532, w2534, f2535, z2537, e2533, b2538, p2536⟩ := p2531
  subst e2532
  subst e2533
  show WL _ _ _ _ 1004 [(4, vI i), (3, .ref o), (2, .ref m), (1, .ref x), (0, .ref 0)] [vL z2537] _ H2530
  refine wl_of hX hb cL_1004 (rw_pop2 (pc' := 1005) rfl rfl ?_)
  refine wl_of hX hb cL_1005 (rw_aload_n (pc' := 1006) (v := .ref m) rfl rfl rfl ?_)
  refine wl_of hX hb cL_1006 (rw_aload_n (pc' := 1007) (v := .ref 0) rfl rfl rfl ?_)
  refine wl_of hX hb cL_1007 (rw_iload (pc' := 1009) (z := i) rfl rfl ?_)
  refine wl_of hX hb cL_1009 (rw_iconst (pc' := 1010) rfl ?_)
  refine wl_of hX hb cL_1010 (rw_iadd (pc' := 1011) rfl ?_)
  have k2541 : H2530 0 ((i + 1).toNat) = H 0 ((i + 1).toNat) := (f2535 0 ((i + 1).toNat) _ g0 (wmem_s rfl))
  refine wl_of hX hb cL_1011 (xa_I (so := 0) (pc' := 1012) (a := 0) w2534 g0 (wsh_s _) (by omega) (wty_s _ _) (by omega) (by omega) rfl (fun b2539 b2540 => ?_))
  have k2542 : wKI H2530 m = wKI H m := (wKI_fr hW gm f2535 rfl)
  have k2543 : H2530 x 9 = H x 9 := (f2535 x 9 _ gx rfl)
  have k2544 : H2530 m 6 = H m 6 := (f2535 m 6 _ gm rfl)
  have k2545 : H2530 x 11 = H x 11 := (f2535 x 11 _ gx rfl)
  have k2546 : H2530 m 13 = H m 13 := (f2535 m 13 _ gm rfl)
  have k2547 : H2530 x 8 = H x 8 := (f2535 x 8 _ gx rfl)
  have k2548 : H2530 m 3 = H m 3 := (f2535 m 3 _ gm rfl)
  have k2549 : H2530 x 12 = H x 12 := (f2535 x 12 _ gx rfl)
  have k2550 : H2530 m 2 = H m 2 := (f2535 m 2 _ gm rfl)
  refine wl_of hX hb cL_1012 (xc_V (pc' := 1015) (r := m) (as := [vI (H2530 0 ((i + 1).toNat))]) (st := []) (lm_11_134) rfl rfl (Nat.le_of_ble_eq_true rfl) w2534 gm sh_42 (by decide) rfl (by decide) (s_260 w2534 gm ⟨by omega, by omega⟩ (by omega)) (fun R2551 T2552 H2553 p2554 => ?_))
  obtain ⟨e2555, w2557, f2558, z2561, e2556, b2562, p2559, p2560⟩ := p2554
  subst e2555
  subst e2556
  show WL _ _ _ _ 1015 [(4, vI i), (3, .ref o), (2, .ref m), (1, .ref x), (0, .ref 0)] [vL z2561] _ H2553
  refine wl_of hX hb cL_1015 (rw_pop2 (pc' := 1016) rfl rfl ?_)
  refine wl_of hX hb cL_1016 (rw_goto (p1 := 1653) (by decide) ?_)
  have k2563 : H2553 x 9 = H2530 x 9 := (f2558 x 9 _ gx rfl)
  have k2564 : H2553 m 6 = H2530 m 6 := (f2558 m 6 _ gm rfl)
  have k2565 : H2553 x 11 = H2530 x 11 := (f2558 x 11 _ gx rfl)
  have k2566 : H2553 m 13 = H2530 m 13 := (f2558 m 13 _ gm rfl)
  have k2567 : H2553 x 8 = H2530 x 8 := (f2558 x 8 _ gx rfl)
  have k2568 : H2553 m 3 = H2530 m 3 := (f2558 m 3 _ gm rfl)
  have k2569 : H2553 x 10 = H2530 x 10 := (f2558 x 10 _ gx rfl)
  have k2570 : H2553 x 12 = H2530 x 12 := (f2558 x 12 _ gx rfl)
  have h2571 : XI T H2553 x m := (XI_fr w2534 gx f2558 rfl (XI_fr hW gx f2535 rfl hXI))
  exact WL.loc hX (by simp) (next T H2553 ⟨⟨w2557, g0, gx, gm, go, by omega, by omega⟩, h2571, by omega, by omega, by omega⟩ (by omega) (by omega))
set_option maxHeartbeats 4000000 in
theorem wl_c27 {kt : Nat → Option mc_E} {CB SB : Nat} {X : mc_S → Prop} {T : wq_T} {H : wq_H} {Len x m o : Nat} {i : Int} (hX : wlX kt CB SB X) (hb : T.2.1 ≤ CB ∧ T.2.2.1 ≤ SB) (hI : wlJ Len x m o T H) (hL : Len ≤ 3072) (hi : 0 ≤ i ∧ i + 6 ≤ Len) (hb2 : T.2.1 + 20 ≤ CB ∧ T.2.2.1 + 500 ≤ SB)  (next : ∀ T' H', wlJ Len x m o T' H' → T'.2.1 ≤ T.2.1 + 20 → T'.2.2.1 ≤ T.2.2.1 + 500 → WL kt CB SB X 1653 (wlL i x m o) [] T' H') : WL kt CB SB X 1019 (wlL i x m o) [] T H := by
  obtain ⟨⟨hW, g0, gx, gm, go, hK, hr⟩, hXI, hY1, hY2, hY3⟩ := hI
  refine wl_of hX hb cL_1019 (rw_aload_n (pc' := 1020) (v := .ref x) rfl rfl rfl ?_)
  refine wl_of hX hb cL_1020 (rw_aload_n (pc' := 1021) (v := .ref 0) rfl rfl rfl ?_)
  refine wl_of hX hb cL_1021 (rw_iload (pc' := 1023) (z := i) rfl rfl ?_)
  refine wl_of hX hb cL_1023 (rw_iconst (pc' := 1024) rfl ?_)
  refine wl_of hX hb cL_1024 (rw_iadd (pc' := 1025) rfl ?_)
  refine wl_of hX hb cL_1025 (xa_I (so := 0) (pc' := 1026) (a := 0) hW g0 (wsh_s _) (by omega) (wty_s _ _) (by omega) (by omega) rfl (fun b2572 b2573 => ?_))
  refine wl_of hX hb cL_1026 (rw_aload_n (pc' := 1027) (v := .ref 0) rfl rfl rfl ?_)
  refine wl_of hX hb cL_1027 (rw_iload (pc' := 1029) (z := i) rfl rfl ?_)
  refine wl_of hX hb cL_1029 (rw_iconst (pc' := 1030) rfl ?_)
  refine wl_of hX hb cL_1030 (rw_iadd (pc' := 1031) rfl ?_)
  refine wl_of hX hb cL_1031 (xa_I (so := 0) (pc' := 1032) (a := 0) hW g0 (wsh_s _) (by omega) (wty_s _ _) (by omega) (by omega) rfl (fun b2574 b2575 => ?_))
  refine wl_of hX hb cL_1032 (xc_V (pc' := 1035) (r := x) (as := [vI (H 0 ((i + 1).toNat)), vI (H 0 ((i + 2).toNat))]) (st := []) (lm_11_135) rfl rfl (Nat.le_of_ble_eq_true rfl) hW gx sh_1 (by decide) rfl (by decide) (s_114 hW gx ⟨by omega, by omega⟩ ⟨by omega, by omega⟩) (fun R2576 T2577 H2578 p2579 => ?_))
  obtain ⟨e2580, w2582, f2583, z2585, e2581, b2586, p2584⟩ := p2579
  subst e2580
  subst e2581
  show WL _ _ _ _ 1035 [(4, vI i), (3, .ref o), (2, .ref m), (1, .ref x), (0, .ref 0)] [vI z2585] _ H2578
  refine wl_of hX hb cL_1035 (rw_pop (pc' := 1036) rfl rfl ?_)
  refine wl_of hX hb cL_1036 (rw_aload_n (pc' := 1037) (v := .ref m) rfl rfl rfl ?_)
  refine wl_of hX hb cL_1037 (rw_aload_n (pc' := 1038) (v := .ref 0) rfl rfl rfl ?_)
  refine wl_of hX hb cL_1038 (rw_iload (pc' := 1040) (z := i) rfl rfl ?_)
  refine wl_of hX hb cL_1040 (rw_iconst (pc' := 1041) rfl ?_)
  refine wl_of hX hb cL_1041 (rw_iadd (pc' := 1042) rfl ?_)
  have k2589 : H2578 0 ((i + 1).toNat) = H 0 ((i + 1).toNat) := (f2583 0 ((i + 1).toNat) _ g0 (wmem_s rfl))
  refine wl_of hX hb cL_1042 (xa_I (so := 0) (pc' := 1043) (a := 0) w2582 g0 (wsh_s _) (by omega) (wty_s _ _) (by omega) (by omega) rfl (fun b2587 b2588 => ?_))
  refine wl_of hX hb cL_1043 (rw_aload_n (pc' := 1044) (v := .ref 0) rfl rfl rfl ?_)
  refine wl_of hX hb cL_1044 (rw_iload (pc' := 1046) (z := i) rfl rfl ?_)
  refine wl_of hX hb cL_1046 (rw_iconst (pc' := 1047) rfl ?_)
  refine wl_of hX hb cL_1047 (rw_iadd (pc' := 1048) rfl ?_)
  have k2592 : H2578 0 ((i + 2).toNat) = H 0 ((i + 2).toNat) := (f2583 0 ((i + 2).toNat) _ g0 (wmem_s rfl))
  refine wl_of hX hb cL_1048 (xa_I (so := 0) (pc' := 1049) (a := 0) w2582 g0 (wsh_s _) (by omega) (wty_s _ _) (by omega) (by omega) rfl (fun b2590 b2591 => ?_))
  have k2593 : wKI H2578 m = wKI H m := (wKI_fr hW gm f2583 rfl)
  have k2594 : H2578 x 9 = H x 9 := (f2583 x 9 _ gx rfl)
  have k2595 : H2578 m 6 = H m 6 := (f2583 m 6 _ gm rfl)
  have k2596 : H2578 x 11 = H x 11 := (f2583 x 11 _ gx rfl)
  have k2597 : H2578 m 13 = H m 13 := (f2583 m 13 _ gm rfl)
  have k2598 : H2578 x 8 = H x 8 := (f2583 x 8 _ gx rfl)
  have k2599 : H2578 m 3 = H m 3 := (f2583 m 3 _ gm rfl)
  have k2600 : H2578 x 12 = H x 12 := (f2583 x 12 _ gx rfl)
  have k2601 : H2578 m 2 = H m 2 := (f2583 m 2 _ gm rfl)
  refine wl_of hX hb cL_1049 (xc_V (pc' := 1052) (r := m) (as := [vI (H2578 0 ((i + 1).toNat)), vI (H2578 0 ((i + 2).toNat))]) (st := []) (lm_11_138) rfl rfl (Nat.le_of_ble_eq_true rfl) w2582 gm sh_42 (by decide) rfl (by decide) (s_261 w2582 gm ⟨by omega, by omega⟩ ⟨by omega, by omega⟩ (by omega)) (fun R2602 T2603 H2604 p2605 => ?_))
  obtain ⟨e2606, w2608, f2609, z2612, e2607, b2613, p2610, p2611⟩ := p2605
  subst e2606
  subst e2607
  show WL _ _ _ _ 1052 [(4, vI i), (3, .ref o), (2, .ref m), (1, .ref x), (0, .ref 0)] [vI z2612] _ H2604
  refine wl_of hX hb cL_1052 (rw_pop (pc' := 1053) rfl rfl ?_)
  refine wl_of hX hb cL_1053 (rw_goto (p1 := 1653) (by decide) ?_)
  have k2614 : H2604 x 9 = H2578 x 9 := (f2609 x 9 _ gx rfl)
  have k2615 : H2604 m 6 = H2578 m 6 := (f2609 m 6 _ gm rfl)
  have k2616 : H2604 x 11 = H2578 x 11 := (f2609 x 11 _ gx rfl)
  have k2617 : H2604 m 13 = H2578 m 13 := (f2609 m 13 _ gm rfl)
  have k2618 : H2604 x 8 = H2578 x 8 := (f2609 x 8 _ gx rfl)
  have k2619 : H2604 m 3 = H2578 m 3 := (f2609 m 3 _ gm rfl)
  have k2620 : H2604 x 10 = H2578 x 10 := (f2609 x 10 _ gx rfl)
  have k2621 : H2604 x 12 = H2578 x 12 := (f2609 x 12 _ gx rfl)
  have h2622 : XI T H2604 x m := (XI_fr w2582 gx f2609 rfl (XI_fr hW gx f2583 rfl hXI))
  exact WL.loc hX (by simp) (next T H2604 ⟨⟨w2608, g0, gx, gm, go, by omega, by omega⟩, h2622, by omega, by omega, by omega⟩ (by omega) (by omega))
set_option maxHeartbeats 4000000 in
theorem wl_c28 {kt : Nat → Option mc_E} {CB SB : Nat} {X : mc_S → Prop} {T : wq_T} {H : wq_H} {Len x m o : Nat} {i : Int} (hX : wlX kt CB SB X) (hb : T.2.1 ≤ CB ∧ T.2.2.1 ≤ SB) (hI : wlJ Len x m o T H) (hL : Len ≤ 3072) (hi : 0 ≤ i ∧ i + 6 ≤ Len) (hb2 : T.2.1 + 20 ≤ CB ∧ T.2.2.1 + 500 ≤ SB)  (next : ∀ T' H', wlJ Len x m o T' H' → T'.2.1 ≤ T.2.1 + 20 → T'.2.2.1 ≤ T.2.2.1 + 500 → WL kt CB SB X 1653 (wlL i x m o) [] T' H') : WL kt CB SB X 1056 (wlL i x m o) [] T H := by
  obtain ⟨⟨hW, g0, gx, gm, go, hK, hr⟩, hXI, hY1, hY2, hY3⟩ := hI
  refine wl_of hX hb cL_1056 (rw_aload_n (pc' := 1057) (v := .ref x) rfl rfl rfl ?_)
  refine wl_of hX hb cL_1057 (rw_aload_n (pc' := 1058) (v := .ref 0) rfl rfl rfl ?_)
  refine wl_of hX hb cL_1058 (rw_iload (pc' := 1060) (z := i) rfl rfl ?_)
  refine wl_of hX hb cL_1060 (rw_iconst (pc' := 1061) rfl ?_)
  refine wl_of hX hb cL_1061 (rw_iadd (pc' := 1062) rfl ?_)
  refine wl_of hX hb cL_1062 (xa_I (so := 0) (pc' := 1063) (a := 0) hW g0 (wsh_s _) (by omega) (wty_s _ _) (by omega) (by omega) rfl (fun b2623 b2624 => ?_))
  refine wl_of hX hb cL_1063 (rw_aload_n (pc' := 1064) (v := .ref 0) rfl rfl rfl ?_)
  refine wl_of hX hb cL_1064 (rw_iload (pc' := 1066) (z := i) rfl rfl ?_)
  refine wl_of hX hb cL_1066 (rw_iconst (pc' := 1067) rfl ?_)
  refine wl_of hX hb cL_1067 (rw_iadd (pc' := 1068) rfl ?_)
  refine wl_of hX hb cL_1068 (xa_I (so := 0) (pc' := 1069) (a := 0) hW g0 (wsh_s _) (by omega) (wty_s _ _) (by omega) (by omega) rfl (fun b2625 b2626 => ?_))
  refine wl_of hX hb cL_1069 (rw_if_eq (p1 := 1076) (p2 := 1072) (by decide) rfl ⟨by omega, by omega⟩ (fun c2627 => ?_) (fun c2627 => ?_))
  · refine wl_of hX hb cL_1076 (rw_iconst (pc' := 1077) rfl ?_)
    refine wl_of hX hb cL_1077 (xc_V (pc' := 1080) (r := x) (as := [vI (H 0 ((i + 1).toNat)), vI 0]) (st := []) (lm_11_139) rfl rfl (Nat.le_of_ble_eq_true rfl) hW gx sh_1 (by decide) rfl (by decide) (s_117 hW gx ⟨by omega, by omega⟩ ⟨by omega, by omega⟩) (fun R2628 T2629 H2630 p2631 => ?_))
    obtain ⟨e2632, w2634, f2635, z2637, e2633, b2638, p2636⟩ := p2631
    subst e2632
    subst e2633
    show WL _ _ _ _ 1080 [(4, vI i), (3, .ref o), (2, .ref m), (1, .ref x), (0, .ref 0)] [vI z2637] _ H2630
    refine wl_of hX hb cL_1080 (rw_pop (pc' := 1081) rfl rfl ?_)
    refine wl_of hX hb cL_1081 (rw_aload_n (pc' := 1082) (v := .ref m) rfl rfl rfl ?_)
    refine wl_of hX hb cL_1082 (rw_aload_n (pc' := 1083) (v := .ref 0) rfl rfl rfl ?_)
    refine wl_of hX hb cL_1083 (rw_iload (pc' := 1085) (z := i) rfl rfl ?_)
    refine wl_of hX hb cL_1085 (rw_iconst (pc' := 1086) rfl ?_)
    refine wl_of hX hb cL_1086 (rw_iadd (pc' := 1087) rfl ?_)
    have k2641 : H2630 0 ((i + 1).toNat) = H 0 ((i + 1).toNat) := (f2635 0 ((i + 1).toNat) _ g0 (wmem_s rfl))
    refine wl_of hX hb cL_1087 (xa_I (so := 0) (pc' := 1088) (a := 0) w2634 g0 (wsh_s _) (by omega) (wty_s _ _) (by omega) (by omega) rfl (fun b2639 b2640 => ?_))
    refine wl_of hX hb cL_1088 (rw_aload_n (pc' := 1089) (v := .ref 0) rfl rfl rfl ?_)
    refine wl_of hX hb cL_1089 (rw_iload (pc' := 1091) (z := i) rfl rfl ?_)
    refine wl_of hX hb cL_1091 (rw_iconst (pc' := 1092) rfl ?_)
    refine wl_of hX hb cL_1092 (rw_iadd (pc' := 1093) rfl ?_)
    have k2644 : H2630 0 ((i + 2).toNat) = H 0 ((i + 2).toNat) := (f2635 0 ((i + 2).toNat) _ g0 (wmem_s rfl))
    refine wl_of hX hb cL_1093 (xa_I (so := 0) (pc' := 1094) (a := 0) w2634 g0 (wsh_s _) (by omega) (wty_s _ _) (by omega) (by omega) rfl (fun b2642 b2643 => ?_))
    refine wl_of hX hb cL_1094 (rw_if_eq (p1 := 1101) (p2 := 1097) (by decide) rfl ⟨by omega, by omega⟩ (fun c2645 => ?_) (fun c2645 => ?_))
    · refine wl_of hX hb cL_1101 (rw_iconst (pc' := 1102) rfl ?_)
      have k2646 : wKI H2630 m = wKI H m := (wKI_fr hW gm f2635 rfl)
      have k2647 : H2630 x 9 = H x 9 := (f2635 x 9 _ gx rfl)
      have k2648 : H2630 m 6 = H m 6 := (f2635 m 6 _ gm rfl)
      have k2649 : H2630 x 11 = H x 11 := (f2635 x 11 _ gx rfl)
      have k2650 : H2630 m 13 = H m 13 := (f2635 m 13 _ gm rfl)
      have k2651 : H2630 x 8 = H x 8 := (f2635 x 8 _ gx rfl)
      have k2652 : H2630 m 3 = H m 3 := (f2635 m 3 _ gm rfl)
      have k2653 : H2630 x 12 = H x 12 := (f2635 x 12 _ gx rfl)
      have k2654 : H2630 m 2 = H m 2 := (f2635 m 2 _ gm rfl)
      refine wl_of hX hb cL_1102 (xc_V (pc' := 1105) (r := m) (as := [vI (H2630 0 ((i + 1).toNat)), vI 0]) (st := []) (lm_11_142) rfl rfl (Nat.le_of_ble_eq_true rfl) w2634 gm sh_42 (by decide) rfl (by decide) (s_263 w2634 gm ⟨by omega, by omega⟩ ⟨by omega, by omega⟩ (by omega)) (fun R2655 T2656 H2657 p2658 => ?_))
      obtain ⟨e2659, w2661, f2662, z2665, e2660, b2666, p2663, p2664⟩ := p2658
      subst e2659
      subst e2660
      show WL _ _ _ _ 1105 [(4, vI i), (3, .ref o), (2, .ref m), (1, .ref x), (0, .ref 0)] [vI z2665] _ H2657
      refine wl_of hX hb cL_1105 (rw_pop (pc' := 1106) rfl rfl ?_)
      refine wl_of hX hb cL_1106 (rw_goto (p1 := 1653) (by decide) ?_)
      have k2667 : H2657 x 9 = H2630 x 9 := (f2662 x 9 _ gx rfl)
      have k2668 : H2657 m 6 = H2630 m 6 := (f2662 m 6 _ gm rfl)
      have k2669 : H2657 x 11 = H2630 x 11 := (f2662 x 11 _ gx rfl)
      have k2670 : H2657 m 13 = H2630 m 13 := (f2662 m 13 _ gm rfl)
      have k2671 : H2657 x 8 = H2630 x 8 := (f2662 x 8 _ gx rfl)
      have k2672 : H2657 m 3 = H2630 m 3 := (f2662 m 3 _ gm rfl)
      have k2673 : H2657 x 10 = H2630 x 10 := (f2662 x 10 _ gx rfl)
      have k2674 : H2657 x 12 = H2630 x 12 := (f2662 x 12 _ gx rfl)
      have h2675 : XI T H2657 x m := (XI_fr w2634 gx f2662 rfl (XI_fr hW gx f2635 rfl hXI))
      exact WL.loc hX (by simp) (next T H2657 ⟨⟨w2661, g0, gx, gm, go, by omega, by omega⟩, h2675, by omega, by omega, by omega⟩ (by omega) (by omega))
    · exfalso
      omega
  · refine wl_of hX hb cL_1072 (rw_iconst (pc' := 1073) rfl ?_)
    refine wl_of hX hb cL_1073 (rw_goto (p1 := 1077) (by decide) ?_)
    refine wl_of hX hb cL_1077 (xc_V (pc' := 1080) (r := x) (as := [vI (H 0 ((i + 1).toNat)), vI 1]) (st := []) (lm_11_139) rfl rfl (Nat.le_of_ble_eq_true rfl) hW gx sh_1 (by decide) rfl (by decide) (s_117 hW gx ⟨by omega, by omega⟩ ⟨by omega, by omega⟩) (fun R2676 T2677 H2678 p2679 => ?_))
    obtain ⟨e2680, w2682, f2683, z2685, e2681, b2686, p2684⟩ := p2679
    subst e2680
    subst e2681
    show WL _ _ _ _ 1080 [(4, vI i), (3, .ref o), (2, .ref m), (1, .ref x), (0, .ref 0)] [vI z2685] _ H2678
    refine wl_of hX hb cL_1080 (rw_pop (pc' := 1081) rfl rfl ?_)
    refine wl_of hX hb cL_1081 (rw_aload_n (pc' := 1082) (v := .ref m) rfl rfl rfl ?_)
    refine wl_of hX hb cL_1082 (rw_aload_n (pc' := 1083) (v := .ref 0) rfl rfl rfl ?_)
    refine wl_of hX hb cL_1083 (rw_iload (pc' := 1085) (z := i) rfl rfl ?_)
    refine wl_of hX hb cL_1085 (rw_iconst (pc' := 1086) rfl ?_)
    refine wl_of hX hb cL_1086 (rw_iadd (pc' := 1087) rfl ?_)
    have k2689 : H2678 0 ((i + 1).toNat) = H 0 ((i + 1).toNat) := (f2683 0 ((i + 1).toNat) _ g0 (wmem_s rfl))
    refine wl_of hX hb cL_1087 (xa_I (so := 0) (pc' := 1088) (a := 0) w2682 g0 (wsh_s _) (by omega) (wty_s _ _) (by omega) (by omega) rfl (fun b2687 b2688 => ?_))
    refine wl_of hX hb cL_1088 (rw_aload_n (pc' := 1089) (v := .ref 0) rfl rfl rfl ?_)
    refine wl_of hX hb cL_1089 (rw_iload (pc' := 1091) (z := i) rfl rfl ?_)
    refine wl_of hX hb cL_1091 (rw_iconst (pc' := 1092) rfl ?_)
    refine wl_of hX hb cL_1092 (rw_iadd (pc' := 1093) rfl ?_)
    have k2692 : H2678 0 ((i + 2).toNat) = H 0 ((i + 2).toNat) := (f2683 0 ((i + 2).toNat) _ g0 (wmem_s rfl))
    refine wl_of hX hb cL_1093 (xa_I (so := 0) (pc' := 1094) (a := 0) w2682 g0 (wsh_s _) (by omega) (wty_s _ _) (by omega) (by omega) rfl (fun b2690 b2691 => ?_))
    refine wl_of hX hb cL_1094 (rw_if_eq (p1 := 1101) (p2 := 1097) (by decide) rfl ⟨by omega, by omega⟩ (fun c2693 => ?_) (fun c2693 => ?_))
    · refine wl_of hX hb cL_1101 (rw_iconst (pc' := 1102) rfl ?_)
      have k2694 : wKI H2678 m = wKI H m := (wKI_fr hW gm f2683 rfl)
      have k2695 : H2678 x 9 = H x 9 := (f2683 x 9 _ gx rfl)
      have k2696 : H2678 m 6 = H m 6 := (f2683 m 6 _ gm rfl)
      have k2697 : H2678 x 11 = H x 11 := (f2683 x 11 _ gx rfl)
      have k2698 : H2678 m 13 = H m 13 := (f2683 m 13 _ gm rfl)
      have k2699 : H2678 x 8 = H x 8 := (f2683 x 8 _ gx rfl)
      have k2700 : H2678 m 3 = H m 3 := (f2683 m 3 _ gm rfl)
      have k2701 : H2678 x 12 = H x 12 := (f2683 x 12 _ gx rfl)
      have k2702 : H2678 m 2 = H m 2 := (f2683 m 2 _ gm rfl)
      refine wl_of hX hb cL_1102 (xc_V (pc' := 1105) (r := m) (as := [vI (H2678 0 ((i + 1).toNat)), vI 0]) (st := []) (lm_11_142) rfl rfl (Nat.le_of_ble_eq_true rfl) w2682 gm sh_42 (by decide) rfl (by decide) (s_263 w2682 gm ⟨by omega, by omega⟩ ⟨by omega, by omega⟩ (by omega)) (fun R2703 T2704 H2705 p2706 => ?_))
      obtain ⟨e2707, w2709, f2710, z2713, e2708, b2714, p2711, p2712⟩ := p2706
      subst e2707
      subst e2708
      show WL _ _ _ _ 1105 [(4, vI i), (3, .ref o), (2, .ref m), (1, .ref x), (0, .ref 0)] [vI z2713] _ H2705
      refine wl_of hX hb cL_1105 (rw_pop (pc' := 1106) rfl rfl ?_)
      refine wl_of hX hb cL_1106 (rw_goto (p1 := 1653) (by decide) ?_)
      have k2715 : H2705 x 9 = H2678 x 9 := (f2710 x 9 _ gx rfl)
      have k2716 : H2705 m 6 = H2678 m 6 := (f2710 m 6 _ gm rfl)
      have k2717 : H2705 x 11 = H2678 x 11 := (f2710 x 11 _ gx rfl)
      have k2718 : H2705 m 13 = H2678 m 13 := (f2710 m 13 _ gm rfl)
      have k2719 : H2705 x 8 = H2678 x 8 := (f2710 x 8 _ gx rfl)
      have k2720 : H2705 m 3 = H2678 m 3 := (f2710 m 3 _ gm rfl)
      have k2721 : H2705 x 10 = H2678 x 10 := (f2710 x 10 _ gx rfl)
      have k2722 : H2705 x 12 = H2678 x 12 := (f2710 x 12 _ gx rfl)
      have h2723 : XI T H2705 x m := (XI_fr w2682 gx f2710 rfl (XI_fr hW gx f2683 rfl hXI))
      exact WL.loc hX (by simp) (next T H2705 ⟨⟨w2709, g0, gx, gm, go, by omega, by omega⟩, h2723, by omega, by omega, by omega⟩ (by omega) (by omega))
    · refine wl_of hX hb cL_1097 (rw_iconst (pc' := 1098) rfl ?_)
      refine wl_of hX hb cL_1098 (rw_goto (p1 := 1102) (by decide) ?_)
      have k2724 : wKI H2678 m = wKI H m := (wKI_fr hW gm f2683 rfl)
      have k2725 : H2678 x 9 = H x 9 := (f2683 x 9 _ gx rfl)
      have k2726 : H2678 m 6 = H m 6 := (f2683 m 6 _ gm rfl)
      have k2727 : H2678 x 11 = H x 11 := (f2683 x 11 _ gx rfl)
      have k2728 : H2678 m 13 = H m 13 := (f2683 m 13 _ gm rfl)
      have k2729 : H2678 x 8 = H x 8 := (f2683 x 8 _ gx rfl)
      have k2730 : H2678 m 3 = H m 3 := (f2683 m 3 _ gm rfl)
      have k2731 : H2678 x 12 = H x 12 := (f2683 x 12 _ gx rfl)
      have k2732 : H2678 m 2 = H m 2 := (f2683 m 2 _ gm rfl)
      refine wl_of hX hb cL_1102 (xc_V (pc' := 1105) (r := m) (as := [vI (H2678 0 ((i + 1).toNat)), vI 1]) (st := []) (lm_11_142) rfl rfl (Nat.le_of_ble_eq_true rfl) w2682 gm sh_42 (by decide) rfl (by decide) (s_263 w2682 gm ⟨by omega, by omega⟩ ⟨by omega, by omega⟩ (by omega)) (fun R2733 T2734 H2735 p2736 => ?_))
      obtain ⟨e2737, w2739, f2740, z2743, e2738, b2744, p2741, p2742⟩ := p2736
      subst e2737
      subst e2738
      show WL _ _ _ _ 1105 [(4, vI i), (3, .ref o), (2, .ref m), (1, .ref x), (0, .ref 0)] [vI z2743] _ H2735
      refine wl_of hX hb cL_1105 (rw_pop (pc' := 1106) rfl rfl ?_)
      refine wl_of hX hb cL_1106 (rw_goto (p1 := 1653) (by decide) ?_)
      have k2745 : H2735 x 9 = H2678 x 9 := (f2740 x 9 _ gx rfl)
      have k2746 : H2735 m 6 = H2678 m 6 := (f2740 m 6 _ gm rfl)
      have k2747 : H2735 x 11 = H2678 x 11 := (f2740 x 11 _ gx rfl)
      have k2748 : H2735 m 13 = H2678 m 13 := (f2740 m 13 _ gm rfl)
      have k2749 : H2735 x 8 = H2678 x 8 := (f2740 x 8 _ gx rfl)
      have k2750 : H2735 m 3 = H2678 m 3 := (f2740 m 3 _ gm rfl)
      have k2751 : H2735 x 10 = H2678 x 10 := (f2740 x 10 _ gx rfl)
      have k2752 : H2735 x 12 = H2678 x 12 := (f2740 x 12 _ gx rfl)
      have h2753 : XI T H2735 x m := (XI_fr w2682 gx f2740 rfl (XI_fr hW gx f2683 rfl hXI))
      exact WL.loc hX (by simp) (next T H2735 ⟨⟨w2739, g0, gx, gm, go, by omega, by omega⟩, h2753, by omega, by omega, by omega⟩ (by omega) (by omega))
set_option maxHeartbeats 4000000 in
theorem wl_c29 {kt : Nat → Option mc_E} {CB SB : Nat} {X : mc_S → Prop} {T : wq_T} {H : wq_H} {Len x m o : Nat} {i : Int} (hX : wlX kt CB SB X) (hb : T.2.1 ≤ CB ∧ T.2.2.1 ≤ SB) (hI : wlJ Len x m o T H) (hL : Len ≤ 3072) (hi : 0 ≤ i ∧ i + 6 ≤ Len) (hb2 : T.2.1 + 20 ≤ CB ∧ T.2.2.1 + 500 ≤ SB)  (next : ∀ T' H', wlJ Len x m o T' H' → T'.2.1 ≤ T.2.1 + 20 → T'.2.2.1 ≤ T.2.2.1 + 500 → WL kt CB SB X 1653 (wlL i x m o) [] T' H') : WL kt CB SB X 1109 (wlL i x m o) [] T H := by
  obtain ⟨⟨hW, g0, gx, gm, go, hK, hr⟩, hXI, hY1, hY2, hY3⟩ := hI
  refine wl_of hX hb cL_1109 (rw_aload_n (pc' := 1110) (v := .ref x) rfl rfl rfl ?_)
  refine wl_of hX hb cL_1110 (rw_aload_n (pc' := 1111) (v := .ref 0) rfl rfl rfl ?_)
  refine wl_of hX hb cL_1111 (rw_iload (pc' := 1113) (z := i) rfl rfl ?_)
  refine wl_of hX hb cL_1113 (rw_iconst (pc' := 1114) rfl ?_)
  refine wl_of hX hb cL_1114 (rw_iadd (pc' := 1115) rfl ?_)
  refine wl_of hX hb cL_1115 (xa_I (so := 0) (pc' := 1116) (a := 0) hW g0 (wsh_s _) (by omega) (wty_s _ _) (by omega) (by omega) rfl (fun b2754 b2755 => ?_))
  refine wl_of hX hb cL_1116 (rw_aload_n (pc' := 1117) (v := .ref 0) rfl rfl rfl ?_)
  refine wl_of hX hb cL_1117 (rw_iload (pc' := 1119) (z := i) rfl rfl ?_)
  refine wl_of hX hb cL_1119 (rw_iconst (pc' := 1120) rfl ?_)
  refine wl_of hX hb cL_1120 (rw_iadd (pc' := 1121) rfl ?_)
  refine wl_of hX hb cL_1121 (xa_I (so := 0) (pc' := 1122) (a := 0) hW g0 (wsh_s _) (by omega) (wty_s _ _) (by omega) (by omega) rfl (fun b2756 b2757 => ?_))
  refine wl_of hX hb cL_1122 (rw_if_eq (p1 := 1129) (p2 := 1125) (by decide) rfl ⟨by omega, by omega⟩ (fun c2758 => ?_) (fun c2758 => ?_))
  · refine wl_of hX hb cL_1129 (rw_iconst (pc' := 1130) rfl ?_)
    refine wl_of hX hb cL_1130 (xc_V (pc' := 1133) (r := x) (as := [vI (H 0 ((i + 1).toNat)), vI 0]) (st := []) (lm_11_143) rfl rfl (Nat.le_of_ble_eq_true rfl) hW gx sh_1 (by decide) rfl (by decide) (s_119 hW gx ⟨by omega, by omega⟩ ⟨by omega, by omega⟩) (fun R2759 T2760 H2761 p2762 => ?_))
    obtain ⟨e2763, w2765, f2766, z2768, e2764, b2769, p2767⟩ := p2762
    subst e2763
    subst e2764
    show WL _ _ _ _ 1133 [(4, vI i), (3, .ref o), (2, .ref m), (1, .ref x), (0, .ref 0)] [vI z2768] _ H2761
    refine wl_of hX hb cL_1133 (rw_pop (pc' := 1134) rfl rfl ?_)
    refine wl_of hX hb cL_1134 (rw_aload_n (pc' := 1135) (v := .ref m) rfl rfl rfl ?_)
    refine wl_of hX hb cL_1135 (rw_aload_n (pc' := 1136) (v := .ref 0) rfl rfl rfl ?_)
    refine wl_of hX hb cL_1136 (rw_iload (pc' := 1138) (z := i) rfl rfl ?_)
    refine wl_of hX hb cL_1138 (rw_iconst (pc' := 1139) rfl ?_)
    refine wl_of hX hb cL_1139 (rw_iadd (pc' := 1140) rfl ?_)
    have k2772 : H2761 0 ((i + 1).toNat) = H 0 ((i + 1).toNat) := (f2766 0 ((i + 1).toNat) _ g0 (wmem_s rfl))
    refine wl_of hX hb cL_1140 (xa_I (so := 0) (pc' := 1141) (a := 0) w2765 g0 (wsh_s _) (by omega) (wty_s _ _) (by omega) (by omega) rfl (fun b2770 b2771 => ?_))
    refine wl_of hX hb cL_1141 (rw_aload_n (pc' := 1142) (v := .ref 0) rfl rfl rfl ?_)
    refine wl_of hX hb cL_1142 (rw_iload (pc' := 1144) (z := i) rfl rfl ?_)
    refine wl_of hX hb cL_1144 (rw_iconst (pc' := 1145) rfl ?_)
    refine wl_of hX hb cL_1145 (rw_iadd (pc' := 1146) rfl ?_)
    have k2775 : H2761 0 ((i + 2).toNat) = H 0 ((i + 2).toNat) := (f2766 0 ((i + 2).toNat) _ g0 (wmem_s rfl))
    refine wl_of hX hb cL_1146 (xa_I (so := 0) (pc' := 1147) (a := 0) w2765 g0 (wsh_s _) (by omega) (wty_s _ _) (by omega) (by omega) rfl (fun b2773 b2774 => ?_))
    refine wl_of hX hb cL_1147 (rw_if_eq (p1 := 1154) (p2 := 1150) (by decide) rfl ⟨by omega, by omega⟩ (fun c2776 => ?_) (fun c2776 => ?_))
    · refine wl_of hX hb cL_1154 (rw_iconst (pc' := 1155) rfl ?_)
      have k2777 : wKI H2761 m = wKI H m := (wKI_fr hW gm f2766 rfl)
      have k2778 : H2761 x 9 = H x 9 := (f2766 x 9 _ gx rfl)
      have k2779 : H2761 m 6 = H m 6 := (f2766 m 6 _ gm rfl)
      have k2780 : H2761 x 11 = H x 11 := (f2766 x 11 _ gx rfl)
      have k2781 : H2761 m 13 = H m 13 := (f2766 m 13 _ gm rfl)
      have k2782 : H2761 x 8 = H x 8 := (f2766 x 8 _ gx rfl)
      have k2783 : H2761 m 3 = H m 3 := (f2766 m 3 _ gm rfl)
      have k2784 : H2761 x 12 = H x 12 := (f2766 x 12 _ gx rfl)
      have k2785 : H2761 m 2 = H m 2 := (f2766 m 2 _ gm rfl)
      refine wl_of hX hb cL_1155 (xc_V (pc' := 1158) (r := m) (as := [vI (H2761 0 ((i + 1).toNat)), vI 0]) (st := []) (lm_11_146) rfl rfl (Nat.le_of_ble_eq_true rfl) w2765 gm sh_42 (by decide) rfl (by decide) (s_265 w2765 gm ⟨by omega, by omega⟩ ⟨by omega, by omega⟩ (by omega)) (fun R2786 T2787 H2788 p2789 => ?_))
      obtain ⟨e2790, w2792, f2793, z2796, e2791, b2797, p2794, p2795⟩ := p2789
      subst e2790
      subst e2791
      show WL _ _ _ _ 1158 [(4, vI i), (3, .ref o), (2, .ref m), (1, .ref x), (0, .ref 0)] [vI z2796] _ H2788
      refine wl_of hX hb cL_1158 (rw_pop (pc' := 1159) rfl rfl ?_)
      refine wl_of hX hb cL_1159 (rw_goto (p1 := 1653) (by decide) ?_)
      have k2798 : H2788 x 9 = H2761 x 9 := (f2793 x 9 _ gx rfl)
      have k2799 : H2788 m 6 = H2761 m 6 := (f2793 m 6 _ gm rfl)
      have k2800 : H2788 x 11 = H2761 x 11 := (f2793 x 11 _ gx rfl)
      have k2801 : H2788 m 13 = H2761 m 13 := (f2793 m 13 _ gm rfl)
      have k2802 : H2788 x 8 = H2761 x 8 := (f2793 x 8 _ gx rfl)
      have k2803 : H2788 m 3 = H2761 m 3 := (f2793 m 3 _ gm rfl)
      have k2804 : H2788 x 10 = H2761 x 10 := (f2793 x 10 _ gx rfl)
      have k2805 : H2788 x 12 = H2761 x 12 := (f2793 x 12 _ gx rfl)
      have h2806 : XI T H2788 x m := (XI_fr w2765 gx f2793 rfl (XI_fr hW gx f2766 rfl hXI))
      exact WL.loc hX (by simp) (next T H2788 ⟨⟨w2792, g0, gx, gm, go, by omega, by omega⟩, h2806, by omega, by omega, by omega⟩ (by omega) (by omega))
    · exfalso
      omega
  · refine wl_of hX hb cL_1125 (rw_iconst (pc' := 1126) rfl ?_)
    refine wl_of hX hb cL_1126 (rw_goto (p1 := 1130) (by decide) ?_)
    refine wl_of hX hb cL_1130 (xc_V (pc' := 1133) (r := x) (as := [vI (H 0 ((i + 1).toNat)), vI 1]) (st := []) (lm_11_143) rfl rfl (Nat.le_of_ble_eq_true rfl) hW gx sh_1 (by decide) rfl (by decide) (s_119 hW gx ⟨by omega, by omega⟩ ⟨by omega, by omega⟩) (fun R2807 T2808 H2809 p2810 => ?_))
    obtain ⟨e2811, w2813, f2814, z2816, e2812, b2817, p2815⟩ := p2810
    subst e2811
    subst e2812
    show WL _ _ _ _ 1133 [(4, vI i), (3, .ref o), (2, .ref m), (1, .ref x), (0, .ref 0)] [vI z2816] _ H2809
    refine wl_of hX hb cL_1133 (rw_pop (pc' := 1134) rfl rfl ?_)
    refine wl_of hX hb cL_1134 (rw_aload_n (pc' := 1135) (v := .ref m) rfl rfl rfl ?_)
    refine wl_of hX hb cL_1135 (rw_aload_n (pc' := 1136) (v := .ref 0) rfl rfl rfl ?_)
    refine wl_of hX hb cL_1136 (rw_iload (pc' := 1138) (z := i) rfl rfl ?_)
    refine wl_of hX hb cL_1138 (rw_iconst (pc' := 1139) rfl ?_)
    refine wl_of hX hb cL_1139 (rw_iadd (pc' := 1140) rfl ?_)
    have k2820 : H2809 0 ((i + 1).toNat) = H 0 ((i + 1).toNat) := (f2814 0 ((i + 1).toNat) _ g0 (wmem_s rfl))
    refine wl_of hX hb cL_1140 (xa_I (so := 0) (pc' := 1141) (a := 0) w2813 g0 (wsh_s _) (by omega) (wty_s _ _) (by omega) (by omega) rfl (fun b2818 b2819 => ?_))
    refine wl_of hX hb cL_1141 (rw_aload_n (pc' := 1142) (v := .ref 0) rfl rfl rfl ?_)
    refine wl_of hX hb cL_1142 (rw_iload (pc' := 1144) (z := i) rfl rfl ?_)
    refine wl_of hX hb cL_1144 (rw_iconst (pc' := 1145) rfl ?_)
    refine wl_of hX hb cL_1145 (rw_iadd (pc' := 1146) rfl ?_)
    have k2823 : H2809 0 ((i + 2).toNat) = H 0 ((i + 2).toNat) := (f2814 0 ((i + 2).toNat) _ g0 (wmem_s rfl))
    refine wl_of hX hb cL_1146 (xa_I (so := 0) (pc' := 1147) (a := 0) w2813 g0 (wsh_s _) (by omega) (wty_s _ _) (by omega) (by omega) rfl (fun b2821 b2822 => ?_))
    refine wl_of hX hb cL_1147 (rw_if_eq (p1 := 1154) (p2 := 1150) (by decide) rfl ⟨by omega, by omega⟩ (fun c2824 => ?_) (fun c2824 => ?_))
    · refine wl_of hX hb cL_1154 (rw_iconst (pc' := 1155) rfl ?_)
      have k2825 : wKI H2809 m = wKI H m := (wKI_fr hW gm f2814 rfl)
      have k2826 : H2809 x 9 = H x 9 := (f2814 x 9 _ gx rfl)
      have k2827 : H2809 m 6 = H m 6 := (f2814 m 6 _ gm rfl)
      have k2828 : H2809 x 11 = H x 11 := (f2814 x 11 _ gx rfl)
      have k2829 : H2809 m 13 = H m 13 := (f2814 m 13 _ gm rfl)
      have k2830 : H2809 x 8 = H x 8 := (f2814 x 8 _ gx rfl)
      have k2831 : H2809 m 3 = H m 3 := (f2814 m 3 _ gm rfl)
      have k2832 : H2809 x 12 = H x 12 := (f2814 x 12 _ gx rfl)
      have k2833 : H2809 m 2 = H m 2 := (f2814 m 2 _ gm rfl)
      refine wl_of hX hb cL_1155 (xc_V (pc' := 1158) (r := m) (as := [vI (H2809 0 ((i + 1).toNat)), vI 0]) (st := []) (lm_11_146) rfl rfl (Nat.le_of_ble_eq_true rfl) w2813 gm sh_42 (by decide) rfl (by decide) (s_265 w2813 gm ⟨by omega, by omega⟩ ⟨by omega, by omega⟩ (by omega)) (fun R2834 T2835 H2836 p2837 => ?_))
      obtain ⟨e2838, w2840, f2841, z2844, e2839, b2845, p2842, p2843⟩ := p2837
      subst e2838
      subst e2839
      show WL _ _ _ _ 1158 [(4, vI i), (3, .ref o), (2, .ref m), (1, .ref x), (0, .ref 0)] [vI z2844] _ H2836
      refine wl_of hX hb cL_1158 (rw_pop (pc' := 1159) rfl rfl ?_)
      refine wl_of hX hb cL_1159 (rw_goto (p1 := 1653) (by decide) ?_)
      have k2846 : H2836 x 9 = H2809 x 9 := (f2841 x 9 _ gx rfl)
      have k2847 : H2836 m 6 = H2809 m 6 := (f2841 m 6 _ gm rfl)
      have k2848 : H2836 x 11 = H2809 x 11 := (f2841 x 11 _ gx rfl)
      have k2849 : H2836 m 13 = H2809 m 13 := (f2841 m 13 _ gm rfl)
      have k2850 : H2836 x 8 = H2809 x 8 := (f2841 x 8 _ gx rfl)
      have k2851 : H2836 m 3 = H2809 m 3 := (f2841 m 3 _ gm rfl)
      have k2852 : H2836 x 10 = H2809 x 10 := (f2841 x 10 _ gx rfl)
      have k2853 : H2836 x 12 = H2809 x 12 := (f2841 x 12 _ gx rfl)
      have h2854 : XI T H2836 x m := (XI_fr w2813 gx f2841 rfl (XI_fr hW gx f2814 rfl hXI))
      exact WL.loc hX (by simp) (next T H2836 ⟨⟨w2840, g0, gx, gm, go, by omega, by omega⟩, h2854, by omega, by omega, by omega⟩ (by omega) (by omega))
    · refine wl_of hX hb cL_1150 (rw_iconst (pc' := 1151) rfl ?_)
      refine wl_of hX hb cL_1151 (rw_goto (p1 := 1155) (by decide) ?_)
      have k2855 : wKI H2809 m = wKI H m := (wKI_fr hW gm f2814 rfl)
      have k2856 : H2809 x 9 = H x 9 := (f2814 x 9 _ gx rfl)
      have k2857 : H2809 m 6 = H m 6 := (f2814 m 6 _ gm rfl)
      have k2858 : H2809 x 11 = H x 11 := (f2814 x 11 _ gx rfl)
      have k2859 : H2809 m 13 = H m 13 := (f2814 m 13 _ gm rfl)
      have k2860 : H2809 x 8 = H x 8 := (f2814 x 8 _ gx rfl)
      have k2861 : H2809 m 3 = H m 3 := (f2814 m 3 _ gm rfl)
      have k2862 : H2809 x 12 = H x 12 := (f2814 x 12 _ gx rfl)
      have k2863 : H2809 m 2 = H m 2 := (f2814 m 2 _ gm rfl)
      refine wl_of hX hb cL_1155 (xc_V (pc' := 1158) (r := m) (as := [vI (H2809 0 ((i + 1).toNat)), vI 1]) (st := []) (lm_11_146) rfl rfl (Nat.le_of_ble_eq_true rfl) w2813 gm sh_42 (by decide) rfl (by decide) (s_265 w2813 gm ⟨by omega, by omega⟩ ⟨by omega, by omega⟩ (by omega)) (fun R2864 T2865 H2866 p2867 => ?_))
      obtain ⟨e2868, w2870, f2871, z2874, e2869, b2875, p2872, p2873⟩ := p2867
      subst e2868
      subst e2869
      show WL _ _ _ _ 1158 [(4, vI i), (3, .ref o), (2, .ref m), (1, .ref x), (0, .ref 0)] [vI z2874] _ H2866
      refine wl_of hX hb cL_1158 (rw_pop (pc' := 1159) rfl rfl ?_)
      refine wl_of hX hb cL_1159 (rw_goto (p1 := 1653) (by decide) ?_)
      have k2876 : H2866 x 9 = H2809 x 9 := (f2871 x 9 _ gx rfl)
      have k2877 : H2866 m 6 = H2809 m 6 := (f2871 m 6 _ gm rfl)
      have k2878 : H2866 x 11 = H2809 x 11 := (f2871 x 11 _ gx rfl)
      have k2879 : H2866 m 13 = H2809 m 13 := (f2871 m 13 _ gm rfl)
      have k2880 : H2866 x 8 = H2809 x 8 := (f2871 x 8 _ gx rfl)
      have k2881 : H2866 m 3 = H2809 m 3 := (f2871 m 3 _ gm rfl)
      have k2882 : H2866 x 10 = H2809 x 10 := (f2871 x 10 _ gx rfl)
      have k2883 : H2866 x 12 = H2809 x 12 := (f2871 x 12 _ gx rfl)
      have h2884 : XI T H2866 x m := (XI_fr w2813 gx f2871 rfl (XI_fr hW gx f2814 rfl hXI))
      exact WL.loc hX (by simp) (next T H2866 ⟨⟨w2870, g0, gx, gm, go, by omega, by omega⟩, h2884, by omega, by omega, by omega⟩ (by omega) (by omega))
set_option maxHeartbeats 4000000 in
theorem wl_c30 {kt : Nat → Option mc_E} {CB SB : Nat} {X : mc_S → Prop} {T : wq_T} {H : wq_H} {Len x m o : Nat} {i : Int} (hX : wlX kt CB SB X) (hb : T.2.1 ≤ CB ∧ T.2.2.1 ≤ SB) (hI : wlJ Len x m o T H) (hL : Len ≤ 3072) (hi : 0 ≤ i ∧ i + 6 ≤ Len) (hb2 : T.2.1 + 20 ≤ CB ∧ T.2.2.1 + 500 ≤ SB)  (next : ∀ T' H', wlJ Len x m o T' H' → T'.2.1 ≤ T.2.1 + 20 → T'.2.2.1 ≤ T.2.2.1 + 500 → WL kt CB SB X 1653 (wlL i x m o) [] T' H') : WL kt CB SB X 1162 (wlL i x m o) [] T H := by
  obtain ⟨⟨hW, g0, gx, gm, go, hK, hr⟩, hXI, hY1, hY2, hY3⟩ := hI
  refine wl_of hX hb cL_1162 (rw_aload_n (pc' := 1163) (v := .ref x) rfl rfl rfl ?_)
  refine wl_of hX hb cL_1163 (xc_V (pc' := 1166) (r := x) (as := []) (st := []) (lm_11_147) rfl rfl (Nat.le_of_ble_eq_true rfl) hW gx sh_1 (by decide) rfl (by decide) (s_120 hW gx) (fun R2885 T2886 H2887 p2888 => ?_))
  obtain ⟨e2889, w2891, f2892, z2894, e2890, b2895, p2893⟩ := p2888
  subst e2889
  subst e2890
  show WL _ _ _ _ 1166 [(4, vI i), (3, .ref o), (2, .ref m), (1, .ref x), (0, .ref 0)] [vI z2894] _ H2887
  refine wl_of hX hb cL_1166 (rw_pop (pc' := 1167) rfl rfl ?_)
  refine wl_of hX hb cL_1167 (rw_aload_n (pc' := 1168) (v := .ref m) rfl rfl rfl ?_)
  have k2896 : wKI H2887 m = wKI H m := (wKI_fr hW gm f2892 rfl)
  have k2897 : H2887 x 9 = H x 9 := (f2892 x 9 _ gx rfl)
  have k2898 : H2887 m 6 = H m 6 := (f2892 m 6 _ gm rfl)
  have k2899 : H2887 x 11 = H x 11 := (f2892 x 11 _ gx rfl)
  have k2900 : H2887 m 13 = H m 13 := (f2892 m 13 _ gm rfl)
  have k2901 : H2887 x 8 = H x 8 := (f2892 x 8 _ gx rfl)
  have k2902 : H2887 m 3 = H m 3 := (f2892 m 3 _ gm rfl)
  have k2903 : H2887 x 12 = H x 12 := (f2892 x 12 _ gx rfl)
  have k2904 : H2887 m 2 = H m 2 := (f2892 m 2 _ gm rfl)
  refine wl_of hX hb cL_1168 (xc_V (pc' := 1171) (r := m) (as := []) (st := []) (lm_11_150) rfl rfl (Nat.le_of_ble_eq_true rfl) w2891 gm sh_42 (by decide) rfl (by decide) (s_266 w2891 gm (by omega)) (fun R2905 T2906 H2907 p2908 => ?_))
  obtain ⟨e2909, w2911, f2912, z2915, e2910, b2916, p2913, p2914⟩ := p2908
  subst e2909
  subst e2910
  show WL _ _ _ _ 1171 [(4, vI i), (3, .ref o), (2, .ref m), (1, .ref x), (0, .ref 0)] [vI z2915] _ H2907
  refine wl_of hX hb cL_1171 (rw_pop (pc' := 1172) rfl rfl ?_)
  refine wl_of hX hb cL_1172 (rw_goto (p1 := 1653) (by decide) ?_)
  have k2917 : H2907 x 9 = H2887 x 9 := (f2912 x 9 _ gx rfl)
  have k2918 : H2907 m 6 = H2887 m 6 := (f2912 m 6 _ gm rfl)
  have k2919 : H2907 x 11 = H2887 x 11 := (f2912 x 11 _ gx rfl)
  have k2920 : H2907 m 13 = H2887 m 13 := (f2912 m 13 _ gm rfl)
  have k2921 : H2907 x 8 = H2887 x 8 := (f2912 x 8 _ gx rfl)
  have k2922 : H2907 m 3 = H2887 m 3 := (f2912 m 3 _ gm rfl)
  have k2923 : H2907 x 10 = H2887 x 10 := (f2912 x 10 _ gx rfl)
  have k2924 : H2907 x 12 = H2887 x 12 := (f2912 x 12 _ gx rfl)
  have h2925 : XI T H2907 x m := (XI_fr w2891 gx f2912 rfl (XI_fr hW gx f2892 rfl hXI))
  exact WL.loc hX (by simp) (next T H2907 ⟨⟨w2911, g0, gx, gm, go, by omega, by omega⟩, h2925, by omega, by omega, by omega⟩ (by omega) (by omega))
set_option maxHeartbeats 4000000 in
theorem wl_c31 {kt : Nat → Option mc_E} {CB SB : Nat} {X : mc_S → Prop} {T : wq_T} {H : wq_H} {Len x m o : Nat} {i : Int} (hX : wlX kt CB SB X) (hb : T.2.1 ≤ CB ∧ T.2.2.1 ≤ SB) (hI : wlJ Len x m o T H) (hL : Len ≤ 3072) (hi : 0 ≤ i ∧ i + 6 ≤ Len) (hb2 : T.2.1 + 20 ≤ CB ∧ T.2.2.1 + 500 ≤ SB)  (next : ∀ T' H', wlJ Len x m o T' H' → T'.2.1 ≤ T.2.1 + 20 → T'.2.2.1 ≤ T.2.2.1 + 500 → WL kt CB SB X 1653 (wlL i x m o) [] T' H') : WL kt CB SB X 1175 (wlL i x m o) [] T H := by
  obtain ⟨⟨hW, g0, gx, gm, go, hK, hr⟩, hXI, hY1, hY2, hY3⟩ := hI
  refine wl_of hX hb cL_1175 (rw_aload_n (pc' := 1176) (v := .ref x) rfl rfl rfl ?_)
  refine wl_of hX hb cL_1176 (rw_aload_n (pc' := 1177) (v := .ref 0) rfl rfl rfl ?_)
  refine wl_of hX hb cL_1177 (rw_iload (pc' := 1179) (z := i) rfl rfl ?_)
  refine wl_of hX hb cL_1179 (rw_iconst (pc' := 1180) rfl ?_)
  refine wl_of hX hb cL_1180 (rw_iadd (pc' := 1181) rfl ?_)
  refine wl_of hX hb cL_1181 (xa_I (so := 0) (pc' := 1182) (a := 0) hW g0 (wsh_s _) (by omega) (wty_s _ _) (by omega) (by omega) rfl (fun b2926 b2927 => ?_))
  refine wl_of hX hb cL_1182 (xc_V (pc' := 1185) (r := x) (as := [vI (H 0 ((i + 1).toNat))]) (st := []) (lm_11_151) rfl rfl (Nat.le_of_ble_eq_true rfl) hW gx sh_1 (by decide) rfl (by decide) (s_130 hW gx ⟨by omega, by omega⟩) (fun R2928 T2929 H2930 p2931 => ?_))
  obtain ⟨e2932, w2934, f2935, z2937, e2933, b2938, p2936⟩ := p2931
  subst e2932
  subst e2933
  show WL _ _ _ _ 1185 [(4, vI i), (3, .ref o), (2, .ref m), (1, .ref x), (0, .ref 0)] [vI z2937] _ H2930
  refine wl_of hX hb cL_1185 (rw_pop (pc' := 1186) rfl rfl ?_)
  refine wl_of hX hb cL_1186 (rw_aload_n (pc' := 1187) (v := .ref m) rfl rfl rfl ?_)
  refine wl_of hX hb cL_1187 (rw_aload_n (pc' := 1188) (v := .ref 0) rfl rfl rfl ?_)
  refine wl_of hX hb cL_1188 (rw_iload (pc' := 1190) (z := i) rfl rfl ?_)
  refine wl_of hX hb cL_1190 (rw_iconst (pc' := 1191) rfl ?_)
  refine wl_of hX hb cL_1191 (rw_iadd (pc' := 1192) rfl ?_)
  have k2941 : H2930 0 ((i + 1).toNat) = H 0 ((i + 1).toNat) := (f2935 0 ((i + 1).toNat) _ g0 (wmem_s rfl))
  refine wl_of hX hb cL_1192 (xa_I (so := 0) (pc' := 1193) (a := 0) w2934 g0 (wsh_s _) (by omega) (wty_s _ _) (by omega) (by omega) rfl (fun b2939 b2940 => ?_))
  have k2942 : wKI H2930 m = wKI H m := (wKI_fr hW gm f2935 rfl)
  have k2943 : H2930 x 9 = H x 9 := (f2935 x 9 _ gx rfl)
  have k2944 : H2930 m 6 = H m 6 := (f2935 m 6 _ gm rfl)
  have k2945 : H2930 x 11 = H x 11 := (f2935 x 11 _ gx rfl)
  have k2946 : H2930 m 13 = H m 13 := (f2935 m 13 _ gm rfl)
  have k2947 : H2930 x 8 = H x 8 := (f2935 x 8 _ gx rfl)
  have k2948 : H2930 m 3 = H m 3 := (f2935 m 3 _ gm rfl)
  have k2949 : H2930 x 12 = H x 12 := (f2935 x 12 _ gx rfl)
  have k2950 : H2930 m 2 = H m 2 := (f2935 m 2 _ gm rfl)
  refine wl_of hX hb cL_1193 (xc_V (pc' := 1196) (r := m) (as := [vI (H2930 0 ((i + 1).toNat))]) (st := []) (lm_11_154) rfl rfl (Nat.le_of_ble_eq_true rfl) w2934 gm sh_42 (by decide) rfl (by decide) (s_271 w2934 gm ⟨by omega, by omega⟩ (by omega)) (fun R2951 T2952 H2953 p2954 => ?_))
  obtain ⟨e2955, w2957, f2958, z2961, e2956, b2962, p2959, p2960⟩ := p2954
  subst e2955
  subst e2956
  show WL _ _ _ _ 1196 [(4, vI i), (3, .ref o), (2, .ref m), (1, .ref x), (0, .ref 0)] [vI z2961] _ H2953
  refine wl_of hX hb cL_1196 (rw_pop (pc' := 1197) rfl rfl ?_)
  refine wl_of hX hb cL_1197 (rw_goto (p1 := 1653) (by decide) ?_)
  have k2963 : H2953 x 9 = H2930 x 9 := (f2958 x 9 _ gx rfl)
  have k2964 : H2953 m 6 = H2930 m 6 := (f2958 m 6 _ gm rfl)
  have k2965 : H2953 x 11 = H2930 x 11 := (f2958 x 11 _ gx rfl)
  have k2966 : H2953 m 13 = H2930 m 13 := (f2958 m 13 _ gm rfl)
  have k2967 : H2953 x 8 = H2930 x 8 := (f2958 x 8 _ gx rfl)
  have k2968 : H2953 m 3 = H2930 m 3 := (f2958 m 3 _ gm rfl)
  have k2969 : H2953 x 10 = H2930 x 10 := (f2958 x 10 _ gx rfl)
  have k2970 : H2953 x 12 = H2930 x 12 := (f2958 x 12 _ gx rfl)
  have h2971 : XI T H2953 x m := (XI_fr w2934 gx f2958 rfl (XI_fr hW gx f2935 rfl hXI))
  exact WL.loc hX (by simp) (next T H2953 ⟨⟨w2957, g0, gx, gm, go, by omega, by omega⟩, h2971, by omega, by omega, by omega⟩ (by omega) (by omega))
set_option maxHeartbeats 4000000 in
theorem wl_c32 {kt : Nat → Option mc_E} {CB SB : Nat} {X : mc_S → Prop} {T : wq_T} {H : wq_H} {Len x m o : Nat} {i : Int} (hX : wlX kt CB SB X) (hb : T.2.1 ≤ CB ∧ T.2.2.1 ≤ SB) (hI : wlJ Len x m o T H) (hL : Len ≤ 3072) (hi : 0 ≤ i ∧ i + 6 ≤ Len) (hb2 : T.2.1 + 20 ≤ CB ∧ T.2.2.1 + 500 ≤ SB)  (next : ∀ T' H', wlJ Len x m o T' H' → T'.2.1 ≤ T.2.1 + 20 → T'.2.2.1 ≤ T.2.2.1 + 500 → WL kt CB SB X 1653 (wlL i x m o) [] T' H') : WL kt CB SB X 1200 (wlL i x m o) [] T H := by
  obtain ⟨⟨hW, g0, gx, gm, go, hK, hr⟩, hXI, hY1, hY2, hY3⟩ := hI
  refine wl_of hX hb cL_1200 (rw_aload_n (pc' := 1201) (v := .ref x) rfl rfl rfl ?_)
  refine wl_of hX hb cL_1201 (rw_aload_n (pc' := 1202) (v := .ref 0) rfl rfl rfl ?_)
  refine wl_of hX hb cL_1202 (rw_iload (pc' := 1204) (z := i) rfl rfl ?_)
  refine wl_of hX hb cL_1204 (rw_iconst (pc' := 1205) rfl ?_)
  refine wl_of hX hb cL_1205 (rw_iadd (pc' := 1206) rfl ?_)
  refine wl_of hX hb cL_1206 (xa_I (so := 0) (pc' := 1207) (a := 0) hW g0 (wsh_s _) (by omega) (wty_s _ _) (by omega) (by omega) rfl (fun b2972 b2973 => ?_))
  refine wl_of hX hb cL_1207 (xc_V (pc' := 1210) (r := x) (as := [vI (H 0 ((i + 1).toNat))]) (st := []) (lm_11_155) rfl rfl (Nat.le_of_ble_eq_true rfl) hW gx sh_1 (by decide) rfl (by decide) (s_132 hW gx ⟨by omega, by omega⟩) (fun R2974 T2975 H2976 p2977 => ?_))
  obtain ⟨e2978, w2980, f2981, z2983, e2979, b2984, p2982⟩ := p2977
  subst e2978
  subst e2979
  show WL _ _ _ _ 1210 [(4, vI i), (3, .ref o), (2, .ref m), (1, .ref x), (0, .ref 0)] [vI z2983] _ H2976
  refine wl_of hX hb cL_1210 (rw_pop (pc' := 1211) rfl rfl ?_)
  refine wl_of hX hb cL_1211 (rw_aload_n (pc' := 1212) (v := .ref m) rfl rfl rfl ?_)
  refine wl_of hX hb cL_1212 (rw_aload_n (pc' := 1213) (v := .ref 0) rfl rfl rfl ?_)
  refine wl_of hX hb cL_1213 (rw_iload (pc' := 1215) (z := i) rfl rfl ?_)
  refine wl_of hX hb cL_1215 (rw_iconst (pc' := 1216) rfl ?_)
  refine wl_of hX hb cL_1216 (rw_iadd (pc' := 1217) rfl ?_)
  have k2987 : H2976 0 ((i + 1).toNat) = H 0 ((i + 1).toNat) := (f2981 0 ((i + 1).toNat) _ g0 (wmem_s rfl))
  refine wl_of hX hb cL_1217 (xa_I (so := 0) (pc' := 1218) (a := 0) w2980 g0 (wsh_s _) (by omega) (wty_s _ _) (by omega) (by omega) rfl (fun b2985 b2986 => ?_))
  have k2988 : wKI H2976 m = wKI H m := (wKI_fr hW gm f2981 rfl)
  have k2989 : H2976 x 9 = H x 9 := (f2981 x 9 _ gx rfl)
  have k2990 : H2976 m 6 = H m 6 := (f2981 m 6 _ gm rfl)
  have k2991 : H2976 x 11 = H x 11 := (f2981 x 11 _ gx rfl)
  have k2992 : H2976 m 13 = H m 13 := (f2981 m 13 _ gm rfl)
  have k2993 : H2976 x 8 = H x 8 := (f2981 x 8 _ gx rfl)
  have k2994 : H2976 m 3 = H m 3 := (f2981 m 3 _ gm rfl)
  have k2995 : H2976 x 12 = H x 12 := (f2981 x 12 _ gx rfl)
  have k2996 : H2976 m 2 = H m 2 := (f2981 m 2 _ gm rfl)
  refine wl_of hX hb cL_1218 (xc_V (pc' := 1221) (r := m) (as := [vI (H2976 0 ((i + 1).toNat))]) (st := []) (lm_11_158) rfl rfl (Nat.le_of_ble_eq_true rfl) w2980 gm sh_42 (by decide) rfl (by decide) (s_272 w2980 gm ⟨by omega, by omega⟩ (by omega)) (fun R2997 T2998 H2999 p3000 => ?_))
  obtain ⟨e3001, w3003, f3004, z3007, e3002, b3008, p3005, p3006⟩ := p3000
  subst e3001
  subst e3002
  show WL _ _ _ _ 1221 [(4, vI i), (3, .ref o), (2, .ref m), (1, .ref x), (0, .ref 0)] [vI z3007] _ H2999
  refine wl_of hX hb cL_1221 (rw_pop (pc' := 1222) rfl rfl ?_)
  refine wl_of hX hb cL_1222 (rw_goto (p1 := 1653) (by decide) ?_)
  have k3009 : H2999 x 9 = H2976 x 9 := (f3004 x 9 _ gx rfl)
  have k3010 : H2999 m 6 = H2976 m 6 := (f3004 m 6 _ gm rfl)
  have k3011 : H2999 x 11 = H2976 x 11 := (f3004 x 11 _ gx rfl)
  have k3012 : H2999 m 13 = H2976 m 13 := (f3004 m 13 _ gm rfl)
  have k3013 : H2999 x 8 = H2976 x 8 := (f3004 x 8 _ gx rfl)
  have k3014 : H2999 m 3 = H2976 m 3 := (f3004 m 3 _ gm rfl)
  have k3015 : H2999 x 10 = H2976 x 10 := (f3004 x 10 _ gx rfl)
  have k3016 : H2999 x 12 = H2976 x 12 := (f3004 x 12 _ gx rfl)
  have h3017 : XI T H2999 x m := (XI_fr w2980 gx f3004 rfl (XI_fr hW gx f2981 rfl hXI))
  exact WL.loc hX (by simp) (next T H2999 ⟨⟨w3003, g0, gx, gm, go, by omega, by omega⟩, h3017, by omega, by omega, by omega⟩ (by omega) (by omega))
set_option maxHeartbeats 4000000 in
theorem wl_c33 {kt : Nat → Option mc_E} {CB SB : Nat} {X : mc_S → Prop} {T : wq_T} {H : wq_H} {Len x m o : Nat} {i : Int} (hX : wlX kt CB SB X) (hb : T.2.1 ≤ CB ∧ T.2.2.1 ≤ SB) (hI : wlJ Len x m o T H) (hL : Len ≤ 3072) (hi : 0 ≤ i ∧ i + 6 ≤ Len) (hb2 : T.2.1 + 20 ≤ CB ∧ T.2.2.1 + 500 ≤ SB)  (next : ∀ T' H', wlJ Len x m o T' H' → T'.2.1 ≤ T.2.1 + 20 → T'.2.2.1 ≤ T.2.2.1 + 500 → WL kt CB SB X 1653 (wlL i x m o) [] T' H') : WL kt CB SB X 1225 (wlL i x m o) [] T H := by
  obtain ⟨⟨hW, g0, gx, gm, go, hK, hr⟩, hXI, hY1, hY2, hY3⟩ := hI
  refine wl_of hX hb cL_1225 (rw_aload_n (pc' := 1226) (v := .ref x) rfl rfl rfl ?_)
  refine wl_of hX hb cL_1226 (rw_aload_n (pc' := 1227) (v := .ref 0) rfl rfl rfl ?_)
  refine wl_of hX hb cL_1227 (rw_iload (pc' := 1229) (z := i) rfl rfl ?_)
  refine wl_of hX hb cL_1229 (rw_iconst (pc' := 1230) rfl ?_)
  refine wl_of hX hb cL_1230 (rw_iadd (pc' := 1231) rfl ?_)
  refine wl_of hX hb cL_1231 (xa_I (so := 0) (pc' := 1232) (a := 0) hW g0 (wsh_s _) (by omega) (wty_s _ _) (by omega) (by omega) rfl (fun b3018 b3019 => ?_))
  refine wl_of hX hb cL_1232 (xc_V (pc' := 1235) (r := x) (as := [vI (H 0 ((i + 1).toNat))]) (st := []) (lm_11_159) rfl rfl (Nat.le_of_ble_eq_true rfl) hW gx sh_1 (by decide) rfl (by decide) (s_135 hW gx ⟨by omega, by omega⟩) (fun R3020 T3021 H3022 p3023 => ?_))
  obtain ⟨e3024, w3026, f3027, z3029, e3025, b3030, p3028⟩ := p3023
  subst e3024
  subst e3025
  show WL _ _ _ _ 1235 [(4, vI i), (3, .ref o), (2, .ref m), (1, .ref x), (0, .ref 0)] [vI z3029] _ H3022
  refine wl_of hX hb cL_1235 (rw_pop (pc' := 1236) rfl rfl ?_)
  refine wl_of hX hb cL_1236 (rw_aload_n (pc' := 1237) (v := .ref m) rfl rfl rfl ?_)
  refine wl_of hX hb cL_1237 (rw_aload_n (pc' := 1238) (v := .ref 0) rfl rfl rfl ?_)
  refine wl_of hX hb cL_1238 (rw_iload (pc' := 1240) (z := i) rfl rfl ?_)
  refine wl_of hX hb cL_1240 (rw_iconst (pc' := 1241) rfl ?_)
  refine wl_of hX hb cL_1241 (rw_iadd (pc' := 1242) rfl ?_)
  have k3033 : H3022 0 ((i + 1).toNat) = H 0 ((i + 1).toNat) := (f3027 0 ((i + 1).toNat) _ g0 (wmem_s rfl))
  refine wl_of hX hb cL_1242 (xa_I (so := 0) (pc' := 1243) (a := 0) w3026 g0 (wsh_s _) (by omega) (wty_s _ _) (by omega) (by omega) rfl (fun b3031 b3032 => ?_))
  have k3034 : wKI H3022 m = wKI H m := (wKI_fr hW gm f3027 rfl)
  have k3035 : H3022 x 9 = H x 9 := (f3027 x 9 _ gx rfl)
  have k3036 : H3022 m 6 = H m 6 := (f3027 m 6 _ gm rfl)
  have k3037 : H3022 x 11 = H x 11 := (f3027 x 11 _ gx rfl)
  have k3038 : H3022 m 13 = H m 13 := (f3027 m 13 _ gm rfl)
  have k3039 : H3022 x 8 = H x 8 := (f3027 x 8 _ gx rfl)
  have k3040 : H3022 m 3 = H m 3 := (f3027 m 3 _ gm rfl)
  have k3041 : H3022 x 12 = H x 12 := (f3027 x 12 _ gx rfl)
  have k3042 : H3022 m 2 = H m 2 := (f3027 m 2 _ gm rfl)
  refine wl_of hX hb cL_1243 (xc_V (pc' := 1246) (r := m) (as := [vI (H3022 0 ((i + 1).toNat))]) (st := []) (lm_11_162) rfl rfl (Nat.le_of_ble_eq_true rfl) w3026 gm sh_42 (by decide) rfl (by decide) (s_275 w3026 gm ⟨by omega, by omega⟩ (by omega)) (fun R3043 T3044 H3045 p3046 => ?_))
  obtain ⟨e3047, w3049, f3050, z3053, e3048, b3054, p3051, p3052⟩ := p3046
  subst e3047
  subst e3048
  show WL _ _ _ _ 1246 [(4, vI i), (3, .ref o), (2, .ref m), (1, .ref x), (0, .ref 0)] [vI z3053] _ H3045
  refine wl_of hX hb cL_1246 (rw_pop (pc' := 1247) rfl rfl ?_)
  refine wl_of hX hb cL_1247 (rw_goto (p1 := 1653) (by decide) ?_)
  have k3055 : H3045 x 9 = H3022 x 9 := (f3050 x 9 _ gx rfl)
  have k3056 : H3045 m 6 = H3022 m 6 := (f3050 m 6 _ gm rfl)
  have k3057 : H3045 x 11 = H3022 x 11 := (f3050 x 11 _ gx rfl)
  have k3058 : H3045 m 13 = H3022 m 13 := (f3050 m 13 _ gm rfl)
  have k3059 : H3045 x 8 = H3022 x 8 := (f3050 x 8 _ gx rfl)
  have k3060 : H3045 m 3 = H3022 m 3 := (f3050 m 3 _ gm rfl)
  have k3061 : H3045 x 10 = H3022 x 10 := (f3050 x 10 _ gx rfl)
  have k3062 : H3045 x 12 = H3022 x 12 := (f3050 x 12 _ gx rfl)
  have h3063 : XI T H3045 x m := (XI_fr w3026 gx f3050 rfl (XI_fr hW gx f3027 rfl hXI))
  exact WL.loc hX (by simp) (next T H3045 ⟨⟨w3049, g0, gx, gm, go, by omega, by omega⟩, h3063, by omega, by omega, by omega⟩ (by omega) (by omega))
set_option maxHeartbeats 4000000 in
theorem wl_c34 {kt : Nat → Option mc_E} {CB SB : Nat} {X : mc_S → Prop} {T : wq_T} {H : wq_H} {Len x m o : Nat} {i : Int} (hX : wlX kt CB SB X) (hb : T.2.1 ≤ CB ∧ T.2.2.1 ≤ SB) (hI : wlJ Len x m o T H) (hL : Len ≤ 3072) (hi : 0 ≤ i ∧ i + 6 ≤ Len) (hb2 : T.2.1 + 20 ≤ CB ∧ T.2.2.1 + 500 ≤ SB)  (next : ∀ T' H', wlJ Len x m o T' H' → T'.2.1 ≤ T.2.1 + 20 → T'.2.2.1 ≤ T.2.2.1 + 500 → WL kt CB SB X 1653 (wlL i x m o) [] T' H') : WL kt CB SB X 1250 (wlL i x m o) [] T H := by
  obtain ⟨⟨hW, g0, gx, gm, go, hK, hr⟩, hXI, hY1, hY2, hY3⟩ := hI
  refine wl_of hX hb cL_1250 (rw_aload_n (pc' := 1251) (v := .ref x) rfl rfl rfl ?_)
  refine wl_of hX hb cL_1251 (xc_V (pc' := 1254) (r := x) (as := []) (st := []) (lm_11_163) rfl rfl (Nat.le_of_ble_eq_true rfl) hW gx sh_1 (by decide) rfl (by decide) (s_137 hW gx) (fun R3064 T3065 H3066 p3067 => ?_))
  obtain ⟨e3068, w3070, f3071, z3073, e3069, b3074, p3072⟩ := p3067
  subst e3068
  subst e3069
  show WL _ _ _ _ 1254 [(4, vI i), (3, .ref o), (2, .ref m), (1, .ref x), (0, .ref 0)] [vI z3073] _ H3066
  refine wl_of hX hb cL_1254 (rw_pop (pc' := 1255) rfl rfl ?_)
  refine wl_of hX hb cL_1255 (rw_aload_n (pc' := 1256) (v := .ref m) rfl rfl rfl ?_)
  have k3075 : wKI H3066 m = wKI H m := (wKI_fr hW gm f3071 rfl)
  have k3076 : H3066 x 9 = H x 9 := (f3071 x 9 _ gx rfl)
  have k3077 : H3066 m 6 = H m 6 := (f3071 m 6 _ gm rfl)
  have k3078 : H3066 x 11 = H x 11 := (f3071 x 11 _ gx rfl)
  have k3079 : H3066 m 13 = H m 13 := (f3071 m 13 _ gm rfl)
  have k3080 : H3066 x 8 = H x 8 := (f3071 x 8 _ gx rfl)
  have k3081 : H3066 m 3 = H m 3 := (f3071 m 3 _ gm rfl)
  have k3082 : H3066 x 12 = H x 12 := (f3071 x 12 _ gx rfl)
  have k3083 : H3066 m 2 = H m 2 := (f3071 m 2 _ gm rfl)
  refine wl_of hX hb cL_1256 (xc_V (pc' := 1259) (r := m) (as := []) (st := []) (lm_11_166) rfl rfl (Nat.le_of_ble_eq_true rfl) w3070 gm sh_42 (by decide) rfl (by decide) (s_276 w3070 gm (by omega)) (fun R3084 T3085 H3086 p3087 => ?_))
  obtain ⟨e3088, w3090, f3091, z3094, e3089, b3095, p3092, p3093⟩ := p3087
  subst e3088
  subst e3089
  show WL _ _ _ _ 1259 [(4, vI i), (3, .ref o), (2, .ref m), (1, .ref x), (0, .ref 0)] [vI z3094] _ H3086
  refine wl_of hX hb cL_1259 (rw_pop (pc' := 1260) rfl rfl ?_)
  refine wl_of hX hb cL_1260 (rw_goto (p1 := 1653) (by decide) ?_)
  have k3096 : H3086 x 9 = H3066 x 9 := (f3091 x 9 _ gx rfl)
  have k3097 : H3086 m 6 = H3066 m 6 := (f3091 m 6 _ gm rfl)
  have k3098 : H3086 x 11 = H3066 x 11 := (f3091 x 11 _ gx rfl)
  have k3099 : H3086 m 13 = H3066 m 13 := (f3091 m 13 _ gm rfl)
  have k3100 : H3086 x 8 = H3066 x 8 := (f3091 x 8 _ gx rfl)
  have k3101 : H3086 m 3 = H3066 m 3 := (f3091 m 3 _ gm rfl)
  have k3102 : H3086 x 10 = H3066 x 10 := (f3091 x 10 _ gx rfl)
  have k3103 : H3086 x 12 = H3066 x 12 := (f3091 x 12 _ gx rfl)
  have h3104 : XI T H3086 x m := (XI_fr w3070 gx f3091 rfl (XI_fr hW gx f3071 rfl hXI))
  exact WL.loc hX (by simp) (next T H3086 ⟨⟨w3090, g0, gx, gm, go, by omega, by omega⟩, h3104, by omega, by omega, by omega⟩ (by omega) (by omega))
set_option maxHeartbeats 4000000 in
theorem wl_c35 {kt : Nat → Option mc_E} {CB SB : Nat} {X : mc_S → Prop} {T : wq_T} {H : wq_H} {Len x m o : Nat} {i : Int} (hX : wlX kt CB SB X) (hb : T.2.1 ≤ CB ∧ T.2.2.1 ≤ SB) (hI : wlJ Len x m o T H) (hL : Len ≤ 3072) (hi : 0 ≤ i ∧ i + 6 ≤ Len) (hb2 : T.2.1 + 20 ≤ CB ∧ T.2.2.1 + 500 ≤ SB)  (next : ∀ T' H', wlJ Len x m o T' H' → T'.2.1 ≤ T.2.1 + 20 → T'.2.2.1 ≤ T.2.2.1 + 500 → WL kt CB SB X 1653 (wlL i x m o) [] T' H') : WL kt CB SB X 1263 (wlL i x m o) [] T H := by
  obtain ⟨⟨hW, g0, gx, gm, go, hK, hr⟩, hXI, hY1, hY2, hY3⟩ := hI
  refine wl_of hX hb cL_1263 (rw_aload_n (pc' := 1264) (v := .ref x) rfl rfl rfl ?_)
  refine wl_of hX hb cL_1264 (rw_aload_n (pc' := 1265) (v := .ref 0) rfl rfl rfl ?_)
  refine wl_of hX hb cL_1265 (rw_iload (pc' := 1267) (z := i) rfl rfl ?_)
  refine wl_of hX hb cL_1267 (rw_iconst (pc' := 1268) rfl ?_)
  refine wl_of hX hb cL_1268 (rw_iadd (pc' := 1269) rfl ?_)
  refine wl_of hX hb cL_1269 (xa_I (so := 0) (pc' := 1270) (a := 0) hW g0 (wsh_s _) (by omega) (wty_s _ _) (by omega) (by omega) rfl (fun b3105 b3106 => ?_))
  refine wl_of hX hb cL_1270 (rw_aload_n (pc' := 1271) (v := .ref 0) rfl rfl rfl ?_)
  refine wl_of hX hb cL_1271 (rw_iload (pc' := 1273) (z := i) rfl rfl ?_)
  refine wl_of hX hb cL_1273 (rw_iconst (pc' := 1274) rfl ?_)
  refine wl_of hX hb cL_1274 (rw_iadd (pc' := 1275) rfl ?_)
  refine wl_of hX hb cL_1275 (xa_I (so := 0) (pc' := 1276) (a := 0) hW g0 (wsh_s _) (by omega) (wty_s _ _) (by omega) (by omega) rfl (fun b3107 b3108 => ?_))
  refine wl_of hX hb cL_1276 (rw_if_eq (p1 := 1283) (p2 := 1279) (by decide) rfl ⟨by omega, by omega⟩ (fun c3109 => ?_) (fun c3109 => ?_))
  · refine wl_of hX hb cL_1283 (rw_iconst (pc' := 1284) rfl ?_)
    refine wl_of hX hb cL_1284 (xc_V (pc' := 1287) (r := x) (as := [vI (H 0 ((i + 1).toNat)), vI 0]) (st := []) (lm_11_167) rfl rfl (Nat.le_of_ble_eq_true rfl) hW gx sh_1 (by decide) rfl (by decide) (s_146 hW gx ⟨by omega, by omega⟩ ⟨by omega, by omega⟩) (fun R3110 T3111 H3112 p3113 => ?_))
    obtain ⟨e3114, w3116, f3117, z3119, e3115, b3120, p3118⟩ := p3113
    subst e3114
    subst e3115
    show WL _ _ _ _ 1287 [(4, vI i), (3, .ref o), (2, .ref m), (1, .ref x), (0, .ref 0)] [vI z3119] _ H3112
    refine wl_of hX hb cL_1287 (rw_pop (pc' := 1288) rfl rfl ?_)
    refine wl_of hX hb cL_1288 (rw_aload_n (pc' := 1289) (v := .ref m) rfl rfl rfl ?_)
    refine wl_of hX hb cL_1289 (rw_aload_n (pc' := 1290) (v := .ref 0) rfl rfl rfl ?_)
    refine wl_of hX hb cL_1290 (rw_iload (pc' := 1292) (z := i) rfl rfl ?_)
    refine wl_of hX hb cL_1292 (rw_iconst (pc' := 1293) rfl ?_)
    refine wl_of hX hb cL_1293 (rw_iadd (pc' := 1294) rfl ?_)
    have k3123 : H3112 0 ((i + 1).toNat) = H 0 ((i + 1).toNat) := (f3117 0 ((i + 1).toNat) _ g0 (wmem_s rfl))
    refine wl_of hX hb cL_1294 (xa_I (so := 0) (pc' := 1295) (a := 0) w3116 g0 (wsh_s _) (by omega) (wty_s _ _) (by omega) (by omega) rfl (fun b3121 b3122 => ?_))
    refine wl_of hX hb cL_1295 (rw_aload_n (pc' := 1296) (v := .ref 0) rfl rfl rfl ?_)
    refine wl_of hX hb cL_1296 (rw_iload (pc' := 1298) (z := i) rfl rfl ?_)
    refine wl_of hX hb cL_1298 (rw_iconst (pc' := 1299) rfl ?_)
    refine wl_of hX hb cL_1299 (rw_iadd (pc' := 1300) rfl ?_)
    have k3126 : H3112 0 ((i + 2).toNat) = H 0 ((i + 2).toNat) := (f3117 0 ((i + 2).toNat) _ g0 (wmem_s rfl))
    refine wl_of hX hb cL_1300 (xa_I (so := 0) (pc' := 1301) (a := 0) w3116 g0 (wsh_s _) (by omega) (wty_s _ _) (by omega) (by omega) rfl (fun b3124 b3125 => ?_))
    refine wl_of hX hb cL_1301 (rw_if_eq (p1 := 1308) (p2 := 1304) (by decide) rfl ⟨by omega, by omega⟩ (fun c3127 => ?_) (fun c3127 => ?_))
    · refine wl_of hX hb cL_1308 (rw_iconst (pc' := 1309) rfl ?_)
      have k3128 : wKI H3112 m = wKI H m := (wKI_fr hW gm f3117 rfl)
      have k3129 : H3112 x 9 = H x 9 := (f3117 x 9 _ gx rfl)
      have k3130 : H3112 m 6 = H m 6 := (f3117 m 6 _ gm rfl)
      have k3131 : H3112 x 11 = H x 11 := (f3117 x 11 _ gx rfl)
      have k3132 : H3112 m 13 = H m 13 := (f3117 m 13 _ gm rfl)
      have k3133 : H3112 x 8 = H x 8 := (f3117 x 8 _ gx rfl)
      have k3134 : H3112 m 3 = H m 3 := (f3117 m 3 _ gm rfl)
      have k3135 : H3112 x 12 = H x 12 := (f3117 x 12 _ gx rfl)
      have k3136 : H3112 m 2 = H m 2 := (f3117 m 2 _ gm rfl)
      refine wl_of hX hb cL_1309 (xc_V (pc' := 1312) (r := m) (as := [vI (H3112 0 ((i + 1).toNat)), vI 0]) (st := []) (lm_11_170) rfl rfl (Nat.le_of_ble_eq_true rfl) w3116 gm sh_42 (by decide) rfl (by decide) (s_279 w3116 gm ⟨by omega, by omega⟩ ⟨by omega, by omega⟩ (by omega)) (fun R3137 T3138 H3139 p3140 => ?_))
      obtain ⟨e3141, w3143, f3144, z3147, e3142, b3148, p3145, p3146⟩ := p3140
      subst e3141
      subst e3142
      show WL _ _ _ _ 1312 [(4, vI i), (3, .ref o), (2, .ref m), (1, .ref x), (0, .ref 0)] [vI z3147] _ H3139
      refine wl_of hX hb cL_1312 (rw_pop (pc' := 1313) rfl rfl ?_)
      refine wl_of hX hb cL_1313 (rw_goto (p1 := 1653) (by decide) ?_)
      have k3149 : H3139 x 9 = H3112 x 9 := (f3144 x 9 _ gx rfl)
      have k3150 : H3139 m 6 = H3112 m 6 := (f3144 m 6 _ gm rfl)
      have k3151 : H3139 x 11 = H3112 x 11 := (f3144 x 11 _ gx rfl)
      have k3152 : H3139 m 13 = H3112 m 13 := (f3144 m 13 _ gm rfl)
      have k3153 : H3139 x 8 = H3112 x 8 := (f3144 x 8 _ gx rfl)
      have k3154 : H3139 m 3 = H3112 m 3 := (f3144 m 3 _ gm rfl)
      have k3155 : H3139 x 10 = H3112 x 10 := (f3144 x 10 _ gx rfl)
      have k3156 : H3139 x 12 = H3112 x 12 := (f3144 x 12 _ gx rfl)
      have h3157 : XI T H3139 x m := (XI_fr w3116 gx f3144 rfl (XI_fr hW gx f3117 rfl hXI))
      exact WL.loc hX (by simp) (next T H3139 ⟨⟨w3143, g0, gx, gm, go, by omega, by omega⟩, h3157, by omega, by omega, by omega⟩ (by omega) (by omega))
    · exfalso
      omega
  · refine wl_of hX hb cL_1279 (rw_iconst (pc' := 1280) rfl ?_)
    refine wl_of hX hb cL_1280 (rw_goto (p1 := 1284) (by decide) ?_)
    refine wl_of hX hb cL_1284 (xc_V (pc' := 1287) (r := x) (as := [vI (H 0 ((i + 1).toNat)), vI 1]) (st := []) (lm_11_167) rfl rfl (Nat.le_of_ble_eq_true rfl) hW gx sh_1 (by decide) rfl (by decide) (s_146 hW gx ⟨by omega, by omega⟩ ⟨by omega, by omega⟩) (fun R3158 T3159 H3160 p3161 => ?_))
    obtain ⟨e3162, w3164, f3165, z3167, e3163, b3168, p3166⟩ := p3161
    subst e3162
    subst e3163
    show WL _ _ _ _ 1287 [(4, vI i), (3, .ref o), (2, .ref m), (1, .ref x), (0, .ref 0)] [vI z3167] _ H3160
    refine wl_of hX hb cL_1287 (rw_pop (pc' := 1288) rfl rfl ?_)
    refine wl_of hX hb cL_1288 (rw_aload_n (pc' := 1289) (v := .ref m) rfl rfl rfl ?_)
    refine wl_of hX hb cL_1289 (rw_aload_n (pc' := 1290) (v := .ref 0) rfl rfl rfl ?_)
    refine wl_of hX hb cL_1290 (rw_iload (pc' := 1292) (z := i) rfl rfl ?_)
    refine wl_of hX hb cL_1292 (rw_iconst (pc' := 1293) rfl ?_)
    refine wl_of hX hb cL_1293 (rw_iadd (pc' := 1294) rfl ?_)
    have k3171 : H3160 0 ((i + 1).toNat) = H 0 ((i + 1).toNat) := (f3165 0 ((i + 1).toNat) _ g0 (wmem_s rfl))
    refine wl_of hX hb cL_1294 (xa_I (so := 0) (pc' := 1295) (a := 0) w3164 g0 (wsh_s _) (by omega) (wty_s _ _) (by omega) (by omega) rfl (fun b3169 b3170 => ?_))
    refine wl_of hX hb cL_1295 (rw_aload_n (pc' := 1296) (v := .ref 0) rfl rfl rfl ?_)
    refine wl_of hX hb cL_1296 (rw_iload (pc' := 1298) (z := i) rfl rfl ?_)
    refine wl_of hX hb cL_1298 (rw_iconst (pc' := 1299) rfl ?_)
    refine wl_of hX hb cL_1299 (rw_iadd (pc' := 1300) rfl ?_)
    have k3174 : H3160 0 ((i + 2).toNat) = H 0 ((i + 2).toNat) := (f3165 0 ((i + 2).toNat) _ g0 (wmem_s rfl))
    refine wl_of hX hb cL_1300 (xa_I (so := 0) (pc' := 1301) (a := 0) w3164 g0 (wsh_s _) (by omega) (wty_s _ _) (by omega) (by omega) rfl (fun b3172 b3173 => ?_))
    refine wl_of hX hb cL_1301 (rw_if_eq (p1 := 1308) (p2 := 1304) (by decide) rfl ⟨by omega, by omega⟩ (fun c3175 => ?_) (fun c3175 => ?_))
    · refine wl_of hX hb cL_1308 (rw_iconst (pc' := 1309) rfl ?_)
      have k3176 : wKI H3160 m = wKI H m := (wKI_fr hW gm f3165 rfl)
      have k3177 : H3160 x 9 = H x 9 := (f3165 x 9 _ gx rfl)
      have k3178 : H3160 m 6 = H m 6 := (f3165 m 6 _ gm rfl)
      have k3179 : H3160 x 11 = H x 11 := (f3165 x 11 _ gx rfl)
      have k3180 : H3160 m 13 = H m 13 := (f3165 m 13 _ gm rfl)
      have k3181 : H3160 x 8 = H x 8 := (f3165 x 8 _ gx rfl)
      have k3182 : H3160 m 3 = H m 3 := (f3165 m 3 _ gm rfl)
      have k3183 : H3160 x 12 = H x 12 := (f3165 x 12 _ gx rfl)
      have k3184 : H3160 m 2 = H m 2 := (f3165 m 2 _ gm rfl)
      refine wl_of hX hb cL_1309 (xc_V (pc' := 1312) (r := m) (as := [vI (H3160 0 ((i + 1).toNat)), vI 0]) (st := []) (lm_11_170) rfl rfl (Nat.le_of_ble_eq_true rfl) w3164 gm sh_42 (by decide) rfl (by decide) (s_279 w3164 gm ⟨by omega, by omega⟩ ⟨by omega, by omega⟩ (by omega)) (fun R3185 T3186 H3187 p3188 => ?_))
      obtain ⟨e3189, w3191, f3192, z3195, e3190, b3196, p3193, p3194⟩ := p3188
      subst e3189
      subst e3190
      show WL _ _ _ _ 1312 [(4, vI i), (3, .ref o), (2, .ref m), (1, .ref x), (0, .ref 0)] [vI z3195] _ H3187
      refine wl_of hX hb cL_1312 (rw_pop (pc' := 1313) rfl rfl ?_)
      refine wl_of hX hb cL_1313 (rw_goto (p1 := 1653) (by decide) ?_)
      have k3197 : H3187 x 9 = H3160 x 9 := (f3192 x 9 _ gx rfl)
      have k3198 : H3187 m 6 = H3160 m 6 := (f3192 m 6 _ gm rfl)
      have k3199 : H3187 x 11 = H3160 x 11 := (f3192 x 11 _ gx rfl)
      have k3200 : H3187 m 13 = H3160 m 13 := (f3192 m 13 _ gm rfl)
      have k3201 : H3187 x 8 = H3160 x 8 := (f3192 x 8 _ gx rfl)
      have k3202 : H3187 m 3 = H3160 m 3 := (f3192 m 3 _ gm rfl)
      have k3203 : H3187 x 10 = H3160 x 10 := (f3192 x 10 _ gx rfl)
      have k3204 : H3187 x 12 = H3160 x 12 := (f3192 x 12 _ gx rfl)
      have h3205 : XI T H3187 x m := (XI_fr w3164 gx f3192 rfl (XI_fr hW gx f3165 rfl hXI))
      exact WL.loc hX (by simp) (next T H3187 ⟨⟨w3191, g0, gx, gm, go, by omega, by omega⟩, h3205, by omega, by omega, by omega⟩ (by omega) (by omega))
    · refine wl_of hX hb cL_1304 (rw_iconst (pc' := 1305) rfl ?_)
      refine wl_of hX hb cL_1305 (rw_goto (p1 := 1309) (by decide) ?_)
      have k3206 : wKI H3160 m = wKI H m := (wKI_fr hW gm f3165 rfl)
      have k3207 : H3160 x 9 = H x 9 := (f3165 x 9 _ gx rfl)
      have k3208 : H3160 m 6 = H m 6 := (f3165 m 6 _ gm rfl)
      have k3209 : H3160 x 11 = H x 11 := (f3165 x 11 _ gx rfl)
      have k3210 : H3160 m 13 = H m 13 := (f3165 m 13 _ gm rfl)
      have k3211 : H3160 x 8 = H x 8 := (f3165 x 8 _ gx rfl)
      have k3212 : H3160 m 3 = H m 3 := (f3165 m 3 _ gm rfl)
      have k3213 : H3160 x 12 = H x 12 := (f3165 x 12 _ gx rfl)
      have k3214 : H3160 m 2 = H m 2 := (f3165 m 2 _ gm rfl)
      refine wl_of hX hb cL_1309 (xc_V (pc' := 1312) (r := m) (as := [vI (H3160 0 ((i + 1).toNat)), vI 1]) (st := []) (lm_11_170) rfl rfl (Nat.le_of_ble_eq_true rfl) w3164 gm sh_42 (by decide) rfl (by decide) (s_279 w3164 gm ⟨by omega, by omega⟩ ⟨by omega, by omega⟩ (by omega)) (fun R3215 T3216 H3217 p3218 => ?_))
      obtain ⟨e3219, w3221, f3222, z3225, e3220, b3226, p3223, p3224⟩ := p3218
      subst e3219
      subst e3220
      show WL _ _ _ _ 1312 [(4, vI i), (3, .ref o), (2, .ref m), (1, .ref x), (0, .ref 0)] [vI z3225] _ H3217
      refine wl_of hX hb cL_1312 (rw_pop (pc' := 1313) rfl rfl ?_)
      refine wl_of hX hb cL_1313 (rw_goto (p1 := 1653) (by decide) ?_)
      have k3227 : H3217 x 9 = H3160 x 9 := (f3222 x 9 _ gx rfl)
      have k3228 : H3217 m 6 = H3160 m 6 := (f3222 m 6 _ gm rfl)
      have k3229 : H3217 x 11 = H3160 x 11 := (f3222 x 11 _ gx rfl)
      have k3230 : H3217 m 13 = H3160 m 13 := (f3222 m 13 _ gm rfl)
      have k3231 : H3217 x 8 = H3160 x 8 := (f3222 x 8 _ gx rfl)
      have k3232 : H3217 m 3 = H3160 m 3 := (f3222 m 3 _ gm rfl)
      have k3233 : H3217 x 10 = H3160 x 10 := (f3222 x 10 _ gx rfl)
      have k3234 : H3217 x 12 = H3160 x 12 := (f3222 x 12 _ gx rfl)
      have h3235 : XI T H3217 x m := (XI_fr w3164 gx f3222 rfl (XI_fr hW gx f3165 rfl hXI))
      exact WL.loc hX (by simp) (next T H3217 ⟨⟨w3221, g0, gx, gm, go, by omega, by omega⟩, h3235, by omega, by omega, by omega⟩ (by omega) (by omega))
set_option maxHeartbeats 4000000 in
theorem wl_c36 {kt : Nat → Option mc_E} {CB SB : Nat} {X : mc_S → Prop} {T : wq_T} {H : wq_H} {Len x m o : Nat} {i : Int} (hX : wlX kt CB SB X) (hb : T.2.1 ≤ CB ∧ T.2.2.1 ≤ SB) (hI : wlJ Len x m o T H) (hL : Len ≤ 3072) (hi : 0 ≤ i ∧ i + 6 ≤ Len) (hb2 : T.2.1 + 20 ≤ CB ∧ T.2.2.1 + 500 ≤ SB)  (next : ∀ T' H', wlJ Len x m o T' H' → T'.2.1 ≤ T.2.1 + 20 → T'.2.2.1 ≤ T.2.2.1 + 500 → WL kt CB SB X 1653 (wlL i x m o) [] T' H') : WL kt CB SB X 1316 (wlL i x m o) [] T H := by
  obtain ⟨⟨hW, g0, gx, gm, go, hK, hr⟩, hXI, hY1, hY2, hY3⟩ := hI
  refine wl_of hX hb cL_1316 (rw_aload_n (pc' := 1317) (v := .ref x) rfl rfl rfl ?_)
  refine wl_of hX hb cL_1317 (xc_V (pc' := 1320) (r := x) (as := []) (st := []) (lm_11_171) rfl rfl (Nat.le_of_ble_eq_true rfl) hW gx sh_1 (by decide) rfl (by decide) (s_147 hW gx) (fun R3236 T3237 H3238 p3239 => ?_))
  obtain ⟨e3240, w3242, f3243, z3245, e3241, b3246, p3244⟩ := p3239
  subst e3240
  subst e3241
  show WL _ _ _ _ 1320 [(4, vI i), (3, .ref o), (2, .ref m), (1, .ref x), (0, .ref 0)] [vI z3245] _ H3238
  refine wl_of hX hb cL_1320 (rw_pop (pc' := 1321) rfl rfl ?_)
  refine wl_of hX hb cL_1321 (rw_aload_n (pc' := 1322) (v := .ref m) rfl rfl rfl ?_)
  have k3247 : wKI H3238 m = wKI H m := (wKI_fr hW gm f3243 rfl)
  have k3248 : H3238 x 9 = H x 9 := (f3243 x 9 _ gx rfl)
  have k3249 : H3238 m 6 = H m 6 := (f3243 m 6 _ gm rfl)
  have k3250 : H3238 x 11 = H x 11 := (f3243 x 11 _ gx rfl)
  have k3251 : H3238 m 13 = H m 13 := (f3243 m 13 _ gm rfl)
  have k3252 : H3238 x 8 = H x 8 := (f3243 x 8 _ gx rfl)
  have k3253 : H3238 m 3 = H m 3 := (f3243 m 3 _ gm rfl)
  have k3254 : H3238 x 12 = H x 12 := (f3243 x 12 _ gx rfl)
  have k3255 : H3238 m 2 = H m 2 := (f3243 m 2 _ gm rfl)
  refine wl_of hX hb cL_1322 (xc_V (pc' := 1325) (r := m) (as := []) (st := []) (lm_11_174) rfl rfl (Nat.le_of_ble_eq_true rfl) w3242 gm sh_42 (by decide) rfl (by decide) (s_282 w3242 gm (by omega)) (fun R3256 T3257 H3258 p3259 => ?_))
  obtain ⟨e3260, w3262, f3263, z3266, e3261, b3267, p3264, p3265⟩ := p3259
  subst e3260
  subst e3261
  show WL _ _ _ _ 1325 [(4, vI i), (3, .ref o), (2, .ref m), (1, .ref x), (0, .ref 0)] [vI z3266] _ H3258
  refine wl_of hX hb cL_1325 (rw_pop (pc' := 1326) rfl rfl ?_)
  refine wl_of hX hb cL_1326 (rw_goto (p1 := 1653) (by decide) ?_)
  have k3268 : H3258 x 9 = H3238 x 9 := (f3263 x 9 _ gx rfl)
  have k3269 : H3258 m 6 = H3238 m 6 := (f3263 m 6 _ gm rfl)
  have k3270 : H3258 x 11 = H3238 x 11 := (f3263 x 11 _ gx rfl)
  have k3271 : H3258 m 13 = H3238 m 13 := (f3263 m 13 _ gm rfl)
  have k3272 : H3258 x 8 = H3238 x 8 := (f3263 x 8 _ gx rfl)
  have k3273 : H3258 m 3 = H3238 m 3 := (f3263 m 3 _ gm rfl)
  have k3274 : H3258 x 10 = H3238 x 10 := (f3263 x 10 _ gx rfl)
  have k3275 : H3258 x 12 = H3238 x 12 := (f3263 x 12 _ gx rfl)
  have h3276 : XI T H3258 x m := (XI_fr w3242 gx f3263 rfl (XI_fr hW gx f3243 rfl hXI))
  exact WL.loc hX (by simp) (next T H3258 ⟨⟨w3262, g0, gx, gm, go, by omega, by omega⟩, h3276, by omega, by omega, by omega⟩ (by omega) (by omega))
set_option maxHeartbeats 4000000 in
theorem wl_c37 {kt : Nat → Option mc_E} {CB SB : Nat} {X : mc_S → Prop} {T : wq_T} {H : wq_H} {Len x m o : Nat} {i : Int} (hX : wlX kt CB SB X) (hb : T.2.1 ≤ CB ∧ T.2.2.1 ≤ SB) (hI : wlJ Len x m o T H) (hL : Len ≤ 3072) (hi : 0 ≤ i ∧ i + 6 ≤ Len) (hb2 : T.2.1 + 20 ≤ CB ∧ T.2.2.1 + 500 ≤ SB)  (next : ∀ T' H', wlJ Len x m o T' H' → T'.2.1 ≤ T.2.1 + 20 → T'.2.2.1 ≤ T.2.2.1 + 500 → WL kt CB SB X 1653 (wlL i x m o) [] T' H') : WL kt CB SB X 1329 (wlL i x m o) [] T H := by
  obtain ⟨⟨hW, g0, gx, gm, go, hK, hr⟩, hXI, hY1, hY2, hY3⟩ := hI
  refine wl_of hX hb cL_1329 (rw_aload_n (pc' := 1330) (v := .ref x) rfl rfl rfl ?_)
  refine wl_of hX hb cL_1330 (xc_V (pc' := 1333) (r := x) (as := []) (st := []) (lm_11_175) rfl rfl (Nat.le_of_ble_eq_true rfl) hW gx sh_1 (by decide) rfl (by decide) (s_149 hW gx) (fun R3277 T3278 H3279 p3280 => ?_))
  obtain ⟨e3281, w3283, f3284, z3286, e3282, b3287, p3285⟩ := p3280
  subst e3281
  subst e3282
  show WL _ _ _ _ 1333 [(4, vI i), (3, .ref o), (2, .ref m), (1, .ref x), (0, .ref 0)] [vI z3286] _ H3279
  refine wl_of hX hb cL_1333 (rw_pop (pc' := 1334) rfl rfl ?_)
  refine wl_of hX hb cL_1334 (rw_aload_n (pc' := 1335) (v := .ref m) rfl rfl rfl ?_)
  have k3288 : wKI H3279 m = wKI H m := (wKI_fr hW gm f3284 rfl)
  have k3289 : H3279 x 9 = H x 9 := (f3284 x 9 _ gx rfl)
  have k3290 : H3279 m 6 = H m 6 := (f3284 m 6 _ gm rfl)
  have k3291 : H3279 x 11 = H x 11 := (f3284 x 11 _ gx rfl)
  have k3292 : H3279 m 13 = H m 13 := (f3284 m 13 _ gm rfl)
  have k3293 : H3279 x 8 = H x 8 := (f3284 x 8 _ gx rfl)
  have k3294 : H3279 m 3 = H m 3 := (f3284 m 3 _ gm rfl)
  have k3295 : H3279 x 12 = H x 12 := (f3284 x 12 _ gx rfl)
  have k3296 : H3279 m 2 = H m 2 := (f3284 m 2 _ gm rfl)
  refine wl_of hX hb cL_1335 (xc_V (pc' := 1338) (r := m) (as := []) (st := []) (lm_11_178) rfl rfl (Nat.le_of_ble_eq_true rfl) w3283 gm sh_42 (by decide) rfl (by decide) (s_283 w3283 gm (by omega)) (fun R3297 T3298 H3299 p3300 => ?_))
  obtain ⟨e3301, w3303, f3304, z3307, e3302, b3308, p3305, p3306⟩ := p3300
  subst e3301
  subst e3302
  show WL _ _ _ _ 1338 [(4, vI i), (3, .ref o), (2, .ref m), (1, .ref x), (0, .ref 0)] [vI z3307] _ H3299
  refine wl_of hX hb cL_1338 (rw_pop (pc' := 1339) rfl rfl ?_)
  refine wl_of hX hb cL_1339 (rw_goto (p1 := 1653) (by decide) ?_)
  have k3309 : H3299 x 9 = H3279 x 9 := (f3304 x 9 _ gx rfl)
  have k3310 : H3299 m 6 = H3279 m 6 := (f3304 m 6 _ gm rfl)
  have k3311 : H3299 x 11 = H3279 x 11 := (f3304 x 11 _ gx rfl)
  have k3312 : H3299 m 13 = H3279 m 13 := (f3304 m 13 _ gm rfl)
  have k3313 : H3299 x 8 = H3279 x 8 := (f3304 x 8 _ gx rfl)
  have k3314 : H3299 m 3 = H3279 m 3 := (f3304 m 3 _ gm rfl)
  have k3315 : H3299 x 10 = H3279 x 10 := (f3304 x 10 _ gx rfl)
  have k3316 : H3299 x 12 = H3279 x 12 := (f3304 x 12 _ gx rfl)
  have h3317 : XI T H3299 x m := (XI_fr w3283 gx f3304 rfl (XI_fr hW gx f3284 rfl hXI))
  exact WL.loc hX (by simp) (next T H3299 ⟨⟨w3303, g0, gx, gm, go, by omega, by omega⟩, h3317, by omega, by omega, by omega⟩ (by omega) (by omega))
set_option maxHeartbeats 4000000 in
theorem wl_c38 {kt : Nat → Option mc_E} {CB SB : Nat} {X : mc_S → Prop} {T : wq_T} {H : wq_H} {Len x m o : Nat} {i : Int} (hX : wlX kt CB SB X) (hb : T.2.1 ≤ CB ∧ T.2.2.1 ≤ SB) (hI : wlJ Len x m o T H) (hL : Len ≤ 3072) (hi : 0 ≤ i ∧ i + 6 ≤ Len) (hb2 : T.2.1 + 20 ≤ CB ∧ T.2.2.1 + 500 ≤ SB)  (next : ∀ T' H', wlJ Len x m o T' H' → T'.2.1 ≤ T.2.1 + 20 → T'.2.2.1 ≤ T.2.2.1 + 500 → WL kt CB SB X 1653 (wlL i x m o) [] T' H') : WL kt CB SB X 1342 (wlL i x m o) [] T H := by
  obtain ⟨⟨hW, g0, gx, gm, go, hK, hr⟩, hXI, hY1, hY2, hY3⟩ := hI
  refine wl_of hX hb cL_1342 (rw_aload_n (pc' := 1343) (v := .ref x) rfl rfl rfl ?_)
  refine wl_of hX hb cL_1343 (rw_aload_n (pc' := 1344) (v := .ref 0) rfl rfl rfl ?_)
  refine wl_of hX hb cL_1344 (rw_iload (pc' := 1346) (z := i) rfl rfl ?_)
  refine wl_of hX hb cL_1346 (rw_iconst (pc' := 1347) rfl ?_)
  refine wl_of hX hb cL_1347 (rw_iadd (pc' := 1348) rfl ?_)
  refine wl_of hX hb cL_1348 (xa_I (so := 0) (pc' := 1349) (a := 0) hW g0 (wsh_s _) (by omega) (wty_s _ _) (by omega) (by omega) rfl (fun b3318 b3319 => ?_))
  refine wl_of hX hb cL_1349 (xc_V (pc' := 1352) (r := x) (as := [vI (H 0 ((i + 1).toNat))]) (st := []) (lm_11_179) rfl rfl (Nat.le_of_ble_eq_true rfl) hW gx sh_1 (by decide) rfl (by decide) (s_152 hW gx ⟨by omega, by omega⟩) (fun R3320 T3321 H3322 p3323 => ?_))
  obtain ⟨e3324, w3326, f3327, z3329, e3325, b3330, p3328⟩ := p3323
  subst e3324
  subst e3325
  show WL _ _ _ _ 1352 [(4, vI i), (3, .ref o), (2, .ref m), (1, .ref x), (0, .ref 0)] [vI z3329] _ H3322
  refine wl_of hX hb cL_1352 (rw_pop (pc' := 1353) rfl rfl ?_)
  refine wl_of hX hb cL_1353 (rw_aload_n (pc' := 1354) (v := .ref m) rfl rfl rfl ?_)
  refine wl_of hX hb cL_1354 (rw_aload_n (pc' := 1355) (v := .ref 0) rfl rfl rfl ?_)
  refine wl_of hX hb cL_1355 (rw_iload (pc' := 1357) (z := i) rfl rfl ?_)
  refine wl_of hX hb cL_1357 (rw_iconst (pc' := 1358) rfl ?_)
  refine wl_of hX hb cL_1358 (rw_iadd (pc' := 1359) rfl ?_)
  have k3333 : H3322 0 ((i + 1).toNat) = H 0 ((i + 1).toNat) := (f3327 0 ((i + 1).toNat) _ g0 (wmem_s rfl))
  refine wl_of hX hb cL_1359 (xa_I (so := 0) (pc' := 1360) (a := 0) w3326 g0 (wsh_s _) (by omega) (wty_s _ _) (by omega) (by omega) rfl (fun b3331 b3332 => ?_))
  have k3334 : wKI H3322 m = wKI H m := (wKI_fr hW gm f3327 rfl)
  have k3335 : H3322 x 9 = H x 9 := (f3327 x 9 _ gx rfl)
  have k3336 : H3322 m 6 = H m 6 := (f3327 m 6 _ gm rfl)
  have k3337 : H3322 x 11 = H x 11 := (f3327 x 11 _ gx rfl)
  have k3338 : H3322 m 13 = H m 13 := (f3327 m 13 _ gm rfl)
  have k3339 : H3322 x 8 = H x 8 := (f3327 x 8 _ gx rfl)
  have k3340 : H3322 m 3 = H m 3 := (f3327 m 3 _ gm rfl)
  have k3341 : H3322 x 12 = H x 12 := (f3327 x 12 _ gx rfl)
  have k3342 : H3322 m 2 = H m 2 := (f3327 m 2 _ gm rfl)
  refine wl_of hX hb cL_1360 (xc_V (pc' := 1363) (r := m) (as := [vI (H3322 0 ((i + 1).toNat))]) (st := []) (lm_11_182) rfl rfl (Nat.le_of_ble_eq_true rfl) w3326 gm sh_42 (by decide) rfl (by decide) (s_284 w3326 gm ⟨by omega, by omega⟩ (by omega)) (fun R3343 T3344 H3345 p3346 => ?_))
  obtain ⟨e3347, w3349, f3350, z3353, e3348, b3354, p3351, p3352⟩ := p3346
  subst e3347
  subst e3348
  show WL _ _ _ _ 1363 [(4, vI i), (3, .ref o), (2, .ref m), (1, .ref x), (0, .ref 0)] [vI z3353] _ H3345
  refine wl_of hX hb cL_1363 (rw_pop (pc' := 1364) rfl rfl ?_)
  refine wl_of hX hb cL_1364 (rw_goto (p1 := 1653) (by decide) ?_)
  have k3355 : H3345 x 9 = H3322 x 9 := (f3350 x 9 _ gx rfl)
  have k3356 : H3345 m 6 = H3322 m 6 := (f3350 m 6 _ gm rfl)
  have k3357 : H3345 x 11 = H3322 x 11 := (f3350 x 11 _ gx rfl)
  have k3358 : H3345 m 13 = H3322 m 13 := (f3350 m 13 _ gm rfl)
  have k3359 : H3345 x 8 = H3322 x 8 := (f3350 x 8 _ gx rfl)
  have k3360 : H3345 m 3 = H3322 m 3 := (f3350 m 3 _ gm rfl)
  have k3361 : H3345 x 10 = H3322 x 10 := (f3350 x 10 _ gx rfl)
  have k3362 : H3345 x 12 = H3322 x 12 := (f3350 x 12 _ gx rfl)
  have h3363 : XI T H3345 x m := (XI_fr w3326 gx f3350 rfl (XI_fr hW gx f3327 rfl hXI))
  exact WL.loc hX (by simp) (next T H3345 ⟨⟨w3349, g0, gx, gm, go, by omega, by omega⟩, h3363, by omega, by omega, by omega⟩ (by omega) (by omega))
set_option maxHeartbeats 4000000 in
theorem wl_c39 {kt : Nat → Option mc_E} {CB SB : Nat} {X : mc_S → Prop} {T : wq_T} {H : wq_H} {Len x m o : Nat} {i : Int} (hX : wlX kt CB SB X) (hb : T.2.1 ≤ CB ∧ T.2.2.1 ≤ SB) (hI : wlJ Len x m o T H) (hL : Len ≤ 3072) (hi : 0 ≤ i ∧ i + 6 ≤ Len) (hb2 : T.2.1 + 20 ≤ CB ∧ T.2.2.1 + 500 ≤ SB)  (next : ∀ T' H', wlJ Len x m o T' H' → T'.2.1 ≤ T.2.1 + 20 → T'.2.2.1 ≤ T.2.2.1 + 500 → WL kt CB SB X 1653 (wlL i x m o) [] T' H') : WL kt CB SB X 1367 (wlL i x m o) [] T H := by
  obtain ⟨⟨hW, g0, gx, gm, go, hK, hr⟩, hXI, hY1, hY2, hY3⟩ := hI
  refine wl_of hX hb cL_1367 (rw_aload_n (pc' := 1368) (v := .ref x) rfl rfl rfl ?_)
  refine wl_of hX hb cL_1368 (rw_aload_n (pc' := 1369) (v := .ref 0) rfl rfl rfl ?_)
  refine wl_of hX hb cL_1369 (rw_iload (pc' := 1371) (z := i) rfl rfl ?_)
  refine wl_of hX hb cL_1371 (rw_iconst (pc' := 1372) rfl ?_)
  refine wl_of hX hb cL_1372 (rw_iadd (pc' := 1373) rfl ?_)
  refine wl_of hX hb cL_1373 (xa_I (so := 0) (pc' := 1374) (a := 0) hW g0 (wsh_s _) (by omega) (wty_s _ _) (by omega) (by omega) rfl (fun b3364 b3365 => ?_))
  refine wl_of hX hb cL_1374 (rw_aload_n (pc' := 1375) (v := .ref 0) rfl rfl rfl ?_)
  refine wl_of hX hb cL_1375 (rw_iload (pc' := 1377) (z := i) rfl rfl ?_)
  refine wl_of hX hb cL_1377 (rw_iconst (pc' := 1378) rfl ?_)
  refine wl_of hX hb cL_1378 (rw_iadd (pc' := 1379) rfl ?_)
  refine wl_of hX hb cL_1379 (xa_I (so := 0) (pc' := 1380) (a := 0) hW g0 (wsh_s _) (by omega) (wty_s _ _) (by omega) (by omega) rfl (fun b3366 b3367 => ?_))
  refine wl_of hX hb cL_1380 (xc_V (pc' := 1383) (r := x) (as := [vI (H 0 ((i + 1).toNat)), vI (H 0 ((i + 2).toNat))]) (st := []) (lm_11_183) rfl rfl (Nat.le_of_ble_eq_true rfl) hW gx sh_1 (by decide) rfl (by decide) (s_153 hW gx ⟨by omega, by omega⟩ ⟨by omega, by omega⟩) (fun R3368 T3369 H3370 p3371 => ?_))
  obtain ⟨e3372, w3374, f3375, z3377, e3373, b3378, p3376⟩ := p3371
  subst e3372
  subst e3373
  show WL _ _ _ _ 1383 [(4, vI i), (3, .ref o), (2, .ref m), (1, .ref x), (0, .ref 0)] [vI z3377] _ H3370
  refine wl_of hX hb cL_1383 (rw_pop (pc' := 1384) rfl rfl ?_)
  refine wl_of hX hb cL_1384 (rw_aload_n (pc' := 1385) (v := .ref m) rfl rfl rfl ?_)
  refine wl_of hX hb cL_1385 (rw_aload_n (pc' := 1386) (v := .ref 0) rfl rfl rfl ?_)
  refine wl_of hX hb cL_1386 (rw_iload (pc' := 1388) (z := i) rfl rfl ?_)
  refine wl_of hX hb cL_1388 (rw_iconst (pc' := 1389) rfl ?_)
  refine wl_of hX hb cL_1389 (rw_iadd (pc' := 1390) rfl ?_)
  have k3381 : H3370 0 ((i + 1).toNat) = H 0 ((i + 1).toNat) := (f3375 0 ((i + 1).toNat) _ g0 (wmem_s rfl))
  refine wl_of hX hb cL_1390 (xa_I (so := 0) (pc' := 1391) (a := 0) w3374 g0 (wsh_s _) (by omega) (wty_s _ _) (by omega) (by omega) rfl (fun b3379 b3380 => ?_))
  refine wl_of hX hb cL_1391 (rw_aload_n (pc' := 1392) (v := .ref 0) rfl rfl rfl ?_)
  refine wl_of hX hb cL_1392 (rw_iload (pc' := 1394) (z := i) rfl rfl ?_)
  refine wl_of hX hb cL_1394 (rw_iconst (pc' := 1395) rfl ?_)
  refine wl_of hX hb cL_1395 (rw_iadd (pc' := 1396) rfl ?_)
  have k3384 : H3370 0 ((i + 2).toNat) = H 0 ((i + 2).toNat) := (f3375 0 ((i + 2).toNat) _ g0 (wmem_s rfl))
  refine wl_of hX hb cL_1396 (xa_I (so := 0) (pc' := 1397) (a := 0) w3374 g0 (wsh_s _) (by omega) (wty_s _ _) (by omega) (by omega) rfl (fun b3382 b3383 => ?_))
  have k3385 : wKI H3370 m = wKI H m := (wKI_fr hW gm f3375 rfl)
  have k3386 : H3370 x 9 = H x 9 := (f3375 x 9 _ gx rfl)
  have k3387 : H3370 m 6 = H m 6 := (f3375 m 6 _ gm rfl)
  have k3388 : H3370 x 11 = H x 11 := (f3375 x 11 _ gx rfl)
  have k3389 : H3370 m 13 = H m 13 := (f3375 m 13 _ gm rfl)
  have k3390 : H3370 x 8 = H x 8 := (f3375 x 8 _ gx rfl)
  have k3391 : H3370 m 3 = H m 3 := (f3375 m 3 _ gm rfl)
  have k3392 : H3370 x 12 = H x 12 := (f3375 x 12 _ gx rfl)
  have k3393 : H3370 m 2 = H m 2 := (f3375 m 2 _ gm rfl)
  refine wl_of hX hb cL_1397 (xc_V (pc' := 1400) (r := m) (as := [vI (H3370 0 ((i + 1).toNat)), vI (H3370 0 ((i + 2).toNat))]) (st := []) (lm_11_186) rfl rfl (Nat.le_of_ble_eq_true rfl) w3374 gm sh_42 (by decide) rfl (by decide) (s_285 w3374 gm ⟨by omega, by omega⟩ ⟨by omega, by omega⟩ (by omega)) (fun R3394 T3395 H3396 p3397 => ?_))
  obtain ⟨e3398, w3400, f3401, z3404, e3399, b3405, p3402, p3403⟩ := p3397
  subst e3398
  subst e3399
  show WL _ _ _ _ 1400 [(4, vI i), (3, .ref o), (2, .ref m), (1, .ref x), (0, .ref 0)] [vI z3404] _ H3396
  refine wl_of hX hb cL_1400 (rw_pop (pc' := 1401) rfl rfl ?_)
  refine wl_of hX hb cL_1401 (rw_goto (p1 := 1653) (by decide) ?_)
  have k3406 : H3396 x 9 = H3370 x 9 := (f3401 x 9 _ gx rfl)
  have k3407 : H3396 m 6 = H3370 m 6 := (f3401 m 6 _ gm rfl)
  have k3408 : H3396 x 11 = H3370 x 11 := (f3401 x 11 _ gx rfl)
  have k3409 : H3396 m 13 = H3370 m 13 := (f3401 m 13 _ gm rfl)
  have k3410 : H3396 x 8 = H3370 x 8 := (f3401 x 8 _ gx rfl)
  have k3411 : H3396 m 3 = H3370 m 3 := (f3401 m 3 _ gm rfl)
  have k3412 : H3396 x 10 = H3370 x 10 := (f3401 x 10 _ gx rfl)
  have k3413 : H3396 x 12 = H3370 x 12 := (f3401 x 12 _ gx rfl)
  have h3414 : XI T H3396 x m := (XI_fr w3374 gx f3401 rfl (XI_fr hW gx f3375 rfl hXI))
  exact WL.loc hX (by simp) (next T H3396 ⟨⟨w3400, g0, gx, gm, go, by omega, by omega⟩, h3414, by omega, by omega, by omega⟩ (by omega) (by omega))
set_option maxHeartbeats 4000000 in
theorem wl_c40 {kt : Nat → Option mc_E} {CB SB : Nat} {X : mc_S → Prop} {T : wq_T} {H : wq_H} {Len x m o : Nat} {i : Int} (hX : wlX kt CB SB X) (hb : T.2.1 ≤ CB ∧ T.2.2.1 ≤ SB) (hI : wlJ Len x m o T H) (hL : Len ≤ 3072) (hi : 0 ≤ i ∧ i + 6 ≤ Len) (hb2 : T.2.1 + 20 ≤ CB ∧ T.2.2.1 + 500 ≤ SB)  (next : ∀ T' H', wlJ Len x m o T' H' → T'.2.1 ≤ T.2.1 + 20 → T'.2.2.1 ≤ T.2.2.1 + 500 → WL kt CB SB X 1653 (wlL i x m o) [] T' H') : WL kt CB SB X 1404 (wlL i x m o) [] T H := by
  obtain ⟨⟨hW, g0, gx, gm, go, hK, hr⟩, hXI, hY1, hY2, hY3⟩ := hI
  refine wl_of hX hb cL_1404 (rw_aload_n (pc' := 1405) (v := .ref x) rfl rfl rfl ?_)
  refine wl_of hX hb cL_1405 (rw_aload_n (pc' := 1406) (v := .ref 0) rfl rfl rfl ?_)
  refine wl_of hX hb cL_1406 (rw_iload (pc' := 1408) (z := i) rfl rfl ?_)
  refine wl_of hX hb cL_1408 (rw_iconst (pc' := 1409) rfl ?_)
  refine wl_of hX hb cL_1409 (rw_iadd (pc' := 1410) rfl ?_)
  refine wl_of hX hb cL_1410 (xa_I (so := 0) (pc' := 1411) (a := 0) hW g0 (wsh_s _) (by omega) (wty_s _ _) (by omega) (by omega) rfl (fun b3415 b3416 => ?_))
  refine wl_of hX hb cL_1411 (xc_V (pc' := 1414) (r := x) (as := [vI (H 0 ((i + 1).toNat))]) (st := []) (lm_11_187) rfl rfl (Nat.le_of_ble_eq_true rfl) hW gx sh_1 (by decide) rfl (by decide) (s_154 hW gx ⟨by omega, by omega⟩) (fun R3417 T3418 H3419 p3420 => ?_))
  obtain ⟨e3421, w3423, f3424, z3426, e3422, b3427, p3425⟩ := p3420
  subst e3421
  subst e3422
  show WL _ _ _ _ 1414 [(4, vI i), (3, .ref o), (2, .ref m), (1, .ref x), (0, .ref 0)] [vI z3426] _ H3419
  refine wl_of hX hb cL_1414 (rw_pop (pc' := 1415) rfl rfl ?_)
  refine wl_of hX hb cL_1415 (rw_aload_n (pc' := 1416) (v := .ref m) rfl rfl rfl ?_)
  refine wl_of hX hb cL_1416 (rw_aload_n (pc' := 1417) (v := .ref 0) rfl rfl rfl ?_)
  refine wl_of hX hb cL_1417 (rw_iload (pc' := 1419) (z := i) rfl rfl ?_)
  refine wl_of hX hb cL_1419 (rw_iconst (pc' := 1420) rfl ?_)
  refine wl_of hX hb cL_1420 (rw_iadd (pc' := 1421) rfl ?_)
  have k3430 : H3419 0 ((i + 1).toNat) = H 0 ((i + 1).toNat) := (f3424 0 ((i + 1).toNat) _ g0 (wmem_s rfl))
  refine wl_of hX hb cL_1421 (xa_I (so := 0) (pc' := 1422) (a := 0) w3423 g0 (wsh_s _) (by omega) (wty_s _ _) (by omega) (by omega) rfl (fun b3428 b3429 => ?_))
  have k3431 : wKI H3419 m = wKI H m := (wKI_fr hW gm f3424 rfl)
  have k3432 : H3419 x 9 = H x 9 := (f3424 x 9 _ gx rfl)
  have k3433 : H3419 m 6 = H m 6 := (f3424 m 6 _ gm rfl)
  have k3434 : H3419 x 11 = H x 11 := (f3424 x 11 _ gx rfl)
  have k3435 : H3419 m 13 = H m 13 := (f3424 m 13 _ gm rfl)
  have k3436 : H3419 x 8 = H x 8 := (f3424 x 8 _ gx rfl)
  have k3437 : H3419 m 3 = H m 3 := (f3424 m 3 _ gm rfl)
  have k3438 : H3419 x 12 = H x 12 := (f3424 x 12 _ gx rfl)
  have k3439 : H3419 m 2 = H m 2 := (f3424 m 2 _ gm rfl)
  refine wl_of hX hb cL_1422 (xc_V (pc' := 1425) (r := m) (as := [vI (H3419 0 ((i + 1).toNat))]) (st := []) (lm_11_191) rfl rfl (Nat.le_of_ble_eq_true rfl) w3423 gm sh_42 (by decide) rfl (by decide) (s_286 w3423 gm ⟨by omega, by omega⟩ (by omega)) (fun R3440 T3441 H3442 p3443 => ?_))
  obtain ⟨e3444, w3446, f3447, z3450, e3445, b3451, p3448, p3449⟩ := p3443
  subst e3444
  subst e3445
  show WL _ _ _ _ 1425 [(4, vI i), (3, .ref o), (2, .ref m), (1, .ref x), (0, .ref 0)] [vI z3450] _ H3442
  refine wl_of hX hb cL_1425 (rw_pop (pc' := 1426) rfl rfl ?_)
  refine wl_of hX hb cL_1426 (rw_goto (p1 := 1653) (by decide) ?_)
  have k3452 : H3442 x 9 = H3419 x 9 := (f3447 x 9 _ gx rfl)
  have k3453 : H3442 m 6 = H3419 m 6 := (f3447 m 6 _ gm rfl)
  have k3454 : H3442 x 11 = H3419 x 11 := (f3447 x 11 _ gx rfl)
  have k3455 : H3442 m 13 = H3419 m 13 := (f3447 m 13 _ gm rfl)
  have k3456 : H3442 x 8 = H3419 x 8 := (f3447 x 8 _ gx rfl)
  have k3457 : H3442 m 3 = H3419 m 3 := (f3447 m 3 _ gm rfl)
  have k3458 : H3442 x 10 = H3419 x 10 := (f3447 x 10 _ gx rfl)
  have k3459 : H3442 x 12 = H3419 x 12 := (f3447 x 12 _ gx rfl)
  have h3460 : XI T H3442 x m := (XI_fr w3423 gx f3447 rfl (XI_fr hW gx f3424 rfl hXI))
  exact WL.loc hX (by simp) (next T H3442 ⟨⟨w3446, g0, gx, gm, go, by omega, by omega⟩, h3460, by omega, by omega, by omega⟩ (by omega) (by omega))
set_option maxHeartbeats 4000000 in
theorem wl_c41 {kt : Nat → Option mc_E} {CB SB : Nat} {X : mc_S → Prop} {T : wq_T} {H : wq_H} {Len x m o : Nat} {i : Int} (hX : wlX kt CB SB X) (hb : T.2.1 ≤ CB ∧ T.2.2.1 ≤ SB) (hI : wlJ Len x m o T H) (hL : Len ≤ 3072) (hi : 0 ≤ i ∧ i + 6 ≤ Len) (hb2 : T.2.1 + 20 ≤ CB ∧ T.2.2.1 + 500 ≤ SB)  (next : ∀ T' H', wlJ Len x m o T' H' → T'.2.1 ≤ T.2.1 + 20 → T'.2.2.1 ≤ T.2.2.1 + 500 → WL kt CB SB X 1653 (wlL i x m o) [] T' H') : WL kt CB SB X 1429 (wlL i x m o) [] T H := by
  obtain ⟨⟨hW, g0, gx, gm, go, hK, hr⟩, hXI, hY1, hY2, hY3⟩ := hI
  refine wl_of hX hb cL_1429 (rw_aload_n (pc' := 1430) (v := .ref x) rfl rfl rfl ?_)
  refine wl_of hX hb cL_1430 (rw_aload_n (pc' := 1431) (v := .ref 0) rfl rfl rfl ?_)
  refine wl_of hX hb cL_1431 (rw_iload (pc' := 1433) (z := i) rfl rfl ?_)
  refine wl_of hX hb cL_1433 (rw_iconst (pc' := 1434) rfl ?_)
  refine wl_of hX hb cL_1434 (rw_iadd (pc' := 1435) rfl ?_)
  refine wl_of hX hb cL_1435 (xa_I (so := 0) (pc' := 1436) (a := 0) hW g0 (wsh_s _) (by omega) (wty_s _ _) (by omega) (by omega) rfl (fun b3461 b3462 => ?_))
  refine wl_of hX hb cL_1436 (xc_V (pc' := 1439) (r := x) (as := [vI (H 0 ((i + 1).toNat))]) (st := []) (lm_11_192) rfl rfl (Nat.le_of_ble_eq_true rfl) hW gx sh_1 (by decide) rfl (by decide) (s_155 hW gx ⟨by omega, by omega⟩) (fun R3463 T3464 H3465 p3466 => ?_))
  obtain ⟨e3467, w3469, f3470, z3472, e3468, b3473, p3471⟩ := p3466
  subst e3467
  subst e3468
  show WL _ _ _ _ 1439 [(4, vI i), (3, .ref o), (2, .ref m), (1, .ref x), (0, .ref 0)] [vI z3472] _ H3465
  refine wl_of hX hb cL_1439 (rw_pop (pc' := 1440) rfl rfl ?_)
  refine wl_of hX hb cL_1440 (rw_aload_n (pc' := 1441) (v := .ref m) rfl rfl rfl ?_)
  refine wl_of hX hb cL_1441 (rw_aload_n (pc' := 1442) (v := .ref 0) rfl rfl rfl ?_)
  refine wl_of hX hb cL_1442 (rw_iload (pc' := 1444) (z := i) rfl rfl ?_)
  refine wl_of hX hb cL_1444 (rw_iconst (pc' := 1445) rfl ?_)
  refine wl_of hX hb cL_1445 (rw_iadd (pc' := 1446) rfl ?_)
  have k3476 : H3465 0 ((i + 1).toNat) = H 0 ((i + 1).toNat) := (f3470 0 ((i + 1).toNat) _ g0 (wmem_s rfl))
  refine wl_of hX hb cL_1446 (xa_I (so := 0) (pc' := 1447) (a := 0) w3469 g0 (wsh_s _) (by omega) (wty_s _ _) (by omega) (by omega) rfl (fun b3474 b3475 => ?_))
  have k3477 : wKI H3465 m = wKI H m := (wKI_fr hW gm f3470 rfl)
  have k3478 : H3465 x 9 = H x 9 := (f3470 x 9 _ gx rfl)
  have k3479 : H3465 m 6 = H m 6 := (f3470 m 6 _ gm rfl)
  have k3480 : H3465 x 11 = H x 11 := (f3470 x 11 _ gx rfl)
  have k3481 : H3465 m 13 = H m 13 := (f3470 m 13 _ gm rfl)
  have k3482 : H3465 x 8 = H x 8 := (f3470 x 8 _ gx rfl)
  have k3483 : H3465 m 3 = H m 3 := (f3470 m 3 _ gm rfl)
  have k3484 : H3465 x 12 = H x 12 := (f3470 x 12 _ gx rfl)
  have k3485 : H3465 m 2 = H m 2 := (f3470 m 2 _ gm rfl)
  refine wl_of hX hb cL_1447 (xc_V (pc' := 1450) (r := m) (as := [vI (H3465 0 ((i + 1).toNat))]) (st := []) (lm_11_195) rfl rfl (Nat.le_of_ble_eq_true rfl) w3469 gm sh_42 (by decide) rfl (by decide) (s_287 w3469 gm ⟨by omega, by omega⟩ (by omega)) (fun R3486 T3487 H3488 p3489 => ?_))
  obtain ⟨e3490, w3492, f3493, z3496, e3491, b3497, p3494, p3495⟩ := p3489
  subst e3490
  subst e3491
  show WL _ _ _ _ 1450 [(4, vI i), (3, .ref o), (2, .ref m), (1, .ref x), (0, .ref 0)] [vI z3496] _ H3488
  refine wl_of hX hb cL_1450 (rw_pop (pc' := 1451) rfl rfl ?_)
  refine wl_of hX hb cL_1451 (rw_goto (p1 := 1653) (by decide) ?_)
  have k3498 : H3488 x 9 = H3465 x 9 := (f3493 x 9 _ gx rfl)
  have k3499 : H3488 m 6 = H3465 m 6 := (f3493 m 6 _ gm rfl)
  have k3500 : H3488 x 11 = H3465 x 11 := (f3493 x 11 _ gx rfl)
  have k3501 : H3488 m 13 = H3465 m 13 := (f3493 m 13 _ gm rfl)
  have k3502 : H3488 x 8 = H3465 x 8 := (f3493 x 8 _ gx rfl)
  have k3503 : H3488 m 3 = H3465 m 3 := (f3493 m 3 _ gm rfl)
  have k3504 : H3488 x 10 = H3465 x 10 := (f3493 x 10 _ gx rfl)
  have k3505 : H3488 x 12 = H3465 x 12 := (f3493 x 12 _ gx rfl)
  have h3506 : XI T H3488 x m := (XI_fr w3469 gx f3493 rfl (XI_fr hW gx f3470 rfl hXI))
  exact WL.loc hX (by simp) (next T H3488 ⟨⟨w3492, g0, gx, gm, go, by omega, by omega⟩, h3506, by omega, by omega, by omega⟩ (by omega) (by omega))
set_option maxHeartbeats 4000000 in
theorem wl_c42 {kt : Nat → Option mc_E} {CB SB : Nat} {X : mc_S → Prop} {T : wq_T} {H : wq_H} {Len x m o : Nat} {i : Int} (hX : wlX kt CB SB X) (hb : T.2.1 ≤ CB ∧ T.2.2.1 ≤ SB) (hI : wlJ Len x m o T H) (hL : Len ≤ 3072) (hi : 0 ≤ i ∧ i + 6 ≤ Len) (hb2 : T.2.1 + 20 ≤ CB ∧ T.2.2.1 + 500 ≤ SB)  (next : ∀ T' H', wlJ Len x m o T' H' → T'.2.1 ≤ T.2.1 + 20 → T'.2.2.1 ≤ T.2.2.1 + 500 → WL kt CB SB X 1653 (wlL i x m o) [] T' H') : WL kt CB SB X 1454 (wlL i x m o) [] T H := by
  obtain ⟨⟨hW, g0, gx, gm, go, hK, hr⟩, hXI, hY1, hY2, hY3⟩ := hI
  refine wl_of hX hb cL_1454 (rw_aload_n (pc' := 1455) (v := .ref x) rfl rfl rfl ?_)
  refine wl_of hX hb cL_1455 (xc_V (pc' := 1458) (r := x) (as := []) (st := []) (lm_11_196) rfl rfl (Nat.le_of_ble_eq_true rfl) hW gx sh_1 (by decide) rfl (by decide) (s_156 hW gx) (fun R3507 T3508 H3509 p3510 => ?_))
  obtain ⟨e3511, w3513, f3514, z3516, e3512, b3517, p3515⟩ := p3510
  subst e3511
  subst e3512
  show WL _ _ _ _ 1458 [(4, vI i), (3, .ref o), (2, .ref m), (1, .ref x), (0, .ref 0)] [vI z3516] _ H3509
  refine wl_of hX hb cL_1458 (rw_pop (pc' := 1459) rfl rfl ?_)
  refine wl_of hX hb cL_1459 (rw_aload_n (pc' := 1460) (v := .ref m) rfl rfl rfl ?_)
  have k3518 : wKI H3509 m = wKI H m := (wKI_fr hW gm f3514 rfl)
  have k3519 : H3509 x 9 = H x 9 := (f3514 x 9 _ gx rfl)
  have k3520 : H3509 m 6 = H m 6 := (f3514 m 6 _ gm rfl)
  have k3521 : H3509 x 11 = H x 11 := (f3514 x 11 _ gx rfl)
  have k3522 : H3509 m 13 = H m 13 := (f3514 m 13 _ gm rfl)
  have k3523 : H3509 x 8 = H x 8 := (f3514 x 8 _ gx rfl)
  have k3524 : H3509 m 3 = H m 3 := (f3514 m 3 _ gm rfl)
  have k3525 : H3509 x 12 = H x 12 := (f3514 x 12 _ gx rfl)
  have k3526 : H3509 m 2 = H m 2 := (f3514 m 2 _ gm rfl)
  refine wl_of hX hb cL_1460 (xc_V (pc' := 1463) (r := m) (as := []) (st := []) (lm_11_199) rfl rfl (Nat.le_of_ble_eq_true rfl) w3513 gm sh_42 (by decide) rfl (by decide) (s_288 w3513 gm (by omega)) (fun R3527 T3528 H3529 p3530 => ?_))
  obtain ⟨e3531, w3533, f3534, z3537, e3532, b3538, p3535, p3536⟩ := p3530
  subst e3531
  subst e3532
  show WL _ _ _ _ 1463 [(4, vI i), (3, .ref o), (2, .ref m), (1, .ref x), (0, .ref 0)] [vI z3537] _ H3529
  refine wl_of hX hb cL_1463 (rw_pop (pc' := 1464) rfl rfl ?_)
  refine wl_of hX hb cL_1464 (rw_goto (p1 := 1653) (by decide) ?_)
  have k3539 : H3529 x 9 = H3509 x 9 := (f3534 x 9 _ gx rfl)
  have k3540 : H3529 m 6 = H3509 m 6 := (f3534 m 6 _ gm rfl)
  have k3541 : H3529 x 11 = H3509 x 11 := (f3534 x 11 _ gx rfl)
  have k3542 : H3529 m 13 = H3509 m 13 := (f3534 m 13 _ gm rfl)
  have k3543 : H3529 x 8 = H3509 x 8 := (f3534 x 8 _ gx rfl)
  have k3544 : H3529 m 3 = H3509 m 3 := (f3534 m 3 _ gm rfl)
  have k3545 : H3529 x 10 = H3509 x 10 := (f3534 x 10 _ gx rfl)
  have k3546 : H3529 x 12 = H3509 x 12 := (f3534 x 12 _ gx rfl)
  have h3547 : XI T H3529 x m := (XI_fr w3513 gx f3534 rfl (XI_fr hW gx f3514 rfl hXI))
  exact WL.loc hX (by simp) (next T H3529 ⟨⟨w3533, g0, gx, gm, go, by omega, by omega⟩, h3547, by omega, by omega, by omega⟩ (by omega) (by omega))
set_option maxHeartbeats 4000000 in
theorem wl_c43 {kt : Nat → Option mc_E} {CB SB : Nat} {X : mc_S → Prop} {T : wq_T} {H : wq_H} {Len x m o : Nat} {i : Int} (hX : wlX kt CB SB X) (hb : T.2.1 ≤ CB ∧ T.2.2.1 ≤ SB) (hI : wlJ Len x m o T H) (hL : Len ≤ 3072) (hi : 0 ≤ i ∧ i + 6 ≤ Len) (hb2 : T.2.1 + 20 ≤ CB ∧ T.2.2.1 + 500 ≤ SB)  (next : ∀ T' H', wlJ Len x m o T' H' → T'.2.1 ≤ T.2.1 + 20 → T'.2.2.1 ≤ T.2.2.1 + 500 → WL kt CB SB X 1653 (wlL i x m o) [] T' H') : WL kt CB SB X 1467 (wlL i x m o) [] T H := by
  obtain ⟨⟨hW, g0, gx, gm, go, hK, hr⟩, hXI, hY1, hY2, hY3⟩ := hI
  refine wl_of hX hb cL_1467 (rw_aload_n (pc' := 1468) (v := .ref x) rfl rfl rfl ?_)
  refine wl_of hX hb cL_1468 (rw_aload_n (pc' := 1469) (v := .ref 0) rfl rfl rfl ?_)
  refine wl_of hX hb cL_1469 (rw_iload (pc' := 1471) (z := i) rfl rfl ?_)
  refine wl_of hX hb cL_1471 (rw_iconst (pc' := 1472) rfl ?_)
  refine wl_of hX hb cL_1472 (rw_iadd (pc' := 1473) rfl ?_)
  refine wl_of hX hb cL_1473 (xa_I (so := 0) (pc' := 1474) (a := 0) hW g0 (wsh_s _) (by omega) (wty_s _ _) (by omega) (by omega) rfl (fun b3548 b3549 => ?_))
  refine wl_of hX hb cL_1474 (rw_aload_n (pc' := 1475) (v := .ref 0) rfl rfl rfl ?_)
  refine wl_of hX hb cL_1475 (rw_iload (pc' := 1477) (z := i) rfl rfl ?_)
  refine wl_of hX hb cL_1477 (rw_iconst (pc' := 1478) rfl ?_)
  refine wl_of hX hb cL_1478 (rw_iadd (pc' := 1479) rfl ?_)
  refine wl_of hX hb cL_1479 (xa_I (so := 0) (pc' := 1480) (a := 0) hW g0 (wsh_s _) (by omega) (wty_s _ _) (by omega) (by omega) rfl (fun b3550 b3551 => ?_))
  refine wl_of hX hb cL_1480 (xc_V (pc' := 1483) (r := x) (as := [vI (H 0 ((i + 1).toNat)), vI (H 0 ((i + 2).toNat))]) (st := []) (lm_11_200) rfl rfl (Nat.le_of_ble_eq_true rfl) hW gx sh_1 (by decide) rfl (by decide) (s_157 hW gx ⟨by omega, by omega⟩ ⟨by omega, by omega⟩) (fun R3552 T3553 H3554 p3555 => ?_))
  obtain ⟨e3556, w3558, f3559, z3561, e3557, b3562, p3560⟩ := p3555
  subst e3556
  subst e3557
  show WL _ _ _ _ 1483 [(4, vI i), (3, .ref o), (2, .ref m), (1, .ref x), (0, .ref 0)] [vI z3561] _ H3554
  refine wl_of hX hb cL_1483 (rw_pop (pc' := 1484) rfl rfl ?_)
  refine wl_of hX hb cL_1484 (rw_aload_n (pc' := 1485) (v := .ref m) rfl rfl rfl ?_)
  refine wl_of hX hb cL_1485 (rw_aload_n (pc' := 1486) (v := .ref 0) rfl rfl rfl ?_)
  refine wl_of hX hb cL_1486 (rw_iload (pc' := 1488) (z := i) rfl rfl ?_)
  refine wl_of hX hb cL_1488 (rw_iconst (pc' := 1489) rfl ?_)
  refine wl_of hX hb cL_1489 (rw_iadd (pc' := 1490) rfl ?_)
  have k3565 : H3554 0 ((i + 1).toNat) = H 0 ((i + 1).toNat) := (f3559 0 ((i + 1).toNat) _ g0 (wmem_s rfl))
  refine wl_of hX hb cL_1490 (xa_I (so := 0) (pc' := 1491) (a := 0) w3558 g0 (wsh_s _) (by omega) (wty_s _ _) (by omega) (by omega) rfl (fun b3563 b3564 => ?_))
  refine wl_of hX hb cL_1491 (rw_aload_n (pc' := 1492) (v := .ref 0) rfl rfl rfl ?_)
  refine wl_of hX hb cL_1492 (rw_iload (pc' := 1494) (z := i) rfl rfl ?_)
  refine wl_of hX hb cL_1494 (rw_iconst (pc' := 1495) rfl ?_)
  refine wl_of hX hb cL_1495 (rw_iadd (pc' := 1496) rfl ?_)
  have k3568 : H3554 0 ((i + 2).toNat) = H 0 ((i + 2).toNat) := (f3559 0 ((i + 2).toNat) _ g0 (wmem_s rfl))
  refine wl_of hX hb cL_1496 (xa_I (so := 0) (pc' := 1497) (a := 0) w3558 g0 (wsh_s _) (by omega) (wty_s _ _) (by omega) (by omega) rfl (fun b3566 b3567 => ?_))
  have k3569 : wKI H3554 m = wKI H m := (wKI_fr hW gm f3559 rfl)
  have k3570 : H3554 x 9 = H x 9 := (f3559 x 9 _ gx rfl)
  have k3571 : H3554 m 6 = H m 6 := (f3559 m 6 _ gm rfl)
  have k3572 : H3554 x 11 = H x 11 := (f3559 x 11 _ gx rfl)
  have k3573 : H3554 m 13 = H m 13 := (f3559 m 13 _ gm rfl)
  have k3574 : H3554 x 8 = H x 8 := (f3559 x 8 _ gx rfl)
  have k3575 : H3554 m 3 = H m 3 := (f3559 m 3 _ gm rfl)
  have k3576 : H3554 x 12 = H x 12 := (f3559 x 12 _ gx rfl)
  have k3577 : H3554 m 2 = H m 2 := (f3559 m 2 _ gm rfl)
  refine wl_of hX hb cL_1497 (xc_V (pc' := 1500) (r := m) (as := [vI (H3554 0 ((i + 1).toNat)), vI (H3554 0 ((i + 2).toNat))]) (st := []) (lm_11_203) rfl rfl (Nat.le_of_ble_eq_true rfl) w3558 gm sh_42 (by decide) rfl (by decide) (s_289 w3558 gm ⟨by omega, by omega⟩ ⟨by omega, by omega⟩ (by omega)) (fun R3578 T3579 H3580 p3581 => ?_))
  obtain ⟨e3582, w3584, f3585, z3588, e3583, b3589, p3586, p3587⟩ := p3581
  subst e3582
  subst e3583
  show WL _ _ _ _ 1500 [(4, vI i), (3, .ref o), (2, .ref m), (1, .ref x), (0, .ref 0)] [vI z3588] _ H3580
  refine wl_of hX hb cL_1500 (rw_pop (pc' := 1501) rfl rfl ?_)
  refine wl_of hX hb cL_1501 (rw_goto (p1 := 1653) (by decide) ?_)
  have k3590 : H3580 x 9 = H3554 x 9 := (f3585 x 9 _ gx rfl)
  have k3591 : H3580 m 6 = H3554 m 6 := (f3585 m 6 _ gm rfl)
  have k3592 : H3580 x 11 = H3554 x 11 := (f3585 x 11 _ gx rfl)
  have k3593 : H3580 m 13 = H3554 m 13 := (f3585 m 13 _ gm rfl)
  have k3594 : H3580 x 8 = H3554 x 8 := (f3585 x 8 _ gx rfl)
  have k3595 : H3580 m 3 = H3554 m 3 := (f3585 m 3 _ gm rfl)
  have k3596 : H3580 x 10 = H3554 x 10 := (f3585 x 10 _ gx rfl)
  have k3597 : H3580 x 12 = H3554 x 12 := (f3585 x 12 _ gx rfl)
  have h3598 : XI T H3580 x m := (XI_fr w3558 gx f3585 rfl (XI_fr hW gx f3559 rfl hXI))
  exact WL.loc hX (by simp) (next T H3580 ⟨⟨w3584, g0, gx, gm, go, by omega, by omega⟩, h3598, by omega, by omega, by omega⟩ (by omega) (by omega))
set_option maxHeartbeats 4000000 in
theorem wl_c44 {kt : Nat → Option mc_E} {CB SB : Nat} {X : mc_S → Prop} {T : wq_T} {H : wq_H} {Len x m o : Nat} {i : Int} (hX : wlX kt CB SB X) (hb : T.2.1 ≤ CB ∧ T.2.2.1 ≤ SB) (hI : wlJ Len x m o T H) (hL : Len ≤ 3072) (hi : 0 ≤ i ∧ i + 6 ≤ Len) (hb2 : T.2.1 + 20 ≤ CB ∧ T.2.2.1 + 500 ≤ SB)  (next : ∀ T' H', wlJ Len x m o T' H' → T'.2.1 ≤ T.2.1 + 20 → T'.2.2.1 ≤ T.2.2.1 + 500 → WL kt CB SB X 1653 (wlL i x m o) [] T' H') : WL kt CB SB X 1504 (wlL i x m o) [] T H := by
  obtain ⟨⟨hW, g0, gx, gm, go, hK, hr⟩, hXI, hY1, hY2, hY3⟩ := hI
  refine wl_of hX hb cL_1504 (rw_aload_n (pc' := 1505) (v := .ref x) rfl rfl rfl ?_)
  refine wl_of hX hb cL_1505 (xc_V (pc' := 1508) (r := x) (as := []) (st := []) (lm_11_204) rfl rfl (Nat.le_of_ble_eq_true rfl) hW gx sh_1 (by decide) rfl (by decide) (s_158 hW gx) (fun R3599 T3600 H3601 p3602 => ?_))
  obtain ⟨e3603, w3605, f3606, z3608, e3604, b3609, p3607⟩ := p3602
  subst e3603
  subst e3604
  show WL _ _ _ _ 1508 [(4, vI i), (3, .ref o), (2, .ref m), (1, .ref x), (0, .ref 0)] [vI z3608] _ H3601
  refine wl_of hX hb cL_1508 (rw_pop (pc' := 1509) rfl rfl ?_)
  refine wl_of hX hb cL_1509 (rw_aload_n (pc' := 1510) (v := .ref m) rfl rfl rfl ?_)
  have k3610 : wKI H3601 m = wKI H m := (wKI_fr hW gm f3606 rfl)
  have k3611 : H3601 x 9 = H x 9 := (f3606 x 9 _ gx rfl)
  have k3612 : H3601 m 6 = H m 6 := (f3606 m 6 _ gm rfl)
  have k3613 : H3601 x 11 = H x 11 := (f3606 x 11 _ gx rfl)
  have k3614 : H3601 m 13 = H m 13 := (f3606 m 13 _ gm rfl)
  have k3615 : H3601 x 8 = H x 8 := (f3606 x 8 _ gx rfl)
  have k3616 : H3601 m 3 = H m 3 := (f3606 m 3 _ gm rfl)
  have k3617 : H3601 x 12 = H x 12 := (f3606 x 12 _ gx rfl)
  have k3618 : H3601 m 2 = H m 2 := (f3606 m 2 _ gm rfl)
  refine wl_of hX hb cL_1510 (xc_V (pc' := 1513) (r := m) (as := []) (st := []) (lm_11_208) rfl rfl (Nat.le_of_ble_eq_true rfl) w3605 gm sh_42 (by decide) rfl (by decide) (s_290 w3605 gm (by omega)) (fun R3619 T3620 H3621 p3622 => ?_))
  obtain ⟨e3623, w3625, f3626, z3629, e3624, b3630, p3627, p3628⟩ := p3622
  subst e3623
  subst e3624
  show WL _ _ _ _ 1513 [(4, vI i), (3, .ref o), (2, .ref m), (1, .ref x), (0, .ref 0)] [vI z3629] _ H3621
  refine wl_of hX hb cL_1513 (rw_pop (pc' := 1514) rfl rfl ?_)
  refine wl_of hX hb cL_1514 (rw_goto (p1 := 1653) (by decide) ?_)
  have k3631 : H3621 x 9 = H3601 x 9 := (f3626 x 9 _ gx rfl)
  have k3632 : H3621 m 6 = H3601 m 6 := (f3626 m 6 _ gm rfl)
  have k3633 : H3621 x 11 = H3601 x 11 := (f3626 x 11 _ gx rfl)
  have k3634 : H3621 m 13 = H3601 m 13 := (f3626 m 13 _ gm rfl)
  have k3635 : H3621 x 8 = H3601 x 8 := (f3626 x 8 _ gx rfl)
  have k3636 : H3621 m 3 = H3601 m 3 := (f3626 m 3 _ gm rfl)
  have k3637 : H3621 x 10 = H3601 x 10 := (f3626 x 10 _ gx rfl)
  have k3638 : H3621 x 12 = H3601 x 12 := (f3626 x 12 _ gx rfl)
  have h3639 : XI T H3621 x m := (XI_fr w3605 gx f3626 rfl (XI_fr hW gx f3606 rfl hXI))
  exact WL.loc hX (by simp) (next T H3621 ⟨⟨w3625, g0, gx, gm, go, by omega, by omega⟩, h3639, by omega, by omega, by omega⟩ (by omega) (by omega))
set_option maxHeartbeats 4000000 in
theorem wl_c45 {kt : Nat → Option mc_E} {CB SB : Nat} {X : mc_S → Prop} {T : wq_T} {H : wq_H} {Len x m o : Nat} {i : Int} (hX : wlX kt CB SB X) (hb : T.2.1 ≤ CB ∧ T.2.2.1 ≤ SB) (hI : wlJ Len x m o T H) (hL : Len ≤ 3072) (hi : 0 ≤ i ∧ i + 6 ≤ Len) (hb2 : T.2.1 + 20 ≤ CB ∧ T.2.2.1 + 500 ≤ SB)  (next : ∀ T' H', wlJ Len x m o T' H' → T'.2.1 ≤ T.2.1 + 20 → T'.2.2.1 ≤ T.2.2.1 + 500 → WL kt CB SB X 1653 (wlL i x m o) [] T' H') : WL kt CB SB X 1517 (wlL i x m o) [] T H := by
  obtain ⟨⟨hW, g0, gx, gm, go, hK, hr⟩, hXI, hY1, hY2, hY3⟩ := hI
  refine wl_of hX hb cL_1517 (rw_aload_n (pc' := 1518) (v := .ref x) rfl rfl rfl ?_)
  refine wl_of hX hb cL_1518 (xc_V (pc' := 1521) (r := x) (as := []) (st := []) (lm_11_209) rfl rfl (Nat.le_of_ble_eq_true rfl) hW gx sh_1 (by decide) rfl (by decide) (s_159 hW gx) (fun R3640 T3641 H3642 p3643 => ?_))
  obtain ⟨e3644, w3646, f3647, z3649, e3645, b3650, p3648⟩ := p3643
  subst e3644
  subst e3645
  show WL _ _ _ _ 1521 [(4, vI i), (3, .ref o), (2, .ref m), (1, .ref x), (0, .ref 0)] [vL z3649] _ H3642
  refine wl_of hX hb cL_1521 (rw_pop2 (pc' := 1522) rfl rfl ?_)
  refine wl_of hX hb cL_1522 (rw_aload_n (pc' := 1523) (v := .ref m) rfl rfl rfl ?_)
  have k3651 : wKI H3642 m = wKI H m := (wKI_fr hW gm f3647 rfl)
  have k3652 : H3642 x 9 = H x 9 := (f3647 x 9 _ gx rfl)
  have k3653 : H3642 m 6 = H m 6 := (f3647 m 6 _ gm rfl)
  have k3654 : H3642 x 11 = H x 11 := (f3647 x 11 _ gx rfl)
  have k3655 : H3642 m 13 = H m 13 := (f3647 m 13 _ gm rfl)
  have k3656 : H3642 x 8 = H x 8 := (f3647 x 8 _ gx rfl)
  have k3657 : H3642 m 3 = H m 3 := (f3647 m 3 _ gm rfl)
  have k3658 : H3642 x 12 = H x 12 := (f3647 x 12 _ gx rfl)
  have k3659 : H3642 m 2 = H m 2 := (f3647 m 2 _ gm rfl)
  refine wl_of hX hb cL_1523 (xc_V (pc' := 1526) (r := m) (as := []) (st := []) (lm_11_212) rfl rfl (Nat.le_of_ble_eq_true rfl) w3646 gm sh_42 (by decide) rfl (by decide) (s_291 w3646 gm (by omega)) (fun R3660 T3661 H3662 p3663 => ?_))
  obtain ⟨e3664, w3666, f3667, z3670, e3665, b3671, p3668, p3669⟩ := p3663
  subst e3664
  subst e3665
  show WL _ _ _ _ 1526 [(4, vI i), (3, .ref o), (2, .ref m), (1, .ref x), (0, .ref 0)] [vL z3670] _ H3662
  refine wl_of hX hb cL_1526 (rw_pop2 (pc' := 1527) rfl rfl ?_)
  refine wl_of hX hb cL_1527 (rw_goto (p1 := 1653) (by decide) ?_)
  have k3672 : H3662 x 9 = H3642 x 9 := (f3667 x 9 _ gx rfl)
  have k3673 : H3662 m 6 = H3642 m 6 := (f3667 m 6 _ gm rfl)
  have k3674 : H3662 x 11 = H3642 x 11 := (f3667 x 11 _ gx rfl)
  have k3675 : H3662 m 13 = H3642 m 13 := (f3667 m 13 _ gm rfl)
  have k3676 : H3662 x 8 = H3642 x 8 := (f3667 x 8 _ gx rfl)
  have k3677 : H3662 m 3 = H3642 m 3 := (f3667 m 3 _ gm rfl)
  have k3678 : H3662 x 10 = H3642 x 10 := (f3667 x 10 _ gx rfl)
  have k3679 : H3662 x 12 = H3642 x 12 := (f3667 x 12 _ gx rfl)
  have h3680 : XI T H3662 x m := (XI_fr w3646 gx f3667 rfl (XI_fr hW gx f3647 rfl hXI))
  exact WL.loc hX (by simp) (next T H3662 ⟨⟨w3666, g0, gx, gm, go, by omega, by omega⟩, h3680, by omega, by omega, by omega⟩ (by omega) (by omega))
set_option maxHeartbeats 4000000 in
theorem wl_c46 {kt : Nat → Option mc_E} {CB SB : Nat} {X : mc_S → Prop} {T : wq_T} {H : wq_H} {Len x m o : Nat} {i : Int} (hX : wlX kt CB SB X) (hb : T.2.1 ≤ CB ∧ T.2.2.1 ≤ SB) (hI : wlJ Len x m o T H) (hL : Len ≤ 3072) (hi : 0 ≤ i ∧ i + 6 ≤ Len) (hb2 : T.2.1 + 20 ≤ CB ∧ T.2.2.1 + 500 ≤ SB)  (next : ∀ T' H', wlJ Len x m o T' H' → T'.2.1 ≤ T.2.1 + 20 → T'.2.2.1 ≤ T.2.2.1 + 500 → WL kt CB SB X 1653 (wlL i x m o) [] T' H') : WL kt CB SB X 1530 (wlL i x m o) [] T H := by
  obtain ⟨⟨hW, g0, gx, gm, go, hK, hr⟩, hXI, hY1, hY2, hY3⟩ := hI
  refine wl_of hX hb cL_1530 (rw_aload_n (pc' := 1531) (v := .ref x) rfl rfl rfl ?_)
  refine wl_of hX hb cL_1531 (rw_aload_n (pc' := 1532) (v := .ref 0) rfl rfl rfl ?_)
  refine wl_of hX hb cL_1532 (rw_iload (pc' := 1534) (z := i) rfl rfl ?_)
  refine wl_of hX hb cL_1534 (rw_iconst (pc' := 1535) rfl ?_)
  refine wl_of hX hb cL_1535 (rw_iadd (pc' := 1536) rfl ?_)
  refine wl_of hX hb cL_1536 (xa_I (so := 0) (pc' := 1537) (a := 0) hW g0 (wsh_s _) (by omega) (wty_s _ _) (by omega) (by omega) rfl (fun b3681 b3682 => ?_))
  refine wl_of hX hb cL_1537 (rw_i2l (pc' := 1538) rfl ⟨by omega, by omega⟩ ?_)
  refine wl_of hX hb cL_1538 (rw_bipush (pc' := 1540) (z := 32) rfl (by decide) ?_)
  refine wl_of hX hb cL_1540 (rw_lshl (pc' := 1541) rfl ?_)
  obtain ⟨v3683, e3684⟩ : ∃ x : Int, x = wl_shl (H 0 ((i + 1).toNat)) 32 := ⟨_, rfl⟩
  rw [← e3684]
  have b3685 : -9223372036854775808 ≤ v3683 ∧ v3683 ≤ 9223372036854775807 := by
    rw [e3684]
    exact wL_shl _ _
  refine wl_of hX hb cL_1541 (rw_aload_n (pc' := 1542) (v := .ref 0) rfl rfl rfl ?_)
  refine wl_of hX hb cL_1542 (rw_iload (pc' := 1544) (z := i) rfl rfl ?_)
  refine wl_of hX hb cL_1544 (rw_iconst (pc' := 1545) rfl ?_)
  refine wl_of hX hb cL_1545 (rw_iadd (pc' := 1546) rfl ?_)
  refine wl_of hX hb cL_1546 (xa_I (so := 0) (pc' := 1547) (a := 0) hW g0 (wsh_s _) (by omega) (wty_s _ _) (by omega) (by omega) rfl (fun b3686 b3687 => ?_))
  refine wl_of hX hb cL_1547 (rw_i2l (pc' := 1548) rfl ⟨by omega, by omega⟩ ?_)
  refine wl_of hX hb cL_1548 (rw_ldc2 (pc' := 1551) (z := 4294967295) rfl rfl rfl ?_)
  refine wl_of hX hb cL_1551 (rw_land (pc' := 1552) rfl ?_)
  obtain ⟨v3688, e3689⟩ : ∃ x : Int, x = wl_and (H 0 ((i + 2).toNat)) 4294967295 := ⟨_, rfl⟩
  rw [← e3689]
  have b3690 : -9223372036854775808 ≤ v3688 ∧ v3688 ≤ 9223372036854775807 := by
    rw [e3689]
    exact wL_and _ _
  refine wl_of hX hb cL_1552 (rw_lor (pc' := 1553) rfl ?_)
  obtain ⟨v3691, e3692⟩ : ∃ x : Int, x = wl_or v3683 v3688 := ⟨_, rfl⟩
  rw [← e3692]
  have b3693 : -9223372036854775808 ≤ v3691 ∧ v3691 ≤ 9223372036854775807 := by
    rw [e3692]
    exact wL_or _ _
  refine wl_of hX hb cL_1553 (xc_V (pc' := 1556) (r := x) (as := [vL v3691]) (st := []) (lm_11_215) rfl rfl (Nat.le_of_ble_eq_true rfl) hW gx sh_1 (by decide) rfl (by decide) (s_161 hW gx ⟨by omega, by omega⟩) (fun R3694 T3695 H3696 p3697 => ?_))
  obtain ⟨e3698, w3700, f3701, z3703, e3699, b3704, p3702⟩ := p3697
  subst e3698
  subst e3699
  show WL _ _ _ _ 1556 [(4, vI i), (3, .ref o), (2, .ref m), (1, .ref x), (0, .ref 0)] [vI z3703] _ H3696
  refine wl_of hX hb cL_1556 (rw_pop (pc' := 1557) rfl rfl ?_)
  refine wl_of hX hb cL_1557 (rw_aload_n (pc' := 1558) (v := .ref m) rfl rfl rfl ?_)
  refine wl_of hX hb cL_1558 (rw_aload_n (pc' := 1559) (v := .ref 0) rfl rfl rfl ?_)
  refine wl_of hX hb cL_1559 (rw_iload (pc' := 1561) (z := i) rfl rfl ?_)
  refine wl_of hX hb cL_1561 (rw_iconst (pc' := 1562) rfl ?_)
  refine wl_of hX hb cL_1562 (rw_iadd (pc' := 1563) rfl ?_)
  have k3707 : H3696 0 ((i + 1).toNat) = H 0 ((i + 1).toNat) := (f3701 0 ((i + 1).toNat) _ g0 (wmem_s rfl))
  refine wl_of hX hb cL_1563 (xa_I (so := 0) (pc' := 1564) (a := 0) w3700 g0 (wsh_s _) (by omega) (wty_s _ _) (by omega) (by omega) rfl (fun b3705 b3706 => ?_))
  refine wl_of hX hb cL_1564 (rw_i2l (pc' := 1565) rfl ⟨by omega, by omega⟩ ?_)
  refine wl_of hX hb cL_1565 (rw_bipush (pc' := 1567) (z := 32) rfl (by decide) ?_)
  refine wl_of hX hb cL_1567 (rw_lshl (pc' := 1568) rfl ?_)
  obtain ⟨v3708, e3709⟩ : ∃ x : Int, x = wl_shl (H3696 0 ((i + 1).toNat)) 32 := ⟨_, rfl⟩
  rw [← e3709]
  have b3710 : -9223372036854775808 ≤ v3708 ∧ v3708 ≤ 9223372036854775807 := by
    rw [e3709]
    exact wL_shl _ _
  refine wl_of hX hb cL_1568 (rw_aload_n (pc' := 1569) (v := .ref 0) rfl rfl rfl ?_)
  refine wl_of hX hb cL_1569 (rw_iload (pc' := 1571) (z := i) rfl rfl ?_)
  refine wl_of hX hb cL_1571 (rw_iconst (pc' := 1572) rfl ?_)
  refine wl_of hX hb cL_1572 (rw_iadd (pc' := 1573) rfl ?_)
  have k3713 : H3696 0 ((i + 2).toNat) = H 0 ((i + 2).toNat) := (f3701 0 ((i + 2).toNat) _ g0 (wmem_s rfl))
  refine wl_of hX hb cL_1573 (xa_I (so := 0) (pc' := 1574) (a := 0) w3700 g0 (wsh_s _) (by omega) (wty_s _ _) (by omega) (by omega) rfl (fun b3711 b3712 => ?_))
  refine wl_of hX hb cL_1574 (rw_i2l (pc' := 1575) rfl ⟨by omega, by omega⟩ ?_)
  refine wl_of hX hb cL_1575 (rw_ldc2 (pc' := 1578) (z := 4294967295) rfl rfl rfl ?_)
  refine wl_of hX hb cL_1578 (rw_land (pc' := 1579) rfl ?_)
  obtain ⟨v3714, e3715⟩ : ∃ x : Int, x = wl_and (H3696 0 ((i + 2).toNat)) 4294967295 := ⟨_, rfl⟩
  rw [← e3715]
  have b3716 : -9223372036854775808 ≤ v3714 ∧ v3714 ≤ 9223372036854775807 := by
    rw [e3715]
    exact wL_and _ _
  refine wl_of hX hb cL_1579 (rw_lor (pc' := 1580) rfl ?_)
  obtain ⟨v3717, e3718⟩ : ∃ x : Int, x = wl_or v3708 v3714 := ⟨_, rfl⟩
  rw [← e3718]
  have b3719 : -9223372036854775808 ≤ v3717 ∧ v3717 ≤ 9223372036854775807 := by
    rw [e3718]
    exact wL_or _ _
  have k3720 : wKI H3696 m = wKI H m := (wKI_fr hW gm f3701 rfl)
  have k3721 : H3696 x 9 = H x 9 := (f3701 x 9 _ gx rfl)
  have k3722 : H3696 m 6 = H m 6 := (f3701 m 6 _ gm rfl)
  have k3723 : H3696 x 11 = H x 11 := (f3701 x 11 _ gx rfl)
  have k3724 : H3696 m 13 = H m 13 := (f3701 m 13 _ gm rfl)
  have k3725 : H3696 x 8 = H x 8 := (f3701 x 8 _ gx rfl)
  have k3726 : H3696 m 3 = H m 3 := (f3701 m 3 _ gm rfl)
  have k3727 : H3696 x 12 = H x 12 := (f3701 x 12 _ gx rfl)
  have k3728 : H3696 m 2 = H m 2 := (f3701 m 2 _ gm rfl)
  refine wl_of hX hb cL_1580 (xc_V (pc' := 1583) (r := m) (as := [vL v3717]) (st := []) (lm_11_219) rfl rfl (Nat.le_of_ble_eq_true rfl) w3700 gm sh_42 (by decide) rfl (by decide) (s_292 w3700 gm ⟨by omega, by omega⟩ (by omega)) (fun R3729 T3730 H3731 p3732 => ?_))
  obtain ⟨e3733, w3735, f3736, z3739, e3734, b3740, p3737, p3738⟩ := p3732
  subst e3733
  subst e3734
  show WL _ _ _ _ 1583 [(4, vI i), (3, .ref o), (2, .ref m), (1, .ref x), (0, .ref 0)] [vI z3739] _ H3731
  refine wl_of hX hb cL_1583 (rw_pop (pc' := 1584) rfl rfl ?_)
  refine wl_of hX hb cL_1584 (rw_goto (p1 := 1653) (by decide) ?_)
  have k3741 : H3731 x 9 = H3696 x 9 := (f3736 x 9 _ gx rfl)
  have k3742 : H3731 m 6 = H3696 m 6 := (f3736 m 6 _ gm rfl)
  have k3743 : H3731 x 11 = H3696 x 11 := (f3736 x 11 _ gx rfl)
  have k3744 : H3731 m 13 = H3696 m 13 := (f3736 m 13 _ gm rfl)
  have k3745 : H3731 x 8 = H3696 x 8 := (f3736 x 8 _ gx rfl)
  have k3746 : H3731 m 3 = H3696 m 3 := (f3736 m 3 _ gm rfl)
  have k3747 : H3731 x 10 = H3696 x 10 := (f3736 x 10 _ gx rfl)
  have k3748 : H3731 x 12 = H3696 x 12 := (f3736 x 12 _ gx rfl)
  have h3749 : XI T H3731 x m := (XI_fr w3700 gx f3736 rfl (XI_fr hW gx f3701 rfl hXI))
  exact WL.loc hX (by simp) (next T H3731 ⟨⟨w3735, g0, gx, gm, go, by omega, by omega⟩, h3749, by omega, by omega, by omega⟩ (by omega) (by omega))
set_option maxHeartbeats 4000000 in
theorem wl_c47 {kt : Nat → Option mc_E} {CB SB : Nat} {X : mc_S → Prop} {T : wq_T} {H : wq_H} {Len x m o : Nat} {i : Int} (hX : wlX kt CB SB X) (hb : T.2.1 ≤ CB ∧ T.2.2.1 ≤ SB) (hI : wlJ Len x m o T H) (hL : Len ≤ 3072) (hi : 0 ≤ i ∧ i + 6 ≤ Len) (hb2 : T.2.1 + 20 ≤ CB ∧ T.2.2.1 + 500 ≤ SB) (hled : ∀ {z : Int}, wI z → T.2.1 ≤ CB ∧ T.2.2.1 ≤ SB → wlJ Len x m o T H → (∀ (z' : Int), wI z' → ∀ (T' : wq_T) (H' : wq_H), wlJ Len x m o T' H' → T'.2.1 ≤ T.2.1 + 20 → T'.2.2.1 ≤ T.2.2.1 + 500 → WL kt CB SB X 1598 (wlL i x m o) [vI z'] T' H') → WL kt CB SB X 1595 (wlL i x m o) [.ref o, vI z, .ref x] T H) (next : ∀ T' H', wlJ Len x m o T' H' → T'.2.1 ≤ T.2.1 + 20 → T'.2.2.1 ≤ T.2.2.1 + 500 → WL kt CB SB X 1653 (wlL i x m o) [] T' H') : WL kt CB SB X 1587 (wlL i x m o) [] T H := by
  obtain ⟨⟨hW, g0, gx, gm, go, hK, hr⟩, hXI, hY1, hY2, hY3⟩ := hI
  refine wl_of hX hb cL_1587 (rw_aload_n (pc' := 1588) (v := .ref x) rfl rfl rfl ?_)
  refine wl_of hX hb cL_1588 (rw_aload_n (pc' := 1589) (v := .ref 0) rfl rfl rfl ?_)
  refine wl_of hX hb cL_1589 (rw_iload (pc' := 1591) (z := i) rfl rfl ?_)
  refine wl_of hX hb cL_1591 (rw_iconst (pc' := 1592) rfl ?_)
  refine wl_of hX hb cL_1592 (rw_iadd (pc' := 1593) rfl ?_)
  refine wl_of hX hb cL_1593 (xa_I (so := 0) (pc' := 1594) (a := 0) hW g0 (wsh_s _) (by omega) (wty_s _ _) (by omega) (by omega) rfl (fun b3750 b3751 => ?_))
  refine wl_of hX hb cL_1594 (rw_aload_n (pc' := 1595) (v := .ref o) rfl rfl rfl ?_)
  refine hled ⟨by omega, by omega⟩ hb ⟨⟨hW, g0, gx, gm, go, by omega, by omega⟩, hXI, by omega, by omega, by omega⟩ (fun z9 b9 T9 H9 hI9 n9 s9 => ?_)
  obtain ⟨⟨w9, g0, gx, gm, go, hK, hr⟩, hXI, hY1, hY2, hY3⟩ := hI9
  have hb : T9.2.1 ≤ CB ∧ T9.2.2.1 ≤ SB := ⟨by omega, by omega⟩
  refine wl_of hX hb cL_1598 (rw_istore (pc' := 1600) (z := z9) (L' := [(5, vI z9), (4, vI i), (3, .ref o), (2, .ref m), (1, .ref x), (0, .ref 0)]) rfl rfl rfl ?_)
  refine wl_of hX hb cL_1600 (rw_aload_n (pc' := 1601) (v := .ref m) rfl rfl rfl ?_)
  refine wl_of hX hb cL_1601 (rw_aload_n (pc' := 1602) (v := .ref 0) rfl rfl rfl ?_)
  refine wl_of hX hb cL_1602 (rw_iload (pc' := 1604) (z := i) rfl rfl ?_)
  refine wl_of hX hb cL_1604 (rw_iconst (pc' := 1605) rfl ?_)
  refine wl_of hX hb cL_1605 (rw_iadd (pc' := 1606) rfl ?_)
  refine wl_of hX hb cL_1606 (xa_I (so := 0) (pc' := 1607) (a := 0) w9 g0 (wsh_s _) (by omega) (wty_s _ _) (by omega) (by omega) rfl (fun b3752 b3753 => ?_))
  refine wl_of hX hb cL_1607 (xc_V (pc' := 1610) (r := m) (as := [vI (H9 0 ((i + 1).toNat))]) (st := []) (lm_11_225) rfl rfl (Nat.le_of_ble_eq_true rfl) w9 gm sh_42 (by decide) rfl (by decide) (s_293 w9 gm ⟨by omega, by omega⟩ (by omega)) (fun R3754 T3755 H3756 p3757 => ?_))
  obtain ⟨e3758, w3760, f3761, z3763, e3759, b3764, p3762⟩ := p3757
  subst e3758
  subst e3759
  show WL _ _ _ _ 1610 [(5, vI z9), (4, vI i), (3, .ref o), (2, .ref m), (1, .ref x), (0, .ref 0)] [vI z3763] _ H3756
  refine wl_of hX hb cL_1610 (rw_istore (pc' := 1612) (z := z3763) (L' := [(6, vI z3763), (5, vI z9), (4, vI i), (3, .ref o), (2, .ref m), (1, .ref x), (0, .ref 0)]) rfl rfl rfl ?_)
  refine wl_of hX hb cL_1612 (rw_goto (p1 := 1653) (by decide) ?_)
  have k3765 : H3756 x 9 = H9 x 9 := (f3761 x 9 _ gx rfl)
  have k3766 : H3756 m 6 = H9 m 6 := (f3761 m 6 _ gm rfl)
  have k3767 : H3756 x 11 = H9 x 11 := (f3761 x 11 _ gx rfl)
  have k3768 : H3756 m 13 = H9 m 13 := (f3761 m 13 _ gm rfl)
  have k3769 : H3756 x 8 = H9 x 8 := (f3761 x 8 _ gx rfl)
  have k3770 : H3756 m 3 = H9 m 3 := (f3761 m 3 _ gm rfl)
  have k3771 : H3756 x 10 = H9 x 10 := (f3761 x 10 _ gx rfl)
  have k3772 : H3756 x 12 = H9 x 12 := (f3761 x 12 _ gx rfl)
  have k3773 : H3756 m 2 = H9 m 2 := (f3761 m 2 _ gm rfl)
  have h3774 : XI T9 H3756 x m := (XI_fr w9 gx f3761 rfl hXI)
  exact WL.loc hX (by simp) (next T9 H3756 ⟨⟨w3760, g0, gx, gm, go, by omega, by omega⟩, h3774, by omega, by omega, by omega⟩ (by omega) (by omega))
set_option maxHeartbeats 4000000 in
theorem wl_c48 {kt : Nat → Option mc_E} {CB SB : Nat} {X : mc_S → Prop} {T : wq_T} {H : wq_H} {Len x m o : Nat} {i : Int} (hX : wlX kt CB SB X) (hb : T.2.1 ≤ CB ∧ T.2.2.1 ≤ SB) (hI : wlJ Len x m o T H) (hL : Len ≤ 3072) (hi : 0 ≤ i ∧ i + 6 ≤ Len) (hb2 : T.2.1 + 20 ≤ CB ∧ T.2.2.1 + 500 ≤ SB)  (next : ∀ T' H', wlJ Len x m o T' H' → T'.2.1 ≤ T.2.1 + 20 → T'.2.2.1 ≤ T.2.2.1 + 500 → WL kt CB SB X 1653 (wlL i x m o) [] T' H') : WL kt CB SB X 1615 (wlL i x m o) [] T H := by
  obtain ⟨⟨hW, g0, gx, gm, go, hK, hr⟩, hXI, hY1, hY2, hY3⟩ := hI
  refine wl_of hX hb cL_1615 (rw_aload_n (pc' := 1616) (v := .ref x) rfl rfl rfl ?_)
  refine wl_of hX hb cL_1616 (rw_aload_n (pc' := 1617) (v := .ref 0) rfl rfl rfl ?_)
  refine wl_of hX hb cL_1617 (rw_iload (pc' := 1619) (z := i) rfl rfl ?_)
  refine wl_of hX hb cL_1619 (rw_iconst (pc' := 1620) rfl ?_)
  refine wl_of hX hb cL_1620 (rw_iadd (pc' := 1621) rfl ?_)
  refine wl_of hX hb cL_1621 (xa_I (so := 0) (pc' := 1622) (a := 0) hW g0 (wsh_s _) (by omega) (wty_s _ _) (by omega) (by omega) rfl (fun b3775 b3776 => ?_))
  refine wl_of hX hb cL_1622 (xc_V (pc' := 1625) (r := x) (as := [vI (H 0 ((i + 1).toNat))]) (st := []) (lm_11_226) rfl rfl (Nat.le_of_ble_eq_true rfl) hW gx sh_1 (by decide) rfl (by decide) (s_164 hW gx ⟨by omega, by omega⟩) (fun R3777 T3778 H3779 p3780 => ?_))
  obtain ⟨e3781, e3783, z3784, e3782, b3785⟩ := p3780
  subst e3781
  subst e3782
  subst e3783
  show WL _ _ _ _ 1625 [(4, vI i), (3, .ref o), (2, .ref m), (1, .ref x), (0, .ref 0)] [vI z3784] _ H
  refine wl_of hX hb cL_1625 (rw_pop (pc' := 1626) rfl rfl ?_)
  refine wl_of hX hb cL_1626 (rw_aload_n (pc' := 1627) (v := .ref m) rfl rfl rfl ?_)
  refine wl_of hX hb cL_1627 (rw_aload_n (pc' := 1628) (v := .ref 0) rfl rfl rfl ?_)
  refine wl_of hX hb cL_1628 (rw_iload (pc' := 1630) (z := i) rfl rfl ?_)
  refine wl_of hX hb cL_1630 (rw_iconst (pc' := 1631) rfl ?_)
  refine wl_of hX hb cL_1631 (rw_iadd (pc' := 1632) rfl ?_)
  refine wl_of hX hb cL_1632 (xa_I (so := 0) (pc' := 1633) (a := 0) hW g0 (wsh_s _) (by omega) (wty_s _ _) (by omega) (by omega) rfl (fun b3786 b3787 => ?_))
  refine wl_of hX hb cL_1633 (xc_V (pc' := 1636) (r := m) (as := [vI (H 0 ((i + 1).toNat))]) (st := []) (lm_11_229) rfl rfl (Nat.le_of_ble_eq_true rfl) hW gm sh_42 (by decide) rfl (by decide) (s_294 hW gm ⟨by omega, by omega⟩ (by omega)) (fun R3788 T3789 H3790 p3791 => ?_))
  obtain ⟨e3792, w3794, f3795, z3797, e3793, b3798, p3796⟩ := p3791
  subst e3792
  subst e3793
  show WL _ _ _ _ 1636 [(4, vI i), (3, .ref o), (2, .ref m), (1, .ref x), (0, .ref 0)] [vI z3797] _ H3790
  refine wl_of hX hb cL_1636 (rw_pop (pc' := 1637) rfl rfl ?_)
  refine wl_of hX hb cL_1637 (rw_goto (p1 := 1653) (by decide) ?_)
  have k3799 : H3790 x 9 = H x 9 := (f3795 x 9 _ gx rfl)
  have k3800 : H3790 m 6 = H m 6 := (f3795 m 6 _ gm rfl)
  have k3801 : H3790 x 11 = H x 11 := (f3795 x 11 _ gx rfl)
  have k3802 : H3790 m 13 = H m 13 := (f3795 m 13 _ gm rfl)
  have k3803 : H3790 x 8 = H x 8 := (f3795 x 8 _ gx rfl)
  have k3804 : H3790 m 3 = H m 3 := (f3795 m 3 _ gm rfl)
  have k3805 : H3790 x 10 = H x 10 := (f3795 x 10 _ gx rfl)
  have k3806 : H3790 x 12 = H x 12 := (f3795 x 12 _ gx rfl)
  have k3807 : H3790 m 2 = H m 2 := (f3795 m 2 _ gm rfl)
  have h3808 : XI T H3790 x m := (XI_fr hW gx f3795 rfl hXI)
  exact WL.loc hX (by simp) (next T H3790 ⟨⟨w3794, g0, gx, gm, go, by omega, by omega⟩, h3808, by omega, by omega, by omega⟩ (by omega) (by omega))
set_option maxHeartbeats 4000000 in
theorem wl_c49 {kt : Nat → Option mc_E} {CB SB : Nat} {X : mc_S → Prop} {T : wq_T} {H : wq_H} {Len x m o : Nat} {i : Int} (hX : wlX kt CB SB X) (hb : T.2.1 ≤ CB ∧ T.2.2.1 ≤ SB) (hI : wlJ Len x m o T H) (hL : Len ≤ 3072) (hi : 0 ≤ i ∧ i + 6 ≤ Len) (hb2 : T.2.1 + 20 ≤ CB ∧ T.2.2.1 + 500 ≤ SB)  (next : ∀ T' H', wlJ Len x m o T' H' → T'.2.1 ≤ T.2.1 + 20 → T'.2.2.1 ≤ T.2.2.1 + 500 → WL kt CB SB X 1653 (wlL i x m o) [] T' H') : WL kt CB SB X 1640 (wlL i x m o) [] T H := by
  obtain ⟨⟨hW, g0, gx, gm, go, hK, hr⟩, hXI, hY1, hY2, hY3⟩ := hI
  refine wl_of hX hb cL_1640 (rw_aload_n (pc' := 1641) (v := .ref x) rfl rfl rfl ?_)
  refine wl_of hX hb cL_1641 (xc_V (pc' := 1644) (r := x) (as := []) (st := []) (lm_11_230) rfl rfl (Nat.le_of_ble_eq_true rfl) hW gx sh_1 (by decide) rfl (by decide) (s_165 hW gx) (fun R3809 T3810 H3811 p3812 => ?_))
  obtain ⟨e3813, e3815, z3816, e3814, b3817⟩ := p3812
  subst e3813
  subst e3814
  subst e3815
  show WL _ _ _ _ 1644 [(4, vI i), (3, .ref o), (2, .ref m), (1, .ref x), (0, .ref 0)] [vI z3816] _ H
  refine wl_of hX hb cL_1644 (rw_pop (pc' := 1645) rfl rfl ?_)
  refine wl_of hX hb cL_1645 (rw_aload_n (pc' := 1646) (v := .ref m) rfl rfl rfl ?_)
  refine wl_of hX hb cL_1646 (xc_V (pc' := 1649) (r := m) (as := []) (st := []) (lm_11_233) rfl rfl (Nat.le_of_ble_eq_true rfl) hW gm sh_42 (by decide) rfl (by decide) (s_295 hW gm (by omega)) (fun R3818 T3819 H3820 p3821 => ?_))
  obtain ⟨e3822, w3824, f3825, z3827, e3823, b3828, p3826⟩ := p3821
  subst e3822
  subst e3823
  show WL _ _ _ _ 1649 [(4, vI i), (3, .ref o), (2, .ref m), (1, .ref x), (0, .ref 0)] [vI z3827] _ H3820
  refine wl_of hX hb cL_1649 (rw_pop (pc' := 1650) rfl rfl ?_)
  refine wl_of hX hb cL_1650 (rw_goto (p1 := 1653) (by decide) ?_)
  have k3829 : H3820 x 9 = H x 9 := (f3825 x 9 _ gx rfl)
  have k3830 : H3820 m 6 = H m 6 := (f3825 m 6 _ gm rfl)
  have k3831 : H3820 x 11 = H x 11 := (f3825 x 11 _ gx rfl)
  have k3832 : H3820 m 13 = H m 13 := (f3825 m 13 _ gm rfl)
  have k3833 : H3820 x 8 = H x 8 := (f3825 x 8 _ gx rfl)
  have k3834 : H3820 m 3 = H m 3 := (f3825 m 3 _ gm rfl)
  have k3835 : H3820 x 10 = H x 10 := (f3825 x 10 _ gx rfl)
  have k3836 : H3820 x 12 = H x 12 := (f3825 x 12 _ gx rfl)
  have k3837 : H3820 m 2 = H m 2 := (f3825 m 2 _ gm rfl)
  have h3838 : XI T H3820 x m := (XI_fr hW gx f3825 rfl hXI)
  exact WL.loc hX (by simp) (next T H3820 ⟨⟨w3824, g0, gx, gm, go, by omega, by omega⟩, h3838, by omega, by omega, by omega⟩ (by omega) (by omega))
set_option maxHeartbeats 4000000 in
theorem wl_head {kt : Nat → Option mc_E} {CB SB : Nat} {X : mc_S → Prop} {T : wq_T} {H : wq_H} {Len x m o : Nat} {i : Int} (hX : wlX kt CB SB X) (hb : T.2.1 ≤ CB ∧ T.2.2.1 ≤ SB) (hI : wlJ Len x m o T H) (hL : Len ≤ 3072) (hi : 0 ≤ i ∧ i ≤ Len) (cases : ∀ t, t ∈ [256, 329, 354, 367, 380, 405, 454, 503, 516, 553, 578, 603, 616, 629, 642, 655, 668, 705, 718, 755, 792, 829, 882, 919, 944, 957, 994, 1019, 1056, 1109, 1162, 1175, 1200, 1225, 1250, 1263, 1316, 1329, 1342, 1367, 1404, 1429, 1454, 1467, 1504, 1517, 1530, 1587, 1615, 1640] → i + 6 ≤ Len → WL kt CB SB X t (wlL i x m o) [] T H) (next : i + 6 ≤ Len → WL kt CB SB X 1653 (wlL i x m o) [] T H) : WL kt CB SB X 23 (wlL i x m o) [] T H := by
  obtain ⟨⟨hW, g0, gx, gm, go, hK, hr⟩, hXI, hY1, hY2, hY3⟩ := hI
  refine wl_of hX hb cL_23 (rw_iload (pc' := 25) (z := i) rfl rfl ?_)
  refine wl_of hX hb cL_25 (rw_aload_n (pc' := 26) (v := .ref 0) rfl rfl rfl ?_)
  refine wl_of hX hb cL_26 (xa_N (pc' := 27) (a := 0) (n := Len) hW g0 (wsh_s _) (by decide) rfl ?_)
  refine wl_of hX hb cL_27 (rw_bipush (pc' := 29) (z := 6) rfl (by decide) ?_)
  refine wl_of hX hb cL_29 (rw_isub (pc' := 30) rfl ?_)
  refine wl_of hX hb cL_30 (rw_icmp_gt (p1 := 1659) (p2 := 33) (by decide) rfl ⟨by omega, by omega⟩ ⟨by omega, by omega⟩ (fun c3839 => ?_) (fun c3839 => ?_))
  · refine wl_of hX hb cL_1659 (rw_iconst (pc' := 1660) rfl ?_)
    exact WL.fin hX hb
  · refine wl_of hX hb cL_33 (rw_aload_n (pc' := 34) (v := .ref 0) rfl rfl rfl ?_)
    refine wl_of hX hb cL_34 (rw_iload (pc' := 36) (z := i) rfl rfl ?_)
    refine wl_of hX hb cL_36 (xa_I (so := 0) (pc' := 37) (a := 0) hW g0 (wsh_s _) (by omega) (wty_s _ _) (by omega) (by omega) rfl (fun b3840 b3841 => ?_))
    refine wl_of hX hb cL_37 (rw_bipush (pc' := 39) (z := 63) rfl (by decide) ?_)
    refine wl_of hX hb cL_39 (rw_iand (pc' := 40) rfl ?_)
    obtain ⟨v3842, e3843⟩ : ∃ x : Int, x = wq_and (H 0 (i.toNat)) 63 := ⟨_, rfl⟩
    rw [← e3843]
    have b3844 : 0 ≤ v3842 ∧ v3842 ≤ 63 := by
      rw [e3843]
      exact wq_and_b _ (by omega) (by omega)
    have c3845 : v3842 = 0 ∨ v3842 = 1 ∨ v3842 = 2 ∨ v3842 = 3 ∨ v3842 = 4 ∨ v3842 = 5 ∨ v3842 = 6 ∨ v3842 = 7 ∨ v3842 = 8 ∨ v3842 = 9 ∨ v3842 = 10 ∨ v3842 = 11 ∨ v3842 = 12 ∨ v3842 = 13 ∨ v3842 = 14 ∨ v3842 = 15 ∨ v3842 = 16 ∨ v3842 = 17 ∨ v3842 = 18 ∨ v3842 = 19 ∨ v3842 = 20 ∨ v3842 = 21 ∨ v3842 = 22 ∨ v3842 = 23 ∨ v3842 = 24 ∨ v3842 = 25 ∨ v3842 = 26 ∨ v3842 = 27 ∨ v3842 = 28 ∨ v3842 = 29 ∨ v3842 = 30 ∨ v3842 = 31 ∨ v3842 = 32 ∨ v3842 = 33 ∨ v3842 = 34 ∨ v3842 = 35 ∨ v3842 = 36 ∨ v3842 = 37 ∨ v3842 = 38 ∨ v3842 = 39 ∨ v3842 = 40 ∨ v3842 = 41 ∨ v3842 = 42 ∨ v3842 = 43 ∨ v3842 = 44 ∨ v3842 = 45 ∨ v3842 = 46 ∨ v3842 = 47 ∨ v3842 = 48 ∨ v3842 = 49 ∨ (v3842 < 0 ∨ 49 < v3842) := by omega
    rcases c3845 with c3845 | c3845 | c3845 | c3845 | c3845 | c3845 | c3845 | c3845 | c3845 | c3845 | c3845 | c3845 | c3845 | c3845 | c3845 | c3845 | c3845 | c3845 | c3845 | c3845 | c3845 | c3845 | c3845 | c3845 | c3845 | c3845 | c3845 | c3845 | c3845 | c3845 | c3845 | c3845 | c3845 | c3845 | c3845 | c3845 | c3845 | c3845 | c3845 | c3845 | c3845 | c3845 | c3845 | c3845 | c3845 | c3845 | c3845 | c3845 | c3845 | c3845 | c3845
    · refine wl_of hX hb cL_40 (rw_tsw (p1 := 256) ⟨by omega, by omega⟩ (by rw [c3845]; decide) ?_)
      exact cases 256 (by decide) (by omega)
    · refine wl_of hX hb cL_40 (rw_tsw (p1 := 329) ⟨by omega, by omega⟩ (by rw [c3845]; decide) ?_)
      exact cases 329 (by decide) (by omega)
    · refine wl_of hX hb cL_40 (rw_tsw (p1 := 354) ⟨by omega, by omega⟩ (by rw [c3845]; decide) ?_)
      exact cases 354 (by decide) (by omega)
    · refine wl_of hX hb cL_40 (rw_tsw (p1 := 367) ⟨by omega, by omega⟩ (by rw [c3845]; decide) ?_)
      exact cases 367 (by decide) (by omega)
    · refine wl_of hX hb cL_40 (rw_tsw (p1 := 380) ⟨by omega, by omega⟩ (by rw [c3845]; decide) ?_)
      exact cases 380 (by decide) (by omega)
    · refine wl_of hX hb cL_40 (rw_tsw (p1 := 405) ⟨by omega, by omega⟩ (by rw [c3845]; decide) ?_)
      exact cases 405 (by decide) (by omega)
    · refine wl_of hX hb cL_40 (rw_tsw (p1 := 454) ⟨by omega, by omega⟩ (by rw [c3845]; decide) ?_)
      exact cases 454 (by decide) (by omega)
    · refine wl_of hX hb cL_40 (rw_tsw (p1 := 503) ⟨by omega, by omega⟩ (by rw [c3845]; decide) ?_)
      exact cases 503 (by decide) (by omega)
    · refine wl_of hX hb cL_40 (rw_tsw (p1 := 516) ⟨by omega, by omega⟩ (by rw [c3845]; decide) ?_)
      exact cases 516 (by decide) (by omega)
    · refine wl_of hX hb cL_40 (rw_tsw (p1 := 553) ⟨by omega, by omega⟩ (by rw [c3845]; decide) ?_)
      exact cases 553 (by decide) (by omega)
    · refine wl_of hX hb cL_40 (rw_tsw (p1 := 578) ⟨by omega, by omega⟩ (by rw [c3845]; decide) ?_)
      exact cases 578 (by decide) (by omega)
    · refine wl_of hX hb cL_40 (rw_tsw (p1 := 603) ⟨by omega, by omega⟩ (by rw [c3845]; decide) ?_)
      exact cases 603 (by decide) (by omega)
    · refine wl_of hX hb cL_40 (rw_tsw (p1 := 616) ⟨by omega, by omega⟩ (by rw [c3845]; decide) ?_)
      exact cases 616 (by decide) (by omega)
    · refine wl_of hX hb cL_40 (rw_tsw (p1 := 629) ⟨by omega, by omega⟩ (by rw [c3845]; decide) ?_)
      exact cases 629 (by decide) (by omega)
    · refine wl_of hX hb cL_40 (rw_tsw (p1 := 642) ⟨by omega, by omega⟩ (by rw [c3845]; decide) ?_)
      exact cases 642 (by decide) (by omega)
    · refine wl_of hX hb cL_40 (rw_tsw (p1 := 655) ⟨by omega, by omega⟩ (by rw [c3845]; decide) ?_)
      exact cases 655 (by decide) (by omega)
    · refine wl_of hX hb cL_40 (rw_tsw (p1 := 668) ⟨by omega, by omega⟩ (by rw [c3845]; decide) ?_)
      exact cases 668 (by decide) (by omega)
    · refine wl_of hX hb cL_40 (rw_tsw (p1 := 705) ⟨by omega, by omega⟩ (by rw [c3845]; decide) ?_)
      exact cases 705 (by decide) (by omega)
    · refine wl_of hX hb cL_40 (rw_tsw (p1 := 718) ⟨by omega, by omega⟩ (by rw [c3845]; decide) ?_)
      exact cases 718 (by decide) (by omega)
    · refine wl_of hX hb cL_40 (rw_tsw (p1 := 755) ⟨by omega, by omega⟩ (by rw [c3845]; decide) ?_)
      exact cases 755 (by decide) (by omega)
    · refine wl_of hX hb cL_40 (rw_tsw (p1 := 792) ⟨by omega, by omega⟩ (by rw [c3845]; decide) ?_)
      exact cases 792 (by decide) (by omega)
    · refine wl_of hX hb cL_40 (rw_tsw (p1 := 829) ⟨by omega, by omega⟩ (by rw [c3845]; decide) ?_)
      exact cases 829 (by decide) (by omega)
    · refine wl_of hX hb cL_40 (rw_tsw (p1 := 882) ⟨by omega, by omega⟩ (by rw [c3845]; decide) ?_)
      exact cases 882 (by decide) (by omega)
    · refine wl_of hX hb cL_40 (rw_tsw (p1 := 919) ⟨by omega, by omega⟩ (by rw [c3845]; decide) ?_)
      exact cases 919 (by decide) (by omega)
    · refine wl_of hX hb cL_40 (rw_tsw (p1 := 944) ⟨by omega, by omega⟩ (by rw [c3845]; decide) ?_)
      exact cases 944 (by decide) (by omega)
    · refine wl_of hX hb cL_40 (rw_tsw (p1 := 957) ⟨by omega, by omega⟩ (by rw [c3845]; decide) ?_)
      exact cases 957 (by decide) (by omega)
    · refine wl_of hX hb cL_40 (rw_tsw (p1 := 994) ⟨by omega, by omega⟩ (by rw [c3845]; decide) ?_)
      exact cases 994 (by decide) (by omega)
    · refine wl_of hX hb cL_40 (rw_tsw (p1 := 1019) ⟨by omega, by omega⟩ (by rw [c3845]; decide) ?_)
      exact cases 1019 (by decide) (by omega)
    · refine wl_of hX hb cL_40 (rw_tsw (p1 := 1056) ⟨by omega, by omega⟩ (by rw [c3845]; decide) ?_)
      exact cases 1056 (by decide) (by omega)
    · refine wl_of hX hb cL_40 (rw_tsw (p1 := 1109) ⟨by omega, by omega⟩ (by rw [c3845]; decide) ?_)
      exact cases 1109 (by decide) (by omega)
    · refine wl_of hX hb cL_40 (rw_tsw (p1 := 1162) ⟨by omega, by omega⟩ (by rw [c3845]; decide) ?_)
      exact cases 1162 (by decide) (by omega)
    · refine wl_of hX hb cL_40 (rw_tsw (p1 := 1175) ⟨by omega, by omega⟩ (by rw [c3845]; decide) ?_)
      exact cases 1175 (by decide) (by omega)
    · refine wl_of hX hb cL_40 (rw_tsw (p1 := 1200) ⟨by omega, by omega⟩ (by rw [c3845]; decide) ?_)
      exact cases 1200 (by decide) (by omega)
    · refine wl_of hX hb cL_40 (rw_tsw (p1 := 1225) ⟨by omega, by omega⟩ (by rw [c3845]; decide) ?_)
      exact cases 1225 (by decide) (by omega)
    · refine wl_of hX hb cL_40 (rw_tsw (p1 := 1250) ⟨by omega, by omega⟩ (by rw [c3845]; decide) ?_)
      exact cases 1250 (by decide) (by omega)
    · refine wl_of hX hb cL_40 (rw_tsw (p1 := 1263) ⟨by omega, by omega⟩ (by rw [c3845]; decide) ?_)
      exact cases 1263 (by decide) (by omega)
    · refine wl_of hX hb cL_40 (rw_tsw (p1 := 1316) ⟨by omega, by omega⟩ (by rw [c3845]; decide) ?_)
      exact cases 1316 (by decide) (by omega)
    · refine wl_of hX hb cL_40 (rw_tsw (p1 := 1329) ⟨by omega, by omega⟩ (by rw [c3845]; decide) ?_)
      exact cases 1329 (by decide) (by omega)
    · refine wl_of hX hb cL_40 (rw_tsw (p1 := 1342) ⟨by omega, by omega⟩ (by rw [c3845]; decide) ?_)
      exact cases 1342 (by decide) (by omega)
    · refine wl_of hX hb cL_40 (rw_tsw (p1 := 1367) ⟨by omega, by omega⟩ (by rw [c3845]; decide) ?_)
      exact cases 1367 (by decide) (by omega)
    · refine wl_of hX hb cL_40 (rw_tsw (p1 := 1404) ⟨by omega, by omega⟩ (by rw [c3845]; decide) ?_)
      exact cases 1404 (by decide) (by omega)
    · refine wl_of hX hb cL_40 (rw_tsw (p1 := 1429) ⟨by omega, by omega⟩ (by rw [c3845]; decide) ?_)
      exact cases 1429 (by decide) (by omega)
    · refine wl_of hX hb cL_40 (rw_tsw (p1 := 1454) ⟨by omega, by omega⟩ (by rw [c3845]; decide) ?_)
      exact cases 1454 (by decide) (by omega)
    · refine wl_of hX hb cL_40 (rw_tsw (p1 := 1467) ⟨by omega, by omega⟩ (by rw [c3845]; decide) ?_)
      exact cases 1467 (by decide) (by omega)
    · refine wl_of hX hb cL_40 (rw_tsw (p1 := 1504) ⟨by omega, by omega⟩ (by rw [c3845]; decide) ?_)
      exact cases 1504 (by decide) (by omega)
    · refine wl_of hX hb cL_40 (rw_tsw (p1 := 1517) ⟨by omega, by omega⟩ (by rw [c3845]; decide) ?_)
      exact cases 1517 (by decide) (by omega)
    · refine wl_of hX hb cL_40 (rw_tsw (p1 := 1530) ⟨by omega, by omega⟩ (by rw [c3845]; decide) ?_)
      exact cases 1530 (by decide) (by omega)
    · refine wl_of hX hb cL_40 (rw_tsw (p1 := 1587) ⟨by omega, by omega⟩ (by rw [c3845]; decide) ?_)
      exact cases 1587 (by decide) (by omega)
    · refine wl_of hX hb cL_40 (rw_tsw (p1 := 1615) ⟨by omega, by omega⟩ (by rw [c3845]; decide) ?_)
      exact cases 1615 (by decide) (by omega)
    · refine wl_of hX hb cL_40 (rw_tsw (p1 := 1640) ⟨by omega, by omega⟩ (by rw [c3845]; decide) ?_)
      exact cases 1640 (by decide) (by omega)
    · refine wl_of hX hb cL_40 (rw_tsw (p1 := 1653) ⟨by omega, by omega⟩ (by rw [if_pos c3845]; decide) ?_)
      exact next (by omega)
theorem wl_back {kt : Nat → Option mc_E} {CB SB : Nat} {X : mc_S → Prop} {T : wq_T} {H : wq_H} {Len x m o : Nat} {i : Int} (hX : wlX kt CB SB X) (hb : T.2.1 ≤ CB ∧ T.2.2.1 ≤ SB) (hI : wlJ Len x m o T H) (hL : Len ≤ 3072) (hi : 0 ≤ i ∧ i + 6 ≤ Len) (next : WL kt CB SB X 23 (wlL (i + 6) x m o) [] T H) : WL kt CB SB X 1653 (wlL i x m o) [] T H := by
  obtain ⟨⟨hW, g0, gx, gm, go, hK, hr⟩, hXI, hY1, hY2, hY3⟩ := hI
  refine wl_of hX hb cL_1653 (rw_iinc (pc' := 1656) (z := i) (L' := [(4, vI (i + 6)), (3, .ref o), (2, .ref m), (1, .ref x), (0, .ref 0)]) rfl rfl rfl rfl ?_)
  refine wl_of hX hb cL_1656 (rw_goto (p1 := 23) (by decide) ?_)
  exact next
/-- the call that may throw, as the loop wants it -/
def wlLed (kt : Nat → Option mc_E) (CB SB : Nat) (X : mc_S → Prop) (Len x m o : Nat) : Prop := ∀ (T : wq_T) (H : wq_H) (i z : Int), T.2.1 + 20 ≤ CB ∧ T.2.2.1 + 500 ≤ SB → wI z → wlJ Len x m o T H → (∀ (z' : Int), wI z' → ∀ (T' : wq_T) (H' : wq_H), wlJ Len x m o T' H' → T'.2.1 ≤ T.2.1 + 20 → T'.2.2.1 ≤ T.2.2.1 + 500 → WL kt CB SB X 1598 (wlL i x m o) [vI z'] T' H') → WL kt CB SB X 1595 (wlL i x m o) [.ref o, vI z, .ref x] T H
set_option maxRecDepth 40000 in
theorem wl_loopL {kt : Nat → Option mc_E} {CB SB : Nat} {X : mc_S → Prop} {Len x m o : Nat} (hX : wlX kt CB SB X) (hL : Len ≤ 3072) (hled : wlLed kt CB SB X Len x m o) : ∀ (n : Nat) (T : wq_T) (H : wq_H) (i : Int), 0 ≤ i ∧ i ≤ Len → (Len - i).toNat = n → T.2.1 + 4 * (n + 6) ≤ CB → T.2.2.1 + 100 * (n + 6) ≤ SB → wlJ Len x m o T H → WL kt CB SB X 23 (wlL i x m o) [] T H := by
  intro n
  induction n using Nat.strongRecOn with
  | _ n ih =>
    intro T H i hi hn hc hs hI
    have hb : T.2.1 ≤ CB ∧ T.2.2.1 ≤ SB := ⟨by omega, by omega⟩
    have hb2 : T.2.1 + 20 ≤ CB ∧ T.2.2.1 + 500 ≤ SB := ⟨by omega, by omega⟩
    refine wl_head hX hb hI hL hi (fun t ht h6 => ?_) (fun h6 => wl_back hX hb hI hL ⟨hi.1, h6⟩ (ih (Len - (i + 6)).toNat (by omega) T H (i + 6) ⟨by omega, by omega⟩ rfl (by omega) (by omega) hI))
    have next : ∀ T' H', wlJ Len x m o T' H' → T'.2.1 ≤ T.2.1 + 20 → T'.2.2.1 ≤ T.2.2.1 + 500 → WL kt CB SB X 1653 (wlL i x m o) [] T' H' := fun T' H' hI' h1 h2 => wl_back hX ⟨by omega, by omega⟩ hI' hL ⟨hi.1, h6⟩ (ih (Len - (i + 6)).toNat (by omega) T' H' (i + 6) ⟨by omega, by omega⟩ rfl (by omega) (by omega) hI')
    rcases List.mem_cons.mp ht with rfl | ht
    · exact wl_c0 hX hb hI hL ⟨hi.1, h6⟩ hb2 next
    rcases List.mem_cons.mp ht with rfl | ht
    · exact wl_c1 hX hb hI hL ⟨hi.1, h6⟩ hb2 next
    rcases List.mem_cons.mp ht with rfl | ht
    · exact wl_c2 hX hb hI hL ⟨hi.1, h6⟩ hb2 next
    rcases List.mem_cons.mp ht with rfl | ht
    · exact wl_c3 hX hb hI hL ⟨hi.1, h6⟩ hb2 next
    rcases List.mem_cons.mp ht with rfl | ht
    · exact wl_c4 hX hb hI hL ⟨hi.1, h6⟩ hb2 next
    rcases List.mem_cons.mp ht with rfl | ht
    · exact wl_c5 hX hb hI hL ⟨hi.1, h6⟩ hb2 next
    rcases List.mem_cons.mp ht with rfl | ht
    · exact wl_c6 hX hb hI hL ⟨hi.1, h6⟩ hb2 next
    rcases List.mem_cons.mp ht with rfl | ht
    · exact wl_c7 hX hb hI hL ⟨hi.1, h6⟩ hb2 next
    rcases List.mem_cons.mp ht with rfl | ht
    · exact wl_c8 hX hb hI hL ⟨hi.1, h6⟩ hb2 next
    rcases List.mem_cons.mp ht with rfl | ht
    · exact wl_c9 hX hb hI hL ⟨hi.1, h6⟩ hb2 next
    rcases List.mem_cons.mp ht with rfl | ht
    · exact wl_c10 hX hb hI hL ⟨hi.1, h6⟩ hb2 next
    rcases List.mem_cons.mp ht with rfl | ht
    · exact wl_c11 hX hb hI hL ⟨hi.1, h6⟩ hb2 next
    rcases List.mem_cons.mp ht with rfl | ht
    · exact wl_c12 hX hb hI hL ⟨hi.1, h6⟩ hb2 next
    rcases List.mem_cons.mp ht with rfl | ht
    · exact wl_c13 hX hb hI hL ⟨hi.1, h6⟩ hb2 next
    rcases List.mem_cons.mp ht with rfl | ht
    · exact wl_c14 hX hb hI hL ⟨hi.1, h6⟩ hb2 next
    rcases List.mem_cons.mp ht with rfl | ht
    · exact wl_c15 hX hb hI hL ⟨hi.1, h6⟩ hb2 next
    rcases List.mem_cons.mp ht with rfl | ht
    · exact wl_c16 hX hb hI hL ⟨hi.1, h6⟩ hb2 next
    rcases List.mem_cons.mp ht with rfl | ht
    · exact wl_c17 hX hb hI hL ⟨hi.1, h6⟩ hb2 next
    rcases List.mem_cons.mp ht with rfl | ht
    · exact wl_c18 hX hb hI hL ⟨hi.1, h6⟩ hb2 next
    rcases List.mem_cons.mp ht with rfl | ht
    · exact wl_c19 hX hb hI hL ⟨hi.1, h6⟩ hb2 next
    rcases List.mem_cons.mp ht with rfl | ht
    · exact wl_c20 hX hb hI hL ⟨hi.1, h6⟩ hb2 next
    rcases List.mem_cons.mp ht with rfl | ht
    · exact wl_c21 hX hb hI hL ⟨hi.1, h6⟩ hb2 next
    rcases List.mem_cons.mp ht with rfl | ht
    · exact wl_c22 hX hb hI hL ⟨hi.1, h6⟩ hb2 next
    rcases List.mem_cons.mp ht with rfl | ht
    · exact wl_c23 hX hb hI hL ⟨hi.1, h6⟩ hb2 next
    rcases List.mem_cons.mp ht with rfl | ht
    · exact wl_c24 hX hb hI hL ⟨hi.1, h6⟩ hb2 next
    rcases List.mem_cons.mp ht with rfl | ht
    · exact wl_c25 hX hb hI hL ⟨hi.1, h6⟩ hb2 next
    rcases List.mem_cons.mp ht with rfl | ht
    · exact wl_c26 hX hb hI hL ⟨hi.1, h6⟩ hb2 next
    rcases List.mem_cons.mp ht with rfl | ht
    · exact wl_c27 hX hb hI hL ⟨hi.1, h6⟩ hb2 next
    rcases List.mem_cons.mp ht with rfl | ht
    · exact wl_c28 hX hb hI hL ⟨hi.1, h6⟩ hb2 next
    rcases List.mem_cons.mp ht with rfl | ht
    · exact wl_c29 hX hb hI hL ⟨hi.1, h6⟩ hb2 next
    rcases List.mem_cons.mp ht with rfl | ht
    · exact wl_c30 hX hb hI hL ⟨hi.1, h6⟩ hb2 next
    rcases List.mem_cons.mp ht with rfl | ht
    · exact wl_c31 hX hb hI hL ⟨hi.1, h6⟩ hb2 next
    rcases List.mem_cons.mp ht with rfl | ht
    · exact wl_c32 hX hb hI hL ⟨hi.1, h6⟩ hb2 next
    rcases List.mem_cons.mp ht with rfl | ht
    · exact wl_c33 hX hb hI hL ⟨hi.1, h6⟩ hb2 next
    rcases List.mem_cons.mp ht with rfl | ht
    · exact wl_c34 hX hb hI hL ⟨hi.1, h6⟩ hb2 next
    rcases List.mem_cons.mp ht with rfl | ht
    · exact wl_c35 hX hb hI hL ⟨hi.1, h6⟩ hb2 next
    rcases List.mem_cons.mp ht with rfl | ht
    · exact wl_c36 hX hb hI hL ⟨hi.1, h6⟩ hb2 next
    rcases List.mem_cons.mp ht with rfl | ht
    · exact wl_c37 hX hb hI hL ⟨hi.1, h6⟩ hb2 next
    rcases List.mem_cons.mp ht with rfl | ht
    · exact wl_c38 hX hb hI hL ⟨hi.1, h6⟩ hb2 next
    rcases List.mem_cons.mp ht with rfl | ht
    · exact wl_c39 hX hb hI hL ⟨hi.1, h6⟩ hb2 next
    rcases List.mem_cons.mp ht with rfl | ht
    · exact wl_c40 hX hb hI hL ⟨hi.1, h6⟩ hb2 next
    rcases List.mem_cons.mp ht with rfl | ht
    · exact wl_c41 hX hb hI hL ⟨hi.1, h6⟩ hb2 next
    rcases List.mem_cons.mp ht with rfl | ht
    · exact wl_c42 hX hb hI hL ⟨hi.1, h6⟩ hb2 next
    rcases List.mem_cons.mp ht with rfl | ht
    · exact wl_c43 hX hb hI hL ⟨hi.1, h6⟩ hb2 next
    rcases List.mem_cons.mp ht with rfl | ht
    · exact wl_c44 hX hb hI hL ⟨hi.1, h6⟩ hb2 next
    rcases List.mem_cons.mp ht with rfl | ht
    · exact wl_c45 hX hb hI hL ⟨hi.1, h6⟩ hb2 next
    rcases List.mem_cons.mp ht with rfl | ht
    · exact wl_c46 hX hb hI hL ⟨hi.1, h6⟩ hb2 next
    rcases List.mem_cons.mp ht with rfl | ht
    · exact wl_c47 hX hb hI hL ⟨hi.1, h6⟩ hb2 (fun hz _ hI2 k => hled T H i _ hb2 hz hI2 k) next
    rcases List.mem_cons.mp ht with rfl | ht
    · exact wl_c48 hX hb hI hL ⟨hi.1, h6⟩ hb2 next
    rcases List.mem_cons.mp ht with rfl | ht
    · exact wl_c49 hX hb hI hL ⟨hi.1, h6⟩ hb2 next
    cases ht
