/-! THE LAW, GONE ON WITH (own work) -/
set_option maxHeartbeats 4000000 in
theorem wl_c7 {kt : Nat → Option mc_E} {CB SB : Nat} {X : mc_S → Prop} {T : wq_T} {H : wq_H} {Len x m o : Nat} {i : Int} (hX : wlX kt CB SB X) (hb : T.2.1 ≤ CB ∧ T.2.2.1 ≤ SB) (hI : wlJ Len x m o T H) (hL : Len ≤ 3072) (hi : 0 ≤ i ∧ i + 6 ≤ Len) (hb2 : T.2.1 + 20 ≤ CB ∧ T.2.2.1 + 500 ≤ SB)  (next : ∀ T' H', wlJ Len x m o T' H' → T'.2.1 ≤ T.2.1 + 20 → T'.2.2.1 ≤ T.2.2.1 + 500 → WL kt CB SB X 1653 (wlL i x m o) [] T' H') : WL kt CB SB X 503 (wlL i x m o) [] T H := by
  obtain ⟨⟨hW, g0, gx, gm, go, hK, hr⟩, hXI, hY1, hY2⟩ := hI
  refine wl_of hX hb cL_503 (rw_aload_n (pc' := 504) (v := .ref x) rfl rfl rfl ?_)
  refine wl_of hX hb cL_504 (xc_V (pc' := 507) (r := x) (as := []) (st := []) (lm_11_50) rfl rfl (Nat.le_of_ble_eq_true rfl) hW gx sh_1 (by decide) rfl (by decide) (s_61 hW gx) (fun R2358 T2359 H2360 p2361 => ?_))
  obtain ⟨e2362, w2364, f2365, z2366, e2363, b2367⟩ := p2361
  subst e2362
  subst e2363
  show WL _ _ _ _ 507 [(4, vI i), (3, .ref o), (2, .ref m), (1, .ref x), (0, .ref 0)] [vL z2366] _ H2360
  refine wl_of hX hb cL_507 (rw_pop2 (pc' := 508) rfl rfl ?_)
  refine wl_of hX hb cL_508 (rw_aload_n (pc' := 509) (v := .ref m) rfl rfl rfl ?_)
  have k2368 : wKI H2360 m = wKI H m := (wKI_fr hW gm f2365 rfl)
  have k2369 : H2360 x 9 = H x 9 := (f2365 x 9 _ gx rfl)
  have k2370 : H2360 m 6 = H m 6 := (f2365 m 6 _ gm rfl)
  have k2371 : H2360 x 11 = H x 11 := (f2365 x 11 _ gx rfl)
  have k2372 : H2360 m 13 = H m 13 := (f2365 m 13 _ gm rfl)
  have k2373 : H2360 x 8 = H x 8 := (f2365 x 8 _ gx rfl)
  have k2374 : H2360 m 3 = H m 3 := (f2365 m 3 _ gm rfl)
  refine wl_of hX hb cL_509 (xc_V (pc' := 512) (r := m) (as := []) (st := []) (lm_11_54) rfl rfl (Nat.le_of_ble_eq_true rfl) w2364 gm sh_42 (by decide) rfl (by decide) (s_219 w2364 gm (by omega)) (fun R2375 T2376 H2377 p2378 => ?_))
  obtain ⟨e2379, w2381, f2382, z2384, e2380, b2385, p2383⟩ := p2378
  subst e2379
  subst e2380
  show WL _ _ _ _ 512 [(4, vI i), (3, .ref o), (2, .ref m), (1, .ref x), (0, .ref 0)] [vL z2384] _ H2377
  refine wl_of hX hb cL_512 (rw_pop2 (pc' := 513) rfl rfl ?_)
  refine wl_of hX hb cL_513 (rw_goto (p1 := 1653) (by decide) ?_)
  have k2386 : H2377 x 9 = H2360 x 9 := (f2382 x 9 _ gx rfl)
  have k2387 : H2377 m 6 = H2360 m 6 := (f2382 m 6 _ gm rfl)
  have k2388 : H2377 x 11 = H2360 x 11 := (f2382 x 11 _ gx rfl)
  have k2389 : H2377 m 13 = H2360 m 13 := (f2382 m 13 _ gm rfl)
  have k2390 : H2377 x 8 = H2360 x 8 := (f2382 x 8 _ gx rfl)
  have k2391 : H2377 m 3 = H2360 m 3 := (f2382 m 3 _ gm rfl)
  have h2392 : XI T H2377 x m := (XI_fr w2364 gx f2382 rfl (XI_fr hW gx f2365 rfl hXI))
  exact WL.loc hX (by simp) (next T H2377 ⟨⟨w2381, g0, gx, gm, go, by omega, by omega⟩, h2392, by omega, by omega⟩ (by omega) (by omega))
set_option maxHeartbeats 4000000 in
theorem wl_c8 {kt : Nat → Option mc_E} {CB SB : Nat} {X : mc_S → Prop} {T : wq_T} {H : wq_H} {Len x m o : Nat} {i : Int} (hX : wlX kt CB SB X) (hb : T.2.1 ≤ CB ∧ T.2.2.1 ≤ SB) (hI : wlJ Len x m o T H) (hL : Len ≤ 3072) (hi : 0 ≤ i ∧ i + 6 ≤ Len) (hb2 : T.2.1 + 20 ≤ CB ∧ T.2.2.1 + 500 ≤ SB)  (next : ∀ T' H', wlJ Len x m o T' H' → T'.2.1 ≤ T.2.1 + 20 → T'.2.2.1 ≤ T.2.2.1 + 500 → WL kt CB SB X 1653 (wlL i x m o) [] T' H') : WL kt CB SB X 516 (wlL i x m o) [] T H := by
  obtain ⟨⟨hW, g0, gx, gm, go, hK, hr⟩, hXI, hY1, hY2⟩ := hI
  refine wl_of hX hb cL_516 (rw_aload_n (pc' := 517) (v := .ref x) rfl rfl rfl ?_)
  refine wl_of hX hb cL_517 (rw_aload_n (pc' := 518) (v := .ref 0) rfl rfl rfl ?_)
  refine wl_of hX hb cL_518 (rw_iload (pc' := 520) (z := i) rfl rfl ?_)
  refine wl_of hX hb cL_520 (rw_iconst (pc' := 521) rfl ?_)
  refine wl_of hX hb cL_521 (rw_iadd (pc' := 522) rfl ?_)
  refine wl_of hX hb cL_522 (xa_I (so := 0) (pc' := 523) (a := 0) hW g0 (wsh_s _) (by omega) (wty_s _ _) (by omega) (by omega) rfl (fun b2393 b2394 => ?_))
  refine wl_of hX hb cL_523 (rw_aload_n (pc' := 524) (v := .ref 0) rfl rfl rfl ?_)
  refine wl_of hX hb cL_524 (rw_iload (pc' := 526) (z := i) rfl rfl ?_)
  refine wl_of hX hb cL_526 (rw_iconst (pc' := 527) rfl ?_)
  refine wl_of hX hb cL_527 (rw_iadd (pc' := 528) rfl ?_)
  refine wl_of hX hb cL_528 (xa_I (so := 0) (pc' := 529) (a := 0) hW g0 (wsh_s _) (by omega) (wty_s _ _) (by omega) (by omega) rfl (fun b2395 b2396 => ?_))
  obtain ⟨B, tc, tm, cu, dr, C8, e8, d8, n8, g8, ce8, e0, gtc, htc, em, gtm, htm, ecu, gcu, edr, gdr, hcu, hdr, hdec, hded, hsp, hC1, hC2, hcu8, hrb8, hcg8, hmn8, hE, hZ, hn8, hXA, hV8, hSG, ece8, gce8, hcen8, hhdr8, hknn8, -⟩ := hXI
  have hN3 := RB_n3 hrb8
  have hE13 : ∀ h : Nat, h < 24 → 0 ≤ e8 13 h ∧ e8 13 h ≤ 100 := fun k hk => by
    obtain ⟨s, h1, h2, h3⟩ := hcu8.1.2.2.1
    exact ⟨(h3 k hk).1, (h3 k hk).2.1⟩
  have hXW := hXA.1
  have hXN := hXA.2
  have hE0 : e8 0 3 = d8 0 3 ∧ e8 0 0 = d8 0 0 := by
    have h := hE 0 (by decide)
    exact ⟨congrFun h 3, congrFun h 0⟩
  have u2397 := CU_k hcu8
  have h2398 : CY T H cu (d8 0 3) g8 (H cu 17) := ⟨hcg8, rfl⟩
  have h2399 : RY T H m (d8 0 3) g8 (H m 32) := ⟨hmn8, rfl⟩
  obtain ⟨t9, ht9⟩ : ∃ t : Int, t = H x 9 := ⟨_, rfl⟩
  obtain ⟨y9, hy9⟩ : ∃ y : Int, y = H 0 ((i + 2).toNat) := ⟨_, rfl⟩
  refine wl_of hX hb cL_529 (xc_V (pc' := 532) (r := x) (as := [vI (H 0 ((i + 1).toNat)), vI (H 0 ((i + 2).toNat))]) (st := []) (lm_11_55) rfl rfl (Nat.le_of_ble_eq_true rfl) hW gx sh_1 (by decide) rfl (by decide) (u_62 (e := e8) (d := d8) (n := n8) (nY := ((d8 0 3))) (gY := g8) (cY := ((H cu 17))) hW gx ⟨by omega, by omega⟩ ⟨by omega, by omega⟩ ecu gcu (by omega) (by omega) (by omega) (by assumption) hcu8 h2398 hcu) (fun R2400 T2401 H2402 p2403 => ?_))
  obtain ⟨e2404, w2406, f2407, z2408, e2405, b2409, p2410⟩ := p2403
  subst e2404
  subst e2405
  rcases p2410 with ⟨a2411, a2412, a2413, a2414⟩ | ⟨a2415, a2416, a2417⟩
  · show WL _ _ _ _ 532 [(4, vI i), (3, .ref o), (2, .ref m), (1, .ref x), (0, .ref 0)] [vI z2408] _ H2402
    refine wl_of hX hb cL_532 (rw_pop (pc' := 533) rfl rfl ?_)
    refine wl_of hX hb cL_533 (rw_aload_n (pc' := 534) (v := .ref m) rfl rfl rfl ?_)
    refine wl_of hX hb cL_534 (rw_aload_n (pc' := 535) (v := .ref 0) rfl rfl rfl ?_)
    refine wl_of hX hb cL_535 (rw_iload (pc' := 537) (z := i) rfl rfl ?_)
    refine wl_of hX hb cL_537 (rw_iconst (pc' := 538) rfl ?_)
    refine wl_of hX hb cL_538 (rw_iadd (pc' := 539) rfl ?_)
    have k2420 : H2402 0 ((i + 1).toNat) = H 0 ((i + 1).toNat) := (f2407 0 ((i + 1).toNat) _ g0 (wmem_s rfl))
    refine wl_of hX hb cL_539 (xa_I (so := 0) (pc' := 540) (a := 0) w2406 g0 (wsh_s _) (by omega) (wty_s _ _) (by omega) (by omega) rfl (fun b2418 b2419 => ?_))
    refine wl_of hX hb cL_540 (rw_aload_n (pc' := 541) (v := .ref 0) rfl rfl rfl ?_)
    refine wl_of hX hb cL_541 (rw_iload (pc' := 543) (z := i) rfl rfl ?_)
    refine wl_of hX hb cL_543 (rw_iconst (pc' := 544) rfl ?_)
    refine wl_of hX hb cL_544 (rw_iadd (pc' := 545) rfl ?_)
    have k2423 : H2402 0 ((i + 2).toNat) = H 0 ((i + 2).toNat) := (f2407 0 ((i + 2).toNat) _ g0 (wmem_s rfl))
    refine wl_of hX hb cL_545 (xa_I (so := 0) (pc' := 546) (a := 0) w2406 g0 (wsh_s _) (by omega) (wty_s _ _) (by omega) (by omega) rfl (fun b2421 b2422 => ?_))
    have k2424 : wKI H2402 m = wKI H m := (wKI_fr hW gm f2407 rfl)
    have k2425 : H2402 x 9 = H x 9 := (f2407 x 9 _ gx rfl)
    have k2426 : H2402 m 6 = H m 6 := (f2407 m 6 _ gm rfl)
    have k2427 : H2402 x 11 = H x 11 := (f2407 x 11 _ gx rfl)
    have k2428 : H2402 m 13 = H m 13 := (f2407 m 13 _ gm rfl)
    have k2429 : H2402 x 8 = H x 8 := (f2407 x 8 _ gx rfl)
    have k2430 : H2402 m 3 = H m 3 := (f2407 m 3 _ gm rfl)
    rw [show H2402 0 ((i + 2).toNat) = H 0 ((i + 2).toNat) by omega]
    rw [show H2402 0 ((i + 1).toNat) = H 0 ((i + 1).toNat) by omega]
    have h2431 : RB T H2402 m e8 d8 := (RB_fr hW gm f2407 rfl hrb8)
    have h2432 : RY T H2402 m (d8 0 3) g8 (H m 32) := (RY_fr hW gm f2407 rfl h2399)
    refine wl_of hX hb cL_546 (xc_V (pc' := 549) (r := m) (as := [vI (H 0 ((i + 1).toNat)), vI (H 0 ((i + 2).toNat))]) (st := []) (lm_11_59) rfl rfl (Nat.le_of_ble_eq_true rfl) w2406 gm sh_42 (by decide) rfl (by decide) (u_222 (e := e8) (d := d8) (nY := ((d8 0 3))) (gY := g8) (cY := ((H m 32))) w2406 gm ⟨by omega, by omega⟩ ⟨by omega, by omega⟩ (by omega) h2431 h2432) (fun R2433 T2434 H2435 p2436 => ?_))
    obtain ⟨e2437, w2439, f2440, z2441, e2438, b2442, p2443⟩ := p2436
    subst e2437
    subst e2438
    rcases p2443 with ⟨a2444, a2445, a2446⟩ | ⟨a2447, a2448, a2449⟩
    · show WL _ _ _ _ 549 [(4, vI i), (3, .ref o), (2, .ref m), (1, .ref x), (0, .ref 0)] [vI z2441] _ H2435
      refine wl_of hX hb cL_549 (rw_pop (pc' := 550) rfl rfl ?_)
      refine wl_of hX hb cL_550 (rw_goto (p1 := 1653) (by decide) ?_)
      have k2450 : wKI H2435 m = wKI H2402 m := (wKI_fr w2406 gm f2440 rfl)
      have k2451 : H2435 x 9 = H2402 x 9 := (f2440 x 9 _ gx rfl)
      have k2452 : H2435 m 6 = H2402 m 6 := (f2440 m 6 _ gm rfl)
      have k2453 : H2435 x 11 = H2402 x 11 := (f2440 x 11 _ gx rfl)
      have k2454 : H2435 m 13 = H2402 m 13 := (f2440 m 13 _ gm rfl)
      have k2455 : H2435 x 8 = H2402 x 8 := (f2440 x 8 _ gx rfl)
      have k2456 : H2435 m 3 = H2402 m 3 := (f2440 m 3 _ gm rfl)
      have k2457 : H2435 x 0 = H x 0 := ((f2440 x 0 _ gx rfl).trans (f2407 x 0 _ gx rfl))
      have q2458 : H2435 x 0 = (tc : Int) := k2457.trans e0
      have k2459 : H2435 m 5 = H m 5 := ((f2440 m 5 _ gm rfl).trans (f2407 m 5 _ gm rfl))
      have q2460 : H2435 m 5 = (tm : Int) := k2459.trans em
      have k2461 : H2435 x 6 = H x 6 := ((f2440 x 6 _ gx rfl).trans (f2407 x 6 _ gx rfl))
      have q2462 : H2435 x 6 = (cu : Int) := k2461.trans ecu
      have k2463 : H2435 x 7 = H x 7 := ((f2440 x 7 _ gx rfl).trans (f2407 x 7 _ gx rfl))
      have q2464 : H2435 x 7 = (dr : Int) := k2463.trans edr
      have h2465 : TP T H2435 tc B := (TP_fr w2406 gtc f2440 rfl (TP_fr hW gtc f2407 rfl htc))
      have h2466 : TM T H2435 tm B := (TM_fr w2406 gtm f2440 rfl (TM_fr hW gtm f2407 rfl htm))
      have h2467 : DD T H2435 cu  := (DD_fr w2406 gcu f2440 rfl (DD_fr hW gcu f2407 rfl hcu))
      have h2468 : DD T H2435 dr  := (DD_fr w2406 gdr f2440 rfl (DD_fr hW gdr f2407 rfl hdr))
      have h2469 : DE T H2435 cu  := (DE_fr w2406 gcu f2440 rfl (DE_fr hW gcu f2407 rfl hdec))
      have h2470 : DE T H2435 dr  := (DE_fr w2406 gdr f2440 rfl (DE_fr hW gdr f2407 rfl hded))
      have h2471 : SP T H2435 x C8 := (SP_fr w2406 gx f2440 rfl (SP_fr hW gx f2407 rfl hsp))
      have h2472 : CU T H2435 cu e8 d8 n8 := (CU_fr w2406 gcu f2440 rfl (CU_fr hW gcu f2407 rfl hcu8))
      have h2473 : CY T H2435 cu ((d8 0 3)) (xup g8 ((H 0 ((i + 1).toNat))).toNat (H 0 ((i + 2).toNat))) ((H cu 17)) := (CY_fr w2406 gcu f2440 rfl a2414)
      have k2474 : H2435 x 3 = H x 3 := ((f2440 x 3 _ gx rfl).trans (f2407 x 3 _ gx rfl))
      have q2475 : H2435 x 3 = (ce8 : Int) := k2474.trans ece8
      have h2476 : CEN T H2435 ce8 e8 d8 := (CEN_fr w2406 gce8 f2440 rfl (CEN_fr hW gce8 f2407 rfl hcen8))
      have h2477 : HDR T H2435 ce8  := (HDR_fr w2406 gce8 f2440 rfl (HDR_fr hW gce8 f2407 rfl hhdr8))
      have h2478 : KNN T H2435 m e8 d8 := (KNN_fr w2406 gm f2440 rfl (KNN_fr hW gm f2407 rfl hknn8))
      have h2479 : RB T H2435 m e8 d8 := (RB_fr w2406 gm f2440 rfl h2431)
      exact WL.loc hX (by simp) (next T H2435 ⟨⟨w2439, g0, gx, gm, go, by omega, by omega⟩, ⟨_, tc, tm, cu, dr, _, _, _, _, _, ce8, q2458, gtc, h2465, q2460, gtm, h2466, q2462, gcu, q2464, gdr, h2467, h2468, h2469, h2470, h2471, hC1, hC2, h2472, h2479, (h2473).1, (a2446).1, hE, hZ, (by omega), (by assumption), (by omega), (by first | assumption | exact SG_0), q2475, gce8, h2476, h2477, h2478, gm⟩, by omega, by omega⟩ (by omega) (by omega))
    · show WL _ _ _ _ 549 [(4, vI i), (3, .ref o), (2, .ref m), (1, .ref x), (0, .ref 0)] [vI z2441] _ H2435
      refine wl_of hX hb cL_549 (rw_pop (pc' := 550) rfl rfl ?_)
      refine wl_of hX hb cL_550 (rw_goto (p1 := 1653) (by decide) ?_)
      have k2480 : wKI H2435 m = wKI H2402 m := (wKI_fr w2406 gm f2440 rfl)
      have k2481 : H2435 x 9 = H2402 x 9 := (f2440 x 9 _ gx rfl)
      have k2482 : H2435 m 6 = H2402 m 6 := (f2440 m 6 _ gm rfl)
      have k2483 : H2435 x 11 = H2402 x 11 := (f2440 x 11 _ gx rfl)
      have k2484 : H2435 m 13 = H2402 m 13 := (f2440 m 13 _ gm rfl)
      have k2485 : H2435 x 8 = H2402 x 8 := (f2440 x 8 _ gx rfl)
      have k2486 : H2435 m 3 = H2402 m 3 := (f2440 m 3 _ gm rfl)
      have k2487 : H2435 x 0 = H x 0 := ((f2440 x 0 _ gx rfl).trans (f2407 x 0 _ gx rfl))
      have q2488 : H2435 x 0 = (tc : Int) := k2487.trans e0
      have k2489 : H2435 m 5 = H m 5 := ((f2440 m 5 _ gm rfl).trans (f2407 m 5 _ gm rfl))
      have q2490 : H2435 m 5 = (tm : Int) := k2489.trans em
      have k2491 : H2435 x 6 = H x 6 := ((f2440 x 6 _ gx rfl).trans (f2407 x 6 _ gx rfl))
      have q2492 : H2435 x 6 = (cu : Int) := k2491.trans ecu
      have k2493 : H2435 x 7 = H x 7 := ((f2440 x 7 _ gx rfl).trans (f2407 x 7 _ gx rfl))
      have q2494 : H2435 x 7 = (dr : Int) := k2493.trans edr
      have h2495 : TP T H2435 tc B := (TP_fr w2406 gtc f2440 rfl (TP_fr hW gtc f2407 rfl htc))
      have h2496 : TM T H2435 tm B := (TM_fr w2406 gtm f2440 rfl (TM_fr hW gtm f2407 rfl htm))
      have h2497 : DD T H2435 cu  := (DD_fr w2406 gcu f2440 rfl (DD_fr hW gcu f2407 rfl hcu))
      have h2498 : DD T H2435 dr  := (DD_fr w2406 gdr f2440 rfl (DD_fr hW gdr f2407 rfl hdr))
      have h2499 : DE T H2435 cu  := (DE_fr w2406 gcu f2440 rfl (DE_fr hW gcu f2407 rfl hdec))
      have h2500 : DE T H2435 dr  := (DE_fr w2406 gdr f2440 rfl (DE_fr hW gdr f2407 rfl hded))
      have h2501 : SP T H2435 x C8 := (SP_fr w2406 gx f2440 rfl (SP_fr hW gx f2407 rfl hsp))
      have h2502 : CU T H2435 cu e8 d8 n8 := (CU_fr w2406 gcu f2440 rfl (CU_fr hW gcu f2407 rfl hcu8))
      have h2503 : CY T H2435 cu ((d8 0 3)) (xup g8 ((H 0 ((i + 1).toNat))).toNat (H 0 ((i + 2).toNat))) ((H cu 17)) := (CY_fr w2406 gcu f2440 rfl a2414)
      have k2504 : H2435 x 3 = H x 3 := ((f2440 x 3 _ gx rfl).trans (f2407 x 3 _ gx rfl))
      have q2505 : H2435 x 3 = (ce8 : Int) := k2504.trans ece8
      have h2506 : CEN T H2435 ce8 e8 d8 := (CEN_fr w2406 gce8 f2440 rfl (CEN_fr hW gce8 f2407 rfl hcen8))
      have h2507 : HDR T H2435 ce8  := (HDR_fr w2406 gce8 f2440 rfl (HDR_fr hW gce8 f2407 rfl hhdr8))
      have h2508 : KNN T H2435 m e8 d8 := (KNN_fr w2406 gm f2440 rfl (KNN_fr hW gm f2407 rfl hknn8))
      exfalso
      omega
  · show WL _ _ _ _ 532 [(4, vI i), (3, .ref o), (2, .ref m), (1, .ref x), (0, .ref 0)] [vI z2408] _ H2402
    refine wl_of hX hb cL_532 (rw_pop (pc' := 533) rfl rfl ?_)
    refine wl_of hX hb cL_533 (rw_aload_n (pc' := 534) (v := .ref m) rfl rfl rfl ?_)
    refine wl_of hX hb cL_534 (rw_aload_n (pc' := 535) (v := .ref 0) rfl rfl rfl ?_)
    refine wl_of hX hb cL_535 (rw_iload (pc' := 537) (z := i) rfl rfl ?_)
    refine wl_of hX hb cL_537 (rw_iconst (pc' := 538) rfl ?_)
    refine wl_of hX hb cL_538 (rw_iadd (pc' := 539) rfl ?_)
    have k2511 : H2402 0 ((i + 1).toNat) = H 0 ((i + 1).toNat) := (f2407 0 ((i + 1).toNat) _ g0 (wmem_s rfl))
    refine wl_of hX hb cL_539 (xa_I (so := 0) (pc' := 540) (a := 0) w2406 g0 (wsh_s _) (by omega) (wty_s _ _) (by omega) (by omega) rfl (fun b2509 b2510 => ?_))
    refine wl_of hX hb cL_540 (rw_aload_n (pc' := 541) (v := .ref 0) rfl rfl rfl ?_)
    refine wl_of hX hb cL_541 (rw_iload (pc' := 543) (z := i) rfl rfl ?_)
    refine wl_of hX hb cL_543 (rw_iconst (pc' := 544) rfl ?_)
    refine wl_of hX hb cL_544 (rw_iadd (pc' := 545) rfl ?_)
    have k2514 : H2402 0 ((i + 2).toNat) = H 0 ((i + 2).toNat) := (f2407 0 ((i + 2).toNat) _ g0 (wmem_s rfl))
    refine wl_of hX hb cL_545 (xa_I (so := 0) (pc' := 546) (a := 0) w2406 g0 (wsh_s _) (by omega) (wty_s _ _) (by omega) (by omega) rfl (fun b2512 b2513 => ?_))
    have k2515 : wKI H2402 m = wKI H m := (wKI_fr hW gm f2407 rfl)
    have k2516 : H2402 x 9 = H x 9 := (f2407 x 9 _ gx rfl)
    have k2517 : H2402 m 6 = H m 6 := (f2407 m 6 _ gm rfl)
    have k2518 : H2402 x 11 = H x 11 := (f2407 x 11 _ gx rfl)
    have k2519 : H2402 m 13 = H m 13 := (f2407 m 13 _ gm rfl)
    have k2520 : H2402 x 8 = H x 8 := (f2407 x 8 _ gx rfl)
    have k2521 : H2402 m 3 = H m 3 := (f2407 m 3 _ gm rfl)
    rw [show H2402 0 ((i + 2).toNat) = H 0 ((i + 2).toNat) by omega]
    rw [show H2402 0 ((i + 1).toNat) = H 0 ((i + 1).toNat) by omega]
    have h2522 : RB T H2402 m e8 d8 := (RB_fr hW gm f2407 rfl hrb8)
    have h2523 : RY T H2402 m (d8 0 3) g8 (H m 32) := (RY_fr hW gm f2407 rfl h2399)
    refine wl_of hX hb cL_546 (xc_V (pc' := 549) (r := m) (as := [vI (H 0 ((i + 1).toNat)), vI (H 0 ((i + 2).toNat))]) (st := []) (lm_11_59) rfl rfl (Nat.le_of_ble_eq_true rfl) w2406 gm sh_42 (by decide) rfl (by decide) (u_222 (e := e8) (d := d8) (nY := ((d8 0 3))) (gY := g8) (cY := ((H m 32))) w2406 gm ⟨by omega, by omega⟩ ⟨by omega, by omega⟩ (by omega) h2522 h2523) (fun R2524 T2525 H2526 p2527 => ?_))
    obtain ⟨e2528, w2530, f2531, z2532, e2529, b2533, p2534⟩ := p2527
    subst e2528
    subst e2529
    rcases p2534 with ⟨a2535, a2536, a2537⟩ | ⟨a2538, a2539, a2540⟩
    · show WL _ _ _ _ 549 [(4, vI i), (3, .ref o), (2, .ref m), (1, .ref x), (0, .ref 0)] [vI z2532] _ H2526
      refine wl_of hX hb cL_549 (rw_pop (pc' := 550) rfl rfl ?_)
      refine wl_of hX hb cL_550 (rw_goto (p1 := 1653) (by decide) ?_)
      have k2541 : wKI H2526 m = wKI H2402 m := (wKI_fr w2406 gm f2531 rfl)
      have k2542 : H2526 x 9 = H2402 x 9 := (f2531 x 9 _ gx rfl)
      have k2543 : H2526 m 6 = H2402 m 6 := (f2531 m 6 _ gm rfl)
      have k2544 : H2526 x 11 = H2402 x 11 := (f2531 x 11 _ gx rfl)
      have k2545 : H2526 m 13 = H2402 m 13 := (f2531 m 13 _ gm rfl)
      have k2546 : H2526 x 8 = H2402 x 8 := (f2531 x 8 _ gx rfl)
      have k2547 : H2526 m 3 = H2402 m 3 := (f2531 m 3 _ gm rfl)
      have k2548 : H2526 x 0 = H x 0 := ((f2531 x 0 _ gx rfl).trans (f2407 x 0 _ gx rfl))
      have q2549 : H2526 x 0 = (tc : Int) := k2548.trans e0
      have k2550 : H2526 m 5 = H m 5 := ((f2531 m 5 _ gm rfl).trans (f2407 m 5 _ gm rfl))
      have q2551 : H2526 m 5 = (tm : Int) := k2550.trans em
      have k2552 : H2526 x 6 = H x 6 := ((f2531 x 6 _ gx rfl).trans (f2407 x 6 _ gx rfl))
      have q2553 : H2526 x 6 = (cu : Int) := k2552.trans ecu
      have k2554 : H2526 x 7 = H x 7 := ((f2531 x 7 _ gx rfl).trans (f2407 x 7 _ gx rfl))
      have q2555 : H2526 x 7 = (dr : Int) := k2554.trans edr
      have h2556 : TP T H2526 tc B := (TP_fr w2406 gtc f2531 rfl (TP_fr hW gtc f2407 rfl htc))
      have h2557 : TM T H2526 tm B := (TM_fr w2406 gtm f2531 rfl (TM_fr hW gtm f2407 rfl htm))
      have h2558 : DD T H2526 cu  := (DD_fr w2406 gcu f2531 rfl (DD_fr hW gcu f2407 rfl hcu))
      have h2559 : DD T H2526 dr  := (DD_fr w2406 gdr f2531 rfl (DD_fr hW gdr f2407 rfl hdr))
      have h2560 : DE T H2526 cu  := (DE_fr w2406 gcu f2531 rfl (DE_fr hW gcu f2407 rfl hdec))
      have h2561 : DE T H2526 dr  := (DE_fr w2406 gdr f2531 rfl (DE_fr hW gdr f2407 rfl hded))
      have h2562 : SP T H2526 x C8 := (SP_fr w2406 gx f2531 rfl (SP_fr hW gx f2407 rfl hsp))
      have h2563 : CU T H2526 cu e8 d8 n8 := (CU_fr w2406 gcu f2531 rfl (CU_fr hW gcu f2407 rfl hcu8))
      have h2564 : CY T H2526 cu ((d8 0 3)) g8 ((H cu 17)) := (CY_fr w2406 gcu f2531 rfl a2417)
      have k2565 : H2526 x 3 = H x 3 := ((f2531 x 3 _ gx rfl).trans (f2407 x 3 _ gx rfl))
      have q2566 : H2526 x 3 = (ce8 : Int) := k2565.trans ece8
      have h2567 : CEN T H2526 ce8 e8 d8 := (CEN_fr w2406 gce8 f2531 rfl (CEN_fr hW gce8 f2407 rfl hcen8))
      have h2568 : HDR T H2526 ce8  := (HDR_fr w2406 gce8 f2531 rfl (HDR_fr hW gce8 f2407 rfl hhdr8))
      have h2569 : KNN T H2526 m e8 d8 := (KNN_fr w2406 gm f2531 rfl (KNN_fr hW gm f2407 rfl hknn8))
      exfalso
      omega
    · show WL _ _ _ _ 549 [(4, vI i), (3, .ref o), (2, .ref m), (1, .ref x), (0, .ref 0)] [vI z2532] _ H2526
      refine wl_of hX hb cL_549 (rw_pop (pc' := 550) rfl rfl ?_)
      refine wl_of hX hb cL_550 (rw_goto (p1 := 1653) (by decide) ?_)
      have k2570 : wKI H2526 m = wKI H2402 m := (wKI_fr w2406 gm f2531 rfl)
      have k2571 : H2526 x 9 = H2402 x 9 := (f2531 x 9 _ gx rfl)
      have k2572 : H2526 m 6 = H2402 m 6 := (f2531 m 6 _ gm rfl)
      have k2573 : H2526 x 11 = H2402 x 11 := (f2531 x 11 _ gx rfl)
      have k2574 : H2526 m 13 = H2402 m 13 := (f2531 m 13 _ gm rfl)
      have k2575 : H2526 x 8 = H2402 x 8 := (f2531 x 8 _ gx rfl)
      have k2576 : H2526 m 3 = H2402 m 3 := (f2531 m 3 _ gm rfl)
      have k2577 : H2526 x 0 = H x 0 := ((f2531 x 0 _ gx rfl).trans (f2407 x 0 _ gx rfl))
      have q2578 : H2526 x 0 = (tc : Int) := k2577.trans e0
      have k2579 : H2526 m 5 = H m 5 := ((f2531 m 5 _ gm rfl).trans (f2407 m 5 _ gm rfl))
      have q2580 : H2526 m 5 = (tm : Int) := k2579.trans em
      have k2581 : H2526 x 6 = H x 6 := ((f2531 x 6 _ gx rfl).trans (f2407 x 6 _ gx rfl))
      have q2582 : H2526 x 6 = (cu : Int) := k2581.trans ecu
      have k2583 : H2526 x 7 = H x 7 := ((f2531 x 7 _ gx rfl).trans (f2407 x 7 _ gx rfl))
      have q2584 : H2526 x 7 = (dr : Int) := k2583.trans edr
      have h2585 : TP T H2526 tc B := (TP_fr w2406 gtc f2531 rfl (TP_fr hW gtc f2407 rfl htc))
      have h2586 : TM T H2526 tm B := (TM_fr w2406 gtm f2531 rfl (TM_fr hW gtm f2407 rfl htm))
      have h2587 : DD T H2526 cu  := (DD_fr w2406 gcu f2531 rfl (DD_fr hW gcu f2407 rfl hcu))
      have h2588 : DD T H2526 dr  := (DD_fr w2406 gdr f2531 rfl (DD_fr hW gdr f2407 rfl hdr))
      have h2589 : DE T H2526 cu  := (DE_fr w2406 gcu f2531 rfl (DE_fr hW gcu f2407 rfl hdec))
      have h2590 : DE T H2526 dr  := (DE_fr w2406 gdr f2531 rfl (DE_fr hW gdr f2407 rfl hded))
      have h2591 : SP T H2526 x C8 := (SP_fr w2406 gx f2531 rfl (SP_fr hW gx f2407 rfl hsp))
      have h2592 : CU T H2526 cu e8 d8 n8 := (CU_fr w2406 gcu f2531 rfl (CU_fr hW gcu f2407 rfl hcu8))
      have h2593 : CY T H2526 cu ((d8 0 3)) g8 ((H cu 17)) := (CY_fr w2406 gcu f2531 rfl a2417)
      have k2594 : H2526 x 3 = H x 3 := ((f2531 x 3 _ gx rfl).trans (f2407 x 3 _ gx rfl))
      have q2595 : H2526 x 3 = (ce8 : Int) := k2594.trans ece8
      have h2596 : CEN T H2526 ce8 e8 d8 := (CEN_fr w2406 gce8 f2531 rfl (CEN_fr hW gce8 f2407 rfl hcen8))
      have h2597 : HDR T H2526 ce8  := (HDR_fr w2406 gce8 f2531 rfl (HDR_fr hW gce8 f2407 rfl hhdr8))
      have h2598 : KNN T H2526 m e8 d8 := (KNN_fr w2406 gm f2531 rfl (KNN_fr hW gm f2407 rfl hknn8))
      have h2599 : RB T H2526 m e8 d8 := (RB_fr w2406 gm f2531 rfl h2522)
      exact WL.loc hX (by simp) (next T H2526 ⟨⟨w2530, g0, gx, gm, go, by omega, by omega⟩, ⟨_, tc, tm, cu, dr, _, _, _, _, _, ce8, q2578, gtc, h2585, q2580, gtm, h2586, q2582, gcu, q2584, gdr, h2587, h2588, h2589, h2590, h2591, hC1, hC2, h2592, h2599, (h2593).1, (a2540).1, hE, hZ, (by omega), (by assumption), (by omega), (by first | assumption | exact SG_0), q2595, gce8, h2596, h2597, h2598, gm⟩, by omega, by omega⟩ (by omega) (by omega))
set_option maxHeartbeats 4000000 in
theorem wl_c9 {kt : Nat → Option mc_E} {CB SB : Nat} {X : mc_S → Prop} {T : wq_T} {H : wq_H} {Len x m o : Nat} {i : Int} (hX : wlX kt CB SB X) (hb : T.2.1 ≤ CB ∧ T.2.2.1 ≤ SB) (hI : wlJ Len x m o T H) (hL : Len ≤ 3072) (hi : 0 ≤ i ∧ i + 6 ≤ Len) (hb2 : T.2.1 + 20 ≤ CB ∧ T.2.2.1 + 500 ≤ SB)  (next : ∀ T' H', wlJ Len x m o T' H' → T'.2.1 ≤ T.2.1 + 20 → T'.2.2.1 ≤ T.2.2.1 + 500 → WL kt CB SB X 1653 (wlL i x m o) [] T' H') : WL kt CB SB X 553 (wlL i x m o) [] T H := by
  obtain ⟨⟨hW, g0, gx, gm, go, hK, hr⟩, hXI, hY1, hY2⟩ := hI
  refine wl_of hX hb cL_553 (rw_aload_n (pc' := 554) (v := .ref x) rfl rfl rfl ?_)
  refine wl_of hX hb cL_554 (rw_aload_n (pc' := 555) (v := .ref 0) rfl rfl rfl ?_)
  refine wl_of hX hb cL_555 (rw_iload (pc' := 557) (z := i) rfl rfl ?_)
  refine wl_of hX hb cL_557 (rw_iconst (pc' := 558) rfl ?_)
  refine wl_of hX hb cL_558 (rw_iadd (pc' := 559) rfl ?_)
  refine wl_of hX hb cL_559 (xa_I (so := 0) (pc' := 560) (a := 0) hW g0 (wsh_s _) (by omega) (wty_s _ _) (by omega) (by omega) rfl (fun b2600 b2601 => ?_))
  refine wl_of hX hb cL_560 (xc_V (pc' := 563) (r := x) (as := [vI (H 0 ((i + 1).toNat))]) (st := []) (lm_11_60) rfl rfl (Nat.le_of_ble_eq_true rfl) hW gx sh_1 (by decide) rfl (by decide) (s_65 hW gx ⟨by omega, by omega⟩) (fun R2602 T2603 H2604 p2605 => ?_))
  obtain ⟨e2606, w2608, f2609, z2610, e2607, b2611⟩ := p2605
  subst e2606
  subst e2607
  show WL _ _ _ _ 563 [(4, vI i), (3, .ref o), (2, .ref m), (1, .ref x), (0, .ref 0)] [vI z2610] _ H2604
  refine wl_of hX hb cL_563 (rw_pop (pc' := 564) rfl rfl ?_)
  refine wl_of hX hb cL_564 (rw_aload_n (pc' := 565) (v := .ref m) rfl rfl rfl ?_)
  refine wl_of hX hb cL_565 (rw_aload_n (pc' := 566) (v := .ref 0) rfl rfl rfl ?_)
  refine wl_of hX hb cL_566 (rw_iload (pc' := 568) (z := i) rfl rfl ?_)
  refine wl_of hX hb cL_568 (rw_iconst (pc' := 569) rfl ?_)
  refine wl_of hX hb cL_569 (rw_iadd (pc' := 570) rfl ?_)
  have k2614 : H2604 0 ((i + 1).toNat) = H 0 ((i + 1).toNat) := (f2609 0 ((i + 1).toNat) _ g0 (wmem_s rfl))
  refine wl_of hX hb cL_570 (xa_I (so := 0) (pc' := 571) (a := 0) w2608 g0 (wsh_s _) (by omega) (wty_s _ _) (by omega) (by omega) rfl (fun b2612 b2613 => ?_))
  have k2615 : wKI H2604 m = wKI H m := (wKI_fr hW gm f2609 rfl)
  have k2616 : H2604 x 9 = H x 9 := (f2609 x 9 _ gx rfl)
  have k2617 : H2604 m 6 = H m 6 := (f2609 m 6 _ gm rfl)
  have k2618 : H2604 x 11 = H x 11 := (f2609 x 11 _ gx rfl)
  have k2619 : H2604 m 13 = H m 13 := (f2609 m 13 _ gm rfl)
  have k2620 : H2604 x 8 = H x 8 := (f2609 x 8 _ gx rfl)
  have k2621 : H2604 m 3 = H m 3 := (f2609 m 3 _ gm rfl)
  refine wl_of hX hb cL_571 (xc_V (pc' := 574) (r := m) (as := [vI (H2604 0 ((i + 1).toNat))]) (st := []) (lm_11_63) rfl rfl (Nat.le_of_ble_eq_true rfl) w2608 gm sh_42 (by decide) rfl (by decide) (s_225 w2608 gm ⟨by omega, by omega⟩ (by omega)) (fun R2622 T2623 H2624 p2625 => ?_))
  obtain ⟨e2626, w2628, f2629, z2631, e2627, b2632, p2630⟩ := p2625
  subst e2626
  subst e2627
  show WL _ _ _ _ 574 [(4, vI i), (3, .ref o), (2, .ref m), (1, .ref x), (0, .ref 0)] [vI z2631] _ H2624
  refine wl_of hX hb cL_574 (rw_pop (pc' := 575) rfl rfl ?_)
  refine wl_of hX hb cL_575 (rw_goto (p1 := 1653) (by decide) ?_)
  have k2633 : H2624 x 9 = H2604 x 9 := (f2629 x 9 _ gx rfl)
  have k2634 : H2624 m 6 = H2604 m 6 := (f2629 m 6 _ gm rfl)
  have k2635 : H2624 x 11 = H2604 x 11 := (f2629 x 11 _ gx rfl)
  have k2636 : H2624 m 13 = H2604 m 13 := (f2629 m 13 _ gm rfl)
  have k2637 : H2624 x 8 = H2604 x 8 := (f2629 x 8 _ gx rfl)
  have k2638 : H2624 m 3 = H2604 m 3 := (f2629 m 3 _ gm rfl)
  have h2639 : XI T H2624 x m := (XI_fr w2608 gx f2629 rfl (XI_fr hW gx f2609 rfl hXI))
  exact WL.loc hX (by simp) (next T H2624 ⟨⟨w2628, g0, gx, gm, go, by omega, by omega⟩, h2639, by omega, by omega⟩ (by omega) (by omega))
set_option maxHeartbeats 4000000 in
theorem wl_c10 {kt : Nat → Option mc_E} {CB SB : Nat} {X : mc_S → Prop} {T : wq_T} {H : wq_H} {Len x m o : Nat} {i : Int} (hX : wlX kt CB SB X) (hb : T.2.1 ≤ CB ∧ T.2.2.1 ≤ SB) (hI : wlJ Len x m o T H) (hL : Len ≤ 3072) (hi : 0 ≤ i ∧ i + 6 ≤ Len) (hb2 : T.2.1 + 20 ≤ CB ∧ T.2.2.1 + 500 ≤ SB)  (next : ∀ T' H', wlJ Len x m o T' H' → T'.2.1 ≤ T.2.1 + 20 → T'.2.2.1 ≤ T.2.2.1 + 500 → WL kt CB SB X 1653 (wlL i x m o) [] T' H') : WL kt CB SB X 578 (wlL i x m o) [] T H := by
  obtain ⟨⟨hW, g0, gx, gm, go, hK, hr⟩, hXI, hY1, hY2⟩ := hI
  refine wl_of hX hb cL_578 (rw_aload_n (pc' := 579) (v := .ref x) rfl rfl rfl ?_)
  refine wl_of hX hb cL_579 (rw_aload_n (pc' := 580) (v := .ref 0) rfl rfl rfl ?_)
  refine wl_of hX hb cL_580 (rw_iload (pc' := 582) (z := i) rfl rfl ?_)
  refine wl_of hX hb cL_582 (rw_iconst (pc' := 583) rfl ?_)
  refine wl_of hX hb cL_583 (rw_iadd (pc' := 584) rfl ?_)
  refine wl_of hX hb cL_584 (xa_I (so := 0) (pc' := 585) (a := 0) hW g0 (wsh_s _) (by omega) (wty_s _ _) (by omega) (by omega) rfl (fun b2640 b2641 => ?_))
  refine wl_of hX hb cL_585 (xc_V (pc' := 588) (r := x) (as := [vI (H 0 ((i + 1).toNat))]) (st := []) (lm_11_64) rfl rfl (Nat.le_of_ble_eq_true rfl) hW gx sh_1 (by decide) rfl (by decide) (s_66 hW gx ⟨by omega, by omega⟩) (fun R2642 T2643 H2644 p2645 => ?_))
  obtain ⟨e2646, w2648, f2649, z2650, e2647, b2651⟩ := p2645
  subst e2646
  subst e2647
  show WL _ _ _ _ 588 [(4, vI i), (3, .ref o), (2, .ref m), (1, .ref x), (0, .ref 0)] [vI z2650] _ H2644
  refine wl_of hX hb cL_588 (rw_pop (pc' := 589) rfl rfl ?_)
  refine wl_of hX hb cL_589 (rw_aload_n (pc' := 590) (v := .ref m) rfl rfl rfl ?_)
  refine wl_of hX hb cL_590 (rw_aload_n (pc' := 591) (v := .ref 0) rfl rfl rfl ?_)
  refine wl_of hX hb cL_591 (rw_iload (pc' := 593) (z := i) rfl rfl ?_)
  refine wl_of hX hb cL_593 (rw_iconst (pc' := 594) rfl ?_)
  refine wl_of hX hb cL_594 (rw_iadd (pc' := 595) rfl ?_)
  have k2654 : H2644 0 ((i + 1).toNat) = H 0 ((i + 1).toNat) := (f2649 0 ((i + 1).toNat) _ g0 (wmem_s rfl))
  refine wl_of hX hb cL_595 (xa_I (so := 0) (pc' := 596) (a := 0) w2648 g0 (wsh_s _) (by omega) (wty_s _ _) (by omega) (by omega) rfl (fun b2652 b2653 => ?_))
  have k2655 : wKI H2644 m = wKI H m := (wKI_fr hW gm f2649 rfl)
  have k2656 : H2644 x 9 = H x 9 := (f2649 x 9 _ gx rfl)
  have k2657 : H2644 m 6 = H m 6 := (f2649 m 6 _ gm rfl)
  have k2658 : H2644 x 11 = H x 11 := (f2649 x 11 _ gx rfl)
  have k2659 : H2644 m 13 = H m 13 := (f2649 m 13 _ gm rfl)
  have k2660 : H2644 x 8 = H x 8 := (f2649 x 8 _ gx rfl)
  have k2661 : H2644 m 3 = H m 3 := (f2649 m 3 _ gm rfl)
  refine wl_of hX hb cL_596 (xc_V (pc' := 599) (r := m) (as := [vI (H2644 0 ((i + 1).toNat))]) (st := []) (lm_11_67) rfl rfl (Nat.le_of_ble_eq_true rfl) w2648 gm sh_42 (by decide) rfl (by decide) (s_226 w2648 gm ⟨by omega, by omega⟩ (by omega)) (fun R2662 T2663 H2664 p2665 => ?_))
  obtain ⟨e2666, w2668, f2669, z2671, e2667, b2672, p2670⟩ := p2665
  subst e2666
  subst e2667
  show WL _ _ _ _ 599 [(4, vI i), (3, .ref o), (2, .ref m), (1, .ref x), (0, .ref 0)] [vI z2671] _ H2664
  refine wl_of hX hb cL_599 (rw_pop (pc' := 600) rfl rfl ?_)
  refine wl_of hX hb cL_600 (rw_goto (p1 := 1653) (by decide) ?_)
  have k2673 : H2664 x 9 = H2644 x 9 := (f2669 x 9 _ gx rfl)
  have k2674 : H2664 m 6 = H2644 m 6 := (f2669 m 6 _ gm rfl)
  have k2675 : H2664 x 11 = H2644 x 11 := (f2669 x 11 _ gx rfl)
  have k2676 : H2664 m 13 = H2644 m 13 := (f2669 m 13 _ gm rfl)
  have k2677 : H2664 x 8 = H2644 x 8 := (f2669 x 8 _ gx rfl)
  have k2678 : H2664 m 3 = H2644 m 3 := (f2669 m 3 _ gm rfl)
  have h2679 : XI T H2664 x m := (XI_fr w2648 gx f2669 rfl (XI_fr hW gx f2649 rfl hXI))
  exact WL.loc hX (by simp) (next T H2664 ⟨⟨w2668, g0, gx, gm, go, by omega, by omega⟩, h2679, by omega, by omega⟩ (by omega) (by omega))
set_option maxHeartbeats 4000000 in
theorem wl_c11 {kt : Nat → Option mc_E} {CB SB : Nat} {X : mc_S → Prop} {T : wq_T} {H : wq_H} {Len x m o : Nat} {i : Int} (hX : wlX kt CB SB X) (hb : T.2.1 ≤ CB ∧ T.2.2.1 ≤ SB) (hI : wlJ Len x m o T H) (hL : Len ≤ 3072) (hi : 0 ≤ i ∧ i + 6 ≤ Len) (hb2 : T.2.1 + 20 ≤ CB ∧ T.2.2.1 + 500 ≤ SB)  (next : ∀ T' H', wlJ Len x m o T' H' → T'.2.1 ≤ T.2.1 + 20 → T'.2.2.1 ≤ T.2.2.1 + 500 → WL kt CB SB X 1653 (wlL i x m o) [] T' H') : WL kt CB SB X 603 (wlL i x m o) [] T H := by
  obtain ⟨⟨hW, g0, gx, gm, go, hK, hr⟩, hXI, hY1, hY2⟩ := hI
  refine wl_of hX hb cL_603 (rw_aload_n (pc' := 604) (v := .ref x) rfl rfl rfl ?_)
  refine wl_of hX hb cL_604 (xc_V (pc' := 607) (r := x) (as := []) (st := []) (lm_11_68) rfl rfl (Nat.le_of_ble_eq_true rfl) hW gx sh_1 (by decide) rfl (by decide) (s_73 hW gx) (fun R2680 T2681 H2682 p2683 => ?_))
  obtain ⟨e2684, w2686, f2687, z2688, e2685, b2689⟩ := p2683
  subst e2684
  subst e2685
  show WL _ _ _ _ 607 [(4, vI i), (3, .ref o), (2, .ref m), (1, .ref x), (0, .ref 0)] [vI z2688] _ H2682
  refine wl_of hX hb cL_607 (rw_pop (pc' := 608) rfl rfl ?_)
  refine wl_of hX hb cL_608 (rw_aload_n (pc' := 609) (v := .ref m) rfl rfl rfl ?_)
  have k2690 : wKI H2682 m = wKI H m := (wKI_fr hW gm f2687 rfl)
  have k2691 : H2682 x 9 = H x 9 := (f2687 x 9 _ gx rfl)
  have k2692 : H2682 m 6 = H m 6 := (f2687 m 6 _ gm rfl)
  have k2693 : H2682 x 11 = H x 11 := (f2687 x 11 _ gx rfl)
  have k2694 : H2682 m 13 = H m 13 := (f2687 m 13 _ gm rfl)
  have k2695 : H2682 x 8 = H x 8 := (f2687 x 8 _ gx rfl)
  have k2696 : H2682 m 3 = H m 3 := (f2687 m 3 _ gm rfl)
  refine wl_of hX hb cL_609 (xc_V (pc' := 612) (r := m) (as := []) (st := []) (lm_11_71) rfl rfl (Nat.le_of_ble_eq_true rfl) w2686 gm sh_42 (by decide) rfl (by decide) (s_230 w2686 gm (by omega)) (fun R2697 T2698 H2699 p2700 => ?_))
  obtain ⟨e2701, w2703, f2704, z2706, e2702, b2707, p2705⟩ := p2700
  subst e2701
  subst e2702
  show WL _ _ _ _ 612 [(4, vI i), (3, .ref o), (2, .ref m), (1, .ref x), (0, .ref 0)] [vI z2706] _ H2699
  refine wl_of hX hb cL_612 (rw_pop (pc' := 613) rfl rfl ?_)
  refine wl_of hX hb cL_613 (rw_goto (p1 := 1653) (by decide) ?_)
  have k2708 : H2699 x 9 = H2682 x 9 := (f2704 x 9 _ gx rfl)
  have k2709 : H2699 m 6 = H2682 m 6 := (f2704 m 6 _ gm rfl)
  have k2710 : H2699 x 11 = H2682 x 11 := (f2704 x 11 _ gx rfl)
  have k2711 : H2699 m 13 = H2682 m 13 := (f2704 m 13 _ gm rfl)
  have k2712 : H2699 x 8 = H2682 x 8 := (f2704 x 8 _ gx rfl)
  have k2713 : H2699 m 3 = H2682 m 3 := (f2704 m 3 _ gm rfl)
  have h2714 : XI T H2699 x m := (XI_fr w2686 gx f2704 rfl (XI_fr hW gx f2687 rfl hXI))
  exact WL.loc hX (by simp) (next T H2699 ⟨⟨w2703, g0, gx, gm, go, by omega, by omega⟩, h2714, by omega, by omega⟩ (by omega) (by omega))
set_option maxHeartbeats 4000000 in
theorem wl_c12 {kt : Nat → Option mc_E} {CB SB : Nat} {X : mc_S → Prop} {T : wq_T} {H : wq_H} {Len x m o : Nat} {i : Int} (hX : wlX kt CB SB X) (hb : T.2.1 ≤ CB ∧ T.2.2.1 ≤ SB) (hI : wlJ Len x m o T H) (hL : Len ≤ 3072) (hi : 0 ≤ i ∧ i + 6 ≤ Len) (hb2 : T.2.1 + 20 ≤ CB ∧ T.2.2.1 + 500 ≤ SB)  (next : ∀ T' H', wlJ Len x m o T' H' → T'.2.1 ≤ T.2.1 + 20 → T'.2.2.1 ≤ T.2.2.1 + 500 → WL kt CB SB X 1653 (wlL i x m o) [] T' H') : WL kt CB SB X 616 (wlL i x m o) [] T H := by
  obtain ⟨⟨hW, g0, gx, gm, go, hK, hr⟩, hXI, hY1, hY2⟩ := hI
  refine wl_of hX hb cL_616 (rw_aload_n (pc' := 617) (v := .ref x) rfl rfl rfl ?_)
  refine wl_of hX hb cL_617 (xc_V (pc' := 620) (r := x) (as := []) (st := []) (lm_11_72) rfl rfl (Nat.le_of_ble_eq_true rfl) hW gx sh_1 (by decide) rfl (by decide) (s_77 hW gx) (fun R2715 T2716 H2717 p2718 => ?_))
  obtain ⟨e2719, w2721, f2722, z2723, e2720, b2724⟩ := p2718
  subst e2719
  subst e2720
  show WL _ _ _ _ 620 [(4, vI i), (3, .ref o), (2, .ref m), (1, .ref x), (0, .ref 0)] [vI z2723] _ H2717
  refine wl_of hX hb cL_620 (rw_pop (pc' := 621) rfl rfl ?_)
  refine wl_of hX hb cL_621 (rw_aload_n (pc' := 622) (v := .ref m) rfl rfl rfl ?_)
  have k2725 : wKI H2717 m = wKI H m := (wKI_fr hW gm f2722 rfl)
  have k2726 : H2717 x 9 = H x 9 := (f2722 x 9 _ gx rfl)
  have k2727 : H2717 m 6 = H m 6 := (f2722 m 6 _ gm rfl)
  have k2728 : H2717 x 11 = H x 11 := (f2722 x 11 _ gx rfl)
  have k2729 : H2717 m 13 = H m 13 := (f2722 m 13 _ gm rfl)
  have k2730 : H2717 x 8 = H x 8 := (f2722 x 8 _ gx rfl)
  have k2731 : H2717 m 3 = H m 3 := (f2722 m 3 _ gm rfl)
  refine wl_of hX hb cL_622 (xc_V (pc' := 625) (r := m) (as := []) (st := []) (lm_11_75) rfl rfl (Nat.le_of_ble_eq_true rfl) w2721 gm sh_42 (by decide) rfl (by decide) (s_236 w2721 gm (by omega)) (fun R2732 T2733 H2734 p2735 => ?_))
  obtain ⟨e2736, w2738, f2739, z2741, e2737, b2742, p2740⟩ := p2735
  subst e2736
  subst e2737
  show WL _ _ _ _ 625 [(4, vI i), (3, .ref o), (2, .ref m), (1, .ref x), (0, .ref 0)] [vI z2741] _ H2734
  refine wl_of hX hb cL_625 (rw_pop (pc' := 626) rfl rfl ?_)
  refine wl_of hX hb cL_626 (rw_goto (p1 := 1653) (by decide) ?_)
  have k2743 : H2734 x 9 = H2717 x 9 := (f2739 x 9 _ gx rfl)
  have k2744 : H2734 m 6 = H2717 m 6 := (f2739 m 6 _ gm rfl)
  have k2745 : H2734 x 11 = H2717 x 11 := (f2739 x 11 _ gx rfl)
  have k2746 : H2734 m 13 = H2717 m 13 := (f2739 m 13 _ gm rfl)
  have k2747 : H2734 x 8 = H2717 x 8 := (f2739 x 8 _ gx rfl)
  have k2748 : H2734 m 3 = H2717 m 3 := (f2739 m 3 _ gm rfl)
  have h2749 : XI T H2734 x m := (XI_fr w2721 gx f2739 rfl (XI_fr hW gx f2722 rfl hXI))
  exact WL.loc hX (by simp) (next T H2734 ⟨⟨w2738, g0, gx, gm, go, by omega, by omega⟩, h2749, by omega, by omega⟩ (by omega) (by omega))
set_option maxHeartbeats 4000000 in
theorem wl_c13 {kt : Nat → Option mc_E} {CB SB : Nat} {X : mc_S → Prop} {T : wq_T} {H : wq_H} {Len x m o : Nat} {i : Int} (hX : wlX kt CB SB X) (hb : T.2.1 ≤ CB ∧ T.2.2.1 ≤ SB) (hI : wlJ Len x m o T H) (hL : Len ≤ 3072) (hi : 0 ≤ i ∧ i + 6 ≤ Len) (hb2 : T.2.1 + 20 ≤ CB ∧ T.2.2.1 + 500 ≤ SB)  (next : ∀ T' H', wlJ Len x m o T' H' → T'.2.1 ≤ T.2.1 + 20 → T'.2.2.1 ≤ T.2.2.1 + 500 → WL kt CB SB X 1653 (wlL i x m o) [] T' H') : WL kt CB SB X 629 (wlL i x m o) [] T H := by
  obtain ⟨⟨hW, g0, gx, gm, go, hK, hr⟩, hXI, hY1, hY2⟩ := hI
  refine wl_of hX hb cL_629 (rw_aload_n (pc' := 630) (v := .ref x) rfl rfl rfl ?_)
  refine wl_of hX hb cL_630 (xc_V (pc' := 633) (r := x) (as := []) (st := []) (lm_11_76) rfl rfl (Nat.le_of_ble_eq_true rfl) hW gx sh_1 (by decide) rfl (by decide) (s_78 hW gx) (fun R2750 T2751 H2752 p2753 => ?_))
  obtain ⟨e2754, w2756, f2757, z2758, e2755, b2759⟩ := p2753
  subst e2754
  subst e2755
  show WL _ _ _ _ 633 [(4, vI i), (3, .ref o), (2, .ref m), (1, .ref x), (0, .ref 0)] [vI z2758] _ H2752
  refine wl_of hX hb cL_633 (rw_pop (pc' := 634) rfl rfl ?_)
  refine wl_of hX hb cL_634 (rw_aload_n (pc' := 635) (v := .ref m) rfl rfl rfl ?_)
  have k2760 : wKI H2752 m = wKI H m := (wKI_fr hW gm f2757 rfl)
  have k2761 : H2752 x 9 = H x 9 := (f2757 x 9 _ gx rfl)
  have k2762 : H2752 m 6 = H m 6 := (f2757 m 6 _ gm rfl)
  have k2763 : H2752 x 11 = H x 11 := (f2757 x 11 _ gx rfl)
  have k2764 : H2752 m 13 = H m 13 := (f2757 m 13 _ gm rfl)
  have k2765 : H2752 x 8 = H x 8 := (f2757 x 8 _ gx rfl)
  have k2766 : H2752 m 3 = H m 3 := (f2757 m 3 _ gm rfl)
  refine wl_of hX hb cL_635 (xc_V (pc' := 638) (r := m) (as := []) (st := []) (lm_11_79) rfl rfl (Nat.le_of_ble_eq_true rfl) w2756 gm sh_42 (by decide) rfl (by decide) (s_237 w2756 gm (by omega)) (fun R2767 T2768 H2769 p2770 => ?_))
  obtain ⟨e2771, w2773, f2774, z2776, e2772, b2777, p2775⟩ := p2770
  subst e2771
  subst e2772
  show WL _ _ _ _ 638 [(4, vI i), (3, .ref o), (2, .ref m), (1, .ref x), (0, .ref 0)] [vI z2776] _ H2769
  refine wl_of hX hb cL_638 (rw_pop (pc' := 639) rfl rfl ?_)
  refine wl_of hX hb cL_639 (rw_goto (p1 := 1653) (by decide) ?_)
  have k2778 : H2769 x 9 = H2752 x 9 := (f2774 x 9 _ gx rfl)
  have k2779 : H2769 m 6 = H2752 m 6 := (f2774 m 6 _ gm rfl)
  have k2780 : H2769 x 11 = H2752 x 11 := (f2774 x 11 _ gx rfl)
  have k2781 : H2769 m 13 = H2752 m 13 := (f2774 m 13 _ gm rfl)
  have k2782 : H2769 x 8 = H2752 x 8 := (f2774 x 8 _ gx rfl)
  have k2783 : H2769 m 3 = H2752 m 3 := (f2774 m 3 _ gm rfl)
  have h2784 : XI T H2769 x m := (XI_fr w2756 gx f2774 rfl (XI_fr hW gx f2757 rfl hXI))
  exact WL.loc hX (by simp) (next T H2769 ⟨⟨w2773, g0, gx, gm, go, by omega, by omega⟩, h2784, by omega, by omega⟩ (by omega) (by omega))
set_option maxHeartbeats 4000000 in
theorem wl_c14 {kt : Nat → Option mc_E} {CB SB : Nat} {X : mc_S → Prop} {T : wq_T} {H : wq_H} {Len x m o : Nat} {i : Int} (hX : wlX kt CB SB X) (hb : T.2.1 ≤ CB ∧ T.2.2.1 ≤ SB) (hI : wlJ Len x m o T H) (hL : Len ≤ 3072) (hi : 0 ≤ i ∧ i + 6 ≤ Len) (hb2 : T.2.1 + 20 ≤ CB ∧ T.2.2.1 + 500 ≤ SB)  (next : ∀ T' H', wlJ Len x m o T' H' → T'.2.1 ≤ T.2.1 + 20 → T'.2.2.1 ≤ T.2.2.1 + 500 → WL kt CB SB X 1653 (wlL i x m o) [] T' H') : WL kt CB SB X 642 (wlL i x m o) [] T H := by
  obtain ⟨⟨hW, g0, gx, gm, go, hK, hr⟩, hXI, hY1, hY2⟩ := hI
  refine wl_of hX hb cL_642 (rw_aload_n (pc' := 643) (v := .ref x) rfl rfl rfl ?_)
  obtain ⟨B, tc, tm, cu, dr, C8, e8, d8, n8, g8, ce8, e0, gtc, htc, em, gtm, htm, ecu, gcu, edr, gdr, hcu, hdr, hdec, hded, hsp, hC1, hC2, hcu8, hrb8, hcg8, hmn8, hE, hZ, hn8, hXA, hV8, hSG, ece8, gce8, hcen8, hhdr8, hknn8, -⟩ := hXI
  have hN3 := RB_n3 hrb8
  have hE13 : ∀ h : Nat, h < 24 → 0 ≤ e8 13 h ∧ e8 13 h ≤ 100 := fun k hk => by
    obtain ⟨s, h1, h2, h3⟩ := hcu8.1.2.2.1
    exact ⟨(h3 k hk).1, (h3 k hk).2.1⟩
  have hXW := hXA.1
  have hXN := hXA.2
  have hE0 : e8 0 3 = d8 0 3 ∧ e8 0 0 = d8 0 0 := by
    have h := hE 0 (by decide)
    exact ⟨congrFun h 3, congrFun h 0⟩
  have u2785 := CU_k hcu8
  have h2786 : CY T H cu (d8 0 3) g8 (H cu 17) := ⟨hcg8, rfl⟩
  have h2787 : RY T H m (d8 0 3) g8 (H m 32) := ⟨hmn8, rfl⟩
  obtain ⟨t9, ht9⟩ : ∃ t : Int, t = H x 9 := ⟨_, rfl⟩
  obtain ⟨r2788, q2789, g2790⟩ := hW.ref gx (t' := 6) (n := 13) (j := 2) (p := 0) (q := 0) rfl (by decide) rfl
  refine wl_of hX hb cL_643 (xc_V (pc' := 646) (r := x) (as := []) (st := []) (lm_11_80) rfl rfl (Nat.le_of_ble_eq_true rfl) hW gx sh_1 (by decide) rfl (by decide) (u_82 (e := e8) (d := d8) (n := n8) hW gx ecu gcu q2789 g2790 ece8 gce8 (by assumption) (by assumption) (by omega) (by omega) (by omega) (by omega) hcu8 hcen8 hhdr8) (fun R2791 T2792 H2793 p2794 => ?_))
  obtain ⟨e2795, w2797, f2798, z2799, e2796, b2800, p2801⟩ := p2794
  subst e2795
  subst e2796
  rcases p2801 with ⟨a2802, a2803, a2804⟩ | ⟨a2805, a2806, a2807⟩
  · show WL _ _ _ _ 646 [(4, vI i), (3, .ref o), (2, .ref m), (1, .ref x), (0, .ref 0)] [vI z2799] _ H2793
    refine wl_of hX hb cL_646 (rw_pop (pc' := 647) rfl rfl ?_)
    refine wl_of hX hb cL_647 (rw_aload_n (pc' := 648) (v := .ref m) rfl rfl rfl ?_)
    have k2808 : wKI H2793 m = wKI H m := (wKI_fr hW gm f2798 rfl)
    have k2809 : H2793 x 9 = H x 9 := (f2798 x 9 _ gx rfl)
    have k2810 : H2793 m 6 = H m 6 := (f2798 m 6 _ gm rfl)
    have k2811 : H2793 x 11 = H x 11 := (f2798 x 11 _ gx rfl)
    have k2812 : H2793 m 13 = H m 13 := (f2798 m 13 _ gm rfl)
    have k2813 : H2793 x 8 = H x 8 := (f2798 x 8 _ gx rfl)
    have k2814 : H2793 m 3 = H m 3 := (f2798 m 3 _ gm rfl)
    have h2815 : RB T H2793 m e8 d8 := (RB_fr hW gm f2798 rfl hrb8)
    have h2816 : KNN T H2793 m e8 d8 := (KNN_fr hW gm f2798 rfl hknn8)
    refine wl_of hX hb cL_648 (xc_V (pc' := 651) (r := m) (as := []) (st := []) (lm_11_83) rfl rfl (Nat.le_of_ble_eq_true rfl) w2797 gm sh_42 (by decide) rfl (by decide) (u_240 (e := e8) (d := d8) w2797 gm (by omega) (by assumption) (by assumption) (by assumption) (by assumption) h2815 h2816) (fun R2817 T2818 H2819 p2820 => ?_))
    obtain ⟨e2821, w2823, f2824, z2825, e2822, b2826, p2827⟩ := p2820
    subst e2821
    subst e2822
    rcases p2827 with ⟨a2828, a2829, a2830, a2831⟩ | ⟨a2832, a2833, a2834, a2835⟩
    · show WL _ _ _ _ 651 [(4, vI i), (3, .ref o), (2, .ref m), (1, .ref x), (0, .ref 0)] [vI z2825] _ H2819
      refine wl_of hX hb cL_651 (rw_pop (pc' := 652) rfl rfl ?_)
      refine wl_of hX hb cL_652 (rw_goto (p1 := 1653) (by decide) ?_)
      have k2836 : H2819 x 9 = H2793 x 9 := (f2824 x 9 _ gx rfl)
      have k2837 : H2819 m 6 = H2793 m 6 := (f2824 m 6 _ gm rfl)
      have k2838 : H2819 x 11 = H2793 x 11 := (f2824 x 11 _ gx rfl)
      have k2839 : H2819 m 13 = H2793 m 13 := (f2824 m 13 _ gm rfl)
      have k2840 : H2819 x 8 = H2793 x 8 := (f2824 x 8 _ gx rfl)
      have k2841 : H2819 m 3 = H2793 m 3 := (f2824 m 3 _ gm rfl)
      have k2842 : H2819 x 0 = H x 0 := ((f2824 x 0 _ gx rfl).trans (f2798 x 0 _ gx rfl))
      have q2843 : H2819 x 0 = (tc : Int) := k2842.trans e0
      have k2844 : H2819 m 5 = H m 5 := ((f2824 m 5 _ gm rfl).trans (f2798 m 5 _ gm rfl))
      have q2845 : H2819 m 5 = (tm : Int) := k2844.trans em
      have k2846 : H2819 x 6 = H x 6 := ((f2824 x 6 _ gx rfl).trans (f2798 x 6 _ gx rfl))
      have q2847 : H2819 x 6 = (cu : Int) := k2846.trans ecu
      have k2848 : H2819 x 7 = H x 7 := ((f2824 x 7 _ gx rfl).trans (f2798 x 7 _ gx rfl))
      have q2849 : H2819 x 7 = (dr : Int) := k2848.trans edr
      have h2850 : TP T H2819 tc B := (TP_fr w2797 gtc f2824 rfl (TP_fr hW gtc f2798 rfl htc))
      have h2851 : TM T H2819 tm B := (TM_fr w2797 gtm f2824 rfl (TM_fr hW gtm f2798 rfl htm))
      have h2852 : DD T H2819 cu  := (DD_fr w2797 gcu f2824 rfl (DD_fr hW gcu f2798 rfl hcu))
      have h2853 : DD T H2819 dr  := (DD_fr w2797 gdr f2824 rfl (DD_fr hW gdr f2798 rfl hdr))
      have h2854 : DE T H2819 cu  := (DE_fr w2797 gcu f2824 rfl (DE_fr hW gcu f2798 rfl hdec))
      have h2855 : DE T H2819 dr  := (DE_fr w2797 gdr f2824 rfl (DE_fr hW gdr f2798 rfl hded))
      have h2856 : SP T H2819 x C8 := (SP_fr w2797 gx f2824 rfl (SP_fr hW gx f2798 rfl hsp))
      have h2857 : CU T H2819 cu e8 d8 n8 := (CU_fr w2797 gcu f2824 rfl (CU_fr hW gcu f2798 rfl hcu8))
      have h2858 : CY T H2819 cu (d8 0 3) g8 (H cu 17) := (CY_fr w2797 gcu f2824 rfl (CY_fr hW gcu f2798 rfl h2786))
      have k2859 : H2819 x 3 = H x 3 := ((f2824 x 3 _ gx rfl).trans (f2798 x 3 _ gx rfl))
      have q2860 : H2819 x 3 = (ce8 : Int) := k2859.trans ece8
      have h2861 : CEN T H2819 ce8 e8 d8 := (CEN_fr w2797 gce8 f2824 rfl a2804)
      have h2862 : HDR T H2819 ce8  := (HDR_fr w2797 gce8 f2824 rfl (HDR_fr hW gce8 f2798 rfl hhdr8))
      have h2863 : RY T H2819 m (d8 0 3) g8 (H m 32) := (RY_fr w2797 gm f2824 rfl (RY_fr hW gm f2798 rfl h2787))
      have h2864 : RB T H2819 m e8 d8 := (RB_fr w2797 gm f2824 rfl h2815)
      exact WL.loc hX (by simp) (next T H2819 ⟨⟨w2823, g0, gx, gm, go, by omega, by omega⟩, ⟨_, tc, tm, cu, dr, _, _, _, _, _, ce8, q2843, gtc, h2850, q2845, gtm, h2851, q2847, gcu, q2849, gdr, h2852, h2853, h2854, h2855, h2856, hC1, hC2, h2857, h2864, (h2858).1, (h2863).1, hE, hZ, (by omega), (by assumption), (by omega), (by first | assumption | exact SG_0), q2860, gce8, h2861, h2862, a2831, gm⟩, by omega, by omega⟩ (by omega) (by omega))
    · show WL _ _ _ _ 651 [(4, vI i), (3, .ref o), (2, .ref m), (1, .ref x), (0, .ref 0)] [vI z2825] _ H2819
      refine wl_of hX hb cL_651 (rw_pop (pc' := 652) rfl rfl ?_)
      refine wl_of hX hb cL_652 (rw_goto (p1 := 1653) (by decide) ?_)
      have k2865 : H2819 x 9 = H2793 x 9 := (f2824 x 9 _ gx rfl)
      have k2866 : H2819 m 6 = H2793 m 6 := (f2824 m 6 _ gm rfl)
      have k2867 : H2819 x 11 = H2793 x 11 := (f2824 x 11 _ gx rfl)
      have k2868 : H2819 m 13 = H2793 m 13 := (f2824 m 13 _ gm rfl)
      have k2869 : H2819 x 8 = H2793 x 8 := (f2824 x 8 _ gx rfl)
      have k2870 : H2819 m 3 = H2793 m 3 := (f2824 m 3 _ gm rfl)
      have k2871 : H2819 x 0 = H x 0 := ((f2824 x 0 _ gx rfl).trans (f2798 x 0 _ gx rfl))
      have q2872 : H2819 x 0 = (tc : Int) := k2871.trans e0
      have k2873 : H2819 m 5 = H m 5 := ((f2824 m 5 _ gm rfl).trans (f2798 m 5 _ gm rfl))
      have q2874 : H2819 m 5 = (tm : Int) := k2873.trans em
      have k2875 : H2819 x 6 = H x 6 := ((f2824 x 6 _ gx rfl).trans (f2798 x 6 _ gx rfl))
      have q2876 : H2819 x 6 = (cu : Int) := k2875.trans ecu
      have k2877 : H2819 x 7 = H x 7 := ((f2824 x 7 _ gx rfl).trans (f2798 x 7 _ gx rfl))
      have q2878 : H2819 x 7 = (dr : Int) := k2877.trans edr
      have h2879 : TP T H2819 tc B := (TP_fr w2797 gtc f2824 rfl (TP_fr hW gtc f2798 rfl htc))
      have h2880 : TM T H2819 tm B := (TM_fr w2797 gtm f2824 rfl (TM_fr hW gtm f2798 rfl htm))
      have h2881 : DD T H2819 cu  := (DD_fr w2797 gcu f2824 rfl (DD_fr hW gcu f2798 rfl hcu))
      have h2882 : DD T H2819 dr  := (DD_fr w2797 gdr f2824 rfl (DD_fr hW gdr f2798 rfl hdr))
      have h2883 : DE T H2819 cu  := (DE_fr w2797 gcu f2824 rfl (DE_fr hW gcu f2798 rfl hdec))
      have h2884 : DE T H2819 dr  := (DE_fr w2797 gdr f2824 rfl (DE_fr hW gdr f2798 rfl hded))
      have h2885 : SP T H2819 x C8 := (SP_fr w2797 gx f2824 rfl (SP_fr hW gx f2798 rfl hsp))
      have h2886 : CU T H2819 cu e8 d8 n8 := (CU_fr w2797 gcu f2824 rfl (CU_fr hW gcu f2798 rfl hcu8))
      have h2887 : CY T H2819 cu (d8 0 3) g8 (H cu 17) := (CY_fr w2797 gcu f2824 rfl (CY_fr hW gcu f2798 rfl h2786))
      have k2888 : H2819 x 3 = H x 3 := ((f2824 x 3 _ gx rfl).trans (f2798 x 3 _ gx rfl))
      have q2889 : H2819 x 3 = (ce8 : Int) := k2888.trans ece8
      have h2890 : CEN T H2819 ce8 e8 d8 := (CEN_fr w2797 gce8 f2824 rfl a2804)
      have h2891 : HDR T H2819 ce8  := (HDR_fr w2797 gce8 f2824 rfl (HDR_fr hW gce8 f2798 rfl hhdr8))
      have h2892 : RY T H2819 m (d8 0 3) g8 (H m 32) := (RY_fr w2797 gm f2824 rfl (RY_fr hW gm f2798 rfl h2787))
      have h2893 : RB T H2819 m e8 d8 := (RB_fr w2797 gm f2824 rfl h2815)
      exact WL.loc hX (by simp) (next T H2819 ⟨⟨w2823, g0, gx, gm, go, by omega, by omega⟩, ⟨_, tc, tm, cu, dr, _, _, _, _, _, ce8, q2872, gtc, h2879, q2874, gtm, h2880, q2876, gcu, q2878, gdr, h2881, h2882, h2883, h2884, h2885, hC1, hC2, h2886, h2893, (h2887).1, (h2892).1, hE, hZ, (by omega), (by assumption), (by omega), (by first | assumption | exact SG_0), q2889, gce8, h2890, h2891, a2835, gm⟩, by omega, by omega⟩ (by omega) (by omega))
  · show WL _ _ _ _ 646 [(4, vI i), (3, .ref o), (2, .ref m), (1, .ref x), (0, .ref 0)] [vI z2799] _ H2793
    refine wl_of hX hb cL_646 (rw_pop (pc' := 647) rfl rfl ?_)
    refine wl_of hX hb cL_647 (rw_aload_n (pc' := 648) (v := .ref m) rfl rfl rfl ?_)
    have k2894 : wKI H2793 m = wKI H m := (wKI_fr hW gm f2798 rfl)
    have k2895 : H2793 x 9 = H x 9 := (f2798 x 9 _ gx rfl)
    have k2896 : H2793 m 6 = H m 6 := (f2798 m 6 _ gm rfl)
    have k2897 : H2793 x 11 = H x 11 := (f2798 x 11 _ gx rfl)
    have k2898 : H2793 m 13 = H m 13 := (f2798 m 13 _ gm rfl)
    have k2899 : H2793 x 8 = H x 8 := (f2798 x 8 _ gx rfl)
    have k2900 : H2793 m 3 = H m 3 := (f2798 m 3 _ gm rfl)
    have h2901 : RB T H2793 m e8 d8 := (RB_fr hW gm f2798 rfl hrb8)
    have h2902 : KNN T H2793 m e8 d8 := (KNN_fr hW gm f2798 rfl hknn8)
    refine wl_of hX hb cL_648 (xc_V (pc' := 651) (r := m) (as := []) (st := []) (lm_11_83) rfl rfl (Nat.le_of_ble_eq_true rfl) w2797 gm sh_42 (by decide) rfl (by decide) (u_240 (e := e8) (d := d8) w2797 gm (by omega) (by assumption) (by assumption) (by assumption) (by assumption) h2901 h2902) (fun R2903 T2904 H2905 p2906 => ?_))
    obtain ⟨e2907, w2909, f2910, z2911, e2908, b2912, p2913⟩ := p2906
    subst e2907
    subst e2908
    rcases p2913 with ⟨a2914, a2915, a2916, a2917⟩ | ⟨a2918, a2919, a2920, a2921⟩
    · show WL _ _ _ _ 651 [(4, vI i), (3, .ref o), (2, .ref m), (1, .ref x), (0, .ref 0)] [vI z2911] _ H2905
      refine wl_of hX hb cL_651 (rw_pop (pc' := 652) rfl rfl ?_)
      refine wl_of hX hb cL_652 (rw_goto (p1 := 1653) (by decide) ?_)
      have k2922 : H2905 x 9 = H2793 x 9 := (f2910 x 9 _ gx rfl)
      have k2923 : H2905 m 6 = H2793 m 6 := (f2910 m 6 _ gm rfl)
      have k2924 : H2905 x 11 = H2793 x 11 := (f2910 x 11 _ gx rfl)
      have k2925 : H2905 m 13 = H2793 m 13 := (f2910 m 13 _ gm rfl)
      have k2926 : H2905 x 8 = H2793 x 8 := (f2910 x 8 _ gx rfl)
      have k2927 : H2905 m 3 = H2793 m 3 := (f2910 m 3 _ gm rfl)
      have k2928 : H2905 x 0 = H x 0 := ((f2910 x 0 _ gx rfl).trans (f2798 x 0 _ gx rfl))
      have q2929 : H2905 x 0 = (tc : Int) := k2928.trans e0
      have k2930 : H2905 m 5 = H m 5 := ((f2910 m 5 _ gm rfl).trans (f2798 m 5 _ gm rfl))
      have q2931 : H2905 m 5 = (tm : Int) := k2930.trans em
      have k2932 : H2905 x 6 = H x 6 := ((f2910 x 6 _ gx rfl).trans (f2798 x 6 _ gx rfl))
      have q2933 : H2905 x 6 = (cu : Int) := k2932.trans ecu
      have k2934 : H2905 x 7 = H x 7 := ((f2910 x 7 _ gx rfl).trans (f2798 x 7 _ gx rfl))
      have q2935 : H2905 x 7 = (dr : Int) := k2934.trans edr
      have h2936 : TP T H2905 tc B := (TP_fr w2797 gtc f2910 rfl (TP_fr hW gtc f2798 rfl htc))
      have h2937 : TM T H2905 tm B := (TM_fr w2797 gtm f2910 rfl (TM_fr hW gtm f2798 rfl htm))
      have h2938 : DD T H2905 cu  := (DD_fr w2797 gcu f2910 rfl (DD_fr hW gcu f2798 rfl hcu))
      have h2939 : DD T H2905 dr  := (DD_fr w2797 gdr f2910 rfl (DD_fr hW gdr f2798 rfl hdr))
      have h2940 : DE T H2905 cu  := (DE_fr w2797 gcu f2910 rfl (DE_fr hW gcu f2798 rfl hdec))
      have h2941 : DE T H2905 dr  := (DE_fr w2797 gdr f2910 rfl (DE_fr hW gdr f2798 rfl hded))
      have h2942 : SP T H2905 x C8 := (SP_fr w2797 gx f2910 rfl (SP_fr hW gx f2798 rfl hsp))
      have h2943 : CU T H2905 cu e8 d8 n8 := (CU_fr w2797 gcu f2910 rfl (CU_fr hW gcu f2798 rfl hcu8))
      have h2944 : CY T H2905 cu (d8 0 3) g8 (H cu 17) := (CY_fr w2797 gcu f2910 rfl (CY_fr hW gcu f2798 rfl h2786))
      have k2945 : H2905 x 3 = H x 3 := ((f2910 x 3 _ gx rfl).trans (f2798 x 3 _ gx rfl))
      have q2946 : H2905 x 3 = (ce8 : Int) := k2945.trans ece8
      have h2947 : CEN T H2905 ce8 e8 d8 := (CEN_fr w2797 gce8 f2910 rfl a2807)
      have h2948 : HDR T H2905 ce8  := (HDR_fr w2797 gce8 f2910 rfl (HDR_fr hW gce8 f2798 rfl hhdr8))
      have h2949 : RY T H2905 m (d8 0 3) g8 (H m 32) := (RY_fr w2797 gm f2910 rfl (RY_fr hW gm f2798 rfl h2787))
      have h2950 : RB T H2905 m e8 d8 := (RB_fr w2797 gm f2910 rfl h2901)
      exact WL.loc hX (by simp) (next T H2905 ⟨⟨w2909, g0, gx, gm, go, by omega, by omega⟩, ⟨_, tc, tm, cu, dr, _, _, _, _, _, ce8, q2929, gtc, h2936, q2931, gtm, h2937, q2933, gcu, q2935, gdr, h2938, h2939, h2940, h2941, h2942, hC1, hC2, h2943, h2950, (h2944).1, (h2949).1, hE, hZ, (by omega), (by assumption), (by omega), (by first | assumption | exact SG_0), q2946, gce8, h2947, h2948, a2917, gm⟩, by omega, by omega⟩ (by omega) (by omega))
    · show WL _ _ _ _ 651 [(4, vI i), (3, .ref o), (2, .ref m), (1, .ref x), (0, .ref 0)] [vI z2911] _ H2905
      refine wl_of hX hb cL_651 (rw_pop (pc' := 652) rfl rfl ?_)
      refine wl_of hX hb cL_652 (rw_goto (p1 := 1653) (by decide) ?_)
      have k2951 : H2905 x 9 = H2793 x 9 := (f2910 x 9 _ gx rfl)
      have k2952 : H2905 m 6 = H2793 m 6 := (f2910 m 6 _ gm rfl)
      have k2953 : H2905 x 11 = H2793 x 11 := (f2910 x 11 _ gx rfl)
      have k2954 : H2905 m 13 = H2793 m 13 := (f2910 m 13 _ gm rfl)
      have k2955 : H2905 x 8 = H2793 x 8 := (f2910 x 8 _ gx rfl)
      have k2956 : H2905 m 3 = H2793 m 3 := (f2910 m 3 _ gm rfl)
      have k2957 : H2905 x 0 = H x 0 := ((f2910 x 0 _ gx rfl).trans (f2798 x 0 _ gx rfl))
      have q2958 : H2905 x 0 = (tc : Int) := k2957.trans e0
      have k2959 : H2905 m 5 = H m 5 := ((f2910 m 5 _ gm rfl).trans (f2798 m 5 _ gm rfl))
      have q2960 : H2905 m 5 = (tm : Int) := k2959.trans em
      have k2961 : H2905 x 6 = H x 6 := ((f2910 x 6 _ gx rfl).trans (f2798 x 6 _ gx rfl))
      have q2962 : H2905 x 6 = (cu : Int) := k2961.trans ecu
      have k2963 : H2905 x 7 = H x 7 := ((f2910 x 7 _ gx rfl).trans (f2798 x 7 _ gx rfl))
      have q2964 : H2905 x 7 = (dr : Int) := k2963.trans edr
      have h2965 : TP T H2905 tc B := (TP_fr w2797 gtc f2910 rfl (TP_fr hW gtc f2798 rfl htc))
      have h2966 : TM T H2905 tm B := (TM_fr w2797 gtm f2910 rfl (TM_fr hW gtm f2798 rfl htm))
      have h2967 : DD T H2905 cu  := (DD_fr w2797 gcu f2910 rfl (DD_fr hW gcu f2798 rfl hcu))
      have h2968 : DD T H2905 dr  := (DD_fr w2797 gdr f2910 rfl (DD_fr hW gdr f2798 rfl hdr))
      have h2969 : DE T H2905 cu  := (DE_fr w2797 gcu f2910 rfl (DE_fr hW gcu f2798 rfl hdec))
      have h2970 : DE T H2905 dr  := (DE_fr w2797 gdr f2910 rfl (DE_fr hW gdr f2798 rfl hded))
      have h2971 : SP T H2905 x C8 := (SP_fr w2797 gx f2910 rfl (SP_fr hW gx f2798 rfl hsp))
      have h2972 : CU T H2905 cu e8 d8 n8 := (CU_fr w2797 gcu f2910 rfl (CU_fr hW gcu f2798 rfl hcu8))
      have h2973 : CY T H2905 cu (d8 0 3) g8 (H cu 17) := (CY_fr w2797 gcu f2910 rfl (CY_fr hW gcu f2798 rfl h2786))
      have k2974 : H2905 x 3 = H x 3 := ((f2910 x 3 _ gx rfl).trans (f2798 x 3 _ gx rfl))
      have q2975 : H2905 x 3 = (ce8 : Int) := k2974.trans ece8
      have h2976 : CEN T H2905 ce8 e8 d8 := (CEN_fr w2797 gce8 f2910 rfl a2807)
      have h2977 : HDR T H2905 ce8  := (HDR_fr w2797 gce8 f2910 rfl (HDR_fr hW gce8 f2798 rfl hhdr8))
      have h2978 : RY T H2905 m (d8 0 3) g8 (H m 32) := (RY_fr w2797 gm f2910 rfl (RY_fr hW gm f2798 rfl h2787))
      have h2979 : RB T H2905 m e8 d8 := (RB_fr w2797 gm f2910 rfl h2901)
      exact WL.loc hX (by simp) (next T H2905 ⟨⟨w2909, g0, gx, gm, go, by omega, by omega⟩, ⟨_, tc, tm, cu, dr, _, _, _, _, _, ce8, q2958, gtc, h2965, q2960, gtm, h2966, q2962, gcu, q2964, gdr, h2967, h2968, h2969, h2970, h2971, hC1, hC2, h2972, h2979, (h2973).1, (h2978).1, hE, hZ, (by omega), (by assumption), (by omega), (by first | assumption | exact SG_0), q2975, gce8, h2976, h2977, a2921, gm⟩, by omega, by omega⟩ (by omega) (by omega))
set_option maxHeartbeats 4000000 in
theorem wl_c15 {kt : Nat → Option mc_E} {CB SB : Nat} {X : mc_S → Prop} {T : wq_T} {H : wq_H} {Len x m o : Nat} {i : Int} (hX : wlX kt CB SB X) (hb : T.2.1 ≤ CB ∧ T.2.2.1 ≤ SB) (hI : wlJ Len x m o T H) (hL : Len ≤ 3072) (hi : 0 ≤ i ∧ i + 6 ≤ Len) (hb2 : T.2.1 + 20 ≤ CB ∧ T.2.2.1 + 500 ≤ SB)  (next : ∀ T' H', wlJ Len x m o T' H' → T'.2.1 ≤ T.2.1 + 20 → T'.2.2.1 ≤ T.2.2.1 + 500 → WL kt CB SB X 1653 (wlL i x m o) [] T' H') : WL kt CB SB X 655 (wlL i x m o) [] T H := by
  obtain ⟨⟨hW, g0, gx, gm, go, hK, hr⟩, hXI, hY1, hY2⟩ := hI
  refine wl_of hX hb cL_655 (rw_aload_n (pc' := 656) (v := .ref x) rfl rfl rfl ?_)
  obtain ⟨B, tc, tm, cu, dr, C8, e8, d8, n8, g8, ce8, e0, gtc, htc, em, gtm, htm, ecu, gcu, edr, gdr, hcu, hdr, hdec, hded, hsp, hC1, hC2, hcu8, hrb8, hcg8, hmn8, hE, hZ, hn8, hXA, hV8, hSG, ece8, gce8, hcen8, hhdr8, hknn8, -⟩ := hXI
  have hN3 := RB_n3 hrb8
  have hE13 : ∀ h : Nat, h < 24 → 0 ≤ e8 13 h ∧ e8 13 h ≤ 100 := fun k hk => by
    obtain ⟨s, h1, h2, h3⟩ := hcu8.1.2.2.1
    exact ⟨(h3 k hk).1, (h3 k hk).2.1⟩
  have hXW := hXA.1
  have hXN := hXA.2
  have hE0 : e8 0 3 = d8 0 3 ∧ e8 0 0 = d8 0 0 := by
    have h := hE 0 (by decide)
    exact ⟨congrFun h 3, congrFun h 0⟩
  have u2980 := CU_k hcu8
  have h2981 : CY T H cu (d8 0 3) g8 (H cu 17) := ⟨hcg8, rfl⟩
  have h2982 : RY T H m (d8 0 3) g8 (H m 32) := ⟨hmn8, rfl⟩
  obtain ⟨t9, ht9⟩ : ∃ t : Int, t = H x 9 := ⟨_, rfl⟩
  obtain ⟨r2983, q2984, g2985⟩ := hW.ref gx (t' := 6) (n := 13) (j := 2) (p := 0) (q := 0) rfl (by decide) rfl
  refine wl_of hX hb cL_656 (xc_V (pc' := 659) (r := x) (as := []) (st := []) (lm_11_84) rfl rfl (Nat.le_of_ble_eq_true rfl) hW gx sh_1 (by decide) rfl (by decide) (u_92 (e := e8) (d := d8) (n := n8) hW gx ecu gcu q2984 g2985 ece8 gce8 (by assumption) (by assumption) (by omega) (by omega) (by omega) (by omega) hcu8 hcen8 hhdr8) (fun R2986 T2987 H2988 p2989 => ?_))
  obtain ⟨e2990, w2992, f2993, z2994, e2991, b2995, p2996⟩ := p2989
  subst e2990
  subst e2991
  rcases p2996 with ⟨a2997, a2998, a2999⟩ | ⟨a3000, a3001, a3002, a3003⟩
  · show WL _ _ _ _ 659 [(4, vI i), (3, .ref o), (2, .ref m), (1, .ref x), (0, .ref 0)] [vI z2994] _ H2988
    refine wl_of hX hb cL_659 (rw_pop (pc' := 660) rfl rfl ?_)
    refine wl_of hX hb cL_660 (rw_aload_n (pc' := 661) (v := .ref m) rfl rfl rfl ?_)
    have k3004 : wKI H2988 m = wKI H m := (wKI_fr hW gm f2993 rfl)
    have k3005 : H2988 x 9 = H x 9 := (f2993 x 9 _ gx rfl)
    have k3006 : H2988 m 6 = H m 6 := (f2993 m 6 _ gm rfl)
    have k3007 : H2988 x 11 = H x 11 := (f2993 x 11 _ gx rfl)
    have k3008 : H2988 m 13 = H m 13 := (f2993 m 13 _ gm rfl)
    have k3009 : H2988 x 8 = H x 8 := (f2993 x 8 _ gx rfl)
    have k3010 : H2988 m 3 = H m 3 := (f2993 m 3 _ gm rfl)
    have h3011 : RB T H2988 m e8 d8 := (RB_fr hW gm f2993 rfl hrb8)
    have h3012 : KNN T H2988 m e8 d8 := (KNN_fr hW gm f2993 rfl hknn8)
    refine wl_of hX hb cL_661 (xc_V (pc' := 664) (r := m) (as := []) (st := []) (lm_11_87) rfl rfl (Nat.le_of_ble_eq_true rfl) w2992 gm sh_42 (by decide) rfl (by decide) (u_244 (e := e8) (d := d8) w2992 gm (by omega) (by assumption) (by assumption) (by assumption) (by assumption) h3011 h3012) (fun R3013 T3014 H3015 p3016 => ?_))
    obtain ⟨e3017, w3019, f3020, z3021, e3018, b3022, p3023⟩ := p3016
    subst e3017
    subst e3018
    rcases p3023 with ⟨a3024, a3025, a3026, a3027⟩ | ⟨a3028, a3029, a3030, a3031, a3032⟩
    · show WL _ _ _ _ 664 [(4, vI i), (3, .ref o), (2, .ref m), (1, .ref x), (0, .ref 0)] [vI z3021] _ H3015
      refine wl_of hX hb cL_664 (rw_pop (pc' := 665) rfl rfl ?_)
      refine wl_of hX hb cL_665 (rw_goto (p1 := 1653) (by decide) ?_)
      have k3033 : H3015 x 9 = H2988 x 9 := (f3020 x 9 _ gx rfl)
      have k3034 : H3015 m 6 = H2988 m 6 := (f3020 m 6 _ gm rfl)
      have k3035 : H3015 x 11 = H2988 x 11 := (f3020 x 11 _ gx rfl)
      have k3036 : H3015 m 13 = H2988 m 13 := (f3020 m 13 _ gm rfl)
      have k3037 : H3015 x 8 = H2988 x 8 := (f3020 x 8 _ gx rfl)
      have k3038 : H3015 m 3 = H2988 m 3 := (f3020 m 3 _ gm rfl)
      have k3039 : H3015 x 0 = H x 0 := ((f3020 x 0 _ gx rfl).trans (f2993 x 0 _ gx rfl))
      have q3040 : H3015 x 0 = (tc : Int) := k3039.trans e0
      have k3041 : H3015 m 5 = H m 5 := ((f3020 m 5 _ gm rfl).trans (f2993 m 5 _ gm rfl))
      have q3042 : H3015 m 5 = (tm : Int) := k3041.trans em
      have k3043 : H3015 x 6 = H x 6 := ((f3020 x 6 _ gx rfl).trans (f2993 x 6 _ gx rfl))
      have q3044 : H3015 x 6 = (cu : Int) := k3043.trans ecu
      have k3045 : H3015 x 7 = H x 7 := ((f3020 x 7 _ gx rfl).trans (f2993 x 7 _ gx rfl))
      have q3046 : H3015 x 7 = (dr : Int) := k3045.trans edr
      have h3047 : TP T H3015 tc B := (TP_fr w2992 gtc f3020 rfl (TP_fr hW gtc f2993 rfl htc))
      have h3048 : TM T H3015 tm B := (TM_fr w2992 gtm f3020 rfl (TM_fr hW gtm f2993 rfl htm))
      have h3049 : DD T H3015 cu  := (DD_fr w2992 gcu f3020 rfl (DD_fr hW gcu f2993 rfl hcu))
      have h3050 : DD T H3015 dr  := (DD_fr w2992 gdr f3020 rfl (DD_fr hW gdr f2993 rfl hdr))
      have h3051 : DE T H3015 cu  := (DE_fr w2992 gcu f3020 rfl (DE_fr hW gcu f2993 rfl hdec))
      have h3052 : DE T H3015 dr  := (DE_fr w2992 gdr f3020 rfl (DE_fr hW gdr f2993 rfl hded))
      have h3053 : SP T H3015 x C8 := (SP_fr w2992 gx f3020 rfl (SP_fr hW gx f2993 rfl hsp))
      have h3054 : CU T H3015 cu e8 d8 n8 := (CU_fr w2992 gcu f3020 rfl (CU_fr hW gcu f2993 rfl hcu8))
      have h3055 : CY T H3015 cu (d8 0 3) g8 (H cu 17) := (CY_fr w2992 gcu f3020 rfl (CY_fr hW gcu f2993 rfl h2981))
      have k3056 : H3015 x 3 = H x 3 := ((f3020 x 3 _ gx rfl).trans (f2993 x 3 _ gx rfl))
      have q3057 : H3015 x 3 = (ce8 : Int) := k3056.trans ece8
      have h3058 : CEN T H3015 ce8 e8 d8 := (CEN_fr w2992 gce8 f3020 rfl a2999)
      have h3059 : HDR T H3015 ce8  := (HDR_fr w2992 gce8 f3020 rfl (HDR_fr hW gce8 f2993 rfl hhdr8))
      have h3060 : RY T H3015 m (d8 0 3) g8 (H m 32) := (RY_fr w2992 gm f3020 rfl (RY_fr hW gm f2993 rfl h2982))
      have h3061 : RB T H3015 m e8 d8 := (RB_fr w2992 gm f3020 rfl h3011)
      exact WL.loc hX (by simp) (next T H3015 ⟨⟨w3019, g0, gx, gm, go, by omega, by omega⟩, ⟨_, tc, tm, cu, dr, _, _, _, _, _, ce8, q3040, gtc, h3047, q3042, gtm, h3048, q3044, gcu, q3046, gdr, h3049, h3050, h3051, h3052, h3053, hC1, hC2, h3054, h3061, (h3055).1, (h3060).1, hE, hZ, (by omega), (by assumption), (by omega), (by first | assumption | exact SG_0), q3057, gce8, h3058, h3059, a3027, gm⟩, by omega, by omega⟩ (by omega) (by omega))
    · show WL _ _ _ _ 664 [(4, vI i), (3, .ref o), (2, .ref m), (1, .ref x), (0, .ref 0)] [vI z3021] _ H3015
      refine wl_of hX hb cL_664 (rw_pop (pc' := 665) rfl rfl ?_)
      refine wl_of hX hb cL_665 (rw_goto (p1 := 1653) (by decide) ?_)
      have k3062 : H3015 x 9 = H2988 x 9 := (f3020 x 9 _ gx rfl)
      have k3063 : H3015 m 6 = H2988 m 6 := (f3020 m 6 _ gm rfl)
      have k3064 : H3015 x 11 = H2988 x 11 := (f3020 x 11 _ gx rfl)
      have k3065 : H3015 m 13 = H2988 m 13 := (f3020 m 13 _ gm rfl)
      have k3066 : H3015 x 8 = H2988 x 8 := (f3020 x 8 _ gx rfl)
      have k3067 : H3015 m 3 = H2988 m 3 := (f3020 m 3 _ gm rfl)
      have k3068 : H3015 x 0 = H x 0 := ((f3020 x 0 _ gx rfl).trans (f2993 x 0 _ gx rfl))
      have q3069 : H3015 x 0 = (tc : Int) := k3068.trans e0
      have k3070 : H3015 m 5 = H m 5 := ((f3020 m 5 _ gm rfl).trans (f2993 m 5 _ gm rfl))
      have q3071 : H3015 m 5 = (tm : Int) := k3070.trans em
      have k3072 : H3015 x 6 = H x 6 := ((f3020 x 6 _ gx rfl).trans (f2993 x 6 _ gx rfl))
      have q3073 : H3015 x 6 = (cu : Int) := k3072.trans ecu
      have k3074 : H3015 x 7 = H x 7 := ((f3020 x 7 _ gx rfl).trans (f2993 x 7 _ gx rfl))
      have q3075 : H3015 x 7 = (dr : Int) := k3074.trans edr
      have h3076 : TP T H3015 tc B := (TP_fr w2992 gtc f3020 rfl (TP_fr hW gtc f2993 rfl htc))
      have h3077 : TM T H3015 tm B := (TM_fr w2992 gtm f3020 rfl (TM_fr hW gtm f2993 rfl htm))
      have h3078 : DD T H3015 cu  := (DD_fr w2992 gcu f3020 rfl (DD_fr hW gcu f2993 rfl hcu))
      have h3079 : DD T H3015 dr  := (DD_fr w2992 gdr f3020 rfl (DD_fr hW gdr f2993 rfl hdr))
      have h3080 : DE T H3015 cu  := (DE_fr w2992 gcu f3020 rfl (DE_fr hW gcu f2993 rfl hdec))
      have h3081 : DE T H3015 dr  := (DE_fr w2992 gdr f3020 rfl (DE_fr hW gdr f2993 rfl hded))
      have h3082 : SP T H3015 x C8 := (SP_fr w2992 gx f3020 rfl (SP_fr hW gx f2993 rfl hsp))
      have h3083 : CU T H3015 cu e8 d8 n8 := (CU_fr w2992 gcu f3020 rfl (CU_fr hW gcu f2993 rfl hcu8))
      have h3084 : CY T H3015 cu (d8 0 3) g8 (H cu 17) := (CY_fr w2992 gcu f3020 rfl (CY_fr hW gcu f2993 rfl h2981))
      have k3085 : H3015 x 3 = H x 3 := ((f3020 x 3 _ gx rfl).trans (f2993 x 3 _ gx rfl))
      have q3086 : H3015 x 3 = (ce8 : Int) := k3085.trans ece8
      have h3087 : CEN T H3015 ce8 e8 d8 := (CEN_fr w2992 gce8 f3020 rfl a2999)
      have h3088 : HDR T H3015 ce8  := (HDR_fr w2992 gce8 f3020 rfl (HDR_fr hW gce8 f2993 rfl hhdr8))
      have h3089 : RY T H3015 m (d8 0 3) g8 (H m 32) := (RY_fr w2992 gm f3020 rfl (RY_fr hW gm f2993 rfl h2982))
      have h3090 : RB T H3015 m e8 d8 := (RB_fr w2992 gm f3020 rfl h3011)
      exact WL.loc hX (by simp) (next T H3015 ⟨⟨w3019, g0, gx, gm, go, by omega, by omega⟩, ⟨_, tc, tm, cu, dr, _, _, _, _, _, ce8, q3069, gtc, h3076, q3071, gtm, h3077, q3073, gcu, q3075, gdr, h3078, h3079, h3080, h3081, h3082, hC1, hC2, h3083, h3090, (h3084).1, (h3089).1, hE, hZ, (by omega), (by assumption), (by omega), (by first | assumption | exact SG_0), q3086, gce8, h3087, h3088, a3032, gm⟩, by omega, by omega⟩ (by omega) (by omega))
  · show WL _ _ _ _ 659 [(4, vI i), (3, .ref o), (2, .ref m), (1, .ref x), (0, .ref 0)] [vI z2994] _ H2988
    refine wl_of hX hb cL_659 (rw_pop (pc' := 660) rfl rfl ?_)
    refine wl_of hX hb cL_660 (rw_aload_n (pc' := 661) (v := .ref m) rfl rfl rfl ?_)
    have k3091 : wKI H2988 m = wKI H m := (wKI_fr hW gm f2993 rfl)
    have k3092 : H2988 x 9 = H x 9 := (f2993 x 9 _ gx rfl)
    have k3093 : H2988 m 6 = H m 6 := (f2993 m 6 _ gm rfl)
    have k3094 : H2988 x 11 = H x 11 := (f2993 x 11 _ gx rfl)
    have k3095 : H2988 m 13 = H m 13 := (f2993 m 13 _ gm rfl)
    have k3096 : H2988 x 8 = H x 8 := (f2993 x 8 _ gx rfl)
    have k3097 : H2988 m 3 = H m 3 := (f2993 m 3 _ gm rfl)
    have h3098 : RB T H2988 m e8 d8 := (RB_fr hW gm f2993 rfl hrb8)
    have h3099 : KNN T H2988 m e8 d8 := (KNN_fr hW gm f2993 rfl hknn8)
    refine wl_of hX hb cL_661 (xc_V (pc' := 664) (r := m) (as := []) (st := []) (lm_11_87) rfl rfl (Nat.le_of_ble_eq_true rfl) w2992 gm sh_42 (by decide) rfl (by decide) (u_244 (e := e8) (d := d8) w2992 gm (by omega) (by assumption) (by assumption) (by assumption) (by assumption) h3098 h3099) (fun R3100 T3101 H3102 p3103 => ?_))
    obtain ⟨e3104, w3106, f3107, z3108, e3105, b3109, p3110⟩ := p3103
    subst e3104
    subst e3105
    rcases p3110 with ⟨a3111, a3112, a3113, a3114⟩ | ⟨a3115, a3116, a3117, a3118, a3119⟩
    · show WL _ _ _ _ 664 [(4, vI i), (3, .ref o), (2, .ref m), (1, .ref x), (0, .ref 0)] [vI z3108] _ H3102
      refine wl_of hX hb cL_664 (rw_pop (pc' := 665) rfl rfl ?_)
      refine wl_of hX hb cL_665 (rw_goto (p1 := 1653) (by decide) ?_)
      have k3120 : H3102 x 9 = H2988 x 9 := (f3107 x 9 _ gx rfl)
      have k3121 : H3102 m 6 = H2988 m 6 := (f3107 m 6 _ gm rfl)
      have k3122 : H3102 x 11 = H2988 x 11 := (f3107 x 11 _ gx rfl)
      have k3123 : H3102 m 13 = H2988 m 13 := (f3107 m 13 _ gm rfl)
      have k3124 : H3102 x 8 = H2988 x 8 := (f3107 x 8 _ gx rfl)
      have k3125 : H3102 m 3 = H2988 m 3 := (f3107 m 3 _ gm rfl)
      have k3126 : H3102 x 0 = H x 0 := ((f3107 x 0 _ gx rfl).trans (f2993 x 0 _ gx rfl))
      have q3127 : H3102 x 0 = (tc : Int) := k3126.trans e0
      have k3128 : H3102 m 5 = H m 5 := ((f3107 m 5 _ gm rfl).trans (f2993 m 5 _ gm rfl))
      have q3129 : H3102 m 5 = (tm : Int) := k3128.trans em
      have k3130 : H3102 x 6 = H x 6 := ((f3107 x 6 _ gx rfl).trans (f2993 x 6 _ gx rfl))
      have q3131 : H3102 x 6 = (cu : Int) := k3130.trans ecu
      have k3132 : H3102 x 7 = H x 7 := ((f3107 x 7 _ gx rfl).trans (f2993 x 7 _ gx rfl))
      have q3133 : H3102 x 7 = (dr : Int) := k3132.trans edr
      have h3134 : TP T H3102 tc B := (TP_fr w2992 gtc f3107 rfl (TP_fr hW gtc f2993 rfl htc))
      have h3135 : TM T H3102 tm B := (TM_fr w2992 gtm f3107 rfl (TM_fr hW gtm f2993 rfl htm))
      have h3136 : DD T H3102 cu  := (DD_fr w2992 gcu f3107 rfl (DD_fr hW gcu f2993 rfl hcu))
      have h3137 : DD T H3102 dr  := (DD_fr w2992 gdr f3107 rfl (DD_fr hW gdr f2993 rfl hdr))
      have h3138 : DE T H3102 cu  := (DE_fr w2992 gcu f3107 rfl (DE_fr hW gcu f2993 rfl hdec))
      have h3139 : DE T H3102 dr  := (DE_fr w2992 gdr f3107 rfl (DE_fr hW gdr f2993 rfl hded))
      have h3140 : SP T H3102 x C8 := (SP_fr w2992 gx f3107 rfl (SP_fr hW gx f2993 rfl hsp))
      have h3141 : CU T H3102 cu e8 d8 n8 := (CU_fr w2992 gcu f3107 rfl (CU_fr hW gcu f2993 rfl hcu8))
      have h3142 : CY T H3102 cu (d8 0 3) g8 (H cu 17) := (CY_fr w2992 gcu f3107 rfl (CY_fr hW gcu f2993 rfl h2981))
      have k3143 : H3102 x 3 = H x 3 := ((f3107 x 3 _ gx rfl).trans (f2993 x 3 _ gx rfl))
      have q3144 : H3102 x 3 = (ce8 : Int) := k3143.trans ece8
      have h3145 : CEN T H3102 ce8 e8 d8 := (CEN_fr w2992 gce8 f3107 rfl a3003)
      have h3146 : HDR T H3102 ce8  := (HDR_fr w2992 gce8 f3107 rfl (HDR_fr hW gce8 f2993 rfl hhdr8))
      have h3147 : RY T H3102 m (d8 0 3) g8 (H m 32) := (RY_fr w2992 gm f3107 rfl (RY_fr hW gm f2993 rfl h2982))
      have h3148 : RB T H3102 m e8 d8 := (RB_fr w2992 gm f3107 rfl h3098)
      exact WL.loc hX (by simp) (next T H3102 ⟨⟨w3106, g0, gx, gm, go, by omega, by omega⟩, ⟨_, tc, tm, cu, dr, _, _, _, _, _, ce8, q3127, gtc, h3134, q3129, gtm, h3135, q3131, gcu, q3133, gdr, h3136, h3137, h3138, h3139, h3140, hC1, hC2, h3141, h3148, (h3142).1, (h3147).1, hE, hZ, (by omega), (by assumption), (by omega), (by first | assumption | exact SG_0), q3144, gce8, h3145, h3146, a3114, gm⟩, by omega, by omega⟩ (by omega) (by omega))
    · show WL _ _ _ _ 664 [(4, vI i), (3, .ref o), (2, .ref m), (1, .ref x), (0, .ref 0)] [vI z3108] _ H3102
      refine wl_of hX hb cL_664 (rw_pop (pc' := 665) rfl rfl ?_)
      refine wl_of hX hb cL_665 (rw_goto (p1 := 1653) (by decide) ?_)
      have k3149 : H3102 x 9 = H2988 x 9 := (f3107 x 9 _ gx rfl)
      have k3150 : H3102 m 6 = H2988 m 6 := (f3107 m 6 _ gm rfl)
      have k3151 : H3102 x 11 = H2988 x 11 := (f3107 x 11 _ gx rfl)
      have k3152 : H3102 m 13 = H2988 m 13 := (f3107 m 13 _ gm rfl)
      have k3153 : H3102 x 8 = H2988 x 8 := (f3107 x 8 _ gx rfl)
      have k3154 : H3102 m 3 = H2988 m 3 := (f3107 m 3 _ gm rfl)
      have k3155 : H3102 x 0 = H x 0 := ((f3107 x 0 _ gx rfl).trans (f2993 x 0 _ gx rfl))
      have q3156 : H3102 x 0 = (tc : Int) := k3155.trans e0
      have k3157 : H3102 m 5 = H m 5 := ((f3107 m 5 _ gm rfl).trans (f2993 m 5 _ gm rfl))
      have q3158 : H3102 m 5 = (tm : Int) := k3157.trans em
      have k3159 : H3102 x 6 = H x 6 := ((f3107 x 6 _ gx rfl).trans (f2993 x 6 _ gx rfl))
      have q3160 : H3102 x 6 = (cu : Int) := k3159.trans ecu
      have k3161 : H3102 x 7 = H x 7 := ((f3107 x 7 _ gx rfl).trans (f2993 x 7 _ gx rfl))
      have q3162 : H3102 x 7 = (dr : Int) := k3161.trans edr
      have h3163 : TP T H3102 tc B := (TP_fr w2992 gtc f3107 rfl (TP_fr hW gtc f2993 rfl htc))
      have h3164 : TM T H3102 tm B := (TM_fr w2992 gtm f3107 rfl (TM_fr hW gtm f2993 rfl htm))
      have h3165 : DD T H3102 cu  := (DD_fr w2992 gcu f3107 rfl (DD_fr hW gcu f2993 rfl hcu))
      have h3166 : DD T H3102 dr  := (DD_fr w2992 gdr f3107 rfl (DD_fr hW gdr f2993 rfl hdr))
      have h3167 : DE T H3102 cu  := (DE_fr w2992 gcu f3107 rfl (DE_fr hW gcu f2993 rfl hdec))
      have h3168 : DE T H3102 dr  := (DE_fr w2992 gdr f3107 rfl (DE_fr hW gdr f2993 rfl hded))
      have h3169 : SP T H3102 x C8 := (SP_fr w2992 gx f3107 rfl (SP_fr hW gx f2993 rfl hsp))
      have h3170 : CU T H3102 cu e8 d8 n8 := (CU_fr w2992 gcu f3107 rfl (CU_fr hW gcu f2993 rfl hcu8))
      have h3171 : CY T H3102 cu (d8 0 3) g8 (H cu 17) := (CY_fr w2992 gcu f3107 rfl (CY_fr hW gcu f2993 rfl h2981))
      have k3172 : H3102 x 3 = H x 3 := ((f3107 x 3 _ gx rfl).trans (f2993 x 3 _ gx rfl))
      have q3173 : H3102 x 3 = (ce8 : Int) := k3172.trans ece8
      have h3174 : CEN T H3102 ce8 e8 d8 := (CEN_fr w2992 gce8 f3107 rfl a3003)
      have h3175 : HDR T H3102 ce8  := (HDR_fr w2992 gce8 f3107 rfl (HDR_fr hW gce8 f2993 rfl hhdr8))
      have h3176 : RY T H3102 m (d8 0 3) g8 (H m 32) := (RY_fr w2992 gm f3107 rfl (RY_fr hW gm f2993 rfl h2982))
      have h3177 : RB T H3102 m e8 d8 := (RB_fr w2992 gm f3107 rfl h3098)
      exact WL.loc hX (by simp) (next T H3102 ⟨⟨w3106, g0, gx, gm, go, by omega, by omega⟩, ⟨_, tc, tm, cu, dr, _, _, _, _, _, ce8, q3156, gtc, h3163, q3158, gtm, h3164, q3160, gcu, q3162, gdr, h3165, h3166, h3167, h3168, h3169, hC1, hC2, h3170, h3177, (h3171).1, (h3176).1, hE, hZ, (by omega), (by assumption), (by omega), (by first | assumption | exact SG_0), q3173, gce8, h3174, h3175, a3119, gm⟩, by omega, by omega⟩ (by omega) (by omega))
