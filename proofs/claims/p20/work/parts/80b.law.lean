/-! THE LAW, GONE ON WITH (own work) -/
set_option maxHeartbeats 4000000 in
theorem wl_c7 {kt : Nat → Option mc_E} {CB SB : Nat} {X : mc_S → Prop} {T : wq_T} {H : wq_H} {Len x m o : Nat} {i : Int} (hX : wlX kt CB SB X) (hb : T.2.1 ≤ CB ∧ T.2.2.1 ≤ SB) (hI : wlJ Len x m o T H) (hL : Len ≤ 3072) (hi : 0 ≤ i ∧ i + 6 ≤ Len) (hb2 : T.2.1 + 20 ≤ CB ∧ T.2.2.1 + 500 ≤ SB)  (next : ∀ T' H', wlJ Len x m o T' H' → T'.2.1 ≤ T.2.1 + 20 → T'.2.2.1 ≤ T.2.2.1 + 500 → WL kt CB SB X 1653 (wlL i x m o) [] T' H') : WL kt CB SB X 503 (wlL i x m o) [] T H := by
  obtain ⟨⟨hW, g0, gx, gm, go, hK, hr⟩, hXI, hY1, hY2⟩ := hI
  refine wl_of hX hb cL_503 (rw_aload_n (pc' := 504) (v := .ref x) rfl rfl rfl ?_)
  refine wl_of hX hb cL_504 (xc_V (pc' := 507) (r := x) (as := []) (st := []) (lm_11_50) rfl rfl (Nat.le_of_ble_eq_true rfl) hW gx sh_1 (by decide) rfl (by decide) (s_61 hW gx) (fun R2398 T2399 H2400 p2401 => ?_))
  obtain ⟨e2402, w2404, f2405, z2406, e2403, b2407⟩ := p2401
  subst e2402
  subst e2403
  show WL _ _ _ _ 507 [(4, vI i), (3, .ref o), (2, .ref m), (1, .ref x), (0, .ref 0)] [vL z2406] _ H2400
  refine wl_of hX hb cL_507 (rw_pop2 (pc' := 508) rfl rfl ?_)
  refine wl_of hX hb cL_508 (rw_aload_n (pc' := 509) (v := .ref m) rfl rfl rfl ?_)
  have k2408 : wKI H2400 m = wKI H m := (wKI_fr hW gm f2405 rfl)
  have k2409 : H2400 x 9 = H x 9 := (f2405 x 9 _ gx rfl)
  have k2410 : H2400 m 6 = H m 6 := (f2405 m 6 _ gm rfl)
  have k2411 : H2400 x 11 = H x 11 := (f2405 x 11 _ gx rfl)
  have k2412 : H2400 m 13 = H m 13 := (f2405 m 13 _ gm rfl)
  have k2413 : H2400 x 8 = H x 8 := (f2405 x 8 _ gx rfl)
  have k2414 : H2400 m 3 = H m 3 := (f2405 m 3 _ gm rfl)
  refine wl_of hX hb cL_509 (xc_V (pc' := 512) (r := m) (as := []) (st := []) (lm_11_54) rfl rfl (Nat.le_of_ble_eq_true rfl) w2404 gm sh_42 (by decide) rfl (by decide) (s_219 w2404 gm (by omega)) (fun R2415 T2416 H2417 p2418 => ?_))
  obtain ⟨e2419, w2421, f2422, z2424, e2420, b2425, p2423⟩ := p2418
  subst e2419
  subst e2420
  show WL _ _ _ _ 512 [(4, vI i), (3, .ref o), (2, .ref m), (1, .ref x), (0, .ref 0)] [vL z2424] _ H2417
  refine wl_of hX hb cL_512 (rw_pop2 (pc' := 513) rfl rfl ?_)
  refine wl_of hX hb cL_513 (rw_goto (p1 := 1653) (by decide) ?_)
  have k2426 : H2417 x 9 = H2400 x 9 := (f2422 x 9 _ gx rfl)
  have k2427 : H2417 m 6 = H2400 m 6 := (f2422 m 6 _ gm rfl)
  have k2428 : H2417 x 11 = H2400 x 11 := (f2422 x 11 _ gx rfl)
  have k2429 : H2417 m 13 = H2400 m 13 := (f2422 m 13 _ gm rfl)
  have k2430 : H2417 x 8 = H2400 x 8 := (f2422 x 8 _ gx rfl)
  have k2431 : H2417 m 3 = H2400 m 3 := (f2422 m 3 _ gm rfl)
  have h2432 : XI T H2417 x m := (XI_fr w2404 gx f2422 rfl (XI_fr hW gx f2405 rfl hXI))
  exact WL.loc hX (by simp) (next T H2417 ⟨⟨w2421, g0, gx, gm, go, by omega, by omega⟩, h2432, by omega, by omega⟩ (by omega) (by omega))
set_option maxHeartbeats 4000000 in
theorem wl_c8 {kt : Nat → Option mc_E} {CB SB : Nat} {X : mc_S → Prop} {T : wq_T} {H : wq_H} {Len x m o : Nat} {i : Int} (hX : wlX kt CB SB X) (hb : T.2.1 ≤ CB ∧ T.2.2.1 ≤ SB) (hI : wlJ Len x m o T H) (hL : Len ≤ 3072) (hi : 0 ≤ i ∧ i + 6 ≤ Len) (hb2 : T.2.1 + 20 ≤ CB ∧ T.2.2.1 + 500 ≤ SB)  (next : ∀ T' H', wlJ Len x m o T' H' → T'.2.1 ≤ T.2.1 + 20 → T'.2.2.1 ≤ T.2.2.1 + 500 → WL kt CB SB X 1653 (wlL i x m o) [] T' H') : WL kt CB SB X 516 (wlL i x m o) [] T H := by
  obtain ⟨⟨hW, g0, gx, gm, go, hK, hr⟩, hXI, hY1, hY2⟩ := hI
  refine wl_of hX hb cL_516 (rw_aload_n (pc' := 517) (v := .ref x) rfl rfl rfl ?_)
  refine wl_of hX hb cL_517 (rw_aload_n (pc' := 518) (v := .ref 0) rfl rfl rfl ?_)
  refine wl_of hX hb cL_518 (rw_iload (pc' := 520) (z := i) rfl rfl ?_)
  refine wl_of hX hb cL_520 (rw_iconst (pc' := 521) rfl ?_)
  refine wl_of hX hb cL_521 (rw_iadd (pc' := 522) rfl ?_)
  refine wl_of hX hb cL_522 (xa_I (so := 0) (pc' := 523) (a := 0) hW g0 (wsh_s _) (by omega) (wty_s _ _) (by omega) (by omega) rfl (fun b2433 b2434 => ?_))
  refine wl_of hX hb cL_523 (rw_aload_n (pc' := 524) (v := .ref 0) rfl rfl rfl ?_)
  refine wl_of hX hb cL_524 (rw_iload (pc' := 526) (z := i) rfl rfl ?_)
  refine wl_of hX hb cL_526 (rw_iconst (pc' := 527) rfl ?_)
  refine wl_of hX hb cL_527 (rw_iadd (pc' := 528) rfl ?_)
  refine wl_of hX hb cL_528 (xa_I (so := 0) (pc' := 529) (a := 0) hW g0 (wsh_s _) (by omega) (wty_s _ _) (by omega) (by omega) rfl (fun b2435 b2436 => ?_))
  obtain ⟨B, tc, tm, cu, dr, C8, e8, d8, n8, g8, ce8, e0, gtc, htc, em, gtm, htm, ecu, gcu, edr, gdr, hcu, hdr, hdec, hded, hsp, hC1, hC2, hcu8, hrb8, hcg8, hmn8, hE, hZ, hn8, hXA, hV8, hSG, ece8, gce8, hcen8, hhdr8, hknn8, -⟩ := hXI
  have hN3 := RB_n3 hrb8
  have hE13 : ∀ h : Nat, h < 24 → 0 ≤ e8 13 h ∧ e8 13 h ≤ 100 := fun k hk => by
    obtain ⟨s, h1, h2, h3⟩ := hcu8.1.2.2.1
    exact ⟨(h3 k hk).1, (h3 k hk).2.1⟩
  have hXW := hXA.1
  have hXN := hXA.2
  have hE0 : e8 0 3 = d8 0 3 ∧ e8 0 0 = d8 0 0 := by
    have h := hE 0 (by decide)
    exact ⟨congrFun h 3, congrFun h 0⟩
  have u2437 := CU_k hcu8
  have h2438 : CY T H cu (d8 0 3) g8 (H cu 17) := ⟨hcg8, rfl⟩
  have h2439 : RY T H m (d8 0 3) g8 (H m 32) := ⟨hmn8, rfl⟩
  obtain ⟨t9, ht9⟩ : ∃ t : Int, t = H x 9 := ⟨_, rfl⟩
  obtain ⟨y9, hy9⟩ : ∃ y : Int, y = H 0 ((i + 2).toNat) := ⟨_, rfl⟩
  refine wl_of hX hb cL_529 (xc_V (pc' := 532) (r := x) (as := [vI (H 0 ((i + 1).toNat)), vI (H 0 ((i + 2).toNat))]) (st := []) (lm_11_55) rfl rfl (Nat.le_of_ble_eq_true rfl) hW gx sh_1 (by decide) rfl (by decide) (u_62 (e := e8) (d := d8) (n := n8) (nY := ((d8 0 3))) (gY := g8) (cY := ((H cu 17))) hW gx ⟨by omega, by omega⟩ ⟨by omega, by omega⟩ ecu gcu (by omega) (by omega) (by omega) (by assumption) hcu8 h2438 hcu) (fun R2440 T2441 H2442 p2443 => ?_))
  obtain ⟨e2444, w2446, f2447, z2448, e2445, b2449, p2450⟩ := p2443
  subst e2444
  subst e2445
  rcases p2450 with ⟨a2451, a2452, a2453, a2454⟩ | ⟨a2455, a2456, a2457⟩
  · show WL _ _ _ _ 532 [(4, vI i), (3, .ref o), (2, .ref m), (1, .ref x), (0, .ref 0)] [vI z2448] _ H2442
    refine wl_of hX hb cL_532 (rw_pop (pc' := 533) rfl rfl ?_)
    refine wl_of hX hb cL_533 (rw_aload_n (pc' := 534) (v := .ref m) rfl rfl rfl ?_)
    refine wl_of hX hb cL_534 (rw_aload_n (pc' := 535) (v := .ref 0) rfl rfl rfl ?_)
    refine wl_of hX hb cL_535 (rw_iload (pc' := 537) (z := i) rfl rfl ?_)
    refine wl_of hX hb cL_537 (rw_iconst (pc' := 538) rfl ?_)
    refine wl_of hX hb cL_538 (rw_iadd (pc' := 539) rfl ?_)
    have k2460 : H2442 0 ((i + 1).toNat) = H 0 ((i + 1).toNat) := (f2447 0 ((i + 1).toNat) _ g0 (wmem_s rfl))
    refine wl_of hX hb cL_539 (xa_I (so := 0) (pc' := 540) (a := 0) w2446 g0 (wsh_s _) (by omega) (wty_s _ _) (by omega) (by omega) rfl (fun b2458 b2459 => ?_))
    refine wl_of hX hb cL_540 (rw_aload_n (pc' := 541) (v := .ref 0) rfl rfl rfl ?_)
    refine wl_of hX hb cL_541 (rw_iload (pc' := 543) (z := i) rfl rfl ?_)
    refine wl_of hX hb cL_543 (rw_iconst (pc' := 544) rfl ?_)
    refine wl_of hX hb cL_544 (rw_iadd (pc' := 545) rfl ?_)
    have k2463 : H2442 0 ((i + 2).toNat) = H 0 ((i + 2).toNat) := (f2447 0 ((i + 2).toNat) _ g0 (wmem_s rfl))
    refine wl_of hX hb cL_545 (xa_I (so := 0) (pc' := 546) (a := 0) w2446 g0 (wsh_s _) (by omega) (wty_s _ _) (by omega) (by omega) rfl (fun b2461 b2462 => ?_))
    have k2464 : wKI H2442 m = wKI H m := (wKI_fr hW gm f2447 rfl)
    have k2465 : H2442 x 9 = H x 9 := (f2447 x 9 _ gx rfl)
    have k2466 : H2442 m 6 = H m 6 := (f2447 m 6 _ gm rfl)
    have k2467 : H2442 x 11 = H x 11 := (f2447 x 11 _ gx rfl)
    have k2468 : H2442 m 13 = H m 13 := (f2447 m 13 _ gm rfl)
    have k2469 : H2442 x 8 = H x 8 := (f2447 x 8 _ gx rfl)
    have k2470 : H2442 m 3 = H m 3 := (f2447 m 3 _ gm rfl)
    rw [show H2442 0 ((i + 2).toNat) = H 0 ((i + 2).toNat) by omega]
    rw [show H2442 0 ((i + 1).toNat) = H 0 ((i + 1).toNat) by omega]
    have h2471 : RB T H2442 m e8 d8 := (RB_fr hW gm f2447 rfl hrb8)
    have h2472 : RY T H2442 m (d8 0 3) g8 (H m 32) := (RY_fr hW gm f2447 rfl h2439)
    refine wl_of hX hb cL_546 (xc_V (pc' := 549) (r := m) (as := [vI (H 0 ((i + 1).toNat)), vI (H 0 ((i + 2).toNat))]) (st := []) (lm_11_59) rfl rfl (Nat.le_of_ble_eq_true rfl) w2446 gm sh_42 (by decide) rfl (by decide) (u_222 (e := e8) (d := d8) (nY := ((d8 0 3))) (gY := g8) (cY := ((H m 32))) w2446 gm ⟨by omega, by omega⟩ ⟨by omega, by omega⟩ (by omega) h2471 h2472) (fun R2473 T2474 H2475 p2476 => ?_))
    obtain ⟨e2477, w2479, f2480, z2481, e2478, b2482, p2483⟩ := p2476
    subst e2477
    subst e2478
    rcases p2483 with ⟨a2484, a2485, a2486⟩ | ⟨a2487, a2488, a2489⟩
    · show WL _ _ _ _ 549 [(4, vI i), (3, .ref o), (2, .ref m), (1, .ref x), (0, .ref 0)] [vI z2481] _ H2475
      refine wl_of hX hb cL_549 (rw_pop (pc' := 550) rfl rfl ?_)
      refine wl_of hX hb cL_550 (rw_goto (p1 := 1653) (by decide) ?_)
      have k2490 : wKI H2475 m = wKI H2442 m := (wKI_fr w2446 gm f2480 rfl)
      have k2491 : H2475 x 9 = H2442 x 9 := (f2480 x 9 _ gx rfl)
      have k2492 : H2475 m 6 = H2442 m 6 := (f2480 m 6 _ gm rfl)
      have k2493 : H2475 x 11 = H2442 x 11 := (f2480 x 11 _ gx rfl)
      have k2494 : H2475 m 13 = H2442 m 13 := (f2480 m 13 _ gm rfl)
      have k2495 : H2475 x 8 = H2442 x 8 := (f2480 x 8 _ gx rfl)
      have k2496 : H2475 m 3 = H2442 m 3 := (f2480 m 3 _ gm rfl)
      have k2497 : H2475 x 0 = H x 0 := ((f2480 x 0 _ gx rfl).trans (f2447 x 0 _ gx rfl))
      have q2498 : H2475 x 0 = (tc : Int) := k2497.trans e0
      have k2499 : H2475 m 5 = H m 5 := ((f2480 m 5 _ gm rfl).trans (f2447 m 5 _ gm rfl))
      have q2500 : H2475 m 5 = (tm : Int) := k2499.trans em
      have k2501 : H2475 x 6 = H x 6 := ((f2480 x 6 _ gx rfl).trans (f2447 x 6 _ gx rfl))
      have q2502 : H2475 x 6 = (cu : Int) := k2501.trans ecu
      have k2503 : H2475 x 7 = H x 7 := ((f2480 x 7 _ gx rfl).trans (f2447 x 7 _ gx rfl))
      have q2504 : H2475 x 7 = (dr : Int) := k2503.trans edr
      have h2505 : CEN T H2475 ce8 e8 d8 := (CEN_fr w2446 gce8 f2480 rfl (CEN_fr hW gce8 f2447 rfl hcen8))
      have h2506 : TP T H2475 tc B := (TP_fr w2446 gtc f2480 rfl (TP_fr hW gtc f2447 rfl htc))
      have h2507 : TM T H2475 tm B := (TM_fr w2446 gtm f2480 rfl (TM_fr hW gtm f2447 rfl htm))
      have h2508 : DD T H2475 cu  := (DD_fr w2446 gcu f2480 rfl (DD_fr hW gcu f2447 rfl hcu))
      have h2509 : DD T H2475 dr  := (DD_fr w2446 gdr f2480 rfl (DD_fr hW gdr f2447 rfl hdr))
      have h2510 : DE T H2475 cu  := (DE_fr w2446 gcu f2480 rfl (DE_fr hW gcu f2447 rfl hdec))
      have h2511 : DE T H2475 dr  := (DE_fr w2446 gdr f2480 rfl (DE_fr hW gdr f2447 rfl hded))
      have h2512 : SP T H2475 x C8 := (SP_fr w2446 gx f2480 rfl (SP_fr hW gx f2447 rfl hsp))
      have h2513 : CU T H2475 cu e8 d8 n8 := (CU_fr w2446 gcu f2480 rfl (CU_fr hW gcu f2447 rfl hcu8))
      have h2514 : CY T H2475 cu ((d8 0 3)) (xup g8 ((H 0 ((i + 1).toNat))).toNat (H 0 ((i + 2).toNat))) ((H cu 17)) := (CY_fr w2446 gcu f2480 rfl a2454)
      have k2515 : H2475 x 3 = H x 3 := ((f2480 x 3 _ gx rfl).trans (f2447 x 3 _ gx rfl))
      have q2516 : H2475 x 3 = (ce8 : Int) := k2515.trans ece8
      have h2517 : HDR T H2475 ce8  := (HDR_fr w2446 gce8 f2480 rfl (HDR_fr hW gce8 f2447 rfl hhdr8))
      have h2518 : KNN T H2475 m e8 d8 := (KNN_fr w2446 gm f2480 rfl (KNN_fr hW gm f2447 rfl hknn8))
      have h2519 : RB T H2475 m e8 d8 := (RB_fr w2446 gm f2480 rfl h2471)
      exact WL.loc hX (by simp) (next T H2475 ⟨⟨w2479, g0, gx, gm, go, by omega, by omega⟩, ⟨_, tc, tm, cu, dr, _, _, _, _, _, ce8, q2498, gtc, h2506, q2500, gtm, h2507, q2502, gcu, q2504, gdr, h2508, h2509, h2510, h2511, h2512, hC1, hC2, h2513, h2519, (h2514).1, (a2486).1, hE, hZ, (by omega), (by assumption), (by omega), (by first | assumption | exact SG_0), q2516, gce8, h2505, h2517, h2518, gm⟩, by omega, by omega⟩ (by omega) (by omega))
    · show WL _ _ _ _ 549 [(4, vI i), (3, .ref o), (2, .ref m), (1, .ref x), (0, .ref 0)] [vI z2481] _ H2475
      refine wl_of hX hb cL_549 (rw_pop (pc' := 550) rfl rfl ?_)
      refine wl_of hX hb cL_550 (rw_goto (p1 := 1653) (by decide) ?_)
      have k2520 : wKI H2475 m = wKI H2442 m := (wKI_fr w2446 gm f2480 rfl)
      have k2521 : H2475 x 9 = H2442 x 9 := (f2480 x 9 _ gx rfl)
      have k2522 : H2475 m 6 = H2442 m 6 := (f2480 m 6 _ gm rfl)
      have k2523 : H2475 x 11 = H2442 x 11 := (f2480 x 11 _ gx rfl)
      have k2524 : H2475 m 13 = H2442 m 13 := (f2480 m 13 _ gm rfl)
      have k2525 : H2475 x 8 = H2442 x 8 := (f2480 x 8 _ gx rfl)
      have k2526 : H2475 m 3 = H2442 m 3 := (f2480 m 3 _ gm rfl)
      have k2527 : H2475 x 0 = H x 0 := ((f2480 x 0 _ gx rfl).trans (f2447 x 0 _ gx rfl))
      have q2528 : H2475 x 0 = (tc : Int) := k2527.trans e0
      have k2529 : H2475 m 5 = H m 5 := ((f2480 m 5 _ gm rfl).trans (f2447 m 5 _ gm rfl))
      have q2530 : H2475 m 5 = (tm : Int) := k2529.trans em
      have k2531 : H2475 x 6 = H x 6 := ((f2480 x 6 _ gx rfl).trans (f2447 x 6 _ gx rfl))
      have q2532 : H2475 x 6 = (cu : Int) := k2531.trans ecu
      have k2533 : H2475 x 7 = H x 7 := ((f2480 x 7 _ gx rfl).trans (f2447 x 7 _ gx rfl))
      have q2534 : H2475 x 7 = (dr : Int) := k2533.trans edr
      have h2535 : CEN T H2475 ce8 e8 d8 := (CEN_fr w2446 gce8 f2480 rfl (CEN_fr hW gce8 f2447 rfl hcen8))
      have h2536 : TP T H2475 tc B := (TP_fr w2446 gtc f2480 rfl (TP_fr hW gtc f2447 rfl htc))
      have h2537 : TM T H2475 tm B := (TM_fr w2446 gtm f2480 rfl (TM_fr hW gtm f2447 rfl htm))
      have h2538 : DD T H2475 cu  := (DD_fr w2446 gcu f2480 rfl (DD_fr hW gcu f2447 rfl hcu))
      have h2539 : DD T H2475 dr  := (DD_fr w2446 gdr f2480 rfl (DD_fr hW gdr f2447 rfl hdr))
      have h2540 : DE T H2475 cu  := (DE_fr w2446 gcu f2480 rfl (DE_fr hW gcu f2447 rfl hdec))
      have h2541 : DE T H2475 dr  := (DE_fr w2446 gdr f2480 rfl (DE_fr hW gdr f2447 rfl hded))
      have h2542 : SP T H2475 x C8 := (SP_fr w2446 gx f2480 rfl (SP_fr hW gx f2447 rfl hsp))
      have h2543 : CU T H2475 cu e8 d8 n8 := (CU_fr w2446 gcu f2480 rfl (CU_fr hW gcu f2447 rfl hcu8))
      have h2544 : CY T H2475 cu ((d8 0 3)) (xup g8 ((H 0 ((i + 1).toNat))).toNat (H 0 ((i + 2).toNat))) ((H cu 17)) := (CY_fr w2446 gcu f2480 rfl a2454)
      have k2545 : H2475 x 3 = H x 3 := ((f2480 x 3 _ gx rfl).trans (f2447 x 3 _ gx rfl))
      have q2546 : H2475 x 3 = (ce8 : Int) := k2545.trans ece8
      have h2547 : HDR T H2475 ce8  := (HDR_fr w2446 gce8 f2480 rfl (HDR_fr hW gce8 f2447 rfl hhdr8))
      have h2548 : KNN T H2475 m e8 d8 := (KNN_fr w2446 gm f2480 rfl (KNN_fr hW gm f2447 rfl hknn8))
      exfalso
      omega
  · show WL _ _ _ _ 532 [(4, vI i), (3, .ref o), (2, .ref m), (1, .ref x), (0, .ref 0)] [vI z2448] _ H2442
    refine wl_of hX hb cL_532 (rw_pop (pc' := 533) rfl rfl ?_)
    refine wl_of hX hb cL_533 (rw_aload_n (pc' := 534) (v := .ref m) rfl rfl rfl ?_)
    refine wl_of hX hb cL_534 (rw_aload_n (pc' := 535) (v := .ref 0) rfl rfl rfl ?_)
    refine wl_of hX hb cL_535 (rw_iload (pc' := 537) (z := i) rfl rfl ?_)
    refine wl_of hX hb cL_537 (rw_iconst (pc' := 538) rfl ?_)
    refine wl_of hX hb cL_538 (rw_iadd (pc' := 539) rfl ?_)
    have k2551 : H2442 0 ((i + 1).toNat) = H 0 ((i + 1).toNat) := (f2447 0 ((i + 1).toNat) _ g0 (wmem_s rfl))
    refine wl_of hX hb cL_539 (xa_I (so := 0) (pc' := 540) (a := 0) w2446 g0 (wsh_s _) (by omega) (wty_s _ _) (by omega) (by omega) rfl (fun b2549 b2550 => ?_))
    refine wl_of hX hb cL_540 (rw_aload_n (pc' := 541) (v := .ref 0) rfl rfl rfl ?_)
    refine wl_of hX hb cL_541 (rw_iload (pc' := 543) (z := i) rfl rfl ?_)
    refine wl_of hX hb cL_543 (rw_iconst (pc' := 544) rfl ?_)
    refine wl_of hX hb cL_544 (rw_iadd (pc' := 545) rfl ?_)
    have k2554 : H2442 0 ((i + 2).toNat) = H 0 ((i + 2).toNat) := (f2447 0 ((i + 2).toNat) _ g0 (wmem_s rfl))
    refine wl_of hX hb cL_545 (xa_I (so := 0) (pc' := 546) (a := 0) w2446 g0 (wsh_s _) (by omega) (wty_s _ _) (by omega) (by omega) rfl (fun b2552 b2553 => ?_))
    have k2555 : wKI H2442 m = wKI H m := (wKI_fr hW gm f2447 rfl)
    have k2556 : H2442 x 9 = H x 9 := (f2447 x 9 _ gx rfl)
    have k2557 : H2442 m 6 = H m 6 := (f2447 m 6 _ gm rfl)
    have k2558 : H2442 x 11 = H x 11 := (f2447 x 11 _ gx rfl)
    have k2559 : H2442 m 13 = H m 13 := (f2447 m 13 _ gm rfl)
    have k2560 : H2442 x 8 = H x 8 := (f2447 x 8 _ gx rfl)
    have k2561 : H2442 m 3 = H m 3 := (f2447 m 3 _ gm rfl)
    rw [show H2442 0 ((i + 2).toNat) = H 0 ((i + 2).toNat) by omega]
    rw [show H2442 0 ((i + 1).toNat) = H 0 ((i + 1).toNat) by omega]
    have h2562 : RB T H2442 m e8 d8 := (RB_fr hW gm f2447 rfl hrb8)
    have h2563 : RY T H2442 m (d8 0 3) g8 (H m 32) := (RY_fr hW gm f2447 rfl h2439)
    refine wl_of hX hb cL_546 (xc_V (pc' := 549) (r := m) (as := [vI (H 0 ((i + 1).toNat)), vI (H 0 ((i + 2).toNat))]) (st := []) (lm_11_59) rfl rfl (Nat.le_of_ble_eq_true rfl) w2446 gm sh_42 (by decide) rfl (by decide) (u_222 (e := e8) (d := d8) (nY := ((d8 0 3))) (gY := g8) (cY := ((H m 32))) w2446 gm ⟨by omega, by omega⟩ ⟨by omega, by omega⟩ (by omega) h2562 h2563) (fun R2564 T2565 H2566 p2567 => ?_))
    obtain ⟨e2568, w2570, f2571, z2572, e2569, b2573, p2574⟩ := p2567
    subst e2568
    subst e2569
    rcases p2574 with ⟨a2575, a2576, a2577⟩ | ⟨a2578, a2579, a2580⟩
    · show WL _ _ _ _ 549 [(4, vI i), (3, .ref o), (2, .ref m), (1, .ref x), (0, .ref 0)] [vI z2572] _ H2566
      refine wl_of hX hb cL_549 (rw_pop (pc' := 550) rfl rfl ?_)
      refine wl_of hX hb cL_550 (rw_goto (p1 := 1653) (by decide) ?_)
      have k2581 : wKI H2566 m = wKI H2442 m := (wKI_fr w2446 gm f2571 rfl)
      have k2582 : H2566 x 9 = H2442 x 9 := (f2571 x 9 _ gx rfl)
      have k2583 : H2566 m 6 = H2442 m 6 := (f2571 m 6 _ gm rfl)
      have k2584 : H2566 x 11 = H2442 x 11 := (f2571 x 11 _ gx rfl)
      have k2585 : H2566 m 13 = H2442 m 13 := (f2571 m 13 _ gm rfl)
      have k2586 : H2566 x 8 = H2442 x 8 := (f2571 x 8 _ gx rfl)
      have k2587 : H2566 m 3 = H2442 m 3 := (f2571 m 3 _ gm rfl)
      have k2588 : H2566 x 0 = H x 0 := ((f2571 x 0 _ gx rfl).trans (f2447 x 0 _ gx rfl))
      have q2589 : H2566 x 0 = (tc : Int) := k2588.trans e0
      have k2590 : H2566 m 5 = H m 5 := ((f2571 m 5 _ gm rfl).trans (f2447 m 5 _ gm rfl))
      have q2591 : H2566 m 5 = (tm : Int) := k2590.trans em
      have k2592 : H2566 x 6 = H x 6 := ((f2571 x 6 _ gx rfl).trans (f2447 x 6 _ gx rfl))
      have q2593 : H2566 x 6 = (cu : Int) := k2592.trans ecu
      have k2594 : H2566 x 7 = H x 7 := ((f2571 x 7 _ gx rfl).trans (f2447 x 7 _ gx rfl))
      have q2595 : H2566 x 7 = (dr : Int) := k2594.trans edr
      have h2596 : CEN T H2566 ce8 e8 d8 := (CEN_fr w2446 gce8 f2571 rfl (CEN_fr hW gce8 f2447 rfl hcen8))
      have h2597 : TP T H2566 tc B := (TP_fr w2446 gtc f2571 rfl (TP_fr hW gtc f2447 rfl htc))
      have h2598 : TM T H2566 tm B := (TM_fr w2446 gtm f2571 rfl (TM_fr hW gtm f2447 rfl htm))
      have h2599 : DD T H2566 cu  := (DD_fr w2446 gcu f2571 rfl (DD_fr hW gcu f2447 rfl hcu))
      have h2600 : DD T H2566 dr  := (DD_fr w2446 gdr f2571 rfl (DD_fr hW gdr f2447 rfl hdr))
      have h2601 : DE T H2566 cu  := (DE_fr w2446 gcu f2571 rfl (DE_fr hW gcu f2447 rfl hdec))
      have h2602 : DE T H2566 dr  := (DE_fr w2446 gdr f2571 rfl (DE_fr hW gdr f2447 rfl hded))
      have h2603 : SP T H2566 x C8 := (SP_fr w2446 gx f2571 rfl (SP_fr hW gx f2447 rfl hsp))
      have h2604 : CU T H2566 cu e8 d8 n8 := (CU_fr w2446 gcu f2571 rfl (CU_fr hW gcu f2447 rfl hcu8))
      have h2605 : CY T H2566 cu ((d8 0 3)) g8 ((H cu 17)) := (CY_fr w2446 gcu f2571 rfl a2457)
      have k2606 : H2566 x 3 = H x 3 := ((f2571 x 3 _ gx rfl).trans (f2447 x 3 _ gx rfl))
      have q2607 : H2566 x 3 = (ce8 : Int) := k2606.trans ece8
      have h2608 : HDR T H2566 ce8  := (HDR_fr w2446 gce8 f2571 rfl (HDR_fr hW gce8 f2447 rfl hhdr8))
      have h2609 : KNN T H2566 m e8 d8 := (KNN_fr w2446 gm f2571 rfl (KNN_fr hW gm f2447 rfl hknn8))
      exfalso
      omega
    · show WL _ _ _ _ 549 [(4, vI i), (3, .ref o), (2, .ref m), (1, .ref x), (0, .ref 0)] [vI z2572] _ H2566
      refine wl_of hX hb cL_549 (rw_pop (pc' := 550) rfl rfl ?_)
      refine wl_of hX hb cL_550 (rw_goto (p1 := 1653) (by decide) ?_)
      have k2610 : wKI H2566 m = wKI H2442 m := (wKI_fr w2446 gm f2571 rfl)
      have k2611 : H2566 x 9 = H2442 x 9 := (f2571 x 9 _ gx rfl)
      have k2612 : H2566 m 6 = H2442 m 6 := (f2571 m 6 _ gm rfl)
      have k2613 : H2566 x 11 = H2442 x 11 := (f2571 x 11 _ gx rfl)
      have k2614 : H2566 m 13 = H2442 m 13 := (f2571 m 13 _ gm rfl)
      have k2615 : H2566 x 8 = H2442 x 8 := (f2571 x 8 _ gx rfl)
      have k2616 : H2566 m 3 = H2442 m 3 := (f2571 m 3 _ gm rfl)
      have k2617 : H2566 x 0 = H x 0 := ((f2571 x 0 _ gx rfl).trans (f2447 x 0 _ gx rfl))
      have q2618 : H2566 x 0 = (tc : Int) := k2617.trans e0
      have k2619 : H2566 m 5 = H m 5 := ((f2571 m 5 _ gm rfl).trans (f2447 m 5 _ gm rfl))
      have q2620 : H2566 m 5 = (tm : Int) := k2619.trans em
      have k2621 : H2566 x 6 = H x 6 := ((f2571 x 6 _ gx rfl).trans (f2447 x 6 _ gx rfl))
      have q2622 : H2566 x 6 = (cu : Int) := k2621.trans ecu
      have k2623 : H2566 x 7 = H x 7 := ((f2571 x 7 _ gx rfl).trans (f2447 x 7 _ gx rfl))
      have q2624 : H2566 x 7 = (dr : Int) := k2623.trans edr
      have h2625 : CEN T H2566 ce8 e8 d8 := (CEN_fr w2446 gce8 f2571 rfl (CEN_fr hW gce8 f2447 rfl hcen8))
      have h2626 : TP T H2566 tc B := (TP_fr w2446 gtc f2571 rfl (TP_fr hW gtc f2447 rfl htc))
      have h2627 : TM T H2566 tm B := (TM_fr w2446 gtm f2571 rfl (TM_fr hW gtm f2447 rfl htm))
      have h2628 : DD T H2566 cu  := (DD_fr w2446 gcu f2571 rfl (DD_fr hW gcu f2447 rfl hcu))
      have h2629 : DD T H2566 dr  := (DD_fr w2446 gdr f2571 rfl (DD_fr hW gdr f2447 rfl hdr))
      have h2630 : DE T H2566 cu  := (DE_fr w2446 gcu f2571 rfl (DE_fr hW gcu f2447 rfl hdec))
      have h2631 : DE T H2566 dr  := (DE_fr w2446 gdr f2571 rfl (DE_fr hW gdr f2447 rfl hded))
      have h2632 : SP T H2566 x C8 := (SP_fr w2446 gx f2571 rfl (SP_fr hW gx f2447 rfl hsp))
      have h2633 : CU T H2566 cu e8 d8 n8 := (CU_fr w2446 gcu f2571 rfl (CU_fr hW gcu f2447 rfl hcu8))
      have h2634 : CY T H2566 cu ((d8 0 3)) g8 ((H cu 17)) := (CY_fr w2446 gcu f2571 rfl a2457)
      have k2635 : H2566 x 3 = H x 3 := ((f2571 x 3 _ gx rfl).trans (f2447 x 3 _ gx rfl))
      have q2636 : H2566 x 3 = (ce8 : Int) := k2635.trans ece8
      have h2637 : HDR T H2566 ce8  := (HDR_fr w2446 gce8 f2571 rfl (HDR_fr hW gce8 f2447 rfl hhdr8))
      have h2638 : KNN T H2566 m e8 d8 := (KNN_fr w2446 gm f2571 rfl (KNN_fr hW gm f2447 rfl hknn8))
      have h2639 : RB T H2566 m e8 d8 := (RB_fr w2446 gm f2571 rfl h2562)
      exact WL.loc hX (by simp) (next T H2566 ⟨⟨w2570, g0, gx, gm, go, by omega, by omega⟩, ⟨_, tc, tm, cu, dr, _, _, _, _, _, ce8, q2618, gtc, h2626, q2620, gtm, h2627, q2622, gcu, q2624, gdr, h2628, h2629, h2630, h2631, h2632, hC1, hC2, h2633, h2639, (h2634).1, (a2580).1, hE, hZ, (by omega), (by assumption), (by omega), (by first | assumption | exact SG_0), q2636, gce8, h2625, h2637, h2638, gm⟩, by omega, by omega⟩ (by omega) (by omega))
set_option maxHeartbeats 4000000 in
theorem wl_c9 {kt : Nat → Option mc_E} {CB SB : Nat} {X : mc_S → Prop} {T : wq_T} {H : wq_H} {Len x m o : Nat} {i : Int} (hX : wlX kt CB SB X) (hb : T.2.1 ≤ CB ∧ T.2.2.1 ≤ SB) (hI : wlJ Len x m o T H) (hL : Len ≤ 3072) (hi : 0 ≤ i ∧ i + 6 ≤ Len) (hb2 : T.2.1 + 20 ≤ CB ∧ T.2.2.1 + 500 ≤ SB)  (next : ∀ T' H', wlJ Len x m o T' H' → T'.2.1 ≤ T.2.1 + 20 → T'.2.2.1 ≤ T.2.2.1 + 500 → WL kt CB SB X 1653 (wlL i x m o) [] T' H') : WL kt CB SB X 553 (wlL i x m o) [] T H := by
  obtain ⟨⟨hW, g0, gx, gm, go, hK, hr⟩, hXI, hY1, hY2⟩ := hI
  refine wl_of hX hb cL_553 (rw_aload_n (pc' := 554) (v := .ref x) rfl rfl rfl ?_)
  refine wl_of hX hb cL_554 (rw_aload_n (pc' := 555) (v := .ref 0) rfl rfl rfl ?_)
  refine wl_of hX hb cL_555 (rw_iload (pc' := 557) (z := i) rfl rfl ?_)
  refine wl_of hX hb cL_557 (rw_iconst (pc' := 558) rfl ?_)
  refine wl_of hX hb cL_558 (rw_iadd (pc' := 559) rfl ?_)
  refine wl_of hX hb cL_559 (xa_I (so := 0) (pc' := 560) (a := 0) hW g0 (wsh_s _) (by omega) (wty_s _ _) (by omega) (by omega) rfl (fun b2640 b2641 => ?_))
  refine wl_of hX hb cL_560 (xc_V (pc' := 563) (r := x) (as := [vI (H 0 ((i + 1).toNat))]) (st := []) (lm_11_60) rfl rfl (Nat.le_of_ble_eq_true rfl) hW gx sh_1 (by decide) rfl (by decide) (s_65 hW gx ⟨by omega, by omega⟩) (fun R2642 T2643 H2644 p2645 => ?_))
  obtain ⟨e2646, w2648, f2649, z2650, e2647, b2651⟩ := p2645
  subst e2646
  subst e2647
  show WL _ _ _ _ 563 [(4, vI i), (3, .ref o), (2, .ref m), (1, .ref x), (0, .ref 0)] [vI z2650] _ H2644
  refine wl_of hX hb cL_563 (rw_pop (pc' := 564) rfl rfl ?_)
  refine wl_of hX hb cL_564 (rw_aload_n (pc' := 565) (v := .ref m) rfl rfl rfl ?_)
  refine wl_of hX hb cL_565 (rw_aload_n (pc' := 566) (v := .ref 0) rfl rfl rfl ?_)
  refine wl_of hX hb cL_566 (rw_iload (pc' := 568) (z := i) rfl rfl ?_)
  refine wl_of hX hb cL_568 (rw_iconst (pc' := 569) rfl ?_)
  refine wl_of hX hb cL_569 (rw_iadd (pc' := 570) rfl ?_)
  have k2654 : H2644 0 ((i + 1).toNat) = H 0 ((i + 1).toNat) := (f2649 0 ((i + 1).toNat) _ g0 (wmem_s rfl))
  refine wl_of hX hb cL_570 (xa_I (so := 0) (pc' := 571) (a := 0) w2648 g0 (wsh_s _) (by omega) (wty_s _ _) (by omega) (by omega) rfl (fun b2652 b2653 => ?_))
  have k2655 : wKI H2644 m = wKI H m := (wKI_fr hW gm f2649 rfl)
  have k2656 : H2644 x 9 = H x 9 := (f2649 x 9 _ gx rfl)
  have k2657 : H2644 m 6 = H m 6 := (f2649 m 6 _ gm rfl)
  have k2658 : H2644 x 11 = H x 11 := (f2649 x 11 _ gx rfl)
  have k2659 : H2644 m 13 = H m 13 := (f2649 m 13 _ gm rfl)
  have k2660 : H2644 x 8 = H x 8 := (f2649 x 8 _ gx rfl)
  have k2661 : H2644 m 3 = H m 3 := (f2649 m 3 _ gm rfl)
  refine wl_of hX hb cL_571 (xc_V (pc' := 574) (r := m) (as := [vI (H2644 0 ((i + 1).toNat))]) (st := []) (lm_11_63) rfl rfl (Nat.le_of_ble_eq_true rfl) w2648 gm sh_42 (by decide) rfl (by decide) (s_225 w2648 gm ⟨by omega, by omega⟩ (by omega)) (fun R2662 T2663 H2664 p2665 => ?_))
  obtain ⟨e2666, w2668, f2669, z2671, e2667, b2672, p2670⟩ := p2665
  subst e2666
  subst e2667
  show WL _ _ _ _ 574 [(4, vI i), (3, .ref o), (2, .ref m), (1, .ref x), (0, .ref 0)] [vI z2671] _ H2664
  refine wl_of hX hb cL_574 (rw_pop (pc' := 575) rfl rfl ?_)
  refine wl_of hX hb cL_575 (rw_goto (p1 := 1653) (by decide) ?_)
  have k2673 : H2664 x 9 = H2644 x 9 := (f2669 x 9 _ gx rfl)
  have k2674 : H2664 m 6 = H2644 m 6 := (f2669 m 6 _ gm rfl)
  have k2675 : H2664 x 11 = H2644 x 11 := (f2669 x 11 _ gx rfl)
  have k2676 : H2664 m 13 = H2644 m 13 := (f2669 m 13 _ gm rfl)
  have k2677 : H2664 x 8 = H2644 x 8 := (f2669 x 8 _ gx rfl)
  have k2678 : H2664 m 3 = H2644 m 3 := (f2669 m 3 _ gm rfl)
  have h2679 : XI T H2664 x m := (XI_fr w2648 gx f2669 rfl (XI_fr hW gx f2649 rfl hXI))
  exact WL.loc hX (by simp) (next T H2664 ⟨⟨w2668, g0, gx, gm, go, by omega, by omega⟩, h2679, by omega, by omega⟩ (by omega) (by omega))
set_option maxHeartbeats 4000000 in
theorem wl_c10 {kt : Nat → Option mc_E} {CB SB : Nat} {X : mc_S → Prop} {T : wq_T} {H : wq_H} {Len x m o : Nat} {i : Int} (hX : wlX kt CB SB X) (hb : T.2.1 ≤ CB ∧ T.2.2.1 ≤ SB) (hI : wlJ Len x m o T H) (hL : Len ≤ 3072) (hi : 0 ≤ i ∧ i + 6 ≤ Len) (hb2 : T.2.1 + 20 ≤ CB ∧ T.2.2.1 + 500 ≤ SB)  (next : ∀ T' H', wlJ Len x m o T' H' → T'.2.1 ≤ T.2.1 + 20 → T'.2.2.1 ≤ T.2.2.1 + 500 → WL kt CB SB X 1653 (wlL i x m o) [] T' H') : WL kt CB SB X 578 (wlL i x m o) [] T H := by
  obtain ⟨⟨hW, g0, gx, gm, go, hK, hr⟩, hXI, hY1, hY2⟩ := hI
  refine wl_of hX hb cL_578 (rw_aload_n (pc' := 579) (v := .ref x) rfl rfl rfl ?_)
  refine wl_of hX hb cL_579 (rw_aload_n (pc' := 580) (v := .ref 0) rfl rfl rfl ?_)
  refine wl_of hX hb cL_580 (rw_iload (pc' := 582) (z := i) rfl rfl ?_)
  refine wl_of hX hb cL_582 (rw_iconst (pc' := 583) rfl ?_)
  refine wl_of hX hb cL_583 (rw_iadd (pc' := 584) rfl ?_)
  refine wl_of hX hb cL_584 (xa_I (so := 0) (pc' := 585) (a := 0) hW g0 (wsh_s _) (by omega) (wty_s _ _) (by omega) (by omega) rfl (fun b2680 b2681 => ?_))
  refine wl_of hX hb cL_585 (xc_V (pc' := 588) (r := x) (as := [vI (H 0 ((i + 1).toNat))]) (st := []) (lm_11_64) rfl rfl (Nat.le_of_ble_eq_true rfl) hW gx sh_1 (by decide) rfl (by decide) (s_66 hW gx ⟨by omega, by omega⟩) (fun R2682 T2683 H2684 p2685 => ?_))
  obtain ⟨e2686, w2688, f2689, z2690, e2687, b2691⟩ := p2685
  subst e2686
  subst e2687
  show WL _ _ _ _ 588 [(4, vI i), (3, .ref o), (2, .ref m), (1, .ref x), (0, .ref 0)] [vI z2690] _ H2684
  refine wl_of hX hb cL_588 (rw_pop (pc' := 589) rfl rfl ?_)
  refine wl_of hX hb cL_589 (rw_aload_n (pc' := 590) (v := .ref m) rfl rfl rfl ?_)
  refine wl_of hX hb cL_590 (rw_aload_n (pc' := 591) (v := .ref 0) rfl rfl rfl ?_)
  refine wl_of hX hb cL_591 (rw_iload (pc' := 593) (z := i) rfl rfl ?_)
  refine wl_of hX hb cL_593 (rw_iconst (pc' := 594) rfl ?_)
  refine wl_of hX hb cL_594 (rw_iadd (pc' := 595) rfl ?_)
  have k2694 : H2684 0 ((i + 1).toNat) = H 0 ((i + 1).toNat) := (f2689 0 ((i + 1).toNat) _ g0 (wmem_s rfl))
  refine wl_of hX hb cL_595 (xa_I (so := 0) (pc' := 596) (a := 0) w2688 g0 (wsh_s _) (by omega) (wty_s _ _) (by omega) (by omega) rfl (fun b2692 b2693 => ?_))
  have k2695 : wKI H2684 m = wKI H m := (wKI_fr hW gm f2689 rfl)
  have k2696 : H2684 x 9 = H x 9 := (f2689 x 9 _ gx rfl)
  have k2697 : H2684 m 6 = H m 6 := (f2689 m 6 _ gm rfl)
  have k2698 : H2684 x 11 = H x 11 := (f2689 x 11 _ gx rfl)
  have k2699 : H2684 m 13 = H m 13 := (f2689 m 13 _ gm rfl)
  have k2700 : H2684 x 8 = H x 8 := (f2689 x 8 _ gx rfl)
  have k2701 : H2684 m 3 = H m 3 := (f2689 m 3 _ gm rfl)
  refine wl_of hX hb cL_596 (xc_V (pc' := 599) (r := m) (as := [vI (H2684 0 ((i + 1).toNat))]) (st := []) (lm_11_67) rfl rfl (Nat.le_of_ble_eq_true rfl) w2688 gm sh_42 (by decide) rfl (by decide) (s_226 w2688 gm ⟨by omega, by omega⟩ (by omega)) (fun R2702 T2703 H2704 p2705 => ?_))
  obtain ⟨e2706, w2708, f2709, z2711, e2707, b2712, p2710⟩ := p2705
  subst e2706
  subst e2707
  show WL _ _ _ _ 599 [(4, vI i), (3, .ref o), (2, .ref m), (1, .ref x), (0, .ref 0)] [vI z2711] _ H2704
  refine wl_of hX hb cL_599 (rw_pop (pc' := 600) rfl rfl ?_)
  refine wl_of hX hb cL_600 (rw_goto (p1 := 1653) (by decide) ?_)
  have k2713 : H2704 x 9 = H2684 x 9 := (f2709 x 9 _ gx rfl)
  have k2714 : H2704 m 6 = H2684 m 6 := (f2709 m 6 _ gm rfl)
  have k2715 : H2704 x 11 = H2684 x 11 := (f2709 x 11 _ gx rfl)
  have k2716 : H2704 m 13 = H2684 m 13 := (f2709 m 13 _ gm rfl)
  have k2717 : H2704 x 8 = H2684 x 8 := (f2709 x 8 _ gx rfl)
  have k2718 : H2704 m 3 = H2684 m 3 := (f2709 m 3 _ gm rfl)
  have h2719 : XI T H2704 x m := (XI_fr w2688 gx f2709 rfl (XI_fr hW gx f2689 rfl hXI))
  exact WL.loc hX (by simp) (next T H2704 ⟨⟨w2708, g0, gx, gm, go, by omega, by omega⟩, h2719, by omega, by omega⟩ (by omega) (by omega))
set_option maxHeartbeats 4000000 in
theorem wl_c11 {kt : Nat → Option mc_E} {CB SB : Nat} {X : mc_S → Prop} {T : wq_T} {H : wq_H} {Len x m o : Nat} {i : Int} (hX : wlX kt CB SB X) (hb : T.2.1 ≤ CB ∧ T.2.2.1 ≤ SB) (hI : wlJ Len x m o T H) (hL : Len ≤ 3072) (hi : 0 ≤ i ∧ i + 6 ≤ Len) (hb2 : T.2.1 + 20 ≤ CB ∧ T.2.2.1 + 500 ≤ SB)  (next : ∀ T' H', wlJ Len x m o T' H' → T'.2.1 ≤ T.2.1 + 20 → T'.2.2.1 ≤ T.2.2.1 + 500 → WL kt CB SB X 1653 (wlL i x m o) [] T' H') : WL kt CB SB X 603 (wlL i x m o) [] T H := by
  obtain ⟨⟨hW, g0, gx, gm, go, hK, hr⟩, hXI, hY1, hY2⟩ := hI
  refine wl_of hX hb cL_603 (rw_aload_n (pc' := 604) (v := .ref x) rfl rfl rfl ?_)
  refine wl_of hX hb cL_604 (xc_V (pc' := 607) (r := x) (as := []) (st := []) (lm_11_68) rfl rfl (Nat.le_of_ble_eq_true rfl) hW gx sh_1 (by decide) rfl (by decide) (s_73 hW gx) (fun R2720 T2721 H2722 p2723 => ?_))
  obtain ⟨e2724, w2726, f2727, z2728, e2725, b2729⟩ := p2723
  subst e2724
  subst e2725
  show WL _ _ _ _ 607 [(4, vI i), (3, .ref o), (2, .ref m), (1, .ref x), (0, .ref 0)] [vI z2728] _ H2722
  refine wl_of hX hb cL_607 (rw_pop (pc' := 608) rfl rfl ?_)
  refine wl_of hX hb cL_608 (rw_aload_n (pc' := 609) (v := .ref m) rfl rfl rfl ?_)
  have k2730 : wKI H2722 m = wKI H m := (wKI_fr hW gm f2727 rfl)
  have k2731 : H2722 x 9 = H x 9 := (f2727 x 9 _ gx rfl)
  have k2732 : H2722 m 6 = H m 6 := (f2727 m 6 _ gm rfl)
  have k2733 : H2722 x 11 = H x 11 := (f2727 x 11 _ gx rfl)
  have k2734 : H2722 m 13 = H m 13 := (f2727 m 13 _ gm rfl)
  have k2735 : H2722 x 8 = H x 8 := (f2727 x 8 _ gx rfl)
  have k2736 : H2722 m 3 = H m 3 := (f2727 m 3 _ gm rfl)
  refine wl_of hX hb cL_609 (xc_V (pc' := 612) (r := m) (as := []) (st := []) (lm_11_71) rfl rfl (Nat.le_of_ble_eq_true rfl) w2726 gm sh_42 (by decide) rfl (by decide) (s_230 w2726 gm (by omega)) (fun R2737 T2738 H2739 p2740 => ?_))
  obtain ⟨e2741, w2743, f2744, z2746, e2742, b2747, p2745⟩ := p2740
  subst e2741
  subst e2742
  show WL _ _ _ _ 612 [(4, vI i), (3, .ref o), (2, .ref m), (1, .ref x), (0, .ref 0)] [vI z2746] _ H2739
  refine wl_of hX hb cL_612 (rw_pop (pc' := 613) rfl rfl ?_)
  refine wl_of hX hb cL_613 (rw_goto (p1 := 1653) (by decide) ?_)
  have k2748 : H2739 x 9 = H2722 x 9 := (f2744 x 9 _ gx rfl)
  have k2749 : H2739 m 6 = H2722 m 6 := (f2744 m 6 _ gm rfl)
  have k2750 : H2739 x 11 = H2722 x 11 := (f2744 x 11 _ gx rfl)
  have k2751 : H2739 m 13 = H2722 m 13 := (f2744 m 13 _ gm rfl)
  have k2752 : H2739 x 8 = H2722 x 8 := (f2744 x 8 _ gx rfl)
  have k2753 : H2739 m 3 = H2722 m 3 := (f2744 m 3 _ gm rfl)
  have h2754 : XI T H2739 x m := (XI_fr w2726 gx f2744 rfl (XI_fr hW gx f2727 rfl hXI))
  exact WL.loc hX (by simp) (next T H2739 ⟨⟨w2743, g0, gx, gm, go, by omega, by omega⟩, h2754, by omega, by omega⟩ (by omega) (by omega))
set_option maxHeartbeats 4000000 in
theorem wl_c12 {kt : Nat → Option mc_E} {CB SB : Nat} {X : mc_S → Prop} {T : wq_T} {H : wq_H} {Len x m o : Nat} {i : Int} (hX : wlX kt CB SB X) (hb : T.2.1 ≤ CB ∧ T.2.2.1 ≤ SB) (hI : wlJ Len x m o T H) (hL : Len ≤ 3072) (hi : 0 ≤ i ∧ i + 6 ≤ Len) (hb2 : T.2.1 + 20 ≤ CB ∧ T.2.2.1 + 500 ≤ SB)  (next : ∀ T' H', wlJ Len x m o T' H' → T'.2.1 ≤ T.2.1 + 20 → T'.2.2.1 ≤ T.2.2.1 + 500 → WL kt CB SB X 1653 (wlL i x m o) [] T' H') : WL kt CB SB X 616 (wlL i x m o) [] T H := by
  obtain ⟨⟨hW, g0, gx, gm, go, hK, hr⟩, hXI, hY1, hY2⟩ := hI
  refine wl_of hX hb cL_616 (rw_aload_n (pc' := 617) (v := .ref x) rfl rfl rfl ?_)
  refine wl_of hX hb cL_617 (xc_V (pc' := 620) (r := x) (as := []) (st := []) (lm_11_72) rfl rfl (Nat.le_of_ble_eq_true rfl) hW gx sh_1 (by decide) rfl (by decide) (s_77 hW gx) (fun R2755 T2756 H2757 p2758 => ?_))
  obtain ⟨e2759, w2761, f2762, z2763, e2760, b2764⟩ := p2758
  subst e2759
  subst e2760
  show WL _ _ _ _ 620 [(4, vI i), (3, .ref o), (2, .ref m), (1, .ref x), (0, .ref 0)] [vI z2763] _ H2757
  refine wl_of hX hb cL_620 (rw_pop (pc' := 621) rfl rfl ?_)
  refine wl_of hX hb cL_621 (rw_aload_n (pc' := 622) (v := .ref m) rfl rfl rfl ?_)
  have k2765 : wKI H2757 m = wKI H m := (wKI_fr hW gm f2762 rfl)
  have k2766 : H2757 x 9 = H x 9 := (f2762 x 9 _ gx rfl)
  have k2767 : H2757 m 6 = H m 6 := (f2762 m 6 _ gm rfl)
  have k2768 : H2757 x 11 = H x 11 := (f2762 x 11 _ gx rfl)
  have k2769 : H2757 m 13 = H m 13 := (f2762 m 13 _ gm rfl)
  have k2770 : H2757 x 8 = H x 8 := (f2762 x 8 _ gx rfl)
  have k2771 : H2757 m 3 = H m 3 := (f2762 m 3 _ gm rfl)
  refine wl_of hX hb cL_622 (xc_V (pc' := 625) (r := m) (as := []) (st := []) (lm_11_75) rfl rfl (Nat.le_of_ble_eq_true rfl) w2761 gm sh_42 (by decide) rfl (by decide) (s_236 w2761 gm (by omega)) (fun R2772 T2773 H2774 p2775 => ?_))
  obtain ⟨e2776, w2778, f2779, z2781, e2777, b2782, p2780⟩ := p2775
  subst e2776
  subst e2777
  show WL _ _ _ _ 625 [(4, vI i), (3, .ref o), (2, .ref m), (1, .ref x), (0, .ref 0)] [vI z2781] _ H2774
  refine wl_of hX hb cL_625 (rw_pop (pc' := 626) rfl rfl ?_)
  refine wl_of hX hb cL_626 (rw_goto (p1 := 1653) (by decide) ?_)
  have k2783 : H2774 x 9 = H2757 x 9 := (f2779 x 9 _ gx rfl)
  have k2784 : H2774 m 6 = H2757 m 6 := (f2779 m 6 _ gm rfl)
  have k2785 : H2774 x 11 = H2757 x 11 := (f2779 x 11 _ gx rfl)
  have k2786 : H2774 m 13 = H2757 m 13 := (f2779 m 13 _ gm rfl)
  have k2787 : H2774 x 8 = H2757 x 8 := (f2779 x 8 _ gx rfl)
  have k2788 : H2774 m 3 = H2757 m 3 := (f2779 m 3 _ gm rfl)
  have h2789 : XI T H2774 x m := (XI_fr w2761 gx f2779 rfl (XI_fr hW gx f2762 rfl hXI))
  exact WL.loc hX (by simp) (next T H2774 ⟨⟨w2778, g0, gx, gm, go, by omega, by omega⟩, h2789, by omega, by omega⟩ (by omega) (by omega))
set_option maxHeartbeats 4000000 in
theorem wl_c13 {kt : Nat → Option mc_E} {CB SB : Nat} {X : mc_S → Prop} {T : wq_T} {H : wq_H} {Len x m o : Nat} {i : Int} (hX : wlX kt CB SB X) (hb : T.2.1 ≤ CB ∧ T.2.2.1 ≤ SB) (hI : wlJ Len x m o T H) (hL : Len ≤ 3072) (hi : 0 ≤ i ∧ i + 6 ≤ Len) (hb2 : T.2.1 + 20 ≤ CB ∧ T.2.2.1 + 500 ≤ SB)  (next : ∀ T' H', wlJ Len x m o T' H' → T'.2.1 ≤ T.2.1 + 20 → T'.2.2.1 ≤ T.2.2.1 + 500 → WL kt CB SB X 1653 (wlL i x m o) [] T' H') : WL kt CB SB X 629 (wlL i x m o) [] T H := by
  obtain ⟨⟨hW, g0, gx, gm, go, hK, hr⟩, hXI, hY1, hY2⟩ := hI
  refine wl_of hX hb cL_629 (rw_aload_n (pc' := 630) (v := .ref x) rfl rfl rfl ?_)
  refine wl_of hX hb cL_630 (xc_V (pc' := 633) (r := x) (as := []) (st := []) (lm_11_76) rfl rfl (Nat.le_of_ble_eq_true rfl) hW gx sh_1 (by decide) rfl (by decide) (s_78 hW gx) (fun R2790 T2791 H2792 p2793 => ?_))
  obtain ⟨e2794, w2796, f2797, z2798, e2795, b2799⟩ := p2793
  subst e2794
  subst e2795
  show WL _ _ _ _ 633 [(4, vI i), (3, .ref o), (2, .ref m), (1, .ref x), (0, .ref 0)] [vI z2798] _ H2792
  refine wl_of hX hb cL_633 (rw_pop (pc' := 634) rfl rfl ?_)
  refine wl_of hX hb cL_634 (rw_aload_n (pc' := 635) (v := .ref m) rfl rfl rfl ?_)
  have k2800 : wKI H2792 m = wKI H m := (wKI_fr hW gm f2797 rfl)
  have k2801 : H2792 x 9 = H x 9 := (f2797 x 9 _ gx rfl)
  have k2802 : H2792 m 6 = H m 6 := (f2797 m 6 _ gm rfl)
  have k2803 : H2792 x 11 = H x 11 := (f2797 x 11 _ gx rfl)
  have k2804 : H2792 m 13 = H m 13 := (f2797 m 13 _ gm rfl)
  have k2805 : H2792 x 8 = H x 8 := (f2797 x 8 _ gx rfl)
  have k2806 : H2792 m 3 = H m 3 := (f2797 m 3 _ gm rfl)
  refine wl_of hX hb cL_635 (xc_V (pc' := 638) (r := m) (as := []) (st := []) (lm_11_79) rfl rfl (Nat.le_of_ble_eq_true rfl) w2796 gm sh_42 (by decide) rfl (by decide) (s_237 w2796 gm (by omega)) (fun R2807 T2808 H2809 p2810 => ?_))
  obtain ⟨e2811, w2813, f2814, z2816, e2812, b2817, p2815⟩ := p2810
  subst e2811
  subst e2812
  show WL _ _ _ _ 638 [(4, vI i), (3, .ref o), (2, .ref m), (1, .ref x), (0, .ref 0)] [vI z2816] _ H2809
  refine wl_of hX hb cL_638 (rw_pop (pc' := 639) rfl rfl ?_)
  refine wl_of hX hb cL_639 (rw_goto (p1 := 1653) (by decide) ?_)
  have k2818 : H2809 x 9 = H2792 x 9 := (f2814 x 9 _ gx rfl)
  have k2819 : H2809 m 6 = H2792 m 6 := (f2814 m 6 _ gm rfl)
  have k2820 : H2809 x 11 = H2792 x 11 := (f2814 x 11 _ gx rfl)
  have k2821 : H2809 m 13 = H2792 m 13 := (f2814 m 13 _ gm rfl)
  have k2822 : H2809 x 8 = H2792 x 8 := (f2814 x 8 _ gx rfl)
  have k2823 : H2809 m 3 = H2792 m 3 := (f2814 m 3 _ gm rfl)
  have h2824 : XI T H2809 x m := (XI_fr w2796 gx f2814 rfl (XI_fr hW gx f2797 rfl hXI))
  exact WL.loc hX (by simp) (next T H2809 ⟨⟨w2813, g0, gx, gm, go, by omega, by omega⟩, h2824, by omega, by omega⟩ (by omega) (by omega))
set_option maxHeartbeats 4000000 in
theorem wl_c14 {kt : Nat → Option mc_E} {CB SB : Nat} {X : mc_S → Prop} {T : wq_T} {H : wq_H} {Len x m o : Nat} {i : Int} (hX : wlX kt CB SB X) (hb : T.2.1 ≤ CB ∧ T.2.2.1 ≤ SB) (hI : wlJ Len x m o T H) (hL : Len ≤ 3072) (hi : 0 ≤ i ∧ i + 6 ≤ Len) (hb2 : T.2.1 + 20 ≤ CB ∧ T.2.2.1 + 500 ≤ SB)  (next : ∀ T' H', wlJ Len x m o T' H' → T'.2.1 ≤ T.2.1 + 20 → T'.2.2.1 ≤ T.2.2.1 + 500 → WL kt CB SB X 1653 (wlL i x m o) [] T' H') : WL kt CB SB X 642 (wlL i x m o) [] T H := by
  obtain ⟨⟨hW, g0, gx, gm, go, hK, hr⟩, hXI, hY1, hY2⟩ := hI
  refine wl_of hX hb cL_642 (rw_aload_n (pc' := 643) (v := .ref x) rfl rfl rfl ?_)
  obtain ⟨B, tc, tm, cu, dr, C8, e8, d8, n8, g8, ce8, e0, gtc, htc, em, gtm, htm, ecu, gcu, edr, gdr, hcu, hdr, hdec, hded, hsp, hC1, hC2, hcu8, hrb8, hcg8, hmn8, hE, hZ, hn8, hXA, hV8, hSG, ece8, gce8, hcen8, hhdr8, hknn8, -⟩ := hXI
  have hN3 := RB_n3 hrb8
  have hE13 : ∀ h : Nat, h < 24 → 0 ≤ e8 13 h ∧ e8 13 h ≤ 100 := fun k hk => by
    obtain ⟨s, h1, h2, h3⟩ := hcu8.1.2.2.1
    exact ⟨(h3 k hk).1, (h3 k hk).2.1⟩
  have hXW := hXA.1
  have hXN := hXA.2
  have hE0 : e8 0 3 = d8 0 3 ∧ e8 0 0 = d8 0 0 := by
    have h := hE 0 (by decide)
    exact ⟨congrFun h 3, congrFun h 0⟩
  have u2825 := CU_k hcu8
  have h2826 : CY T H cu (d8 0 3) g8 (H cu 17) := ⟨hcg8, rfl⟩
  have h2827 : RY T H m (d8 0 3) g8 (H m 32) := ⟨hmn8, rfl⟩
  obtain ⟨t9, ht9⟩ : ∃ t : Int, t = H x 9 := ⟨_, rfl⟩
  obtain ⟨r2828, q2829, g2830⟩ := hW.ref gx (t' := 6) (n := 13) (j := 2) (p := 0) (q := 0) rfl (by decide) rfl
  refine wl_of hX hb cL_643 (xc_V (pc' := 646) (r := x) (as := []) (st := []) (lm_11_80) rfl rfl (Nat.le_of_ble_eq_true rfl) hW gx sh_1 (by decide) rfl (by decide) (u_82 (e := e8) (d := d8) (n := n8) hW gx ecu gcu q2829 g2830 ece8 gce8 (by assumption) (by assumption) (by omega) (by omega) (by omega) (by omega) hcu8 hcen8 hhdr8) (fun R2831 T2832 H2833 p2834 => ?_))
  obtain ⟨e2835, w2837, f2838, z2839, e2836, b2840, p2841⟩ := p2834
  subst e2835
  subst e2836
  rcases p2841 with ⟨a2842, a2843, a2844⟩ | ⟨a2845, a2846, a2847⟩
  · show WL _ _ _ _ 646 [(4, vI i), (3, .ref o), (2, .ref m), (1, .ref x), (0, .ref 0)] [vI z2839] _ H2833
    refine wl_of hX hb cL_646 (rw_pop (pc' := 647) rfl rfl ?_)
    refine wl_of hX hb cL_647 (rw_aload_n (pc' := 648) (v := .ref m) rfl rfl rfl ?_)
    have k2848 : wKI H2833 m = wKI H m := (wKI_fr hW gm f2838 rfl)
    have k2849 : H2833 x 9 = H x 9 := (f2838 x 9 _ gx rfl)
    have k2850 : H2833 m 6 = H m 6 := (f2838 m 6 _ gm rfl)
    have k2851 : H2833 x 11 = H x 11 := (f2838 x 11 _ gx rfl)
    have k2852 : H2833 m 13 = H m 13 := (f2838 m 13 _ gm rfl)
    have k2853 : H2833 x 8 = H x 8 := (f2838 x 8 _ gx rfl)
    have k2854 : H2833 m 3 = H m 3 := (f2838 m 3 _ gm rfl)
    have h2855 : RB T H2833 m e8 d8 := (RB_fr hW gm f2838 rfl hrb8)
    have h2856 : KNN T H2833 m e8 d8 := (KNN_fr hW gm f2838 rfl hknn8)
    refine wl_of hX hb cL_648 (xc_V (pc' := 651) (r := m) (as := []) (st := []) (lm_11_83) rfl rfl (Nat.le_of_ble_eq_true rfl) w2837 gm sh_42 (by decide) rfl (by decide) (u_240 (e := e8) (d := d8) w2837 gm (by omega) (by assumption) (by assumption) (by assumption) (by assumption) h2855 h2856) (fun R2857 T2858 H2859 p2860 => ?_))
    obtain ⟨e2861, w2863, f2864, z2865, e2862, b2866, p2867⟩ := p2860
    subst e2861
    subst e2862
    rcases p2867 with ⟨a2868, a2869, a2870, a2871⟩ | ⟨a2872, a2873, a2874, a2875⟩
    · show WL _ _ _ _ 651 [(4, vI i), (3, .ref o), (2, .ref m), (1, .ref x), (0, .ref 0)] [vI z2865] _ H2859
      refine wl_of hX hb cL_651 (rw_pop (pc' := 652) rfl rfl ?_)
      refine wl_of hX hb cL_652 (rw_goto (p1 := 1653) (by decide) ?_)
      have k2876 : H2859 x 9 = H2833 x 9 := (f2864 x 9 _ gx rfl)
      have k2877 : H2859 m 6 = H2833 m 6 := (f2864 m 6 _ gm rfl)
      have k2878 : H2859 x 11 = H2833 x 11 := (f2864 x 11 _ gx rfl)
      have k2879 : H2859 m 13 = H2833 m 13 := (f2864 m 13 _ gm rfl)
      have k2880 : H2859 x 8 = H2833 x 8 := (f2864 x 8 _ gx rfl)
      have k2881 : H2859 m 3 = H2833 m 3 := (f2864 m 3 _ gm rfl)
      have k2882 : H2859 x 0 = H x 0 := ((f2864 x 0 _ gx rfl).trans (f2838 x 0 _ gx rfl))
      have q2883 : H2859 x 0 = (tc : Int) := k2882.trans e0
      have k2884 : H2859 m 5 = H m 5 := ((f2864 m 5 _ gm rfl).trans (f2838 m 5 _ gm rfl))
      have q2885 : H2859 m 5 = (tm : Int) := k2884.trans em
      have k2886 : H2859 x 6 = H x 6 := ((f2864 x 6 _ gx rfl).trans (f2838 x 6 _ gx rfl))
      have q2887 : H2859 x 6 = (cu : Int) := k2886.trans ecu
      have k2888 : H2859 x 7 = H x 7 := ((f2864 x 7 _ gx rfl).trans (f2838 x 7 _ gx rfl))
      have q2889 : H2859 x 7 = (dr : Int) := k2888.trans edr
      have h2890 : CEN T H2859 ce8 e8 d8 := (CEN_fr w2837 gce8 f2864 rfl a2844)
      have h2891 : TP T H2859 tc B := (TP_fr w2837 gtc f2864 rfl (TP_fr hW gtc f2838 rfl htc))
      have h2892 : TM T H2859 tm B := (TM_fr w2837 gtm f2864 rfl (TM_fr hW gtm f2838 rfl htm))
      have h2893 : DD T H2859 cu  := (DD_fr w2837 gcu f2864 rfl (DD_fr hW gcu f2838 rfl hcu))
      have h2894 : DD T H2859 dr  := (DD_fr w2837 gdr f2864 rfl (DD_fr hW gdr f2838 rfl hdr))
      have h2895 : DE T H2859 cu  := (DE_fr w2837 gcu f2864 rfl (DE_fr hW gcu f2838 rfl hdec))
      have h2896 : DE T H2859 dr  := (DE_fr w2837 gdr f2864 rfl (DE_fr hW gdr f2838 rfl hded))
      have h2897 : SP T H2859 x C8 := (SP_fr w2837 gx f2864 rfl (SP_fr hW gx f2838 rfl hsp))
      have h2898 : CU T H2859 cu e8 d8 n8 := (CU_fr w2837 gcu f2864 rfl (CU_fr hW gcu f2838 rfl hcu8))
      have h2899 : CY T H2859 cu (d8 0 3) g8 (H cu 17) := (CY_fr w2837 gcu f2864 rfl (CY_fr hW gcu f2838 rfl h2826))
      have k2900 : H2859 x 3 = H x 3 := ((f2864 x 3 _ gx rfl).trans (f2838 x 3 _ gx rfl))
      have q2901 : H2859 x 3 = (ce8 : Int) := k2900.trans ece8
      have h2902 : HDR T H2859 ce8  := (HDR_fr w2837 gce8 f2864 rfl (HDR_fr hW gce8 f2838 rfl hhdr8))
      have h2903 : RY T H2859 m (d8 0 3) g8 (H m 32) := (RY_fr w2837 gm f2864 rfl (RY_fr hW gm f2838 rfl h2827))
      have h2904 : RB T H2859 m e8 d8 := (RB_fr w2837 gm f2864 rfl h2855)
      exact WL.loc hX (by simp) (next T H2859 ⟨⟨w2863, g0, gx, gm, go, by omega, by omega⟩, ⟨_, tc, tm, cu, dr, _, _, _, _, _, ce8, q2883, gtc, h2891, q2885, gtm, h2892, q2887, gcu, q2889, gdr, h2893, h2894, h2895, h2896, h2897, hC1, hC2, h2898, h2904, (h2899).1, (h2903).1, hE, hZ, (by omega), (by assumption), (by omega), (by first | assumption | exact SG_0), q2901, gce8, h2890, h2902, a2871, gm⟩, by omega, by omega⟩ (by omega) (by omega))
    · show WL _ _ _ _ 651 [(4, vI i), (3, .ref o), (2, .ref m), (1, .ref x), (0, .ref 0)] [vI z2865] _ H2859
      refine wl_of hX hb cL_651 (rw_pop (pc' := 652) rfl rfl ?_)
      refine wl_of hX hb cL_652 (rw_goto (p1 := 1653) (by decide) ?_)
      have k2905 : H2859 x 9 = H2833 x 9 := (f2864 x 9 _ gx rfl)
      have k2906 : H2859 m 6 = H2833 m 6 := (f2864 m 6 _ gm rfl)
      have k2907 : H2859 x 11 = H2833 x 11 := (f2864 x 11 _ gx rfl)
      have k2908 : H2859 m 13 = H2833 m 13 := (f2864 m 13 _ gm rfl)
      have k2909 : H2859 x 8 = H2833 x 8 := (f2864 x 8 _ gx rfl)
      have k2910 : H2859 m 3 = H2833 m 3 := (f2864 m 3 _ gm rfl)
      have k2911 : H2859 x 0 = H x 0 := ((f2864 x 0 _ gx rfl).trans (f2838 x 0 _ gx rfl))
      have q2912 : H2859 x 0 = (tc : Int) := k2911.trans e0
      have k2913 : H2859 m 5 = H m 5 := ((f2864 m 5 _ gm rfl).trans (f2838 m 5 _ gm rfl))
      have q2914 : H2859 m 5 = (tm : Int) := k2913.trans em
      have k2915 : H2859 x 6 = H x 6 := ((f2864 x 6 _ gx rfl).trans (f2838 x 6 _ gx rfl))
      have q2916 : H2859 x 6 = (cu : Int) := k2915.trans ecu
      have k2917 : H2859 x 7 = H x 7 := ((f2864 x 7 _ gx rfl).trans (f2838 x 7 _ gx rfl))
      have q2918 : H2859 x 7 = (dr : Int) := k2917.trans edr
      have h2919 : CEN T H2859 ce8 e8 d8 := (CEN_fr w2837 gce8 f2864 rfl a2844)
      have h2920 : TP T H2859 tc B := (TP_fr w2837 gtc f2864 rfl (TP_fr hW gtc f2838 rfl htc))
      have h2921 : TM T H2859 tm B := (TM_fr w2837 gtm f2864 rfl (TM_fr hW gtm f2838 rfl htm))
      have h2922 : DD T H2859 cu  := (DD_fr w2837 gcu f2864 rfl (DD_fr hW gcu f2838 rfl hcu))
      have h2923 : DD T H2859 dr  := (DD_fr w2837 gdr f2864 rfl (DD_fr hW gdr f2838 rfl hdr))
      have h2924 : DE T H2859 cu  := (DE_fr w2837 gcu f2864 rfl (DE_fr hW gcu f2838 rfl hdec))
      have h2925 : DE T H2859 dr  := (DE_fr w2837 gdr f2864 rfl (DE_fr hW gdr f2838 rfl hded))
      have h2926 : SP T H2859 x C8 := (SP_fr w2837 gx f2864 rfl (SP_fr hW gx f2838 rfl hsp))
      have h2927 : CU T H2859 cu e8 d8 n8 := (CU_fr w2837 gcu f2864 rfl (CU_fr hW gcu f2838 rfl hcu8))
      have h2928 : CY T H2859 cu (d8 0 3) g8 (H cu 17) := (CY_fr w2837 gcu f2864 rfl (CY_fr hW gcu f2838 rfl h2826))
      have k2929 : H2859 x 3 = H x 3 := ((f2864 x 3 _ gx rfl).trans (f2838 x 3 _ gx rfl))
      have q2930 : H2859 x 3 = (ce8 : Int) := k2929.trans ece8
      have h2931 : HDR T H2859 ce8  := (HDR_fr w2837 gce8 f2864 rfl (HDR_fr hW gce8 f2838 rfl hhdr8))
      have h2932 : RY T H2859 m (d8 0 3) g8 (H m 32) := (RY_fr w2837 gm f2864 rfl (RY_fr hW gm f2838 rfl h2827))
      have h2933 : RB T H2859 m e8 d8 := (RB_fr w2837 gm f2864 rfl h2855)
      exact WL.loc hX (by simp) (next T H2859 ⟨⟨w2863, g0, gx, gm, go, by omega, by omega⟩, ⟨_, tc, tm, cu, dr, _, _, _, _, _, ce8, q2912, gtc, h2920, q2914, gtm, h2921, q2916, gcu, q2918, gdr, h2922, h2923, h2924, h2925, h2926, hC1, hC2, h2927, h2933, (h2928).1, (h2932).1, hE, hZ, (by omega), (by assumption), (by omega), (by first | assumption | exact SG_0), q2930, gce8, h2919, h2931, a2875, gm⟩, by omega, by omega⟩ (by omega) (by omega))
  · show WL _ _ _ _ 646 [(4, vI i), (3, .ref o), (2, .ref m), (1, .ref x), (0, .ref 0)] [vI z2839] _ H2833
    refine wl_of hX hb cL_646 (rw_pop (pc' := 647) rfl rfl ?_)
    refine wl_of hX hb cL_647 (rw_aload_n (pc' := 648) (v := .ref m) rfl rfl rfl ?_)
    have k2934 : wKI H2833 m = wKI H m := (wKI_fr hW gm f2838 rfl)
    have k2935 : H2833 x 9 = H x 9 := (f2838 x 9 _ gx rfl)
    have k2936 : H2833 m 6 = H m 6 := (f2838 m 6 _ gm rfl)
    have k2937 : H2833 x 11 = H x 11 := (f2838 x 11 _ gx rfl)
    have k2938 : H2833 m 13 = H m 13 := (f2838 m 13 _ gm rfl)
    have k2939 : H2833 x 8 = H x 8 := (f2838 x 8 _ gx rfl)
    have k2940 : H2833 m 3 = H m 3 := (f2838 m 3 _ gm rfl)
    have h2941 : RB T H2833 m e8 d8 := (RB_fr hW gm f2838 rfl hrb8)
    have h2942 : KNN T H2833 m e8 d8 := (KNN_fr hW gm f2838 rfl hknn8)
    refine wl_of hX hb cL_648 (xc_V (pc' := 651) (r := m) (as := []) (st := []) (lm_11_83) rfl rfl (Nat.le_of_ble_eq_true rfl) w2837 gm sh_42 (by decide) rfl (by decide) (u_240 (e := e8) (d := d8) w2837 gm (by omega) (by assumption) (by assumption) (by assumption) (by assumption) h2941 h2942) (fun R2943 T2944 H2945 p2946 => ?_))
    obtain ⟨e2947, w2949, f2950, z2951, e2948, b2952, p2953⟩ := p2946
    subst e2947
    subst e2948
    rcases p2953 with ⟨a2954, a2955, a2956, a2957⟩ | ⟨a2958, a2959, a2960, a2961⟩
    · show WL _ _ _ _ 651 [(4, vI i), (3, .ref o), (2, .ref m), (1, .ref x), (0, .ref 0)] [vI z2951] _ H2945
      refine wl_of hX hb cL_651 (rw_pop (pc' := 652) rfl rfl ?_)
      refine wl_of hX hb cL_652 (rw_goto (p1 := 1653) (by decide) ?_)
      have k2962 : H2945 x 9 = H2833 x 9 := (f2950 x 9 _ gx rfl)
      have k2963 : H2945 m 6 = H2833 m 6 := (f2950 m 6 _ gm rfl)
      have k2964 : H2945 x 11 = H2833 x 11 := (f2950 x 11 _ gx rfl)
      have k2965 : H2945 m 13 = H2833 m 13 := (f2950 m 13 _ gm rfl)
      have k2966 : H2945 x 8 = H2833 x 8 := (f2950 x 8 _ gx rfl)
      have k2967 : H2945 m 3 = H2833 m 3 := (f2950 m 3 _ gm rfl)
      have k2968 : H2945 x 0 = H x 0 := ((f2950 x 0 _ gx rfl).trans (f2838 x 0 _ gx rfl))
      have q2969 : H2945 x 0 = (tc : Int) := k2968.trans e0
      have k2970 : H2945 m 5 = H m 5 := ((f2950 m 5 _ gm rfl).trans (f2838 m 5 _ gm rfl))
      have q2971 : H2945 m 5 = (tm : Int) := k2970.trans em
      have k2972 : H2945 x 6 = H x 6 := ((f2950 x 6 _ gx rfl).trans (f2838 x 6 _ gx rfl))
      have q2973 : H2945 x 6 = (cu : Int) := k2972.trans ecu
      have k2974 : H2945 x 7 = H x 7 := ((f2950 x 7 _ gx rfl).trans (f2838 x 7 _ gx rfl))
      have q2975 : H2945 x 7 = (dr : Int) := k2974.trans edr
      have h2976 : CEN T H2945 ce8 e8 d8 := (CEN_fr w2837 gce8 f2950 rfl a2847)
      have h2977 : TP T H2945 tc B := (TP_fr w2837 gtc f2950 rfl (TP_fr hW gtc f2838 rfl htc))
      have h2978 : TM T H2945 tm B := (TM_fr w2837 gtm f2950 rfl (TM_fr hW gtm f2838 rfl htm))
      have h2979 : DD T H2945 cu  := (DD_fr w2837 gcu f2950 rfl (DD_fr hW gcu f2838 rfl hcu))
      have h2980 : DD T H2945 dr  := (DD_fr w2837 gdr f2950 rfl (DD_fr hW gdr f2838 rfl hdr))
      have h2981 : DE T H2945 cu  := (DE_fr w2837 gcu f2950 rfl (DE_fr hW gcu f2838 rfl hdec))
      have h2982 : DE T H2945 dr  := (DE_fr w2837 gdr f2950 rfl (DE_fr hW gdr f2838 rfl hded))
      have h2983 : SP T H2945 x C8 := (SP_fr w2837 gx f2950 rfl (SP_fr hW gx f2838 rfl hsp))
      have h2984 : CU T H2945 cu e8 d8 n8 := (CU_fr w2837 gcu f2950 rfl (CU_fr hW gcu f2838 rfl hcu8))
      have h2985 : CY T H2945 cu (d8 0 3) g8 (H cu 17) := (CY_fr w2837 gcu f2950 rfl (CY_fr hW gcu f2838 rfl h2826))
      have k2986 : H2945 x 3 = H x 3 := ((f2950 x 3 _ gx rfl).trans (f2838 x 3 _ gx rfl))
      have q2987 : H2945 x 3 = (ce8 : Int) := k2986.trans ece8
      have h2988 : HDR T H2945 ce8  := (HDR_fr w2837 gce8 f2950 rfl (HDR_fr hW gce8 f2838 rfl hhdr8))
      have h2989 : RY T H2945 m (d8 0 3) g8 (H m 32) := (RY_fr w2837 gm f2950 rfl (RY_fr hW gm f2838 rfl h2827))
      have h2990 : RB T H2945 m e8 d8 := (RB_fr w2837 gm f2950 rfl h2941)
      exact WL.loc hX (by simp) (next T H2945 ⟨⟨w2949, g0, gx, gm, go, by omega, by omega⟩, ⟨_, tc, tm, cu, dr, _, _, _, _, _, ce8, q2969, gtc, h2977, q2971, gtm, h2978, q2973, gcu, q2975, gdr, h2979, h2980, h2981, h2982, h2983, hC1, hC2, h2984, h2990, (h2985).1, (h2989).1, hE, hZ, (by omega), (by assumption), (by omega), (by first | assumption | exact SG_0), q2987, gce8, h2976, h2988, a2957, gm⟩, by omega, by omega⟩ (by omega) (by omega))
    · show WL _ _ _ _ 651 [(4, vI i), (3, .ref o), (2, .ref m), (1, .ref x), (0, .ref 0)] [vI z2951] _ H2945
      refine wl_of hX hb cL_651 (rw_pop (pc' := 652) rfl rfl ?_)
      refine wl_of hX hb cL_652 (rw_goto (p1 := 1653) (by decide) ?_)
      have k2991 : H2945 x 9 = H2833 x 9 := (f2950 x 9 _ gx rfl)
      have k2992 : H2945 m 6 = H2833 m 6 := (f2950 m 6 _ gm rfl)
      have k2993 : H2945 x 11 = H2833 x 11 := (f2950 x 11 _ gx rfl)
      have k2994 : H2945 m 13 = H2833 m 13 := (f2950 m 13 _ gm rfl)
      have k2995 : H2945 x 8 = H2833 x 8 := (f2950 x 8 _ gx rfl)
      have k2996 : H2945 m 3 = H2833 m 3 := (f2950 m 3 _ gm rfl)
      have k2997 : H2945 x 0 = H x 0 := ((f2950 x 0 _ gx rfl).trans (f2838 x 0 _ gx rfl))
      have q2998 : H2945 x 0 = (tc : Int) := k2997.trans e0
      have k2999 : H2945 m 5 = H m 5 := ((f2950 m 5 _ gm rfl).trans (f2838 m 5 _ gm rfl))
      have q3000 : H2945 m 5 = (tm : Int) := k2999.trans em
      have k3001 : H2945 x 6 = H x 6 := ((f2950 x 6 _ gx rfl).trans (f2838 x 6 _ gx rfl))
      have q3002 : H2945 x 6 = (cu : Int) := k3001.trans ecu
      have k3003 : H2945 x 7 = H x 7 := ((f2950 x 7 _ gx rfl).trans (f2838 x 7 _ gx rfl))
      have q3004 : H2945 x 7 = (dr : Int) := k3003.trans edr
      have h3005 : CEN T H2945 ce8 e8 d8 := (CEN_fr w2837 gce8 f2950 rfl a2847)
      have h3006 : TP T H2945 tc B := (TP_fr w2837 gtc f2950 rfl (TP_fr hW gtc f2838 rfl htc))
      have h3007 : TM T H2945 tm B := (TM_fr w2837 gtm f2950 rfl (TM_fr hW gtm f2838 rfl htm))
      have h3008 : DD T H2945 cu  := (DD_fr w2837 gcu f2950 rfl (DD_fr hW gcu f2838 rfl hcu))
      have h3009 : DD T H2945 dr  := (DD_fr w2837 gdr f2950 rfl (DD_fr hW gdr f2838 rfl hdr))
      have h3010 : DE T H2945 cu  := (DE_fr w2837 gcu f2950 rfl (DE_fr hW gcu f2838 rfl hdec))
      have h3011 : DE T H2945 dr  := (DE_fr w2837 gdr f2950 rfl (DE_fr hW gdr f2838 rfl hded))
      have h3012 : SP T H2945 x C8 := (SP_fr w2837 gx f2950 rfl (SP_fr hW gx f2838 rfl hsp))
      have h3013 : CU T H2945 cu e8 d8 n8 := (CU_fr w2837 gcu f2950 rfl (CU_fr hW gcu f2838 rfl hcu8))
      have h3014 : CY T H2945 cu (d8 0 3) g8 (H cu 17) := (CY_fr w2837 gcu f2950 rfl (CY_fr hW gcu f2838 rfl h2826))
      have k3015 : H2945 x 3 = H x 3 := ((f2950 x 3 _ gx rfl).trans (f2838 x 3 _ gx rfl))
      have q3016 : H2945 x 3 = (ce8 : Int) := k3015.trans ece8
      have h3017 : HDR T H2945 ce8  := (HDR_fr w2837 gce8 f2950 rfl (HDR_fr hW gce8 f2838 rfl hhdr8))
      have h3018 : RY T H2945 m (d8 0 3) g8 (H m 32) := (RY_fr w2837 gm f2950 rfl (RY_fr hW gm f2838 rfl h2827))
      have h3019 : RB T H2945 m e8 d8 := (RB_fr w2837 gm f2950 rfl h2941)
      exact WL.loc hX (by simp) (next T H2945 ⟨⟨w2949, g0, gx, gm, go, by omega, by omega⟩, ⟨_, tc, tm, cu, dr, _, _, _, _, _, ce8, q2998, gtc, h3006, q3000, gtm, h3007, q3002, gcu, q3004, gdr, h3008, h3009, h3010, h3011, h3012, hC1, hC2, h3013, h3019, (h3014).1, (h3018).1, hE, hZ, (by omega), (by assumption), (by omega), (by first | assumption | exact SG_0), q3016, gce8, h3005, h3017, a2961, gm⟩, by omega, by omega⟩ (by omega) (by omega))
set_option maxHeartbeats 4000000 in
theorem wl_c15 {kt : Nat → Option mc_E} {CB SB : Nat} {X : mc_S → Prop} {T : wq_T} {H : wq_H} {Len x m o : Nat} {i : Int} (hX : wlX kt CB SB X) (hb : T.2.1 ≤ CB ∧ T.2.2.1 ≤ SB) (hI : wlJ Len x m o T H) (hL : Len ≤ 3072) (hi : 0 ≤ i ∧ i + 6 ≤ Len) (hb2 : T.2.1 + 20 ≤ CB ∧ T.2.2.1 + 500 ≤ SB)  (next : ∀ T' H', wlJ Len x m o T' H' → T'.2.1 ≤ T.2.1 + 20 → T'.2.2.1 ≤ T.2.2.1 + 500 → WL kt CB SB X 1653 (wlL i x m o) [] T' H') : WL kt CB SB X 655 (wlL i x m o) [] T H := by
  obtain ⟨⟨hW, g0, gx, gm, go, hK, hr⟩, hXI, hY1, hY2⟩ := hI
  refine wl_of hX hb cL_655 (rw_aload_n (pc' := 656) (v := .ref x) rfl rfl rfl ?_)
  obtain ⟨B, tc, tm, cu, dr, C8, e8, d8, n8, g8, ce8, e0, gtc, htc, em, gtm, htm, ecu, gcu, edr, gdr, hcu, hdr, hdec, hded, hsp, hC1, hC2, hcu8, hrb8, hcg8, hmn8, hE, hZ, hn8, hXA, hV8, hSG, ece8, gce8, hcen8, hhdr8, hknn8, -⟩ := hXI
  have hN3 := RB_n3 hrb8
  have hE13 : ∀ h : Nat, h < 24 → 0 ≤ e8 13 h ∧ e8 13 h ≤ 100 := fun k hk => by
    obtain ⟨s, h1, h2, h3⟩ := hcu8.1.2.2.1
    exact ⟨(h3 k hk).1, (h3 k hk).2.1⟩
  have hXW := hXA.1
  have hXN := hXA.2
  have hE0 : e8 0 3 = d8 0 3 ∧ e8 0 0 = d8 0 0 := by
    have h := hE 0 (by decide)
    exact ⟨congrFun h 3, congrFun h 0⟩
  have u3020 := CU_k hcu8
  have h3021 : CY T H cu (d8 0 3) g8 (H cu 17) := ⟨hcg8, rfl⟩
  have h3022 : RY T H m (d8 0 3) g8 (H m 32) := ⟨hmn8, rfl⟩
  obtain ⟨t9, ht9⟩ : ∃ t : Int, t = H x 9 := ⟨_, rfl⟩
  obtain ⟨r3023, q3024, g3025⟩ := hW.ref gx (t' := 6) (n := 13) (j := 2) (p := 0) (q := 0) rfl (by decide) rfl
  refine wl_of hX hb cL_656 (xc_V (pc' := 659) (r := x) (as := []) (st := []) (lm_11_84) rfl rfl (Nat.le_of_ble_eq_true rfl) hW gx sh_1 (by decide) rfl (by decide) (u_92 (e := e8) (d := d8) (n := n8) hW gx ecu gcu q3024 g3025 ece8 gce8 (by assumption) (by assumption) (by omega) (by omega) (by omega) (by omega) hcu8 hcen8 hhdr8) (fun R3026 T3027 H3028 p3029 => ?_))
  obtain ⟨e3030, w3032, f3033, z3034, e3031, b3035, p3036⟩ := p3029
  subst e3030
  subst e3031
  rcases p3036 with ⟨a3037, a3038, a3039⟩ | ⟨a3040, a3041, a3042, a3043⟩
  · show WL _ _ _ _ 659 [(4, vI i), (3, .ref o), (2, .ref m), (1, .ref x), (0, .ref 0)] [vI z3034] _ H3028
    refine wl_of hX hb cL_659 (rw_pop (pc' := 660) rfl rfl ?_)
    refine wl_of hX hb cL_660 (rw_aload_n (pc' := 661) (v := .ref m) rfl rfl rfl ?_)
    have k3044 : wKI H3028 m = wKI H m := (wKI_fr hW gm f3033 rfl)
    have k3045 : H3028 x 9 = H x 9 := (f3033 x 9 _ gx rfl)
    have k3046 : H3028 m 6 = H m 6 := (f3033 m 6 _ gm rfl)
    have k3047 : H3028 x 11 = H x 11 := (f3033 x 11 _ gx rfl)
    have k3048 : H3028 m 13 = H m 13 := (f3033 m 13 _ gm rfl)
    have k3049 : H3028 x 8 = H x 8 := (f3033 x 8 _ gx rfl)
    have k3050 : H3028 m 3 = H m 3 := (f3033 m 3 _ gm rfl)
    have h3051 : RB T H3028 m e8 d8 := (RB_fr hW gm f3033 rfl hrb8)
    have h3052 : KNN T H3028 m e8 d8 := (KNN_fr hW gm f3033 rfl hknn8)
    refine wl_of hX hb cL_661 (xc_V (pc' := 664) (r := m) (as := []) (st := []) (lm_11_87) rfl rfl (Nat.le_of_ble_eq_true rfl) w3032 gm sh_42 (by decide) rfl (by decide) (u_244 (e := e8) (d := d8) w3032 gm (by omega) (by assumption) (by assumption) (by assumption) (by assumption) h3051 h3052) (fun R3053 T3054 H3055 p3056 => ?_))
    obtain ⟨e3057, w3059, f3060, z3061, e3058, b3062, p3063⟩ := p3056
    subst e3057
    subst e3058
    rcases p3063 with ⟨a3064, a3065, a3066, a3067⟩ | ⟨a3068, a3069, a3070, a3071, a3072⟩
    · show WL _ _ _ _ 664 [(4, vI i), (3, .ref o), (2, .ref m), (1, .ref x), (0, .ref 0)] [vI z3061] _ H3055
      refine wl_of hX hb cL_664 (rw_pop (pc' := 665) rfl rfl ?_)
      refine wl_of hX hb cL_665 (rw_goto (p1 := 1653) (by decide) ?_)
      have k3073 : H3055 x 9 = H3028 x 9 := (f3060 x 9 _ gx rfl)
      have k3074 : H3055 m 6 = H3028 m 6 := (f3060 m 6 _ gm rfl)
      have k3075 : H3055 x 11 = H3028 x 11 := (f3060 x 11 _ gx rfl)
      have k3076 : H3055 m 13 = H3028 m 13 := (f3060 m 13 _ gm rfl)
      have k3077 : H3055 x 8 = H3028 x 8 := (f3060 x 8 _ gx rfl)
      have k3078 : H3055 m 3 = H3028 m 3 := (f3060 m 3 _ gm rfl)
      have k3079 : H3055 x 0 = H x 0 := ((f3060 x 0 _ gx rfl).trans (f3033 x 0 _ gx rfl))
      have q3080 : H3055 x 0 = (tc : Int) := k3079.trans e0
      have k3081 : H3055 m 5 = H m 5 := ((f3060 m 5 _ gm rfl).trans (f3033 m 5 _ gm rfl))
      have q3082 : H3055 m 5 = (tm : Int) := k3081.trans em
      have k3083 : H3055 x 6 = H x 6 := ((f3060 x 6 _ gx rfl).trans (f3033 x 6 _ gx rfl))
      have q3084 : H3055 x 6 = (cu : Int) := k3083.trans ecu
      have k3085 : H3055 x 7 = H x 7 := ((f3060 x 7 _ gx rfl).trans (f3033 x 7 _ gx rfl))
      have q3086 : H3055 x 7 = (dr : Int) := k3085.trans edr
      have h3087 : CEN T H3055 ce8 e8 d8 := (CEN_fr w3032 gce8 f3060 rfl a3039)
      have h3088 : TP T H3055 tc B := (TP_fr w3032 gtc f3060 rfl (TP_fr hW gtc f3033 rfl htc))
      have h3089 : TM T H3055 tm B := (TM_fr w3032 gtm f3060 rfl (TM_fr hW gtm f3033 rfl htm))
      have h3090 : DD T H3055 cu  := (DD_fr w3032 gcu f3060 rfl (DD_fr hW gcu f3033 rfl hcu))
      have h3091 : DD T H3055 dr  := (DD_fr w3032 gdr f3060 rfl (DD_fr hW gdr f3033 rfl hdr))
      have h3092 : DE T H3055 cu  := (DE_fr w3032 gcu f3060 rfl (DE_fr hW gcu f3033 rfl hdec))
      have h3093 : DE T H3055 dr  := (DE_fr w3032 gdr f3060 rfl (DE_fr hW gdr f3033 rfl hded))
      have h3094 : SP T H3055 x C8 := (SP_fr w3032 gx f3060 rfl (SP_fr hW gx f3033 rfl hsp))
      have h3095 : CU T H3055 cu e8 d8 n8 := (CU_fr w3032 gcu f3060 rfl (CU_fr hW gcu f3033 rfl hcu8))
      have h3096 : CY T H3055 cu (d8 0 3) g8 (H cu 17) := (CY_fr w3032 gcu f3060 rfl (CY_fr hW gcu f3033 rfl h3021))
      have k3097 : H3055 x 3 = H x 3 := ((f3060 x 3 _ gx rfl).trans (f3033 x 3 _ gx rfl))
      have q3098 : H3055 x 3 = (ce8 : Int) := k3097.trans ece8
      have h3099 : HDR T H3055 ce8  := (HDR_fr w3032 gce8 f3060 rfl (HDR_fr hW gce8 f3033 rfl hhdr8))
      have h3100 : RY T H3055 m (d8 0 3) g8 (H m 32) := (RY_fr w3032 gm f3060 rfl (RY_fr hW gm f3033 rfl h3022))
      have h3101 : RB T H3055 m e8 d8 := (RB_fr w3032 gm f3060 rfl h3051)
      exact WL.loc hX (by simp) (next T H3055 ⟨⟨w3059, g0, gx, gm, go, by omega, by omega⟩, ⟨_, tc, tm, cu, dr, _, _, _, _, _, ce8, q3080, gtc, h3088, q3082, gtm, h3089, q3084, gcu, q3086, gdr, h3090, h3091, h3092, h3093, h3094, hC1, hC2, h3095, h3101, (h3096).1, (h3100).1, hE, hZ, (by omega), (by assumption), (by omega), (by first | assumption | exact SG_0), q3098, gce8, h3087, h3099, a3067, gm⟩, by omega, by omega⟩ (by omega) (by omega))
    · show WL _ _ _ _ 664 [(4, vI i), (3, .ref o), (2, .ref m), (1, .ref x), (0, .ref 0)] [vI z3061] _ H3055
      refine wl_of hX hb cL_664 (rw_pop (pc' := 665) rfl rfl ?_)
      refine wl_of hX hb cL_665 (rw_goto (p1 := 1653) (by decide) ?_)
      have k3102 : H3055 x 9 = H3028 x 9 := (f3060 x 9 _ gx rfl)
      have k3103 : H3055 m 6 = H3028 m 6 := (f3060 m 6 _ gm rfl)
      have k3104 : H3055 x 11 = H3028 x 11 := (f3060 x 11 _ gx rfl)
      have k3105 : H3055 m 13 = H3028 m 13 := (f3060 m 13 _ gm rfl)
      have k3106 : H3055 x 8 = H3028 x 8 := (f3060 x 8 _ gx rfl)
      have k3107 : H3055 m 3 = H3028 m 3 := (f3060 m 3 _ gm rfl)
      have k3108 : H3055 x 0 = H x 0 := ((f3060 x 0 _ gx rfl).trans (f3033 x 0 _ gx rfl))
      have q3109 : H3055 x 0 = (tc : Int) := k3108.trans e0
      have k3110 : H3055 m 5 = H m 5 := ((f3060 m 5 _ gm rfl).trans (f3033 m 5 _ gm rfl))
      have q3111 : H3055 m 5 = (tm : Int) := k3110.trans em
      have k3112 : H3055 x 6 = H x 6 := ((f3060 x 6 _ gx rfl).trans (f3033 x 6 _ gx rfl))
      have q3113 : H3055 x 6 = (cu : Int) := k3112.trans ecu
      have k3114 : H3055 x 7 = H x 7 := ((f3060 x 7 _ gx rfl).trans (f3033 x 7 _ gx rfl))
      have q3115 : H3055 x 7 = (dr : Int) := k3114.trans edr
      have h3116 : CEN T H3055 ce8 e8 d8 := (CEN_fr w3032 gce8 f3060 rfl a3039)
      have h3117 : TP T H3055 tc B := (TP_fr w3032 gtc f3060 rfl (TP_fr hW gtc f3033 rfl htc))
      have h3118 : TM T H3055 tm B := (TM_fr w3032 gtm f3060 rfl (TM_fr hW gtm f3033 rfl htm))
      have h3119 : DD T H3055 cu  := (DD_fr w3032 gcu f3060 rfl (DD_fr hW gcu f3033 rfl hcu))
      have h3120 : DD T H3055 dr  := (DD_fr w3032 gdr f3060 rfl (DD_fr hW gdr f3033 rfl hdr))
      have h3121 : DE T H3055 cu  := (DE_fr w3032 gcu f3060 rfl (DE_fr hW gcu f3033 rfl hdec))
      have h3122 : DE T H3055 dr  := (DE_fr w3032 gdr f3060 rfl (DE_fr hW gdr f3033 rfl hded))
      have h3123 : SP T H3055 x C8 := (SP_fr w3032 gx f3060 rfl (SP_fr hW gx f3033 rfl hsp))
      have h3124 : CU T H3055 cu e8 d8 n8 := (CU_fr w3032 gcu f3060 rfl (CU_fr hW gcu f3033 rfl hcu8))
      have h3125 : CY T H3055 cu (d8 0 3) g8 (H cu 17) := (CY_fr w3032 gcu f3060 rfl (CY_fr hW gcu f3033 rfl h3021))
      have k3126 : H3055 x 3 = H x 3 := ((f3060 x 3 _ gx rfl).trans (f3033 x 3 _ gx rfl))
      have q3127 : H3055 x 3 = (ce8 : Int) := k3126.trans ece8
      have h3128 : HDR T H3055 ce8  := (HDR_fr w3032 gce8 f3060 rfl (HDR_fr hW gce8 f3033 rfl hhdr8))
      have h3129 : RY T H3055 m (d8 0 3) g8 (H m 32) := (RY_fr w3032 gm f3060 rfl (RY_fr hW gm f3033 rfl h3022))
      have h3130 : RB T H3055 m e8 d8 := (RB_fr w3032 gm f3060 rfl h3051)
      exact WL.loc hX (by simp) (next T H3055 ⟨⟨w3059, g0, gx, gm, go, by omega, by omega⟩, ⟨_, tc, tm, cu, dr, _, _, _, _, _, ce8, q3109, gtc, h3117, q3111, gtm, h3118, q3113, gcu, q3115, gdr, h3119, h3120, h3121, h3122, h3123, hC1, hC2, h3124, h3130, (h3125).1, (h3129).1, hE, hZ, (by omega), (by assumption), (by omega), (by first | assumption | exact SG_0), q3127, gce8, h3116, h3128, a3072, gm⟩, by omega, by omega⟩ (by omega) (by omega))
  · show WL _ _ _ _ 659 [(4, vI i), (3, .ref o), (2, .ref m), (1, .ref x), (0, .ref 0)] [vI z3034] _ H3028
    refine wl_of hX hb cL_659 (rw_pop (pc' := 660) rfl rfl ?_)
    refine wl_of hX hb cL_660 (rw_aload_n (pc' := 661) (v := .ref m) rfl rfl rfl ?_)
    have k3131 : wKI H3028 m = wKI H m := (wKI_fr hW gm f3033 rfl)
    have k3132 : H3028 x 9 = H x 9 := (f3033 x 9 _ gx rfl)
    have k3133 : H3028 m 6 = H m 6 := (f3033 m 6 _ gm rfl)
    have k3134 : H3028 x 11 = H x 11 := (f3033 x 11 _ gx rfl)
    have k3135 : H3028 m 13 = H m 13 := (f3033 m 13 _ gm rfl)
    have k3136 : H3028 x 8 = H x 8 := (f3033 x 8 _ gx rfl)
    have k3137 : H3028 m 3 = H m 3 := (f3033 m 3 _ gm rfl)
    have h3138 : RB T H3028 m e8 d8 := (RB_fr hW gm f3033 rfl hrb8)
    have h3139 : KNN T H3028 m e8 d8 := (KNN_fr hW gm f3033 rfl hknn8)
    refine wl_of hX hb cL_661 (xc_V (pc' := 664) (r := m) (as := []) (st := []) (lm_11_87) rfl rfl (Nat.le_of_ble_eq_true rfl) w3032 gm sh_42 (by decide) rfl (by decide) (u_244 (e := e8) (d := d8) w3032 gm (by omega) (by assumption) (by assumption) (by assumption) (by assumption) h3138 h3139) (fun R3140 T3141 H3142 p3143 => ?_))
    obtain ⟨e3144, w3146, f3147, z3148, e3145, b3149, p3150⟩ := p3143
    subst e3144
    subst e3145
    rcases p3150 with ⟨a3151, a3152, a3153, a3154⟩ | ⟨a3155, a3156, a3157, a3158, a3159⟩
    · show WL _ _ _ _ 664 [(4, vI i), (3, .ref o), (2, .ref m), (1, .ref x), (0, .ref 0)] [vI z3148] _ H3142
      refine wl_of hX hb cL_664 (rw_pop (pc' := 665) rfl rfl ?_)
      refine wl_of hX hb cL_665 (rw_goto (p1 := 1653) (by decide) ?_)
      have k3160 : H3142 x 9 = H3028 x 9 := (f3147 x 9 _ gx rfl)
      have k3161 : H3142 m 6 = H3028 m 6 := (f3147 m 6 _ gm rfl)
      have k3162 : H3142 x 11 = H3028 x 11 := (f3147 x 11 _ gx rfl)
      have k3163 : H3142 m 13 = H3028 m 13 := (f3147 m 13 _ gm rfl)
      have k3164 : H3142 x 8 = H3028 x 8 := (f3147 x 8 _ gx rfl)
      have k3165 : H3142 m 3 = H3028 m 3 := (f3147 m 3 _ gm rfl)
      have k3166 : H3142 x 0 = H x 0 := ((f3147 x 0 _ gx rfl).trans (f3033 x 0 _ gx rfl))
      have q3167 : H3142 x 0 = (tc : Int) := k3166.trans e0
      have k3168 : H3142 m 5 = H m 5 := ((f3147 m 5 _ gm rfl).trans (f3033 m 5 _ gm rfl))
      have q3169 : H3142 m 5 = (tm : Int) := k3168.trans em
      have k3170 : H3142 x 6 = H x 6 := ((f3147 x 6 _ gx rfl).trans (f3033 x 6 _ gx rfl))
      have q3171 : H3142 x 6 = (cu : Int) := k3170.trans ecu
      have k3172 : H3142 x 7 = H x 7 := ((f3147 x 7 _ gx rfl).trans (f3033 x 7 _ gx rfl))
      have q3173 : H3142 x 7 = (dr : Int) := k3172.trans edr
      have h3174 : CEN T H3142 ce8 e8 d8 := (CEN_fr w3032 gce8 f3147 rfl a3043)
      have h3175 : TP T H3142 tc B := (TP_fr w3032 gtc f3147 rfl (TP_fr hW gtc f3033 rfl htc))
      have h3176 : TM T H3142 tm B := (TM_fr w3032 gtm f3147 rfl (TM_fr hW gtm f3033 rfl htm))
      have h3177 : DD T H3142 cu  := (DD_fr w3032 gcu f3147 rfl (DD_fr hW gcu f3033 rfl hcu))
      have h3178 : DD T H3142 dr  := (DD_fr w3032 gdr f3147 rfl (DD_fr hW gdr f3033 rfl hdr))
      have h3179 : DE T H3142 cu  := (DE_fr w3032 gcu f3147 rfl (DE_fr hW gcu f3033 rfl hdec))
      have h3180 : DE T H3142 dr  := (DE_fr w3032 gdr f3147 rfl (DE_fr hW gdr f3033 rfl hded))
      have h3181 : SP T H3142 x C8 := (SP_fr w3032 gx f3147 rfl (SP_fr hW gx f3033 rfl hsp))
      have h3182 : CU T H3142 cu e8 d8 n8 := (CU_fr w3032 gcu f3147 rfl (CU_fr hW gcu f3033 rfl hcu8))
      have h3183 : CY T H3142 cu (d8 0 3) g8 (H cu 17) := (CY_fr w3032 gcu f3147 rfl (CY_fr hW gcu f3033 rfl h3021))
      have k3184 : H3142 x 3 = H x 3 := ((f3147 x 3 _ gx rfl).trans (f3033 x 3 _ gx rfl))
      have q3185 : H3142 x 3 = (ce8 : Int) := k3184.trans ece8
      have h3186 : HDR T H3142 ce8  := (HDR_fr w3032 gce8 f3147 rfl (HDR_fr hW gce8 f3033 rfl hhdr8))
      have h3187 : RY T H3142 m (d8 0 3) g8 (H m 32) := (RY_fr w3032 gm f3147 rfl (RY_fr hW gm f3033 rfl h3022))
      have h3188 : RB T H3142 m e8 d8 := (RB_fr w3032 gm f3147 rfl h3138)
      exact WL.loc hX (by simp) (next T H3142 ⟨⟨w3146, g0, gx, gm, go, by omega, by omega⟩, ⟨_, tc, tm, cu, dr, _, _, _, _, _, ce8, q3167, gtc, h3175, q3169, gtm, h3176, q3171, gcu, q3173, gdr, h3177, h3178, h3179, h3180, h3181, hC1, hC2, h3182, h3188, (h3183).1, (h3187).1, hE, hZ, (by omega), (by assumption), (by omega), (by first | assumption | exact SG_0), q3185, gce8, h3174, h3186, a3154, gm⟩, by omega, by omega⟩ (by omega) (by omega))
    · show WL _ _ _ _ 664 [(4, vI i), (3, .ref o), (2, .ref m), (1, .ref x), (0, .ref 0)] [vI z3148] _ H3142
      refine wl_of hX hb cL_664 (rw_pop (pc' := 665) rfl rfl ?_)
      refine wl_of hX hb cL_665 (rw_goto (p1 := 1653) (by decide) ?_)
      have k3189 : H3142 x 9 = H3028 x 9 := (f3147 x 9 _ gx rfl)
      have k3190 : H3142 m 6 = H3028 m 6 := (f3147 m 6 _ gm rfl)
      have k3191 : H3142 x 11 = H3028 x 11 := (f3147 x 11 _ gx rfl)
      have k3192 : H3142 m 13 = H3028 m 13 := (f3147 m 13 _ gm rfl)
      have k3193 : H3142 x 8 = H3028 x 8 := (f3147 x 8 _ gx rfl)
      have k3194 : H3142 m 3 = H3028 m 3 := (f3147 m 3 _ gm rfl)
      have k3195 : H3142 x 0 = H x 0 := ((f3147 x 0 _ gx rfl).trans (f3033 x 0 _ gx rfl))
      have q3196 : H3142 x 0 = (tc : Int) := k3195.trans e0
      have k3197 : H3142 m 5 = H m 5 := ((f3147 m 5 _ gm rfl).trans (f3033 m 5 _ gm rfl))
      have q3198 : H3142 m 5 = (tm : Int) := k3197.trans em
      have k3199 : H3142 x 6 = H x 6 := ((f3147 x 6 _ gx rfl).trans (f3033 x 6 _ gx rfl))
      have q3200 : H3142 x 6 = (cu : Int) := k3199.trans ecu
      have k3201 : H3142 x 7 = H x 7 := ((f3147 x 7 _ gx rfl).trans (f3033 x 7 _ gx rfl))
      have q3202 : H3142 x 7 = (dr : Int) := k3201.trans edr
      have h3203 : CEN T H3142 ce8 e8 d8 := (CEN_fr w3032 gce8 f3147 rfl a3043)
      have h3204 : TP T H3142 tc B := (TP_fr w3032 gtc f3147 rfl (TP_fr hW gtc f3033 rfl htc))
      have h3205 : TM T H3142 tm B := (TM_fr w3032 gtm f3147 rfl (TM_fr hW gtm f3033 rfl htm))
      have h3206 : DD T H3142 cu  := (DD_fr w3032 gcu f3147 rfl (DD_fr hW gcu f3033 rfl hcu))
      have h3207 : DD T H3142 dr  := (DD_fr w3032 gdr f3147 rfl (DD_fr hW gdr f3033 rfl hdr))
      have h3208 : DE T H3142 cu  := (DE_fr w3032 gcu f3147 rfl (DE_fr hW gcu f3033 rfl hdec))
      have h3209 : DE T H3142 dr  := (DE_fr w3032 gdr f3147 rfl (DE_fr hW gdr f3033 rfl hded))
      have h3210 : SP T H3142 x C8 := (SP_fr w3032 gx f3147 rfl (SP_fr hW gx f3033 rfl hsp))
      have h3211 : CU T H3142 cu e8 d8 n8 := (CU_fr w3032 gcu f3147 rfl (CU_fr hW gcu f3033 rfl hcu8))
      have h3212 : CY T H3142 cu (d8 0 3) g8 (H cu 17) := (CY_fr w3032 gcu f3147 rfl (CY_fr hW gcu f3033 rfl h3021))
      have k3213 : H3142 x 3 = H x 3 := ((f3147 x 3 _ gx rfl).trans (f3033 x 3 _ gx rfl))
      have q3214 : H3142 x 3 = (ce8 : Int) := k3213.trans ece8
      have h3215 : HDR T H3142 ce8  := (HDR_fr w3032 gce8 f3147 rfl (HDR_fr hW gce8 f3033 rfl hhdr8))
      have h3216 : RY T H3142 m (d8 0 3) g8 (H m 32) := (RY_fr w3032 gm f3147 rfl (RY_fr hW gm f3033 rfl h3022))
      have h3217 : RB T H3142 m e8 d8 := (RB_fr w3032 gm f3147 rfl h3138)
      exact WL.loc hX (by simp) (next T H3142 ⟨⟨w3146, g0, gx, gm, go, by omega, by omega⟩, ⟨_, tc, tm, cu, dr, _, _, _, _, _, ce8, q3196, gtc, h3204, q3198, gtm, h3205, q3200, gcu, q3202, gdr, h3206, h3207, h3208, h3209, h3210, hC1, hC2, h3211, h3217, (h3212).1, (h3216).1, hE, hZ, (by omega), (by assumption), (by omega), (by first | assumption | exact SG_0), q3214, gce8, h3203, h3215, a3159, gm⟩, by omega, by omega⟩ (by omega) (by omega))
