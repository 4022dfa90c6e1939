/-! THE LAW, GONE ON WITH (own work) -/
set_option maxHeartbeats 4000000 in
theorem wl_c36 {kt : Nat → Option mc_E} {CB SB : Nat} {X : mc_S → Prop} {T : wq_T} {H : wq_H} {Len x m o : Nat} {i : Int} (hX : wlX kt CB SB X) (hb : T.2.1 ≤ CB ∧ T.2.2.1 ≤ SB) (hI : wlJ Len x m o T H) (hL : Len ≤ 3072) (hi : 0 ≤ i ∧ i + 6 ≤ Len) (hb2 : T.2.1 + 20 ≤ CB ∧ T.2.2.1 + 500 ≤ SB)  (next : ∀ T' H', wlJ Len x m o T' H' → T'.2.1 ≤ T.2.1 + 20 → T'.2.2.1 ≤ T.2.2.1 + 500 → WL kt CB SB X 1653 (wlL i x m o) [] T' H') : WL kt CB SB X 1316 (wlL i x m o) [] T H := by
  obtain ⟨⟨hW, g0, gx, gm, go, hK, hr⟩, hXI, hY1, hY2⟩ := hI
  refine wl_of hX hb cL_1316 (rw_aload_n (pc' := 1317) (v := .ref x) rfl rfl rfl ?_)
  obtain ⟨B, tc, tm, cu, dr, C8, e8, d8, n8, g8, ce8, e0, gtc, htc, em, gtm, htm, ecu, gcu, edr, gdr, hcu, hdr, hdec, hded, hsp, hC1, hC2, hcu8, hrb8, hcg8, hmn8, hE, hZ, hn8, hXA, hV8, hSG, ece8, gce8, hcen8, hhdr8, hknn8, -⟩ := hXI
  have hN3 := RB_n3 hrb8
  have hE13 : ∀ h : Nat, h < 24 → 0 ≤ e8 13 h ∧ e8 13 h ≤ 100 := fun k hk => by
    obtain ⟨s, h1, h2, h3⟩ := hcu8.1.2.2.1
    exact ⟨(h3 k hk).1, (h3 k hk).2.1⟩
  have hXW := hXA.1
  have hXN := hXA.2
  have hE0 : e8 0 3 = d8 0 3 ∧ e8 0 0 = d8 0 0 := by
    have h := hE 0 (by decide)
    exact ⟨congrFun h 3, congrFun h 0⟩
  have u5438 := CU_k hcu8
  have h5439 : CY T H cu (d8 0 3) g8 (H cu 17) := ⟨hcg8, rfl⟩
  have h5440 : RY T H m (d8 0 3) g8 (H m 32) := ⟨hmn8, rfl⟩
  obtain ⟨t9, ht9⟩ : ∃ t : Int, t = H x 9 := ⟨_, rfl⟩
  obtain ⟨r5441, q5442, g5443⟩ := hW.ref gx (t' := 6) (n := 13) (j := 2) (p := 0) (q := 0) rfl (by decide) rfl
  refine wl_of hX hb cL_1317 (xc_V (pc' := 1320) (r := x) (as := []) (st := []) (lm_11_171) rfl rfl (Nat.le_of_ble_eq_true rfl) hW gx sh_1 (by decide) rfl (by decide) (u_147 (e := e8) (d := d8) (n := n8) hW gx ecu gcu q5442 g5443 ece8 gce8 (by assumption) (by assumption) (by omega) (by omega) (by omega) (by omega) hcu8 hcen8 hhdr8) (fun R5444 T5445 H5446 p5447 => ?_))
  obtain ⟨e5448, w5450, f5451, z5452, e5449, b5453, p5454⟩ := p5447
  subst e5448
  subst e5449
  show WL _ _ _ _ 1320 [(4, vI i), (3, .ref o), (2, .ref m), (1, .ref x), (0, .ref 0)] [vI z5452] _ H5446
  refine wl_of hX hb cL_1320 (rw_pop (pc' := 1321) rfl rfl ?_)
  refine wl_of hX hb cL_1321 (rw_aload_n (pc' := 1322) (v := .ref m) rfl rfl rfl ?_)
  have k5456 : wKI H5446 m = wKI H m := (wKI_fr hW gm f5451 rfl)
  have k5457 : H5446 x 9 = H x 9 := (f5451 x 9 _ gx rfl)
  have k5458 : H5446 m 6 = H m 6 := (f5451 m 6 _ gm rfl)
  have k5459 : H5446 x 11 = H x 11 := (f5451 x 11 _ gx rfl)
  have k5460 : H5446 m 13 = H m 13 := (f5451 m 13 _ gm rfl)
  have k5461 : H5446 x 8 = H x 8 := (f5451 x 8 _ gx rfl)
  have k5462 : H5446 m 3 = H m 3 := (f5451 m 3 _ gm rfl)
  have h5463 : RB T H5446 m e8 d8 := (RB_fr hW gm f5451 rfl hrb8)
  have h5464 : KNN T H5446 m e8 d8 := (KNN_fr hW gm f5451 rfl hknn8)
  refine wl_of hX hb cL_1322 (xc_V (pc' := 1325) (r := m) (as := []) (st := []) (lm_11_174) rfl rfl (Nat.le_of_ble_eq_true rfl) w5450 gm sh_42 (by decide) rfl (by decide) (u_282 (e := e8) (d := d8) w5450 gm (by omega) (by assumption) (by assumption) (by assumption) (by assumption) h5463 h5464) (fun R5465 T5466 H5467 p5468 => ?_))
  obtain ⟨e5469, w5471, f5472, z5473, e5470, b5474, p5475⟩ := p5468
  subst e5469
  subst e5470
  obtain ⟨a5476, a5477⟩ := p5475
  show WL _ _ _ _ 1325 [(4, vI i), (3, .ref o), (2, .ref m), (1, .ref x), (0, .ref 0)] [vI z5473] _ H5467
  refine wl_of hX hb cL_1325 (rw_pop (pc' := 1326) rfl rfl ?_)
  refine wl_of hX hb cL_1326 (rw_goto (p1 := 1653) (by decide) ?_)
  have k5478 : H5467 x 9 = H5446 x 9 := (f5472 x 9 _ gx rfl)
  have k5479 : H5467 m 6 = H5446 m 6 := (f5472 m 6 _ gm rfl)
  have k5480 : H5467 x 11 = H5446 x 11 := (f5472 x 11 _ gx rfl)
  have k5481 : H5467 m 13 = H5446 m 13 := (f5472 m 13 _ gm rfl)
  have k5482 : H5467 x 8 = H5446 x 8 := (f5472 x 8 _ gx rfl)
  have k5483 : H5467 m 3 = H5446 m 3 := (f5472 m 3 _ gm rfl)
  have k5484 : H5467 x 0 = H x 0 := ((f5472 x 0 _ gx rfl).trans (f5451 x 0 _ gx rfl))
  have q5485 : H5467 x 0 = (tc : Int) := k5484.trans e0
  have k5486 : H5467 m 5 = H m 5 := ((f5472 m 5 _ gm rfl).trans (f5451 m 5 _ gm rfl))
  have q5487 : H5467 m 5 = (tm : Int) := k5486.trans em
  have k5488 : H5467 x 6 = H x 6 := ((f5472 x 6 _ gx rfl).trans (f5451 x 6 _ gx rfl))
  have q5489 : H5467 x 6 = (cu : Int) := k5488.trans ecu
  have k5490 : H5467 x 7 = H x 7 := ((f5472 x 7 _ gx rfl).trans (f5451 x 7 _ gx rfl))
  have q5491 : H5467 x 7 = (dr : Int) := k5490.trans edr
  have h5492 : CEN T H5467 ce8 e8 d8 := (CEN_fr w5450 gce8 f5472 rfl p5454)
  have h5493 : TP T H5467 tc B := (TP_fr w5450 gtc f5472 rfl (TP_fr hW gtc f5451 rfl htc))
  have h5494 : TM T H5467 tm B := (TM_fr w5450 gtm f5472 rfl (TM_fr hW gtm f5451 rfl htm))
  have h5495 : DD T H5467 cu  := (DD_fr w5450 gcu f5472 rfl (DD_fr hW gcu f5451 rfl hcu))
  have h5496 : DD T H5467 dr  := (DD_fr w5450 gdr f5472 rfl (DD_fr hW gdr f5451 rfl hdr))
  have h5497 : DE T H5467 cu  := (DE_fr w5450 gcu f5472 rfl (DE_fr hW gcu f5451 rfl hdec))
  have h5498 : DE T H5467 dr  := (DE_fr w5450 gdr f5472 rfl (DE_fr hW gdr f5451 rfl hded))
  have h5499 : SP T H5467 x C8 := (SP_fr w5450 gx f5472 rfl (SP_fr hW gx f5451 rfl hsp))
  have h5500 : CU T H5467 cu e8 d8 n8 := (CU_fr w5450 gcu f5472 rfl (CU_fr hW gcu f5451 rfl hcu8))
  have h5501 : CY T H5467 cu (d8 0 3) g8 (H cu 17) := (CY_fr w5450 gcu f5472 rfl (CY_fr hW gcu f5451 rfl h5439))
  have k5502 : H5467 x 3 = H x 3 := ((f5472 x 3 _ gx rfl).trans (f5451 x 3 _ gx rfl))
  have q5503 : H5467 x 3 = (ce8 : Int) := k5502.trans ece8
  have h5504 : HDR T H5467 ce8  := (HDR_fr w5450 gce8 f5472 rfl (HDR_fr hW gce8 f5451 rfl hhdr8))
  have h5505 : RY T H5467 m (d8 0 3) g8 (H m 32) := (RY_fr w5450 gm f5472 rfl (RY_fr hW gm f5451 rfl h5440))
  have h5506 : RB T H5467 m e8 d8 := (RB_fr w5450 gm f5472 rfl h5463)
  exact WL.loc hX (by simp) (next T H5467 ⟨⟨w5471, g0, gx, gm, go, by omega, by omega⟩, ⟨_, tc, tm, cu, dr, _, _, _, _, _, ce8, q5485, gtc, h5493, q5487, gtm, h5494, q5489, gcu, q5491, gdr, h5495, h5496, h5497, h5498, h5499, hC1, hC2, h5500, h5506, (h5501).1, (h5505).1, hE, hZ, (by omega), (by assumption), (by omega), (by first | assumption | exact SG_0), q5503, gce8, h5492, h5504, a5477, gm⟩, by omega, by omega⟩ (by omega) (by omega))
set_option maxHeartbeats 4000000 in
theorem wl_c37 {kt : Nat → Option mc_E} {CB SB : Nat} {X : mc_S → Prop} {T : wq_T} {H : wq_H} {Len x m o : Nat} {i : Int} (hX : wlX kt CB SB X) (hb : T.2.1 ≤ CB ∧ T.2.2.1 ≤ SB) (hI : wlJ Len x m o T H) (hL : Len ≤ 3072) (hi : 0 ≤ i ∧ i + 6 ≤ Len) (hb2 : T.2.1 + 20 ≤ CB ∧ T.2.2.1 + 500 ≤ SB)  (next : ∀ T' H', wlJ Len x m o T' H' → T'.2.1 ≤ T.2.1 + 20 → T'.2.2.1 ≤ T.2.2.1 + 500 → WL kt CB SB X 1653 (wlL i x m o) [] T' H') : WL kt CB SB X 1329 (wlL i x m o) [] T H := by
  obtain ⟨⟨hW, g0, gx, gm, go, hK, hr⟩, hXI, hY1, hY2⟩ := hI
  refine wl_of hX hb cL_1329 (rw_aload_n (pc' := 1330) (v := .ref x) rfl rfl rfl ?_)
  refine wl_of hX hb cL_1330 (xc_V (pc' := 1333) (r := x) (as := []) (st := []) (lm_11_175) rfl rfl (Nat.le_of_ble_eq_true rfl) hW gx sh_1 (by decide) rfl (by decide) (s_149 hW gx) (fun R5507 T5508 H5509 p5510 => ?_))
  obtain ⟨e5511, w5513, f5514, z5515, e5512, b5516⟩ := p5510
  subst e5511
  subst e5512
  show WL _ _ _ _ 1333 [(4, vI i), (3, .ref o), (2, .ref m), (1, .ref x), (0, .ref 0)] [vI z5515] _ H5509
  refine wl_of hX hb cL_1333 (rw_pop (pc' := 1334) rfl rfl ?_)
  refine wl_of hX hb cL_1334 (rw_aload_n (pc' := 1335) (v := .ref m) rfl rfl rfl ?_)
  have k5517 : wKI H5509 m = wKI H m := (wKI_fr hW gm f5514 rfl)
  have k5518 : H5509 x 9 = H x 9 := (f5514 x 9 _ gx rfl)
  have k5519 : H5509 m 6 = H m 6 := (f5514 m 6 _ gm rfl)
  have k5520 : H5509 x 11 = H x 11 := (f5514 x 11 _ gx rfl)
  have k5521 : H5509 m 13 = H m 13 := (f5514 m 13 _ gm rfl)
  have k5522 : H5509 x 8 = H x 8 := (f5514 x 8 _ gx rfl)
  have k5523 : H5509 m 3 = H m 3 := (f5514 m 3 _ gm rfl)
  refine wl_of hX hb cL_1335 (xc_V (pc' := 1338) (r := m) (as := []) (st := []) (lm_11_178) rfl rfl (Nat.le_of_ble_eq_true rfl) w5513 gm sh_42 (by decide) rfl (by decide) (s_283 w5513 gm (by omega)) (fun R5524 T5525 H5526 p5527 => ?_))
  obtain ⟨e5528, w5530, f5531, z5533, e5529, b5534, p5532⟩ := p5527
  subst e5528
  subst e5529
  show WL _ _ _ _ 1338 [(4, vI i), (3, .ref o), (2, .ref m), (1, .ref x), (0, .ref 0)] [vI z5533] _ H5526
  refine wl_of hX hb cL_1338 (rw_pop (pc' := 1339) rfl rfl ?_)
  refine wl_of hX hb cL_1339 (rw_goto (p1 := 1653) (by decide) ?_)
  have k5535 : H5526 x 9 = H5509 x 9 := (f5531 x 9 _ gx rfl)
  have k5536 : H5526 m 6 = H5509 m 6 := (f5531 m 6 _ gm rfl)
  have k5537 : H5526 x 11 = H5509 x 11 := (f5531 x 11 _ gx rfl)
  have k5538 : H5526 m 13 = H5509 m 13 := (f5531 m 13 _ gm rfl)
  have k5539 : H5526 x 8 = H5509 x 8 := (f5531 x 8 _ gx rfl)
  have k5540 : H5526 m 3 = H5509 m 3 := (f5531 m 3 _ gm rfl)
  have h5541 : XI T H5526 x m := (XI_fr w5513 gx f5531 rfl (XI_fr hW gx f5514 rfl hXI))
  exact WL.loc hX (by simp) (next T H5526 ⟨⟨w5530, g0, gx, gm, go, by omega, by omega⟩, h5541, by omega, by omega⟩ (by omega) (by omega))
set_option maxHeartbeats 4000000 in
theorem wl_c38 {kt : Nat → Option mc_E} {CB SB : Nat} {X : mc_S → Prop} {T : wq_T} {H : wq_H} {Len x m o : Nat} {i : Int} (hX : wlX kt CB SB X) (hb : T.2.1 ≤ CB ∧ T.2.2.1 ≤ SB) (hI : wlJ Len x m o T H) (hL : Len ≤ 3072) (hi : 0 ≤ i ∧ i + 6 ≤ Len) (hb2 : T.2.1 + 20 ≤ CB ∧ T.2.2.1 + 500 ≤ SB)  (next : ∀ T' H', wlJ Len x m o T' H' → T'.2.1 ≤ T.2.1 + 20 → T'.2.2.1 ≤ T.2.2.1 + 500 → WL kt CB SB X 1653 (wlL i x m o) [] T' H') : WL kt CB SB X 1342 (wlL i x m o) [] T H := by
  obtain ⟨⟨hW, g0, gx, gm, go, hK, hr⟩, hXI, hY1, hY2⟩ := hI
  refine wl_of hX hb cL_1342 (rw_aload_n (pc' := 1343) (v := .ref x) rfl rfl rfl ?_)
  refine wl_of hX hb cL_1343 (rw_aload_n (pc' := 1344) (v := .ref 0) rfl rfl rfl ?_)
  refine wl_of hX hb cL_1344 (rw_iload (pc' := 1346) (z := i) rfl rfl ?_)
  refine wl_of hX hb cL_1346 (rw_iconst (pc' := 1347) rfl ?_)
  refine wl_of hX hb cL_1347 (rw_iadd (pc' := 1348) rfl ?_)
  refine wl_of hX hb cL_1348 (xa_I (so := 0) (pc' := 1349) (a := 0) hW g0 (wsh_s _) (by omega) (wty_s _ _) (by omega) (by omega) rfl (fun b5542 b5543 => ?_))
  refine wl_of hX hb cL_1349 (xc_V (pc' := 1352) (r := x) (as := [vI (H 0 ((i + 1).toNat))]) (st := []) (lm_11_179) rfl rfl (Nat.le_of_ble_eq_true rfl) hW gx sh_1 (by decide) rfl (by decide) (s_152 hW gx ⟨by omega, by omega⟩) (fun R5544 T5545 H5546 p5547 => ?_))
  obtain ⟨e5548, w5550, f5551, z5552, e5549, b5553⟩ := p5547
  subst e5548
  subst e5549
  show WL _ _ _ _ 1352 [(4, vI i), (3, .ref o), (2, .ref m), (1, .ref x), (0, .ref 0)] [vI z5552] _ H5546
  refine wl_of hX hb cL_1352 (rw_pop (pc' := 1353) rfl rfl ?_)
  refine wl_of hX hb cL_1353 (rw_aload_n (pc' := 1354) (v := .ref m) rfl rfl rfl ?_)
  refine wl_of hX hb cL_1354 (rw_aload_n (pc' := 1355) (v := .ref 0) rfl rfl rfl ?_)
  refine wl_of hX hb cL_1355 (rw_iload (pc' := 1357) (z := i) rfl rfl ?_)
  refine wl_of hX hb cL_1357 (rw_iconst (pc' := 1358) rfl ?_)
  refine wl_of hX hb cL_1358 (rw_iadd (pc' := 1359) rfl ?_)
  have k5556 : H5546 0 ((i + 1).toNat) = H 0 ((i + 1).toNat) := (f5551 0 ((i + 1).toNat) _ g0 (wmem_s rfl))
  refine wl_of hX hb cL_1359 (xa_I (so := 0) (pc' := 1360) (a := 0) w5550 g0 (wsh_s _) (by omega) (wty_s _ _) (by omega) (by omega) rfl (fun b5554 b5555 => ?_))
  have k5557 : wKI H5546 m = wKI H m := (wKI_fr hW gm f5551 rfl)
  have k5558 : H5546 x 9 = H x 9 := (f5551 x 9 _ gx rfl)
  have k5559 : H5546 m 6 = H m 6 := (f5551 m 6 _ gm rfl)
  have k5560 : H5546 x 11 = H x 11 := (f5551 x 11 _ gx rfl)
  have k5561 : H5546 m 13 = H m 13 := (f5551 m 13 _ gm rfl)
  have k5562 : H5546 x 8 = H x 8 := (f5551 x 8 _ gx rfl)
  have k5563 : H5546 m 3 = H m 3 := (f5551 m 3 _ gm rfl)
  refine wl_of hX hb cL_1360 (xc_V (pc' := 1363) (r := m) (as := [vI (H5546 0 ((i + 1).toNat))]) (st := []) (lm_11_182) rfl rfl (Nat.le_of_ble_eq_true rfl) w5550 gm sh_42 (by decide) rfl (by decide) (s_284 w5550 gm ⟨by omega, by omega⟩ (by omega)) (fun R5564 T5565 H5566 p5567 => ?_))
  obtain ⟨e5568, w5570, f5571, z5573, e5569, b5574, p5572⟩ := p5567
  subst e5568
  subst e5569
  show WL _ _ _ _ 1363 [(4, vI i), (3, .ref o), (2, .ref m), (1, .ref x), (0, .ref 0)] [vI z5573] _ H5566
  refine wl_of hX hb cL_1363 (rw_pop (pc' := 1364) rfl rfl ?_)
  refine wl_of hX hb cL_1364 (rw_goto (p1 := 1653) (by decide) ?_)
  have k5575 : H5566 x 9 = H5546 x 9 := (f5571 x 9 _ gx rfl)
  have k5576 : H5566 m 6 = H5546 m 6 := (f5571 m 6 _ gm rfl)
  have k5577 : H5566 x 11 = H5546 x 11 := (f5571 x 11 _ gx rfl)
  have k5578 : H5566 m 13 = H5546 m 13 := (f5571 m 13 _ gm rfl)
  have k5579 : H5566 x 8 = H5546 x 8 := (f5571 x 8 _ gx rfl)
  have k5580 : H5566 m 3 = H5546 m 3 := (f5571 m 3 _ gm rfl)
  have h5581 : XI T H5566 x m := (XI_fr w5550 gx f5571 rfl (XI_fr hW gx f5551 rfl hXI))
  exact WL.loc hX (by simp) (next T H5566 ⟨⟨w5570, g0, gx, gm, go, by omega, by omega⟩, h5581, by omega, by omega⟩ (by omega) (by omega))
set_option maxHeartbeats 4000000 in
theorem wl_c39 {kt : Nat → Option mc_E} {CB SB : Nat} {X : mc_S → Prop} {T : wq_T} {H : wq_H} {Len x m o : Nat} {i : Int} (hX : wlX kt CB SB X) (hb : T.2.1 ≤ CB ∧ T.2.2.1 ≤ SB) (hI : wlJ Len x m o T H) (hL : Len ≤ 3072) (hi : 0 ≤ i ∧ i + 6 ≤ Len) (hb2 : T.2.1 + 20 ≤ CB ∧ T.2.2.1 + 500 ≤ SB)  (next : ∀ T' H', wlJ Len x m o T' H' → T'.2.1 ≤ T.2.1 + 20 → T'.2.2.1 ≤ T.2.2.1 + 500 → WL kt CB SB X 1653 (wlL i x m o) [] T' H') : WL kt CB SB X 1367 (wlL i x m o) [] T H := by
  obtain ⟨⟨hW, g0, gx, gm, go, hK, hr⟩, hXI, hY1, hY2⟩ := hI
  refine wl_of hX hb cL_1367 (rw_aload_n (pc' := 1368) (v := .ref x) rfl rfl rfl ?_)
  refine wl_of hX hb cL_1368 (rw_aload_n (pc' := 1369) (v := .ref 0) rfl rfl rfl ?_)
  refine wl_of hX hb cL_1369 (rw_iload (pc' := 1371) (z := i) rfl rfl ?_)
  refine wl_of hX hb cL_1371 (rw_iconst (pc' := 1372) rfl ?_)
  refine wl_of hX hb cL_1372 (rw_iadd (pc' := 1373) rfl ?_)
  refine wl_of hX hb cL_1373 (xa_I (so := 0) (pc' := 1374) (a := 0) hW g0 (wsh_s _) (by omega) (wty_s _ _) (by omega) (by omega) rfl (fun b5582 b5583 => ?_))
  refine wl_of hX hb cL_1374 (rw_aload_n (pc' := 1375) (v := .ref 0) rfl rfl rfl ?_)
  refine wl_of hX hb cL_1375 (rw_iload (pc' := 1377) (z := i) rfl rfl ?_)
  refine wl_of hX hb cL_1377 (rw_iconst (pc' := 1378) rfl ?_)
  refine wl_of hX hb cL_1378 (rw_iadd (pc' := 1379) rfl ?_)
  refine wl_of hX hb cL_1379 (xa_I (so := 0) (pc' := 1380) (a := 0) hW g0 (wsh_s _) (by omega) (wty_s _ _) (by omega) (by omega) rfl (fun b5584 b5585 => ?_))
  obtain ⟨B, tc, tm, cu, dr, C8, e8, d8, n8, g8, ce8, e0, gtc, htc, em, gtm, htm, ecu, gcu, edr, gdr, hcu, hdr, hdec, hded, hsp, hC1, hC2, hcu8, hrb8, hcg8, hmn8, hE, hZ, hn8, hXA, hV8, hSG, ece8, gce8, hcen8, hhdr8, hknn8, -⟩ := hXI
  have hN3 := RB_n3 hrb8
  have hE13 : ∀ h : Nat, h < 24 → 0 ≤ e8 13 h ∧ e8 13 h ≤ 100 := fun k hk => by
    obtain ⟨s, h1, h2, h3⟩ := hcu8.1.2.2.1
    exact ⟨(h3 k hk).1, (h3 k hk).2.1⟩
  have hXW := hXA.1
  have hXN := hXA.2
  have hE0 : e8 0 3 = d8 0 3 ∧ e8 0 0 = d8 0 0 := by
    have h := hE 0 (by decide)
    exact ⟨congrFun h 3, congrFun h 0⟩
  have u5586 := CU_k hcu8
  have h5587 : CY T H cu (d8 0 3) g8 (H cu 17) := ⟨hcg8, rfl⟩
  have h5588 : RY T H m (d8 0 3) g8 (H m 32) := ⟨hmn8, rfl⟩
  obtain ⟨t9, ht9⟩ : ∃ t : Int, t = H x 9 := ⟨_, rfl⟩
  obtain ⟨y9, hy9⟩ : ∃ y : Int, y = H 0 ((i + 2).toNat) := ⟨_, rfl⟩
  refine wl_of hX hb cL_1380 (xc_V (pc' := 1383) (r := x) (as := [vI (H 0 ((i + 1).toNat)), vI (H 0 ((i + 2).toNat))]) (st := []) (lm_11_183) rfl rfl (Nat.le_of_ble_eq_true rfl) hW gx sh_1 (by decide) rfl (by decide) (u_153 (e := e8) (d := d8) (n := n8) (y := ((H 0 ((i + 1).toNat)))) (w := (((H 0 ((i + 2).toNat)) + 1))) hW gx ⟨by omega, by omega⟩ ⟨by omega, by omega⟩ ecu gcu ece8 gce8 (by omega) (by omega) (by omega) (by omega) hcu8 hcen8) (fun R5589 T5590 H5591 p5592 => ?_))
  obtain ⟨e5593, w5595, f5596, z5597, e5594, b5598, p5599⟩ := p5592
  subst e5593
  subst e5594
  rcases p5599 with ⟨a5600, a5601, a5602, a5603⟩ | ⟨a5604, a5605, a5606, a5607, a5608⟩
  · show WL _ _ _ _ 1383 [(4, vI i), (3, .ref o), (2, .ref m), (1, .ref x), (0, .ref 0)] [vI z5597] _ H5591
    have u5609 := CU_k a5602
    refine wl_of hX hb cL_1383 (rw_pop (pc' := 1384) rfl rfl ?_)
    refine wl_of hX hb cL_1384 (rw_aload_n (pc' := 1385) (v := .ref m) rfl rfl rfl ?_)
    refine wl_of hX hb cL_1385 (rw_aload_n (pc' := 1386) (v := .ref 0) rfl rfl rfl ?_)
    refine wl_of hX hb cL_1386 (rw_iload (pc' := 1388) (z := i) rfl rfl ?_)
    refine wl_of hX hb cL_1388 (rw_iconst (pc' := 1389) rfl ?_)
    refine wl_of hX hb cL_1389 (rw_iadd (pc' := 1390) rfl ?_)
    have k5612 : H5591 0 ((i + 1).toNat) = H 0 ((i + 1).toNat) := (f5596 0 ((i + 1).toNat) _ g0 (wmem_s rfl))
    refine wl_of hX hb cL_1390 (xa_I (so := 0) (pc' := 1391) (a := 0) w5595 g0 (wsh_s _) (by omega) (wty_s _ _) (by omega) (by omega) rfl (fun b5610 b5611 => ?_))
    refine wl_of hX hb cL_1391 (rw_aload_n (pc' := 1392) (v := .ref 0) rfl rfl rfl ?_)
    refine wl_of hX hb cL_1392 (rw_iload (pc' := 1394) (z := i) rfl rfl ?_)
    refine wl_of hX hb cL_1394 (rw_iconst (pc' := 1395) rfl ?_)
    refine wl_of hX hb cL_1395 (rw_iadd (pc' := 1396) rfl ?_)
    have k5615 : H5591 0 ((i + 2).toNat) = H 0 ((i + 2).toNat) := (f5596 0 ((i + 2).toNat) _ g0 (wmem_s rfl))
    refine wl_of hX hb cL_1396 (xa_I (so := 0) (pc' := 1397) (a := 0) w5595 g0 (wsh_s _) (by omega) (wty_s _ _) (by omega) (by omega) rfl (fun b5613 b5614 => ?_))
    have k5616 : wKI H5591 m = wKI H m := (wKI_fr hW gm f5596 rfl)
    have k5617 : H5591 x 9 = H x 9 := (f5596 x 9 _ gx rfl)
    have k5618 : H5591 m 6 = H m 6 := (f5596 m 6 _ gm rfl)
    have k5619 : H5591 x 11 = H x 11 := (f5596 x 11 _ gx rfl)
    have k5620 : H5591 m 13 = H m 13 := (f5596 m 13 _ gm rfl)
    have k5621 : H5591 x 8 = H x 8 := (f5596 x 8 _ gx rfl)
    have k5622 : H5591 m 3 = H m 3 := (f5596 m 3 _ gm rfl)
    rw [show H5591 0 ((i + 2).toNat) = H 0 ((i + 2).toNat) by omega]
    rw [show H5591 0 ((i + 1).toNat) = H 0 ((i + 1).toNat) by omega]
    have h5623 : RB T H5591 m e8 d8 := (RB_fr hW gm f5596 rfl hrb8)
    have h5624 : KNN T H5591 m e8 d8 := (KNN_fr hW gm f5596 rfl hknn8)
    refine wl_of hX hb cL_1397 (xc_V (pc' := 1400) (r := m) (as := [vI (H 0 ((i + 1).toNat)), vI (H 0 ((i + 2).toNat))]) (st := []) (lm_11_186) rfl rfl (Nat.le_of_ble_eq_true rfl) w5595 gm sh_42 (by decide) rfl (by decide) (u_285 (e := e8) (d := d8) (y := ((H 0 ((i + 1).toNat)))) (w := (((H 0 ((i + 2).toNat)) + 1))) w5595 gm ⟨by omega, by omega⟩ ⟨by omega, by omega⟩ (by omega) (by omega) (by omega) h5623 h5624) (fun R5625 T5626 H5627 p5628 => ?_))
    obtain ⟨e5629, w5631, f5632, z5633, e5630, b5634, p5635⟩ := p5628
    subst e5629
    subst e5630
    rcases p5635 with ⟨a5636, a5637, a5638, a5639, a5640⟩ | ⟨a5641, a5642, a5643, a5644, a5645⟩
    · show WL _ _ _ _ 1400 [(4, vI i), (3, .ref o), (2, .ref m), (1, .ref x), (0, .ref 0)] [vI z5633] _ H5627
      refine wl_of hX hb cL_1400 (rw_pop (pc' := 1401) rfl rfl ?_)
      refine wl_of hX hb cL_1401 (rw_goto (p1 := 1653) (by decide) ?_)
      have k5646 : H5627 x 9 = H5591 x 9 := (f5632 x 9 _ gx rfl)
      have k5647 : H5627 m 6 = H5591 m 6 := (f5632 m 6 _ gm rfl)
      have k5648 : H5627 x 11 = H5591 x 11 := (f5632 x 11 _ gx rfl)
      have k5649 : H5627 m 13 = H5591 m 13 := (f5632 m 13 _ gm rfl)
      have k5650 : H5627 x 8 = H5591 x 8 := (f5632 x 8 _ gx rfl)
      have k5651 : H5627 m 3 = H5591 m 3 := (f5632 m 3 _ gm rfl)
      have k5652 : H5627 x 0 = H x 0 := ((f5632 x 0 _ gx rfl).trans (f5596 x 0 _ gx rfl))
      have q5653 : H5627 x 0 = (tc : Int) := k5652.trans e0
      have k5654 : H5627 m 5 = H m 5 := ((f5632 m 5 _ gm rfl).trans (f5596 m 5 _ gm rfl))
      have q5655 : H5627 m 5 = (tm : Int) := k5654.trans em
      have k5656 : H5627 x 6 = H x 6 := ((f5632 x 6 _ gx rfl).trans (f5596 x 6 _ gx rfl))
      have q5657 : H5627 x 6 = (cu : Int) := k5656.trans ecu
      have k5658 : H5627 x 7 = H x 7 := ((f5632 x 7 _ gx rfl).trans (f5596 x 7 _ gx rfl))
      have q5659 : H5627 x 7 = (dr : Int) := k5658.trans edr
      have h5660 : CEN T H5627 ce8 e8 d8 := (CEN_fr w5595 gce8 f5632 rfl a5603)
      have h5661 : TP T H5627 tc B := (TP_fr w5595 gtc f5632 rfl (TP_fr hW gtc f5596 rfl htc))
      have h5662 : TM T H5627 tm B := (TM_fr w5595 gtm f5632 rfl (TM_fr hW gtm f5596 rfl htm))
      have h5663 : DD T H5627 cu  := (DD_fr w5595 gcu f5632 rfl (DD_fr hW gcu f5596 rfl hcu))
      have h5664 : DD T H5627 dr  := (DD_fr w5595 gdr f5632 rfl (DD_fr hW gdr f5596 rfl hdr))
      have h5665 : DE T H5627 cu  := (DE_fr w5595 gcu f5632 rfl (DE_fr hW gcu f5596 rfl hdec))
      have h5666 : DE T H5627 dr  := (DE_fr w5595 gdr f5632 rfl (DE_fr hW gdr f5596 rfl hded))
      have h5667 : SP T H5627 x C8 := (SP_fr w5595 gx f5632 rfl (SP_fr hW gx f5596 rfl hsp))
      have h5668 : CU T H5627 cu e8 d8 n8 := (CU_fr w5595 gcu f5632 rfl a5602)
      have h5669 : CY T H5627 cu (d8 0 3) g8 (H cu 17) := (CY_fr w5595 gcu f5632 rfl (CY_fr hW gcu f5596 rfl h5587))
      have k5670 : H5627 x 3 = H x 3 := ((f5632 x 3 _ gx rfl).trans (f5596 x 3 _ gx rfl))
      have q5671 : H5627 x 3 = (ce8 : Int) := k5670.trans ece8
      have h5672 : HDR T H5627 ce8  := (HDR_fr w5595 gce8 f5632 rfl (HDR_fr hW gce8 f5596 rfl hhdr8))
      have h5673 : RY T H5627 m (d8 0 3) g8 (H m 32) := (RY_fr w5595 gm f5632 rfl (RY_fr hW gm f5596 rfl h5588))
      exact WL.loc hX (by simp) (next T H5627 ⟨⟨w5631, g0, gx, gm, go, by omega, by omega⟩, ⟨_, tc, tm, cu, dr, _, _, _, _, _, ce8, q5653, gtc, h5661, q5655, gtm, h5662, q5657, gcu, q5659, gdr, h5663, h5664, h5665, h5666, h5667, hC1, hC2, h5668, a5639, (h5669).1, (h5673).1, hE, hZ, (by omega), (by assumption), (by omega), (by first | assumption | exact SG_0), q5671, gce8, h5660, h5672, a5640, gm⟩, by omega, by omega⟩ (by omega) (by omega))
    · show WL _ _ _ _ 1400 [(4, vI i), (3, .ref o), (2, .ref m), (1, .ref x), (0, .ref 0)] [vI z5633] _ H5627
      refine wl_of hX hb cL_1400 (rw_pop (pc' := 1401) rfl rfl ?_)
      refine wl_of hX hb cL_1401 (rw_goto (p1 := 1653) (by decide) ?_)
      have k5674 : H5627 x 9 = H5591 x 9 := (f5632 x 9 _ gx rfl)
      have k5675 : H5627 m 6 = H5591 m 6 := (f5632 m 6 _ gm rfl)
      have k5676 : H5627 x 11 = H5591 x 11 := (f5632 x 11 _ gx rfl)
      have k5677 : H5627 m 13 = H5591 m 13 := (f5632 m 13 _ gm rfl)
      have k5678 : H5627 x 8 = H5591 x 8 := (f5632 x 8 _ gx rfl)
      have k5679 : H5627 m 3 = H5591 m 3 := (f5632 m 3 _ gm rfl)
      have k5680 : H5627 x 0 = H x 0 := ((f5632 x 0 _ gx rfl).trans (f5596 x 0 _ gx rfl))
      have q5681 : H5627 x 0 = (tc : Int) := k5680.trans e0
      have k5682 : H5627 m 5 = H m 5 := ((f5632 m 5 _ gm rfl).trans (f5596 m 5 _ gm rfl))
      have q5683 : H5627 m 5 = (tm : Int) := k5682.trans em
      have k5684 : H5627 x 6 = H x 6 := ((f5632 x 6 _ gx rfl).trans (f5596 x 6 _ gx rfl))
      have q5685 : H5627 x 6 = (cu : Int) := k5684.trans ecu
      have k5686 : H5627 x 7 = H x 7 := ((f5632 x 7 _ gx rfl).trans (f5596 x 7 _ gx rfl))
      have q5687 : H5627 x 7 = (dr : Int) := k5686.trans edr
      have h5688 : CEN T H5627 ce8 e8 d8 := (CEN_fr w5595 gce8 f5632 rfl a5603)
      have h5689 : TP T H5627 tc B := (TP_fr w5595 gtc f5632 rfl (TP_fr hW gtc f5596 rfl htc))
      have h5690 : TM T H5627 tm B := (TM_fr w5595 gtm f5632 rfl (TM_fr hW gtm f5596 rfl htm))
      have h5691 : DD T H5627 cu  := (DD_fr w5595 gcu f5632 rfl (DD_fr hW gcu f5596 rfl hcu))
      have h5692 : DD T H5627 dr  := (DD_fr w5595 gdr f5632 rfl (DD_fr hW gdr f5596 rfl hdr))
      have h5693 : DE T H5627 cu  := (DE_fr w5595 gcu f5632 rfl (DE_fr hW gcu f5596 rfl hdec))
      have h5694 : DE T H5627 dr  := (DE_fr w5595 gdr f5632 rfl (DE_fr hW gdr f5596 rfl hded))
      have h5695 : SP T H5627 x C8 := (SP_fr w5595 gx f5632 rfl (SP_fr hW gx f5596 rfl hsp))
      have h5696 : CU T H5627 cu e8 d8 n8 := (CU_fr w5595 gcu f5632 rfl a5602)
      have h5697 : CY T H5627 cu (d8 0 3) g8 (H cu 17) := (CY_fr w5595 gcu f5632 rfl (CY_fr hW gcu f5596 rfl h5587))
      have k5698 : H5627 x 3 = H x 3 := ((f5632 x 3 _ gx rfl).trans (f5596 x 3 _ gx rfl))
      have q5699 : H5627 x 3 = (ce8 : Int) := k5698.trans ece8
      have h5700 : HDR T H5627 ce8  := (HDR_fr w5595 gce8 f5632 rfl (HDR_fr hW gce8 f5596 rfl hhdr8))
      exfalso
      omega
  · show WL _ _ _ _ 1383 [(4, vI i), (3, .ref o), (2, .ref m), (1, .ref x), (0, .ref 0)] [vI z5597] _ H5591
    have u5701 := CU_k a5608
    refine wl_of hX hb cL_1383 (rw_pop (pc' := 1384) rfl rfl ?_)
    refine wl_of hX hb cL_1384 (rw_aload_n (pc' := 1385) (v := .ref m) rfl rfl rfl ?_)
    refine wl_of hX hb cL_1385 (rw_aload_n (pc' := 1386) (v := .ref 0) rfl rfl rfl ?_)
    refine wl_of hX hb cL_1386 (rw_iload (pc' := 1388) (z := i) rfl rfl ?_)
    refine wl_of hX hb cL_1388 (rw_iconst (pc' := 1389) rfl ?_)
    refine wl_of hX hb cL_1389 (rw_iadd (pc' := 1390) rfl ?_)
    have k5704 : H5591 0 ((i + 1).toNat) = H 0 ((i + 1).toNat) := (f5596 0 ((i + 1).toNat) _ g0 (wmem_s rfl))
    refine wl_of hX hb cL_1390 (xa_I (so := 0) (pc' := 1391) (a := 0) w5595 g0 (wsh_s _) (by omega) (wty_s _ _) (by omega) (by omega) rfl (fun b5702 b5703 => ?_))
    refine wl_of hX hb cL_1391 (rw_aload_n (pc' := 1392) (v := .ref 0) rfl rfl rfl ?_)
    refine wl_of hX hb cL_1392 (rw_iload (pc' := 1394) (z := i) rfl rfl ?_)
    refine wl_of hX hb cL_1394 (rw_iconst (pc' := 1395) rfl ?_)
    refine wl_of hX hb cL_1395 (rw_iadd (pc' := 1396) rfl ?_)
    have k5707 : H5591 0 ((i + 2).toNat) = H 0 ((i + 2).toNat) := (f5596 0 ((i + 2).toNat) _ g0 (wmem_s rfl))
    refine wl_of hX hb cL_1396 (xa_I (so := 0) (pc' := 1397) (a := 0) w5595 g0 (wsh_s _) (by omega) (wty_s _ _) (by omega) (by omega) rfl (fun b5705 b5706 => ?_))
    have k5708 : wKI H5591 m = wKI H m := (wKI_fr hW gm f5596 rfl)
    have k5709 : H5591 x 9 = H x 9 := (f5596 x 9 _ gx rfl)
    have k5710 : H5591 m 6 = H m 6 := (f5596 m 6 _ gm rfl)
    have k5711 : H5591 x 11 = H x 11 := (f5596 x 11 _ gx rfl)
    have k5712 : H5591 m 13 = H m 13 := (f5596 m 13 _ gm rfl)
    have k5713 : H5591 x 8 = H x 8 := (f5596 x 8 _ gx rfl)
    have k5714 : H5591 m 3 = H m 3 := (f5596 m 3 _ gm rfl)
    rw [show H5591 0 ((i + 2).toNat) = H 0 ((i + 2).toNat) by omega]
    rw [show H5591 0 ((i + 1).toNat) = H 0 ((i + 1).toNat) by omega]
    have h5715 : RB T H5591 m e8 d8 := (RB_fr hW gm f5596 rfl hrb8)
    have h5716 : KNN T H5591 m e8 d8 := (KNN_fr hW gm f5596 rfl hknn8)
    refine wl_of hX hb cL_1397 (xc_V (pc' := 1400) (r := m) (as := [vI (H 0 ((i + 1).toNat)), vI (H 0 ((i + 2).toNat))]) (st := []) (lm_11_186) rfl rfl (Nat.le_of_ble_eq_true rfl) w5595 gm sh_42 (by decide) rfl (by decide) (u_285 (e := e8) (d := d8) (y := ((H 0 ((i + 1).toNat)))) (w := (((H 0 ((i + 2).toNat)) + 1))) w5595 gm ⟨by omega, by omega⟩ ⟨by omega, by omega⟩ (by omega) (by omega) (by omega) h5715 h5716) (fun R5717 T5718 H5719 p5720 => ?_))
    obtain ⟨e5721, w5723, f5724, z5725, e5722, b5726, p5727⟩ := p5720
    subst e5721
    subst e5722
    rcases p5727 with ⟨a5728, a5729, a5730, a5731, a5732⟩ | ⟨a5733, a5734, a5735, a5736, a5737⟩
    · show WL _ _ _ _ 1400 [(4, vI i), (3, .ref o), (2, .ref m), (1, .ref x), (0, .ref 0)] [vI z5725] _ H5719
      refine wl_of hX hb cL_1400 (rw_pop (pc' := 1401) rfl rfl ?_)
      refine wl_of hX hb cL_1401 (rw_goto (p1 := 1653) (by decide) ?_)
      have k5738 : H5719 x 9 = H5591 x 9 := (f5724 x 9 _ gx rfl)
      have k5739 : H5719 m 6 = H5591 m 6 := (f5724 m 6 _ gm rfl)
      have k5740 : H5719 x 11 = H5591 x 11 := (f5724 x 11 _ gx rfl)
      have k5741 : H5719 m 13 = H5591 m 13 := (f5724 m 13 _ gm rfl)
      have k5742 : H5719 x 8 = H5591 x 8 := (f5724 x 8 _ gx rfl)
      have k5743 : H5719 m 3 = H5591 m 3 := (f5724 m 3 _ gm rfl)
      have k5744 : H5719 x 0 = H x 0 := ((f5724 x 0 _ gx rfl).trans (f5596 x 0 _ gx rfl))
      have q5745 : H5719 x 0 = (tc : Int) := k5744.trans e0
      have k5746 : H5719 m 5 = H m 5 := ((f5724 m 5 _ gm rfl).trans (f5596 m 5 _ gm rfl))
      have q5747 : H5719 m 5 = (tm : Int) := k5746.trans em
      have k5748 : H5719 x 6 = H x 6 := ((f5724 x 6 _ gx rfl).trans (f5596 x 6 _ gx rfl))
      have q5749 : H5719 x 6 = (cu : Int) := k5748.trans ecu
      have k5750 : H5719 x 7 = H x 7 := ((f5724 x 7 _ gx rfl).trans (f5596 x 7 _ gx rfl))
      have q5751 : H5719 x 7 = (dr : Int) := k5750.trans edr
      have k5752 : H5719 ce8 9 = H5591 ce8 9 := (f5724 ce8 9 _ gce8 rfl)
      have h5753 : TP T H5719 tc B := (TP_fr w5595 gtc f5724 rfl (TP_fr hW gtc f5596 rfl htc))
      have h5754 : TM T H5719 tm B := (TM_fr w5595 gtm f5724 rfl (TM_fr hW gtm f5596 rfl htm))
      have h5755 : DD T H5719 cu  := (DD_fr w5595 gcu f5724 rfl (DD_fr hW gcu f5596 rfl hcu))
      have h5756 : DD T H5719 dr  := (DD_fr w5595 gdr f5724 rfl (DD_fr hW gdr f5596 rfl hdr))
      have h5757 : DE T H5719 cu  := (DE_fr w5595 gcu f5724 rfl (DE_fr hW gcu f5596 rfl hdec))
      have h5758 : DE T H5719 dr  := (DE_fr w5595 gdr f5724 rfl (DE_fr hW gdr f5596 rfl hded))
      have h5759 : SP T H5719 x C8 := (SP_fr w5595 gx f5724 rfl (SP_fr hW gx f5596 rfl hsp))
      have h5760 : CU T H5719 cu (wq_u e8 13 (((H 0 ((i + 1).toNat)))).toNat (((H 0 ((i + 2).toNat)) + 1))) d8 n8 := (CU_fr w5595 gcu f5724 rfl a5608)
      have h5761 : CY T H5719 cu (d8 0 3) g8 (H cu 17) := (CY_fr w5595 gcu f5724 rfl (CY_fr hW gcu f5596 rfl h5587))
      have k5762 : H5719 x 3 = H x 3 := ((f5724 x 3 _ gx rfl).trans (f5596 x 3 _ gx rfl))
      have q5763 : H5719 x 3 = (ce8 : Int) := k5762.trans ece8
      have h5764 : HDR T H5719 ce8  := (HDR_fr w5595 gce8 f5724 rfl (HDR_fr hW gce8 f5596 rfl hhdr8))
      exfalso
      omega
    · show WL _ _ _ _ 1400 [(4, vI i), (3, .ref o), (2, .ref m), (1, .ref x), (0, .ref 0)] [vI z5725] _ H5719
      refine wl_of hX hb cL_1400 (rw_pop (pc' := 1401) rfl rfl ?_)
      refine wl_of hX hb cL_1401 (rw_goto (p1 := 1653) (by decide) ?_)
      have k5765 : H5719 x 9 = H5591 x 9 := (f5724 x 9 _ gx rfl)
      have k5766 : H5719 m 6 = H5591 m 6 := (f5724 m 6 _ gm rfl)
      have k5767 : H5719 x 11 = H5591 x 11 := (f5724 x 11 _ gx rfl)
      have k5768 : H5719 m 13 = H5591 m 13 := (f5724 m 13 _ gm rfl)
      have k5769 : H5719 x 8 = H5591 x 8 := (f5724 x 8 _ gx rfl)
      have k5770 : H5719 m 3 = H5591 m 3 := (f5724 m 3 _ gm rfl)
      have k5771 : H5719 x 0 = H x 0 := ((f5724 x 0 _ gx rfl).trans (f5596 x 0 _ gx rfl))
      have q5772 : H5719 x 0 = (tc : Int) := k5771.trans e0
      have k5773 : H5719 m 5 = H m 5 := ((f5724 m 5 _ gm rfl).trans (f5596 m 5 _ gm rfl))
      have q5774 : H5719 m 5 = (tm : Int) := k5773.trans em
      have k5775 : H5719 x 6 = H x 6 := ((f5724 x 6 _ gx rfl).trans (f5596 x 6 _ gx rfl))
      have q5776 : H5719 x 6 = (cu : Int) := k5775.trans ecu
      have k5777 : H5719 x 7 = H x 7 := ((f5724 x 7 _ gx rfl).trans (f5596 x 7 _ gx rfl))
      have q5778 : H5719 x 7 = (dr : Int) := k5777.trans edr
      have k5779 : H5719 ce8 9 = H5591 ce8 9 := (f5724 ce8 9 _ gce8 rfl)
      have h5780 : TP T H5719 tc B := (TP_fr w5595 gtc f5724 rfl (TP_fr hW gtc f5596 rfl htc))
      have h5781 : TM T H5719 tm B := (TM_fr w5595 gtm f5724 rfl (TM_fr hW gtm f5596 rfl htm))
      have h5782 : DD T H5719 cu  := (DD_fr w5595 gcu f5724 rfl (DD_fr hW gcu f5596 rfl hcu))
      have h5783 : DD T H5719 dr  := (DD_fr w5595 gdr f5724 rfl (DD_fr hW gdr f5596 rfl hdr))
      have h5784 : DE T H5719 cu  := (DE_fr w5595 gcu f5724 rfl (DE_fr hW gcu f5596 rfl hdec))
      have h5785 : DE T H5719 dr  := (DE_fr w5595 gdr f5724 rfl (DE_fr hW gdr f5596 rfl hded))
      have h5786 : SP T H5719 x C8 := (SP_fr w5595 gx f5724 rfl (SP_fr hW gx f5596 rfl hsp))
      have h5787 : CU T H5719 cu (wq_u e8 13 (((H 0 ((i + 1).toNat)))).toNat (((H 0 ((i + 2).toNat)) + 1))) d8 n8 := (CU_fr w5595 gcu f5724 rfl a5608)
      have h5788 : CY T H5719 cu (d8 0 3) g8 (H cu 17) := (CY_fr w5595 gcu f5724 rfl (CY_fr hW gcu f5596 rfl h5587))
      have k5789 : H5719 x 3 = H x 3 := ((f5724 x 3 _ gx rfl).trans (f5596 x 3 _ gx rfl))
      have q5790 : H5719 x 3 = (ce8 : Int) := k5789.trans ece8
      have h5791 : HDR T H5719 ce8  := (HDR_fr w5595 gce8 f5724 rfl (HDR_fr hW gce8 f5596 rfl hhdr8))
      have h5792 : RY T H5719 m (d8 0 3) g8 (H m 32) := (RY_fr w5595 gm f5724 rfl (RY_fr hW gm f5596 rfl h5588))
      exact WL.loc hX (by simp) (next T H5719 ⟨⟨w5723, g0, gx, gm, go, by omega, by omega⟩, ⟨_, tc, tm, cu, dr, _, _, _, _, _, ce8, q5772, gtc, h5780, q5774, gtm, h5781, q5776, gcu, q5778, gdr, h5782, h5783, h5784, h5785, h5786, hC1, hC2, h5787, a5737, (h5788).1, (h5792).1, (fun i hi => (wq_u_row hi).trans (hE i hi)), (fun h h1 h2 => by rw [wq_u_e2 (fun c => by omega)]; exact hZ h h1 h2), (by omega), (by assumption), (by omega), (by first | assumption | exact SG_0), q5790, gce8, (by first | assumption | exact CEN_new (by omega)), h5791, (by first | assumption | exact KNN_new (by omega)), gm⟩, by omega, by omega⟩ (by omega) (by omega))
set_option maxHeartbeats 4000000 in
theorem wl_c40 {kt : Nat → Option mc_E} {CB SB : Nat} {X : mc_S → Prop} {T : wq_T} {H : wq_H} {Len x m o : Nat} {i : Int} (hX : wlX kt CB SB X) (hb : T.2.1 ≤ CB ∧ T.2.2.1 ≤ SB) (hI : wlJ Len x m o T H) (hL : Len ≤ 3072) (hi : 0 ≤ i ∧ i + 6 ≤ Len) (hb2 : T.2.1 + 20 ≤ CB ∧ T.2.2.1 + 500 ≤ SB)  (next : ∀ T' H', wlJ Len x m o T' H' → T'.2.1 ≤ T.2.1 + 20 → T'.2.2.1 ≤ T.2.2.1 + 500 → WL kt CB SB X 1653 (wlL i x m o) [] T' H') : WL kt CB SB X 1404 (wlL i x m o) [] T H := by
  obtain ⟨⟨hW, g0, gx, gm, go, hK, hr⟩, hXI, hY1, hY2⟩ := hI
  refine wl_of hX hb cL_1404 (rw_aload_n (pc' := 1405) (v := .ref x) rfl rfl rfl ?_)
  refine wl_of hX hb cL_1405 (rw_aload_n (pc' := 1406) (v := .ref 0) rfl rfl rfl ?_)
  refine wl_of hX hb cL_1406 (rw_iload (pc' := 1408) (z := i) rfl rfl ?_)
  refine wl_of hX hb cL_1408 (rw_iconst (pc' := 1409) rfl ?_)
  refine wl_of hX hb cL_1409 (rw_iadd (pc' := 1410) rfl ?_)
  refine wl_of hX hb cL_1410 (xa_I (so := 0) (pc' := 1411) (a := 0) hW g0 (wsh_s _) (by omega) (wty_s _ _) (by omega) (by omega) rfl (fun b5793 b5794 => ?_))
  obtain ⟨B, tc, tm, cu, dr, C8, e8, d8, n8, g8, ce8, e0, gtc, htc, em, gtm, htm, ecu, gcu, edr, gdr, hcu, hdr, hdec, hded, hsp, hC1, hC2, hcu8, hrb8, hcg8, hmn8, hE, hZ, hn8, hXA, hV8, hSG, ece8, gce8, hcen8, hhdr8, hknn8, -⟩ := hXI
  have hN3 := RB_n3 hrb8
  have hE13 : ∀ h : Nat, h < 24 → 0 ≤ e8 13 h ∧ e8 13 h ≤ 100 := fun k hk => by
    obtain ⟨s, h1, h2, h3⟩ := hcu8.1.2.2.1
    exact ⟨(h3 k hk).1, (h3 k hk).2.1⟩
  have hXW := hXA.1
  have hXN := hXA.2
  have hE0 : e8 0 3 = d8 0 3 ∧ e8 0 0 = d8 0 0 := by
    have h := hE 0 (by decide)
    exact ⟨congrFun h 3, congrFun h 0⟩
  have u5795 := CU_k hcu8
  have h5796 : CY T H cu (d8 0 3) g8 (H cu 17) := ⟨hcg8, rfl⟩
  have h5797 : RY T H m (d8 0 3) g8 (H m 32) := ⟨hmn8, rfl⟩
  obtain ⟨t9, ht9⟩ : ∃ t : Int, t = H x 9 := ⟨_, rfl⟩
  obtain ⟨y9, hy9⟩ : ∃ y : Int, y = H 0 ((i + 1).toNat) := ⟨_, rfl⟩
  refine wl_of hX hb cL_1411 (xc_V (pc' := 1414) (r := x) (as := [vI (H 0 ((i + 1).toNat))]) (st := []) (lm_11_187) rfl rfl (Nat.le_of_ble_eq_true rfl) hW gx sh_1 (by decide) rfl (by decide) (u_154 (e := e8) (d := d8) (n := n8) (y := ((H 0 ((i + 1).toNat)))) hW gx ⟨by omega, by omega⟩ ecu gcu ece8 gce8 (by omega) (by omega) (by omega) hcu8 hcen8) (fun R5798 T5799 H5800 p5801 => ?_))
  obtain ⟨e5802, w5804, f5805, z5806, e5803, b5807, p5808⟩ := p5801
  subst e5802
  subst e5803
  rcases p5808 with ⟨a5809, a5810, a5811, a5812, a5813⟩ | ⟨a5814, a5815, a5816, a5817⟩
  · show WL _ _ _ _ 1414 [(4, vI i), (3, .ref o), (2, .ref m), (1, .ref x), (0, .ref 0)] [vI z5806] _ H5800
    have u5818 := CU_k a5813
    refine wl_of hX hb cL_1414 (rw_pop (pc' := 1415) rfl rfl ?_)
    refine wl_of hX hb cL_1415 (rw_aload_n (pc' := 1416) (v := .ref m) rfl rfl rfl ?_)
    refine wl_of hX hb cL_1416 (rw_aload_n (pc' := 1417) (v := .ref 0) rfl rfl rfl ?_)
    refine wl_of hX hb cL_1417 (rw_iload (pc' := 1419) (z := i) rfl rfl ?_)
    refine wl_of hX hb cL_1419 (rw_iconst (pc' := 1420) rfl ?_)
    refine wl_of hX hb cL_1420 (rw_iadd (pc' := 1421) rfl ?_)
    have k5821 : H5800 0 ((i + 1).toNat) = H 0 ((i + 1).toNat) := (f5805 0 ((i + 1).toNat) _ g0 (wmem_s rfl))
    refine wl_of hX hb cL_1421 (xa_I (so := 0) (pc' := 1422) (a := 0) w5804 g0 (wsh_s _) (by omega) (wty_s _ _) (by omega) (by omega) rfl (fun b5819 b5820 => ?_))
    have k5822 : wKI H5800 m = wKI H m := (wKI_fr hW gm f5805 rfl)
    have k5823 : H5800 x 9 = H x 9 := (f5805 x 9 _ gx rfl)
    have k5824 : H5800 m 6 = H m 6 := (f5805 m 6 _ gm rfl)
    have k5825 : H5800 x 11 = H x 11 := (f5805 x 11 _ gx rfl)
    have k5826 : H5800 m 13 = H m 13 := (f5805 m 13 _ gm rfl)
    have k5827 : H5800 x 8 = H x 8 := (f5805 x 8 _ gx rfl)
    have k5828 : H5800 m 3 = H m 3 := (f5805 m 3 _ gm rfl)
    rw [show H5800 0 ((i + 1).toNat) = H 0 ((i + 1).toNat) by omega]
    have h5829 : RB T H5800 m e8 d8 := (RB_fr hW gm f5805 rfl hrb8)
    have h5830 : KNN T H5800 m e8 d8 := (KNN_fr hW gm f5805 rfl hknn8)
    refine wl_of hX hb cL_1422 (xc_V (pc' := 1425) (r := m) (as := [vI (H 0 ((i + 1).toNat))]) (st := []) (lm_11_191) rfl rfl (Nat.le_of_ble_eq_true rfl) w5804 gm sh_42 (by decide) rfl (by decide) (u_286 (e := e8) (d := d8) (y := ((H 0 ((i + 1).toNat)))) w5804 gm ⟨by omega, by omega⟩ (by omega) (by omega) h5829 h5830) (fun R5831 T5832 H5833 p5834 => ?_))
    obtain ⟨e5835, w5837, f5838, z5839, e5836, b5840, p5841⟩ := p5834
    subst e5835
    subst e5836
    rcases p5841 with ⟨a5842, a5843, a5844, a5845, a5846, a5847⟩ | ⟨a5848, a5849, a5850, a5851, a5852⟩
    · show WL _ _ _ _ 1425 [(4, vI i), (3, .ref o), (2, .ref m), (1, .ref x), (0, .ref 0)] [vI z5839] _ H5833
      refine wl_of hX hb cL_1425 (rw_pop (pc' := 1426) rfl rfl ?_)
      refine wl_of hX hb cL_1426 (rw_goto (p1 := 1653) (by decide) ?_)
      have k5853 : H5833 x 9 = H5800 x 9 := (f5838 x 9 _ gx rfl)
      have k5854 : H5833 m 6 = H5800 m 6 := (f5838 m 6 _ gm rfl)
      have k5855 : H5833 x 11 = H5800 x 11 := (f5838 x 11 _ gx rfl)
      have k5856 : H5833 m 13 = H5800 m 13 := (f5838 m 13 _ gm rfl)
      have k5857 : H5833 x 8 = H5800 x 8 := (f5838 x 8 _ gx rfl)
      have k5858 : H5833 m 3 = H5800 m 3 := (f5838 m 3 _ gm rfl)
      have k5859 : H5833 x 0 = H x 0 := ((f5838 x 0 _ gx rfl).trans (f5805 x 0 _ gx rfl))
      have q5860 : H5833 x 0 = (tc : Int) := k5859.trans e0
      have k5861 : H5833 m 5 = H m 5 := ((f5838 m 5 _ gm rfl).trans (f5805 m 5 _ gm rfl))
      have q5862 : H5833 m 5 = (tm : Int) := k5861.trans em
      have k5863 : H5833 x 6 = H x 6 := ((f5838 x 6 _ gx rfl).trans (f5805 x 6 _ gx rfl))
      have q5864 : H5833 x 6 = (cu : Int) := k5863.trans ecu
      have k5865 : H5833 x 7 = H x 7 := ((f5838 x 7 _ gx rfl).trans (f5805 x 7 _ gx rfl))
      have q5866 : H5833 x 7 = (dr : Int) := k5865.trans edr
      have k5867 : H5833 ce8 9 = H5800 ce8 9 := (f5838 ce8 9 _ gce8 rfl)
      have h5868 : TP T H5833 tc B := (TP_fr w5804 gtc f5838 rfl (TP_fr hW gtc f5805 rfl htc))
      have h5869 : TM T H5833 tm B := (TM_fr w5804 gtm f5838 rfl (TM_fr hW gtm f5805 rfl htm))
      have h5870 : DD T H5833 cu  := (DD_fr w5804 gcu f5838 rfl (DD_fr hW gcu f5805 rfl hcu))
      have h5871 : DD T H5833 dr  := (DD_fr w5804 gdr f5838 rfl (DD_fr hW gdr f5805 rfl hdr))
      have h5872 : DE T H5833 cu  := (DE_fr w5804 gcu f5838 rfl (DE_fr hW gcu f5805 rfl hdec))
      have h5873 : DE T H5833 dr  := (DE_fr w5804 gdr f5838 rfl (DE_fr hW gdr f5805 rfl hded))
      have h5874 : SP T H5833 x C8 := (SP_fr w5804 gx f5838 rfl (SP_fr hW gx f5805 rfl hsp))
      have h5875 : CU T H5833 cu (wq_u e8 13 (((H 0 ((i + 1).toNat)))).toNat 0) d8 n8 := (CU_fr w5804 gcu f5838 rfl a5813)
      have h5876 : CY T H5833 cu (d8 0 3) g8 (H cu 17) := (CY_fr w5804 gcu f5838 rfl (CY_fr hW gcu f5805 rfl h5796))
      have k5877 : H5833 x 3 = H x 3 := ((f5838 x 3 _ gx rfl).trans (f5805 x 3 _ gx rfl))
      have q5878 : H5833 x 3 = (ce8 : Int) := k5877.trans ece8
      have h5879 : HDR T H5833 ce8  := (HDR_fr w5804 gce8 f5838 rfl (HDR_fr hW gce8 f5805 rfl hhdr8))
      have h5880 : RY T H5833 m (d8 0 3) g8 (H m 32) := (RY_fr w5804 gm f5838 rfl (RY_fr hW gm f5805 rfl h5797))
      exact WL.loc hX (by simp) (next T H5833 ⟨⟨w5837, g0, gx, gm, go, by omega, by omega⟩, ⟨_, tc, tm, cu, dr, _, _, _, _, _, ce8, q5860, gtc, h5868, q5862, gtm, h5869, q5864, gcu, q5866, gdr, h5870, h5871, h5872, h5873, h5874, hC1, hC2, h5875, a5847, (h5876).1, (h5880).1, (fun i hi => (wq_u_row hi).trans (hE i hi)), (fun h h1 h2 => by rw [wq_u_e2 (fun c => by omega)]; exact hZ h h1 h2), (by omega), (by assumption), (by omega), (by first | assumption | exact SG_0), q5878, gce8, (by first | assumption | exact CEN_new (by omega)), h5879, (by first | assumption | exact KNN_new (by omega)), gm⟩, by omega, by omega⟩ (by omega) (by omega))
    · show WL _ _ _ _ 1425 [(4, vI i), (3, .ref o), (2, .ref m), (1, .ref x), (0, .ref 0)] [vI z5839] _ H5833
      refine wl_of hX hb cL_1425 (rw_pop (pc' := 1426) rfl rfl ?_)
      refine wl_of hX hb cL_1426 (rw_goto (p1 := 1653) (by decide) ?_)
      have k5881 : H5833 x 9 = H5800 x 9 := (f5838 x 9 _ gx rfl)
      have k5882 : H5833 m 6 = H5800 m 6 := (f5838 m 6 _ gm rfl)
      have k5883 : H5833 x 11 = H5800 x 11 := (f5838 x 11 _ gx rfl)
      have k5884 : H5833 m 13 = H5800 m 13 := (f5838 m 13 _ gm rfl)
      have k5885 : H5833 x 8 = H5800 x 8 := (f5838 x 8 _ gx rfl)
      have k5886 : H5833 m 3 = H5800 m 3 := (f5838 m 3 _ gm rfl)
      have k5887 : H5833 x 0 = H x 0 := ((f5838 x 0 _ gx rfl).trans (f5805 x 0 _ gx rfl))
      have q5888 : H5833 x 0 = (tc : Int) := k5887.trans e0
      have k5889 : H5833 m 5 = H m 5 := ((f5838 m 5 _ gm rfl).trans (f5805 m 5 _ gm rfl))
      have q5890 : H5833 m 5 = (tm : Int) := k5889.trans em
      have k5891 : H5833 x 6 = H x 6 := ((f5838 x 6 _ gx rfl).trans (f5805 x 6 _ gx rfl))
      have q5892 : H5833 x 6 = (cu : Int) := k5891.trans ecu
      have k5893 : H5833 x 7 = H x 7 := ((f5838 x 7 _ gx rfl).trans (f5805 x 7 _ gx rfl))
      have q5894 : H5833 x 7 = (dr : Int) := k5893.trans edr
      have k5895 : H5833 ce8 9 = H5800 ce8 9 := (f5838 ce8 9 _ gce8 rfl)
      have h5896 : TP T H5833 tc B := (TP_fr w5804 gtc f5838 rfl (TP_fr hW gtc f5805 rfl htc))
      have h5897 : TM T H5833 tm B := (TM_fr w5804 gtm f5838 rfl (TM_fr hW gtm f5805 rfl htm))
      have h5898 : DD T H5833 cu  := (DD_fr w5804 gcu f5838 rfl (DD_fr hW gcu f5805 rfl hcu))
      have h5899 : DD T H5833 dr  := (DD_fr w5804 gdr f5838 rfl (DD_fr hW gdr f5805 rfl hdr))
      have h5900 : DE T H5833 cu  := (DE_fr w5804 gcu f5838 rfl (DE_fr hW gcu f5805 rfl hdec))
      have h5901 : DE T H5833 dr  := (DE_fr w5804 gdr f5838 rfl (DE_fr hW gdr f5805 rfl hded))
      have h5902 : SP T H5833 x C8 := (SP_fr w5804 gx f5838 rfl (SP_fr hW gx f5805 rfl hsp))
      have h5903 : CU T H5833 cu (wq_u e8 13 (((H 0 ((i + 1).toNat)))).toNat 0) d8 n8 := (CU_fr w5804 gcu f5838 rfl a5813)
      have h5904 : CY T H5833 cu (d8 0 3) g8 (H cu 17) := (CY_fr w5804 gcu f5838 rfl (CY_fr hW gcu f5805 rfl h5796))
      have k5905 : H5833 x 3 = H x 3 := ((f5838 x 3 _ gx rfl).trans (f5805 x 3 _ gx rfl))
      have q5906 : H5833 x 3 = (ce8 : Int) := k5905.trans ece8
      have h5907 : HDR T H5833 ce8  := (HDR_fr w5804 gce8 f5838 rfl (HDR_fr hW gce8 f5805 rfl hhdr8))
      exfalso
      omega
  · show WL _ _ _ _ 1414 [(4, vI i), (3, .ref o), (2, .ref m), (1, .ref x), (0, .ref 0)] [vI z5806] _ H5800
    have u5908 := CU_k a5816
    refine wl_of hX hb cL_1414 (rw_pop (pc' := 1415) rfl rfl ?_)
    refine wl_of hX hb cL_1415 (rw_aload_n (pc' := 1416) (v := .ref m) rfl rfl rfl ?_)
    refine wl_of hX hb cL_1416 (rw_aload_n (pc' := 1417) (v := .ref 0) rfl rfl rfl ?_)
    refine wl_of hX hb cL_1417 (rw_iload (pc' := 1419) (z := i) rfl rfl ?_)
    refine wl_of hX hb cL_1419 (rw_iconst (pc' := 1420) rfl ?_)
    refine wl_of hX hb cL_1420 (rw_iadd (pc' := 1421) rfl ?_)
    have k5911 : H5800 0 ((i + 1).toNat) = H 0 ((i + 1).toNat) := (f5805 0 ((i + 1).toNat) _ g0 (wmem_s rfl))
    refine wl_of hX hb cL_1421 (xa_I (so := 0) (pc' := 1422) (a := 0) w5804 g0 (wsh_s _) (by omega) (wty_s _ _) (by omega) (by omega) rfl (fun b5909 b5910 => ?_))
    have k5912 : wKI H5800 m = wKI H m := (wKI_fr hW gm f5805 rfl)
    have k5913 : H5800 x 9 = H x 9 := (f5805 x 9 _ gx rfl)
    have k5914 : H5800 m 6 = H m 6 := (f5805 m 6 _ gm rfl)
    have k5915 : H5800 x 11 = H x 11 := (f5805 x 11 _ gx rfl)
    have k5916 : H5800 m 13 = H m 13 := (f5805 m 13 _ gm rfl)
    have k5917 : H5800 x 8 = H x 8 := (f5805 x 8 _ gx rfl)
    have k5918 : H5800 m 3 = H m 3 := (f5805 m 3 _ gm rfl)
    rw [show H5800 0 ((i + 1).toNat) = H 0 ((i + 1).toNat) by omega]
    have h5919 : RB T H5800 m e8 d8 := (RB_fr hW gm f5805 rfl hrb8)
    have h5920 : KNN T H5800 m e8 d8 := (KNN_fr hW gm f5805 rfl hknn8)
    refine wl_of hX hb cL_1422 (xc_V (pc' := 1425) (r := m) (as := [vI (H 0 ((i + 1).toNat))]) (st := []) (lm_11_191) rfl rfl (Nat.le_of_ble_eq_true rfl) w5804 gm sh_42 (by decide) rfl (by decide) (u_286 (e := e8) (d := d8) (y := ((H 0 ((i + 1).toNat)))) w5804 gm ⟨by omega, by omega⟩ (by omega) (by omega) h5919 h5920) (fun R5921 T5922 H5923 p5924 => ?_))
    obtain ⟨e5925, w5927, f5928, z5929, e5926, b5930, p5931⟩ := p5924
    subst e5925
    subst e5926
    rcases p5931 with ⟨a5932, a5933, a5934, a5935, a5936, a5937⟩ | ⟨a5938, a5939, a5940, a5941, a5942⟩
    · show WL _ _ _ _ 1425 [(4, vI i), (3, .ref o), (2, .ref m), (1, .ref x), (0, .ref 0)] [vI z5929] _ H5923
      refine wl_of hX hb cL_1425 (rw_pop (pc' := 1426) rfl rfl ?_)
      refine wl_of hX hb cL_1426 (rw_goto (p1 := 1653) (by decide) ?_)
      have k5943 : H5923 x 9 = H5800 x 9 := (f5928 x 9 _ gx rfl)
      have k5944 : H5923 m 6 = H5800 m 6 := (f5928 m 6 _ gm rfl)
      have k5945 : H5923 x 11 = H5800 x 11 := (f5928 x 11 _ gx rfl)
      have k5946 : H5923 m 13 = H5800 m 13 := (f5928 m 13 _ gm rfl)
      have k5947 : H5923 x 8 = H5800 x 8 := (f5928 x 8 _ gx rfl)
      have k5948 : H5923 m 3 = H5800 m 3 := (f5928 m 3 _ gm rfl)
      have k5949 : H5923 x 0 = H x 0 := ((f5928 x 0 _ gx rfl).trans (f5805 x 0 _ gx rfl))
      have q5950 : H5923 x 0 = (tc : Int) := k5949.trans e0
      have k5951 : H5923 m 5 = H m 5 := ((f5928 m 5 _ gm rfl).trans (f5805 m 5 _ gm rfl))
      have q5952 : H5923 m 5 = (tm : Int) := k5951.trans em
      have k5953 : H5923 x 6 = H x 6 := ((f5928 x 6 _ gx rfl).trans (f5805 x 6 _ gx rfl))
      have q5954 : H5923 x 6 = (cu : Int) := k5953.trans ecu
      have k5955 : H5923 x 7 = H x 7 := ((f5928 x 7 _ gx rfl).trans (f5805 x 7 _ gx rfl))
      have q5956 : H5923 x 7 = (dr : Int) := k5955.trans edr
      have h5957 : CEN T H5923 ce8 e8 d8 := (CEN_fr w5804 gce8 f5928 rfl a5817)
      have h5958 : TP T H5923 tc B := (TP_fr w5804 gtc f5928 rfl (TP_fr hW gtc f5805 rfl htc))
      have h5959 : TM T H5923 tm B := (TM_fr w5804 gtm f5928 rfl (TM_fr hW gtm f5805 rfl htm))
      have h5960 : DD T H5923 cu  := (DD_fr w5804 gcu f5928 rfl (DD_fr hW gcu f5805 rfl hcu))
      have h5961 : DD T H5923 dr  := (DD_fr w5804 gdr f5928 rfl (DD_fr hW gdr f5805 rfl hdr))
      have h5962 : DE T H5923 cu  := (DE_fr w5804 gcu f5928 rfl (DE_fr hW gcu f5805 rfl hdec))
      have h5963 : DE T H5923 dr  := (DE_fr w5804 gdr f5928 rfl (DE_fr hW gdr f5805 rfl hded))
      have h5964 : SP T H5923 x C8 := (SP_fr w5804 gx f5928 rfl (SP_fr hW gx f5805 rfl hsp))
      have h5965 : CU T H5923 cu e8 d8 n8 := (CU_fr w5804 gcu f5928 rfl a5816)
      have h5966 : CY T H5923 cu (d8 0 3) g8 (H cu 17) := (CY_fr w5804 gcu f5928 rfl (CY_fr hW gcu f5805 rfl h5796))
      have k5967 : H5923 x 3 = H x 3 := ((f5928 x 3 _ gx rfl).trans (f5805 x 3 _ gx rfl))
      have q5968 : H5923 x 3 = (ce8 : Int) := k5967.trans ece8
      have h5969 : HDR T H5923 ce8  := (HDR_fr w5804 gce8 f5928 rfl (HDR_fr hW gce8 f5805 rfl hhdr8))
      exfalso
      omega
    · show WL _ _ _ _ 1425 [(4, vI i), (3, .ref o), (2, .ref m), (1, .ref x), (0, .ref 0)] [vI z5929] _ H5923
      refine wl_of hX hb cL_1425 (rw_pop (pc' := 1426) rfl rfl ?_)
      refine wl_of hX hb cL_1426 (rw_goto (p1 := 1653) (by decide) ?_)
      have k5970 : H5923 x 9 = H5800 x 9 := (f5928 x 9 _ gx rfl)
      have k5971 : H5923 m 6 = H5800 m 6 := (f5928 m 6 _ gm rfl)
      have k5972 : H5923 x 11 = H5800 x 11 := (f5928 x 11 _ gx rfl)
      have k5973 : H5923 m 13 = H5800 m 13 := (f5928 m 13 _ gm rfl)
      have k5974 : H5923 x 8 = H5800 x 8 := (f5928 x 8 _ gx rfl)
      have k5975 : H5923 m 3 = H5800 m 3 := (f5928 m 3 _ gm rfl)
      have k5976 : H5923 x 0 = H x 0 := ((f5928 x 0 _ gx rfl).trans (f5805 x 0 _ gx rfl))
      have q5977 : H5923 x 0 = (tc : Int) := k5976.trans e0
      have k5978 : H5923 m 5 = H m 5 := ((f5928 m 5 _ gm rfl).trans (f5805 m 5 _ gm rfl))
      have q5979 : H5923 m 5 = (tm : Int) := k5978.trans em
      have k5980 : H5923 x 6 = H x 6 := ((f5928 x 6 _ gx rfl).trans (f5805 x 6 _ gx rfl))
      have q5981 : H5923 x 6 = (cu : Int) := k5980.trans ecu
      have k5982 : H5923 x 7 = H x 7 := ((f5928 x 7 _ gx rfl).trans (f5805 x 7 _ gx rfl))
      have q5983 : H5923 x 7 = (dr : Int) := k5982.trans edr
      have h5984 : CEN T H5923 ce8 e8 d8 := (CEN_fr w5804 gce8 f5928 rfl a5817)
      have h5985 : TP T H5923 tc B := (TP_fr w5804 gtc f5928 rfl (TP_fr hW gtc f5805 rfl htc))
      have h5986 : TM T H5923 tm B := (TM_fr w5804 gtm f5928 rfl (TM_fr hW gtm f5805 rfl htm))
      have h5987 : DD T H5923 cu  := (DD_fr w5804 gcu f5928 rfl (DD_fr hW gcu f5805 rfl hcu))
      have h5988 : DD T H5923 dr  := (DD_fr w5804 gdr f5928 rfl (DD_fr hW gdr f5805 rfl hdr))
      have h5989 : DE T H5923 cu  := (DE_fr w5804 gcu f5928 rfl (DE_fr hW gcu f5805 rfl hdec))
      have h5990 : DE T H5923 dr  := (DE_fr w5804 gdr f5928 rfl (DE_fr hW gdr f5805 rfl hded))
      have h5991 : SP T H5923 x C8 := (SP_fr w5804 gx f5928 rfl (SP_fr hW gx f5805 rfl hsp))
      have h5992 : CU T H5923 cu e8 d8 n8 := (CU_fr w5804 gcu f5928 rfl a5816)
      have h5993 : CY T H5923 cu (d8 0 3) g8 (H cu 17) := (CY_fr w5804 gcu f5928 rfl (CY_fr hW gcu f5805 rfl h5796))
      have k5994 : H5923 x 3 = H x 3 := ((f5928 x 3 _ gx rfl).trans (f5805 x 3 _ gx rfl))
      have q5995 : H5923 x 3 = (ce8 : Int) := k5994.trans ece8
      have h5996 : HDR T H5923 ce8  := (HDR_fr w5804 gce8 f5928 rfl (HDR_fr hW gce8 f5805 rfl hhdr8))
      have h5997 : RY T H5923 m (d8 0 3) g8 (H m 32) := (RY_fr w5804 gm f5928 rfl (RY_fr hW gm f5805 rfl h5797))
      exact WL.loc hX (by simp) (next T H5923 ⟨⟨w5927, g0, gx, gm, go, by omega, by omega⟩, ⟨_, tc, tm, cu, dr, _, _, _, _, _, ce8, q5977, gtc, h5985, q5979, gtm, h5986, q5981, gcu, q5983, gdr, h5987, h5988, h5989, h5990, h5991, hC1, hC2, h5992, a5941, (h5993).1, (h5997).1, hE, hZ, (by omega), (by assumption), (by omega), (by first | assumption | exact SG_0), q5995, gce8, h5984, h5996, a5942, gm⟩, by omega, by omega⟩ (by omega) (by omega))
set_option maxHeartbeats 4000000 in
theorem wl_c41 {kt : Nat → Option mc_E} {CB SB : Nat} {X : mc_S → Prop} {T : wq_T} {H : wq_H} {Len x m o : Nat} {i : Int} (hX : wlX kt CB SB X) (hb : T.2.1 ≤ CB ∧ T.2.2.1 ≤ SB) (hI : wlJ Len x m o T H) (hL : Len ≤ 3072) (hi : 0 ≤ i ∧ i + 6 ≤ Len) (hb2 : T.2.1 + 20 ≤ CB ∧ T.2.2.1 + 500 ≤ SB)  (next : ∀ T' H', wlJ Len x m o T' H' → T'.2.1 ≤ T.2.1 + 20 → T'.2.2.1 ≤ T.2.2.1 + 500 → WL kt CB SB X 1653 (wlL i x m o) [] T' H') : WL kt CB SB X 1429 (wlL i x m o) [] T H := by
  obtain ⟨⟨hW, g0, gx, gm, go, hK, hr⟩, hXI, hY1, hY2⟩ := hI
  refine wl_of hX hb cL_1429 (rw_aload_n (pc' := 1430) (v := .ref x) rfl rfl rfl ?_)
  refine wl_of hX hb cL_1430 (rw_aload_n (pc' := 1431) (v := .ref 0) rfl rfl rfl ?_)
  refine wl_of hX hb cL_1431 (rw_iload (pc' := 1433) (z := i) rfl rfl ?_)
  refine wl_of hX hb cL_1433 (rw_iconst (pc' := 1434) rfl ?_)
  refine wl_of hX hb cL_1434 (rw_iadd (pc' := 1435) rfl ?_)
  refine wl_of hX hb cL_1435 (xa_I (so := 0) (pc' := 1436) (a := 0) hW g0 (wsh_s _) (by omega) (wty_s _ _) (by omega) (by omega) rfl (fun b5998 b5999 => ?_))
  refine wl_of hX hb cL_1436 (xc_V (pc' := 1439) (r := x) (as := [vI (H 0 ((i + 1).toNat))]) (st := []) (lm_11_192) rfl rfl (Nat.le_of_ble_eq_true rfl) hW gx sh_1 (by decide) rfl (by decide) (s_155 hW gx ⟨by omega, by omega⟩) (fun R6000 T6001 H6002 p6003 => ?_))
  obtain ⟨e6004, w6006, f6007, z6008, e6005, b6009⟩ := p6003
  subst e6004
  subst e6005
  show WL _ _ _ _ 1439 [(4, vI i), (3, .ref o), (2, .ref m), (1, .ref x), (0, .ref 0)] [vI z6008] _ H6002
  refine wl_of hX hb cL_1439 (rw_pop (pc' := 1440) rfl rfl ?_)
  refine wl_of hX hb cL_1440 (rw_aload_n (pc' := 1441) (v := .ref m) rfl rfl rfl ?_)
  refine wl_of hX hb cL_1441 (rw_aload_n (pc' := 1442) (v := .ref 0) rfl rfl rfl ?_)
  refine wl_of hX hb cL_1442 (rw_iload (pc' := 1444) (z := i) rfl rfl ?_)
  refine wl_of hX hb cL_1444 (rw_iconst (pc' := 1445) rfl ?_)
  refine wl_of hX hb cL_1445 (rw_iadd (pc' := 1446) rfl ?_)
  have k6012 : H6002 0 ((i + 1).toNat) = H 0 ((i + 1).toNat) := (f6007 0 ((i + 1).toNat) _ g0 (wmem_s rfl))
  refine wl_of hX hb cL_1446 (xa_I (so := 0) (pc' := 1447) (a := 0) w6006 g0 (wsh_s _) (by omega) (wty_s _ _) (by omega) (by omega) rfl (fun b6010 b6011 => ?_))
  have k6013 : wKI H6002 m = wKI H m := (wKI_fr hW gm f6007 rfl)
  have k6014 : H6002 x 9 = H x 9 := (f6007 x 9 _ gx rfl)
  have k6015 : H6002 m 6 = H m 6 := (f6007 m 6 _ gm rfl)
  have k6016 : H6002 x 11 = H x 11 := (f6007 x 11 _ gx rfl)
  have k6017 : H6002 m 13 = H m 13 := (f6007 m 13 _ gm rfl)
  have k6018 : H6002 x 8 = H x 8 := (f6007 x 8 _ gx rfl)
  have k6019 : H6002 m 3 = H m 3 := (f6007 m 3 _ gm rfl)
  refine wl_of hX hb cL_1447 (xc_V (pc' := 1450) (r := m) (as := [vI (H6002 0 ((i + 1).toNat))]) (st := []) (lm_11_195) rfl rfl (Nat.le_of_ble_eq_true rfl) w6006 gm sh_42 (by decide) rfl (by decide) (s_287 w6006 gm ⟨by omega, by omega⟩ (by omega)) (fun R6020 T6021 H6022 p6023 => ?_))
  obtain ⟨e6024, w6026, f6027, z6029, e6025, b6030, p6028⟩ := p6023
  subst e6024
  subst e6025
  show WL _ _ _ _ 1450 [(4, vI i), (3, .ref o), (2, .ref m), (1, .ref x), (0, .ref 0)] [vI z6029] _ H6022
  refine wl_of hX hb cL_1450 (rw_pop (pc' := 1451) rfl rfl ?_)
  refine wl_of hX hb cL_1451 (rw_goto (p1 := 1653) (by decide) ?_)
  have k6031 : H6022 x 9 = H6002 x 9 := (f6027 x 9 _ gx rfl)
  have k6032 : H6022 m 6 = H6002 m 6 := (f6027 m 6 _ gm rfl)
  have k6033 : H6022 x 11 = H6002 x 11 := (f6027 x 11 _ gx rfl)
  have k6034 : H6022 m 13 = H6002 m 13 := (f6027 m 13 _ gm rfl)
  have k6035 : H6022 x 8 = H6002 x 8 := (f6027 x 8 _ gx rfl)
  have k6036 : H6022 m 3 = H6002 m 3 := (f6027 m 3 _ gm rfl)
  have h6037 : XI T H6022 x m := (XI_fr w6006 gx f6027 rfl (XI_fr hW gx f6007 rfl hXI))
  exact WL.loc hX (by simp) (next T H6022 ⟨⟨w6026, g0, gx, gm, go, by omega, by omega⟩, h6037, by omega, by omega⟩ (by omega) (by omega))
set_option maxHeartbeats 4000000 in
theorem wl_c42 {kt : Nat → Option mc_E} {CB SB : Nat} {X : mc_S → Prop} {T : wq_T} {H : wq_H} {Len x m o : Nat} {i : Int} (hX : wlX kt CB SB X) (hb : T.2.1 ≤ CB ∧ T.2.2.1 ≤ SB) (hI : wlJ Len x m o T H) (hL : Len ≤ 3072) (hi : 0 ≤ i ∧ i + 6 ≤ Len) (hb2 : T.2.1 + 20 ≤ CB ∧ T.2.2.1 + 500 ≤ SB)  (next : ∀ T' H', wlJ Len x m o T' H' → T'.2.1 ≤ T.2.1 + 20 → T'.2.2.1 ≤ T.2.2.1 + 500 → WL kt CB SB X 1653 (wlL i x m o) [] T' H') : WL kt CB SB X 1454 (wlL i x m o) [] T H := by
  obtain ⟨⟨hW, g0, gx, gm, go, hK, hr⟩, hXI, hY1, hY2⟩ := hI
  refine wl_of hX hb cL_1454 (rw_aload_n (pc' := 1455) (v := .ref x) rfl rfl rfl ?_)
  obtain ⟨B, tc, tm, cu, dr, C8, e8, d8, n8, g8, ce8, e0, gtc, htc, em, gtm, htm, ecu, gcu, edr, gdr, hcu, hdr, hdec, hded, hsp, hC1, hC2, hcu8, hrb8, hcg8, hmn8, hE, hZ, hn8, hXA, hV8, hSG, ece8, gce8, hcen8, hhdr8, hknn8, -⟩ := hXI
  have hN3 := RB_n3 hrb8
  have hE13 : ∀ h : Nat, h < 24 → 0 ≤ e8 13 h ∧ e8 13 h ≤ 100 := fun k hk => by
    obtain ⟨s, h1, h2, h3⟩ := hcu8.1.2.2.1
    exact ⟨(h3 k hk).1, (h3 k hk).2.1⟩
  have hXW := hXA.1
  have hXN := hXA.2
  have hE0 : e8 0 3 = d8 0 3 ∧ e8 0 0 = d8 0 0 := by
    have h := hE 0 (by decide)
    exact ⟨congrFun h 3, congrFun h 0⟩
  have u6038 := CU_k hcu8
  have h6039 : CY T H cu (d8 0 3) g8 (H cu 17) := ⟨hcg8, rfl⟩
  have h6040 : RY T H m (d8 0 3) g8 (H m 32) := ⟨hmn8, rfl⟩
  obtain ⟨t9, ht9⟩ : ∃ t : Int, t = H x 9 := ⟨_, rfl⟩
  obtain ⟨r6041, q6042, g6043⟩ := hW.ref gx (t' := 6) (n := 13) (j := 2) (p := 0) (q := 0) rfl (by decide) rfl
  refine wl_of hX hb cL_1455 (xc_V (pc' := 1458) (r := x) (as := []) (st := []) (lm_11_196) rfl rfl (Nat.le_of_ble_eq_true rfl) hW gx sh_1 (by decide) rfl (by decide) (u_156 (e := e8) (d := d8) (n := n8) hW gx ecu gcu q6042 g6043 ece8 gce8 (by assumption) (by assumption) (by omega) (by omega) (by omega) (by omega) hcu8 hcen8 hhdr8) (fun R6044 T6045 H6046 p6047 => ?_))
  obtain ⟨e6048, w6050, f6051, z6052, e6049, b6053, p6054⟩ := p6047
  subst e6048
  subst e6049
  show WL _ _ _ _ 1458 [(4, vI i), (3, .ref o), (2, .ref m), (1, .ref x), (0, .ref 0)] [vI z6052] _ H6046
  refine wl_of hX hb cL_1458 (rw_pop (pc' := 1459) rfl rfl ?_)
  refine wl_of hX hb cL_1459 (rw_aload_n (pc' := 1460) (v := .ref m) rfl rfl rfl ?_)
  have k6056 : wKI H6046 m = wKI H m := (wKI_fr hW gm f6051 rfl)
  have k6057 : H6046 x 9 = H x 9 := (f6051 x 9 _ gx rfl)
  have k6058 : H6046 m 6 = H m 6 := (f6051 m 6 _ gm rfl)
  have k6059 : H6046 x 11 = H x 11 := (f6051 x 11 _ gx rfl)
  have k6060 : H6046 m 13 = H m 13 := (f6051 m 13 _ gm rfl)
  have k6061 : H6046 x 8 = H x 8 := (f6051 x 8 _ gx rfl)
  have k6062 : H6046 m 3 = H m 3 := (f6051 m 3 _ gm rfl)
  have h6063 : RB T H6046 m e8 d8 := (RB_fr hW gm f6051 rfl hrb8)
  have h6064 : KNN T H6046 m e8 d8 := (KNN_fr hW gm f6051 rfl hknn8)
  refine wl_of hX hb cL_1460 (xc_V (pc' := 1463) (r := m) (as := []) (st := []) (lm_11_199) rfl rfl (Nat.le_of_ble_eq_true rfl) w6050 gm sh_42 (by decide) rfl (by decide) (u_288 (e := e8) (d := d8) w6050 gm (by omega) (by assumption) (by assumption) (by assumption) (by assumption) h6063 h6064) (fun R6065 T6066 H6067 p6068 => ?_))
  obtain ⟨e6069, w6071, f6072, z6073, e6070, b6074, p6075⟩ := p6068
  subst e6069
  subst e6070
  obtain ⟨a6076, a6077⟩ := p6075
  show WL _ _ _ _ 1463 [(4, vI i), (3, .ref o), (2, .ref m), (1, .ref x), (0, .ref 0)] [vI z6073] _ H6067
  refine wl_of hX hb cL_1463 (rw_pop (pc' := 1464) rfl rfl ?_)
  refine wl_of hX hb cL_1464 (rw_goto (p1 := 1653) (by decide) ?_)
  have k6078 : H6067 x 9 = H6046 x 9 := (f6072 x 9 _ gx rfl)
  have k6079 : H6067 m 6 = H6046 m 6 := (f6072 m 6 _ gm rfl)
  have k6080 : H6067 x 11 = H6046 x 11 := (f6072 x 11 _ gx rfl)
  have k6081 : H6067 m 13 = H6046 m 13 := (f6072 m 13 _ gm rfl)
  have k6082 : H6067 x 8 = H6046 x 8 := (f6072 x 8 _ gx rfl)
  have k6083 : H6067 m 3 = H6046 m 3 := (f6072 m 3 _ gm rfl)
  have k6084 : H6067 x 0 = H x 0 := ((f6072 x 0 _ gx rfl).trans (f6051 x 0 _ gx rfl))
  have q6085 : H6067 x 0 = (tc : Int) := k6084.trans e0
  have k6086 : H6067 m 5 = H m 5 := ((f6072 m 5 _ gm rfl).trans (f6051 m 5 _ gm rfl))
  have q6087 : H6067 m 5 = (tm : Int) := k6086.trans em
  have k6088 : H6067 x 6 = H x 6 := ((f6072 x 6 _ gx rfl).trans (f6051 x 6 _ gx rfl))
  have q6089 : H6067 x 6 = (cu : Int) := k6088.trans ecu
  have k6090 : H6067 x 7 = H x 7 := ((f6072 x 7 _ gx rfl).trans (f6051 x 7 _ gx rfl))
  have q6091 : H6067 x 7 = (dr : Int) := k6090.trans edr
  have h6092 : CEN T H6067 ce8 e8 d8 := (CEN_fr w6050 gce8 f6072 rfl p6054)
  have h6093 : TP T H6067 tc B := (TP_fr w6050 gtc f6072 rfl (TP_fr hW gtc f6051 rfl htc))
  have h6094 : TM T H6067 tm B := (TM_fr w6050 gtm f6072 rfl (TM_fr hW gtm f6051 rfl htm))
  have h6095 : DD T H6067 cu  := (DD_fr w6050 gcu f6072 rfl (DD_fr hW gcu f6051 rfl hcu))
  have h6096 : DD T H6067 dr  := (DD_fr w6050 gdr f6072 rfl (DD_fr hW gdr f6051 rfl hdr))
  have h6097 : DE T H6067 cu  := (DE_fr w6050 gcu f6072 rfl (DE_fr hW gcu f6051 rfl hdec))
  have h6098 : DE T H6067 dr  := (DE_fr w6050 gdr f6072 rfl (DE_fr hW gdr f6051 rfl hded))
  have h6099 : SP T H6067 x C8 := (SP_fr w6050 gx f6072 rfl (SP_fr hW gx f6051 rfl hsp))
  have h6100 : CU T H6067 cu e8 d8 n8 := (CU_fr w6050 gcu f6072 rfl (CU_fr hW gcu f6051 rfl hcu8))
  have h6101 : CG T H6067 cu (d8 0 3) g8 := (CG_fr w6050 gcu f6072 rfl (CG_fr hW gcu f6051 rfl hcg8))
  have k6102 : H6067 x 3 = H x 3 := ((f6072 x 3 _ gx rfl).trans (f6051 x 3 _ gx rfl))
  have q6103 : H6067 x 3 = (ce8 : Int) := k6102.trans ece8
  have h6104 : HDR T H6067 ce8  := (HDR_fr w6050 gce8 f6072 rfl (HDR_fr hW gce8 f6051 rfl hhdr8))
  have h6105 : MN26 T H6067 m (d8 0 3) g8 := (MN26_fr w6050 gm f6072 rfl (MN26_fr hW gm f6051 rfl hmn8))
  have h6106 : RB T H6067 m e8 d8 := (RB_fr w6050 gm f6072 rfl h6063)
  exact WL.loc hX (by simp) (next T H6067 ⟨⟨w6071, g0, gx, gm, go, by omega, by omega⟩, ⟨_, tc, tm, cu, dr, _, _, _, _, _, ce8, q6085, gtc, h6093, q6087, gtm, h6094, q6089, gcu, q6091, gdr, h6095, h6096, h6097, h6098, h6099, hC1, hC2, h6100, h6106, h6101, h6105, hE, hZ, (by omega), (by assumption), (by omega), (by first | assumption | exact SG_0), q6103, gce8, h6092, h6104, a6077, gm⟩, by omega, by omega⟩ (by omega) (by omega))
