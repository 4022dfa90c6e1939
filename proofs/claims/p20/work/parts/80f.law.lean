/-! THE LAW, GONE ON WITH (own work) -/
set_option maxHeartbeats 4000000 in
theorem wl_c36 {kt : Nat → Option mc_E} {CB SB : Nat} {X : mc_S → Prop} {T : wq_T} {H : wq_H} {Len x m o : Nat} {i : Int} (hX : wlX kt CB SB X) (hb : T.2.1 ≤ CB ∧ T.2.2.1 ≤ SB) (hI : wlJ Len x m o T H) (hL : Len ≤ 3072) (hi : 0 ≤ i ∧ i + 6 ≤ Len) (hb2 : T.2.1 + 20 ≤ CB ∧ T.2.2.1 + 500 ≤ SB)  (next : ∀ T' H', wlJ Len x m o T' H' → T'.2.1 ≤ T.2.1 + 20 → T'.2.2.1 ≤ T.2.2.1 + 500 → WL kt CB SB X 1653 (wlL i x m o) [] T' H') : WL kt CB SB X 1316 (wlL i x m o) [] T H := by
  obtain ⟨⟨hW, g0, gx, gm, go, hK, hr⟩, hXI, hY1, hY2⟩ := hI
  refine wl_of hX hb cL_1316 (rw_aload_n (pc' := 1317) (v := .ref x) rfl rfl rfl ?_)
  obtain ⟨B, tc, tm, cu, dr, C8, e8, d8, n8, g8, ce8, e0, gtc, htc, em, gtm, htm, ecu, gcu, edr, gdr, hcu, hdr, hdec, hded, hsp, hC1, hC2, hcu8, hrb8, hcg8, hmn8, hE, hZ, hn8, hXA, hV8, hSG, ece8, gce8, hcen8, hhdr8, hknn8, -⟩ := hXI
  have hN3 := RB_n3 hrb8
  have hE13 : ∀ h : Nat, h < 24 → 0 ≤ e8 13 h ∧ e8 13 h ≤ 100 := fun k hk => by
    obtain ⟨s, h1, h2, h3⟩ := hcu8.1.2.2.1
    exact ⟨(h3 k hk).1, (h3 k hk).2.1⟩
  have hXW := hXA.1
  have hXN := hXA.2
  have hE0 : e8 0 3 = d8 0 3 ∧ e8 0 0 = d8 0 0 := by
    have h := hE 0 (by decide)
    exact ⟨congrFun h 3, congrFun h 0⟩
  have u5345 := CU_k hcu8
  have h5346 : CY T H cu (d8 0 3) g8 (H cu 17) := ⟨hcg8, rfl⟩
  have h5347 : RY T H m (d8 0 3) g8 (H m 32) := ⟨hmn8, rfl⟩
  obtain ⟨t9, ht9⟩ : ∃ t : Int, t = H x 9 := ⟨_, rfl⟩
  obtain ⟨r5348, q5349, g5350⟩ := hW.ref gx (t' := 6) (n := 13) (j := 2) (p := 0) (q := 0) rfl (by decide) rfl
  refine wl_of hX hb cL_1317 (xc_V (pc' := 1320) (r := x) (as := []) (st := []) (lm_11_171) rfl rfl (Nat.le_of_ble_eq_true rfl) hW gx sh_1 (by decide) rfl (by decide) (u_147 (e := e8) (d := d8) (n := n8) hW gx ecu gcu q5349 g5350 ece8 gce8 (by assumption) (by assumption) (by omega) (by omega) (by omega) (by omega) hcu8 hcen8 hhdr8) (fun R5351 T5352 H5353 p5354 => ?_))
  obtain ⟨e5355, w5357, f5358, z5359, e5356, b5360, p5361⟩ := p5354
  subst e5355
  subst e5356
  show WL _ _ _ _ 1320 [(4, vI i), (3, .ref o), (2, .ref m), (1, .ref x), (0, .ref 0)] [vI z5359] _ H5353
  refine wl_of hX hb cL_1320 (rw_pop (pc' := 1321) rfl rfl ?_)
  refine wl_of hX hb cL_1321 (rw_aload_n (pc' := 1322) (v := .ref m) rfl rfl rfl ?_)
  have k5363 : wKI H5353 m = wKI H m := (wKI_fr hW gm f5358 rfl)
  have k5364 : H5353 x 9 = H x 9 := (f5358 x 9 _ gx rfl)
  have k5365 : H5353 m 6 = H m 6 := (f5358 m 6 _ gm rfl)
  have k5366 : H5353 x 11 = H x 11 := (f5358 x 11 _ gx rfl)
  have k5367 : H5353 m 13 = H m 13 := (f5358 m 13 _ gm rfl)
  have k5368 : H5353 x 8 = H x 8 := (f5358 x 8 _ gx rfl)
  have k5369 : H5353 m 3 = H m 3 := (f5358 m 3 _ gm rfl)
  have h5370 : RB T H5353 m e8 d8 := (RB_fr hW gm f5358 rfl hrb8)
  have h5371 : KNN T H5353 m e8 d8 := (KNN_fr hW gm f5358 rfl hknn8)
  refine wl_of hX hb cL_1322 (xc_V (pc' := 1325) (r := m) (as := []) (st := []) (lm_11_174) rfl rfl (Nat.le_of_ble_eq_true rfl) w5357 gm sh_42 (by decide) rfl (by decide) (u_282 (e := e8) (d := d8) w5357 gm (by omega) (by assumption) (by assumption) (by assumption) (by assumption) h5370 h5371) (fun R5372 T5373 H5374 p5375 => ?_))
  obtain ⟨e5376, w5378, f5379, z5380, e5377, b5381, p5382⟩ := p5375
  subst e5376
  subst e5377
  obtain ⟨a5383, a5384⟩ := p5382
  show WL _ _ _ _ 1325 [(4, vI i), (3, .ref o), (2, .ref m), (1, .ref x), (0, .ref 0)] [vI z5380] _ H5374
  refine wl_of hX hb cL_1325 (rw_pop (pc' := 1326) rfl rfl ?_)
  refine wl_of hX hb cL_1326 (rw_goto (p1 := 1653) (by decide) ?_)
  have k5385 : H5374 x 9 = H5353 x 9 := (f5379 x 9 _ gx rfl)
  have k5386 : H5374 m 6 = H5353 m 6 := (f5379 m 6 _ gm rfl)
  have k5387 : H5374 x 11 = H5353 x 11 := (f5379 x 11 _ gx rfl)
  have k5388 : H5374 m 13 = H5353 m 13 := (f5379 m 13 _ gm rfl)
  have k5389 : H5374 x 8 = H5353 x 8 := (f5379 x 8 _ gx rfl)
  have k5390 : H5374 m 3 = H5353 m 3 := (f5379 m 3 _ gm rfl)
  have k5391 : H5374 x 0 = H x 0 := ((f5379 x 0 _ gx rfl).trans (f5358 x 0 _ gx rfl))
  have q5392 : H5374 x 0 = (tc : Int) := k5391.trans e0
  have k5393 : H5374 m 5 = H m 5 := ((f5379 m 5 _ gm rfl).trans (f5358 m 5 _ gm rfl))
  have q5394 : H5374 m 5 = (tm : Int) := k5393.trans em
  have k5395 : H5374 x 6 = H x 6 := ((f5379 x 6 _ gx rfl).trans (f5358 x 6 _ gx rfl))
  have q5396 : H5374 x 6 = (cu : Int) := k5395.trans ecu
  have k5397 : H5374 x 7 = H x 7 := ((f5379 x 7 _ gx rfl).trans (f5358 x 7 _ gx rfl))
  have q5398 : H5374 x 7 = (dr : Int) := k5397.trans edr
  have h5399 : TP T H5374 tc B := (TP_fr w5357 gtc f5379 rfl (TP_fr hW gtc f5358 rfl htc))
  have h5400 : TM T H5374 tm B := (TM_fr w5357 gtm f5379 rfl (TM_fr hW gtm f5358 rfl htm))
  have h5401 : DD T H5374 cu  := (DD_fr w5357 gcu f5379 rfl (DD_fr hW gcu f5358 rfl hcu))
  have h5402 : DD T H5374 dr  := (DD_fr w5357 gdr f5379 rfl (DD_fr hW gdr f5358 rfl hdr))
  have h5403 : DE T H5374 cu  := (DE_fr w5357 gcu f5379 rfl (DE_fr hW gcu f5358 rfl hdec))
  have h5404 : DE T H5374 dr  := (DE_fr w5357 gdr f5379 rfl (DE_fr hW gdr f5358 rfl hded))
  have h5405 : SP T H5374 x C8 := (SP_fr w5357 gx f5379 rfl (SP_fr hW gx f5358 rfl hsp))
  have h5406 : CU T H5374 cu e8 d8 n8 := (CU_fr w5357 gcu f5379 rfl (CU_fr hW gcu f5358 rfl hcu8))
  have h5407 : CY T H5374 cu (d8 0 3) g8 (H cu 17) := (CY_fr w5357 gcu f5379 rfl (CY_fr hW gcu f5358 rfl h5346))
  have k5408 : H5374 x 3 = H x 3 := ((f5379 x 3 _ gx rfl).trans (f5358 x 3 _ gx rfl))
  have q5409 : H5374 x 3 = (ce8 : Int) := k5408.trans ece8
  have h5410 : CEN T H5374 ce8 e8 d8 := (CEN_fr w5357 gce8 f5379 rfl p5361)
  have h5411 : HDR T H5374 ce8  := (HDR_fr w5357 gce8 f5379 rfl (HDR_fr hW gce8 f5358 rfl hhdr8))
  have h5412 : RY T H5374 m (d8 0 3) g8 (H m 32) := (RY_fr w5357 gm f5379 rfl (RY_fr hW gm f5358 rfl h5347))
  have h5413 : RB T H5374 m e8 d8 := (RB_fr w5357 gm f5379 rfl h5370)
  exact WL.loc hX (by simp) (next T H5374 ⟨⟨w5378, g0, gx, gm, go, by omega, by omega⟩, ⟨_, tc, tm, cu, dr, _, _, _, _, _, ce8, q5392, gtc, h5399, q5394, gtm, h5400, q5396, gcu, q5398, gdr, h5401, h5402, h5403, h5404, h5405, hC1, hC2, h5406, h5413, (h5407).1, (h5412).1, hE, hZ, (by omega), (by assumption), (by omega), (by first | assumption | exact SG_0), q5409, gce8, h5410, h5411, a5384, gm⟩, by omega, by omega⟩ (by omega) (by omega))
set_option maxHeartbeats 4000000 in
theorem wl_c37 {kt : Nat → Option mc_E} {CB SB : Nat} {X : mc_S → Prop} {T : wq_T} {H : wq_H} {Len x m o : Nat} {i : Int} (hX : wlX kt CB SB X) (hb : T.2.1 ≤ CB ∧ T.2.2.1 ≤ SB) (hI : wlJ Len x m o T H) (hL : Len ≤ 3072) (hi : 0 ≤ i ∧ i + 6 ≤ Len) (hb2 : T.2.1 + 20 ≤ CB ∧ T.2.2.1 + 500 ≤ SB)  (next : ∀ T' H', wlJ Len x m o T' H' → T'.2.1 ≤ T.2.1 + 20 → T'.2.2.1 ≤ T.2.2.1 + 500 → WL kt CB SB X 1653 (wlL i x m o) [] T' H') : WL kt CB SB X 1329 (wlL i x m o) [] T H := by
  obtain ⟨⟨hW, g0, gx, gm, go, hK, hr⟩, hXI, hY1, hY2⟩ := hI
  refine wl_of hX hb cL_1329 (rw_aload_n (pc' := 1330) (v := .ref x) rfl rfl rfl ?_)
  refine wl_of hX hb cL_1330 (xc_V (pc' := 1333) (r := x) (as := []) (st := []) (lm_11_175) rfl rfl (Nat.le_of_ble_eq_true rfl) hW gx sh_1 (by decide) rfl (by decide) (s_149 hW gx) (fun R5414 T5415 H5416 p5417 => ?_))
  obtain ⟨e5418, w5420, f5421, z5422, e5419, b5423⟩ := p5417
  subst e5418
  subst e5419
  show WL _ _ _ _ 1333 [(4, vI i), (3, .ref o), (2, .ref m), (1, .ref x), (0, .ref 0)] [vI z5422] _ H5416
  refine wl_of hX hb cL_1333 (rw_pop (pc' := 1334) rfl rfl ?_)
  refine wl_of hX hb cL_1334 (rw_aload_n (pc' := 1335) (v := .ref m) rfl rfl rfl ?_)
  have k5424 : wKI H5416 m = wKI H m := (wKI_fr hW gm f5421 rfl)
  have k5425 : H5416 x 9 = H x 9 := (f5421 x 9 _ gx rfl)
  have k5426 : H5416 m 6 = H m 6 := (f5421 m 6 _ gm rfl)
  have k5427 : H5416 x 11 = H x 11 := (f5421 x 11 _ gx rfl)
  have k5428 : H5416 m 13 = H m 13 := (f5421 m 13 _ gm rfl)
  have k5429 : H5416 x 8 = H x 8 := (f5421 x 8 _ gx rfl)
  have k5430 : H5416 m 3 = H m 3 := (f5421 m 3 _ gm rfl)
  refine wl_of hX hb cL_1335 (xc_V (pc' := 1338) (r := m) (as := []) (st := []) (lm_11_178) rfl rfl (Nat.le_of_ble_eq_true rfl) w5420 gm sh_42 (by decide) rfl (by decide) (s_283 w5420 gm (by omega)) (fun R5431 T5432 H5433 p5434 => ?_))
  obtain ⟨e5435, w5437, f5438, z5440, e5436, b5441, p5439⟩ := p5434
  subst e5435
  subst e5436
  show WL _ _ _ _ 1338 [(4, vI i), (3, .ref o), (2, .ref m), (1, .ref x), (0, .ref 0)] [vI z5440] _ H5433
  refine wl_of hX hb cL_1338 (rw_pop (pc' := 1339) rfl rfl ?_)
  refine wl_of hX hb cL_1339 (rw_goto (p1 := 1653) (by decide) ?_)
  have k5442 : H5433 x 9 = H5416 x 9 := (f5438 x 9 _ gx rfl)
  have k5443 : H5433 m 6 = H5416 m 6 := (f5438 m 6 _ gm rfl)
  have k5444 : H5433 x 11 = H5416 x 11 := (f5438 x 11 _ gx rfl)
  have k5445 : H5433 m 13 = H5416 m 13 := (f5438 m 13 _ gm rfl)
  have k5446 : H5433 x 8 = H5416 x 8 := (f5438 x 8 _ gx rfl)
  have k5447 : H5433 m 3 = H5416 m 3 := (f5438 m 3 _ gm rfl)
  have h5448 : XI T H5433 x m := (XI_fr w5420 gx f5438 rfl (XI_fr hW gx f5421 rfl hXI))
  exact WL.loc hX (by simp) (next T H5433 ⟨⟨w5437, g0, gx, gm, go, by omega, by omega⟩, h5448, by omega, by omega⟩ (by omega) (by omega))
set_option maxHeartbeats 4000000 in
theorem wl_c38 {kt : Nat → Option mc_E} {CB SB : Nat} {X : mc_S → Prop} {T : wq_T} {H : wq_H} {Len x m o : Nat} {i : Int} (hX : wlX kt CB SB X) (hb : T.2.1 ≤ CB ∧ T.2.2.1 ≤ SB) (hI : wlJ Len x m o T H) (hL : Len ≤ 3072) (hi : 0 ≤ i ∧ i + 6 ≤ Len) (hb2 : T.2.1 + 20 ≤ CB ∧ T.2.2.1 + 500 ≤ SB)  (next : ∀ T' H', wlJ Len x m o T' H' → T'.2.1 ≤ T.2.1 + 20 → T'.2.2.1 ≤ T.2.2.1 + 500 → WL kt CB SB X 1653 (wlL i x m o) [] T' H') : WL kt CB SB X 1342 (wlL i x m o) [] T H := by
  obtain ⟨⟨hW, g0, gx, gm, go, hK, hr⟩, hXI, hY1, hY2⟩ := hI
  refine wl_of hX hb cL_1342 (rw_aload_n (pc' := 1343) (v := .ref x) rfl rfl rfl ?_)
  refine wl_of hX hb cL_1343 (rw_aload_n (pc' := 1344) (v := .ref 0) rfl rfl rfl ?_)
  refine wl_of hX hb cL_1344 (rw_iload (pc' := 1346) (z := i) rfl rfl ?_)
  refine wl_of hX hb cL_1346 (rw_iconst (pc' := 1347) rfl ?_)
  refine wl_of hX hb cL_1347 (rw_iadd (pc' := 1348) rfl ?_)
  refine wl_of hX hb cL_1348 (xa_I (so := 0) (pc' := 1349) (a := 0) hW g0 (wsh_s _) (by omega) (wty_s _ _) (by omega) (by omega) rfl (fun b5449 b5450 => ?_))
  refine wl_of hX hb cL_1349 (xc_V (pc' := 1352) (r := x) (as := [vI (H 0 ((i + 1).toNat))]) (st := []) (lm_11_179) rfl rfl (Nat.le_of_ble_eq_true rfl) hW gx sh_1 (by decide) rfl (by decide) (s_152 hW gx ⟨by omega, by omega⟩) (fun R5451 T5452 H5453 p5454 => ?_))
  obtain ⟨e5455, w5457, f5458, z5459, e5456, b5460⟩ := p5454
  subst e5455
  subst e5456
  show WL _ _ _ _ 1352 [(4, vI i), (3, .ref o), (2, .ref m), (1, .ref x), (0, .ref 0)] [vI z5459] _ H5453
  refine wl_of hX hb cL_1352 (rw_pop (pc' := 1353) rfl rfl ?_)
  refine wl_of hX hb cL_1353 (rw_aload_n (pc' := 1354) (v := .ref m) rfl rfl rfl ?_)
  refine wl_of hX hb cL_1354 (rw_aload_n (pc' := 1355) (v := .ref 0) rfl rfl rfl ?_)
  refine wl_of hX hb cL_1355 (rw_iload (pc' := 1357) (z := i) rfl rfl ?_)
  refine wl_of hX hb cL_1357 (rw_iconst (pc' := 1358) rfl ?_)
  refine wl_of hX hb cL_1358 (rw_iadd (pc' := 1359) rfl ?_)
  have k5463 : H5453 0 ((i + 1).toNat) = H 0 ((i + 1).toNat) := (f5458 0 ((i + 1).toNat) _ g0 (wmem_s rfl))
  refine wl_of hX hb cL_1359 (xa_I (so := 0) (pc' := 1360) (a := 0) w5457 g0 (wsh_s _) (by omega) (wty_s _ _) (by omega) (by omega) rfl (fun b5461 b5462 => ?_))
  have k5464 : wKI H5453 m = wKI H m := (wKI_fr hW gm f5458 rfl)
  have k5465 : H5453 x 9 = H x 9 := (f5458 x 9 _ gx rfl)
  have k5466 : H5453 m 6 = H m 6 := (f5458 m 6 _ gm rfl)
  have k5467 : H5453 x 11 = H x 11 := (f5458 x 11 _ gx rfl)
  have k5468 : H5453 m 13 = H m 13 := (f5458 m 13 _ gm rfl)
  have k5469 : H5453 x 8 = H x 8 := (f5458 x 8 _ gx rfl)
  have k5470 : H5453 m 3 = H m 3 := (f5458 m 3 _ gm rfl)
  refine wl_of hX hb cL_1360 (xc_V (pc' := 1363) (r := m) (as := [vI (H5453 0 ((i + 1).toNat))]) (st := []) (lm_11_182) rfl rfl (Nat.le_of_ble_eq_true rfl) w5457 gm sh_42 (by decide) rfl (by decide) (s_284 w5457 gm ⟨by omega, by omega⟩ (by omega)) (fun R5471 T5472 H5473 p5474 => ?_))
  obtain ⟨e5475, w5477, f5478, z5480, e5476, b5481, p5479⟩ := p5474
  subst e5475
  subst e5476
  show WL _ _ _ _ 1363 [(4, vI i), (3, .ref o), (2, .ref m), (1, .ref x), (0, .ref 0)] [vI z5480] _ H5473
  refine wl_of hX hb cL_1363 (rw_pop (pc' := 1364) rfl rfl ?_)
  refine wl_of hX hb cL_1364 (rw_goto (p1 := 1653) (by decide) ?_)
  have k5482 : H5473 x 9 = H5453 x 9 := (f5478 x 9 _ gx rfl)
  have k5483 : H5473 m 6 = H5453 m 6 := (f5478 m 6 _ gm rfl)
  have k5484 : H5473 x 11 = H5453 x 11 := (f5478 x 11 _ gx rfl)
  have k5485 : H5473 m 13 = H5453 m 13 := (f5478 m 13 _ gm rfl)
  have k5486 : H5473 x 8 = H5453 x 8 := (f5478 x 8 _ gx rfl)
  have k5487 : H5473 m 3 = H5453 m 3 := (f5478 m 3 _ gm rfl)
  have h5488 : XI T H5473 x m := (XI_fr w5457 gx f5478 rfl (XI_fr hW gx f5458 rfl hXI))
  exact WL.loc hX (by simp) (next T H5473 ⟨⟨w5477, g0, gx, gm, go, by omega, by omega⟩, h5488, by omega, by omega⟩ (by omega) (by omega))
set_option maxHeartbeats 4000000 in
theorem wl_c39 {kt : Nat → Option mc_E} {CB SB : Nat} {X : mc_S → Prop} {T : wq_T} {H : wq_H} {Len x m o : Nat} {i : Int} (hX : wlX kt CB SB X) (hb : T.2.1 ≤ CB ∧ T.2.2.1 ≤ SB) (hI : wlJ Len x m o T H) (hL : Len ≤ 3072) (hi : 0 ≤ i ∧ i + 6 ≤ Len) (hb2 : T.2.1 + 20 ≤ CB ∧ T.2.2.1 + 500 ≤ SB)  (next : ∀ T' H', wlJ Len x m o T' H' → T'.2.1 ≤ T.2.1 + 20 → T'.2.2.1 ≤ T.2.2.1 + 500 → WL kt CB SB X 1653 (wlL i x m o) [] T' H') : WL kt CB SB X 1367 (wlL i x m o) [] T H := by
  obtain ⟨⟨hW, g0, gx, gm, go, hK, hr⟩, hXI, hY1, hY2⟩ := hI
  refine wl_of hX hb cL_1367 (rw_aload_n (pc' := 1368) (v := .ref x) rfl rfl rfl ?_)
  refine wl_of hX hb cL_1368 (rw_aload_n (pc' := 1369) (v := .ref 0) rfl rfl rfl ?_)
  refine wl_of hX hb cL_1369 (rw_iload (pc' := 1371) (z := i) rfl rfl ?_)
  refine wl_of hX hb cL_1371 (rw_iconst (pc' := 1372) rfl ?_)
  refine wl_of hX hb cL_1372 (rw_iadd (pc' := 1373) rfl ?_)
  refine wl_of hX hb cL_1373 (xa_I (so := 0) (pc' := 1374) (a := 0) hW g0 (wsh_s _) (by omega) (wty_s _ _) (by omega) (by omega) rfl (fun b5489 b5490 => ?_))
  refine wl_of hX hb cL_1374 (rw_aload_n (pc' := 1375) (v := .ref 0) rfl rfl rfl ?_)
  refine wl_of hX hb cL_1375 (rw_iload (pc' := 1377) (z := i) rfl rfl ?_)
  refine wl_of hX hb cL_1377 (rw_iconst (pc' := 1378) rfl ?_)
  refine wl_of hX hb cL_1378 (rw_iadd (pc' := 1379) rfl ?_)
  refine wl_of hX hb cL_1379 (xa_I (so := 0) (pc' := 1380) (a := 0) hW g0 (wsh_s _) (by omega) (wty_s _ _) (by omega) (by omega) rfl (fun b5491 b5492 => ?_))
  obtain ⟨B, tc, tm, cu, dr, C8, e8, d8, n8, g8, ce8, e0, gtc, htc, em, gtm, htm, ecu, gcu, edr, gdr, hcu, hdr, hdec, hded, hsp, hC1, hC2, hcu8, hrb8, hcg8, hmn8, hE, hZ, hn8, hXA, hV8, hSG, ece8, gce8, hcen8, hhdr8, hknn8, -⟩ := hXI
  have hN3 := RB_n3 hrb8
  have hE13 : ∀ h : Nat, h < 24 → 0 ≤ e8 13 h ∧ e8 13 h ≤ 100 := fun k hk => by
    obtain ⟨s, h1, h2, h3⟩ := hcu8.1.2.2.1
    exact ⟨(h3 k hk).1, (h3 k hk).2.1⟩
  have hXW := hXA.1
  have hXN := hXA.2
  have hE0 : e8 0 3 = d8 0 3 ∧ e8 0 0 = d8 0 0 := by
    have h := hE 0 (by decide)
    exact ⟨congrFun h 3, congrFun h 0⟩
  have u5493 := CU_k hcu8
  have h5494 : CY T H cu (d8 0 3) g8 (H cu 17) := ⟨hcg8, rfl⟩
  have h5495 : RY T H m (d8 0 3) g8 (H m 32) := ⟨hmn8, rfl⟩
  obtain ⟨t9, ht9⟩ : ∃ t : Int, t = H x 9 := ⟨_, rfl⟩
  obtain ⟨y9, hy9⟩ : ∃ y : Int, y = H 0 ((i + 2).toNat) := ⟨_, rfl⟩
  refine wl_of hX hb cL_1380 (xc_V (pc' := 1383) (r := x) (as := [vI (H 0 ((i + 1).toNat)), vI (H 0 ((i + 2).toNat))]) (st := []) (lm_11_183) rfl rfl (Nat.le_of_ble_eq_true rfl) hW gx sh_1 (by decide) rfl (by decide) (u_153 (e := e8) (d := d8) (n := n8) (y := ((H 0 ((i + 1).toNat)))) (w := (((H 0 ((i + 2).toNat)) + 1))) hW gx ⟨by omega, by omega⟩ ⟨by omega, by omega⟩ ecu gcu ece8 gce8 (by omega) (by omega) (by omega) (by omega) hcu8 hcen8) (fun R5496 T5497 H5498 p5499 => ?_))
  obtain ⟨e5500, w5502, f5503, z5504, e5501, b5505, p5506⟩ := p5499
  subst e5500
  subst e5501
  rcases p5506 with ⟨a5507, a5508, a5509, a5510⟩ | ⟨a5511, a5512, a5513, a5514, a5515⟩
  · show WL _ _ _ _ 1383 [(4, vI i), (3, .ref o), (2, .ref m), (1, .ref x), (0, .ref 0)] [vI z5504] _ H5498
    have u5516 := CU_k a5509
    refine wl_of hX hb cL_1383 (rw_pop (pc' := 1384) rfl rfl ?_)
    refine wl_of hX hb cL_1384 (rw_aload_n (pc' := 1385) (v := .ref m) rfl rfl rfl ?_)
    refine wl_of hX hb cL_1385 (rw_aload_n (pc' := 1386) (v := .ref 0) rfl rfl rfl ?_)
    refine wl_of hX hb cL_1386 (rw_iload (pc' := 1388) (z := i) rfl rfl ?_)
    refine wl_of hX hb cL_1388 (rw_iconst (pc' := 1389) rfl ?_)
    refine wl_of hX hb cL_1389 (rw_iadd (pc' := 1390) rfl ?_)
    have k5519 : H5498 0 ((i + 1).toNat) = H 0 ((i + 1).toNat) := (f5503 0 ((i + 1).toNat) _ g0 (wmem_s rfl))
    refine wl_of hX hb cL_1390 (xa_I (so := 0) (pc' := 1391) (a := 0) w5502 g0 (wsh_s _) (by omega) (wty_s _ _) (by omega) (by omega) rfl (fun b5517 b5518 => ?_))
    refine wl_of hX hb cL_1391 (rw_aload_n (pc' := 1392) (v := .ref 0) rfl rfl rfl ?_)
    refine wl_of hX hb cL_1392 (rw_iload (pc' := 1394) (z := i) rfl rfl ?_)
    refine wl_of hX hb cL_1394 (rw_iconst (pc' := 1395) rfl ?_)
    refine wl_of hX hb cL_1395 (rw_iadd (pc' := 1396) rfl ?_)
    have k5522 : H5498 0 ((i + 2).toNat) = H 0 ((i + 2).toNat) := (f5503 0 ((i + 2).toNat) _ g0 (wmem_s rfl))
    refine wl_of hX hb cL_1396 (xa_I (so := 0) (pc' := 1397) (a := 0) w5502 g0 (wsh_s _) (by omega) (wty_s _ _) (by omega) (by omega) rfl (fun b5520 b5521 => ?_))
    have k5523 : wKI H5498 m = wKI H m := (wKI_fr hW gm f5503 rfl)
    have k5524 : H5498 x 9 = H x 9 := (f5503 x 9 _ gx rfl)
    have k5525 : H5498 m 6 = H m 6 := (f5503 m 6 _ gm rfl)
    have k5526 : H5498 x 11 = H x 11 := (f5503 x 11 _ gx rfl)
    have k5527 : H5498 m 13 = H m 13 := (f5503 m 13 _ gm rfl)
    have k5528 : H5498 x 8 = H x 8 := (f5503 x 8 _ gx rfl)
    have k5529 : H5498 m 3 = H m 3 := (f5503 m 3 _ gm rfl)
    rw [show H5498 0 ((i + 2).toNat) = H 0 ((i + 2).toNat) by omega]
    rw [show H5498 0 ((i + 1).toNat) = H 0 ((i + 1).toNat) by omega]
    have h5530 : RB T H5498 m e8 d8 := (RB_fr hW gm f5503 rfl hrb8)
    have h5531 : KNN T H5498 m e8 d8 := (KNN_fr hW gm f5503 rfl hknn8)
    refine wl_of hX hb cL_1397 (xc_V (pc' := 1400) (r := m) (as := [vI (H 0 ((i + 1).toNat)), vI (H 0 ((i + 2).toNat))]) (st := []) (lm_11_186) rfl rfl (Nat.le_of_ble_eq_true rfl) w5502 gm sh_42 (by decide) rfl (by decide) (u_285 (e := e8) (d := d8) (y := ((H 0 ((i + 1).toNat)))) (w := (((H 0 ((i + 2).toNat)) + 1))) w5502 gm ⟨by omega, by omega⟩ ⟨by omega, by omega⟩ (by omega) (by omega) (by omega) h5530 h5531) (fun R5532 T5533 H5534 p5535 => ?_))
    obtain ⟨e5536, w5538, f5539, z5540, e5537, b5541, p5542⟩ := p5535
    subst e5536
    subst e5537
    rcases p5542 with ⟨a5543, a5544, a5545, a5546, a5547⟩ | ⟨a5548, a5549, a5550, a5551, a5552⟩
    · show WL _ _ _ _ 1400 [(4, vI i), (3, .ref o), (2, .ref m), (1, .ref x), (0, .ref 0)] [vI z5540] _ H5534
      refine wl_of hX hb cL_1400 (rw_pop (pc' := 1401) rfl rfl ?_)
      refine wl_of hX hb cL_1401 (rw_goto (p1 := 1653) (by decide) ?_)
      have k5553 : H5534 x 9 = H5498 x 9 := (f5539 x 9 _ gx rfl)
      have k5554 : H5534 m 6 = H5498 m 6 := (f5539 m 6 _ gm rfl)
      have k5555 : H5534 x 11 = H5498 x 11 := (f5539 x 11 _ gx rfl)
      have k5556 : H5534 m 13 = H5498 m 13 := (f5539 m 13 _ gm rfl)
      have k5557 : H5534 x 8 = H5498 x 8 := (f5539 x 8 _ gx rfl)
      have k5558 : H5534 m 3 = H5498 m 3 := (f5539 m 3 _ gm rfl)
      have k5559 : H5534 x 0 = H x 0 := ((f5539 x 0 _ gx rfl).trans (f5503 x 0 _ gx rfl))
      have q5560 : H5534 x 0 = (tc : Int) := k5559.trans e0
      have k5561 : H5534 m 5 = H m 5 := ((f5539 m 5 _ gm rfl).trans (f5503 m 5 _ gm rfl))
      have q5562 : H5534 m 5 = (tm : Int) := k5561.trans em
      have k5563 : H5534 x 6 = H x 6 := ((f5539 x 6 _ gx rfl).trans (f5503 x 6 _ gx rfl))
      have q5564 : H5534 x 6 = (cu : Int) := k5563.trans ecu
      have k5565 : H5534 x 7 = H x 7 := ((f5539 x 7 _ gx rfl).trans (f5503 x 7 _ gx rfl))
      have q5566 : H5534 x 7 = (dr : Int) := k5565.trans edr
      have h5567 : TP T H5534 tc B := (TP_fr w5502 gtc f5539 rfl (TP_fr hW gtc f5503 rfl htc))
      have h5568 : TM T H5534 tm B := (TM_fr w5502 gtm f5539 rfl (TM_fr hW gtm f5503 rfl htm))
      have h5569 : DD T H5534 cu  := (DD_fr w5502 gcu f5539 rfl (DD_fr hW gcu f5503 rfl hcu))
      have h5570 : DD T H5534 dr  := (DD_fr w5502 gdr f5539 rfl (DD_fr hW gdr f5503 rfl hdr))
      have h5571 : DE T H5534 cu  := (DE_fr w5502 gcu f5539 rfl (DE_fr hW gcu f5503 rfl hdec))
      have h5572 : DE T H5534 dr  := (DE_fr w5502 gdr f5539 rfl (DE_fr hW gdr f5503 rfl hded))
      have h5573 : SP T H5534 x C8 := (SP_fr w5502 gx f5539 rfl (SP_fr hW gx f5503 rfl hsp))
      have h5574 : CU T H5534 cu e8 d8 n8 := (CU_fr w5502 gcu f5539 rfl a5509)
      have h5575 : CY T H5534 cu (d8 0 3) g8 (H cu 17) := (CY_fr w5502 gcu f5539 rfl (CY_fr hW gcu f5503 rfl h5494))
      have k5576 : H5534 x 3 = H x 3 := ((f5539 x 3 _ gx rfl).trans (f5503 x 3 _ gx rfl))
      have q5577 : H5534 x 3 = (ce8 : Int) := k5576.trans ece8
      have h5578 : CEN T H5534 ce8 e8 d8 := (CEN_fr w5502 gce8 f5539 rfl a5510)
      have h5579 : HDR T H5534 ce8  := (HDR_fr w5502 gce8 f5539 rfl (HDR_fr hW gce8 f5503 rfl hhdr8))
      have h5580 : RY T H5534 m (d8 0 3) g8 (H m 32) := (RY_fr w5502 gm f5539 rfl (RY_fr hW gm f5503 rfl h5495))
      exact WL.loc hX (by simp) (next T H5534 ⟨⟨w5538, g0, gx, gm, go, by omega, by omega⟩, ⟨_, tc, tm, cu, dr, _, _, _, _, _, ce8, q5560, gtc, h5567, q5562, gtm, h5568, q5564, gcu, q5566, gdr, h5569, h5570, h5571, h5572, h5573, hC1, hC2, h5574, a5546, (h5575).1, (h5580).1, hE, hZ, (by omega), (by assumption), (by omega), (by first | assumption | exact SG_0), q5577, gce8, h5578, h5579, a5547, gm⟩, by omega, by omega⟩ (by omega) (by omega))
    · show WL _ _ _ _ 1400 [(4, vI i), (3, .ref o), (2, .ref m), (1, .ref x), (0, .ref 0)] [vI z5540] _ H5534
      refine wl_of hX hb cL_1400 (rw_pop (pc' := 1401) rfl rfl ?_)
      refine wl_of hX hb cL_1401 (rw_goto (p1 := 1653) (by decide) ?_)
      have k5581 : H5534 x 9 = H5498 x 9 := (f5539 x 9 _ gx rfl)
      have k5582 : H5534 m 6 = H5498 m 6 := (f5539 m 6 _ gm rfl)
      have k5583 : H5534 x 11 = H5498 x 11 := (f5539 x 11 _ gx rfl)
      have k5584 : H5534 m 13 = H5498 m 13 := (f5539 m 13 _ gm rfl)
      have k5585 : H5534 x 8 = H5498 x 8 := (f5539 x 8 _ gx rfl)
      have k5586 : H5534 m 3 = H5498 m 3 := (f5539 m 3 _ gm rfl)
      have k5587 : H5534 x 0 = H x 0 := ((f5539 x 0 _ gx rfl).trans (f5503 x 0 _ gx rfl))
      have q5588 : H5534 x 0 = (tc : Int) := k5587.trans e0
      have k5589 : H5534 m 5 = H m 5 := ((f5539 m 5 _ gm rfl).trans (f5503 m 5 _ gm rfl))
      have q5590 : H5534 m 5 = (tm : Int) := k5589.trans em
      have k5591 : H5534 x 6 = H x 6 := ((f5539 x 6 _ gx rfl).trans (f5503 x 6 _ gx rfl))
      have q5592 : H5534 x 6 = (cu : Int) := k5591.trans ecu
      have k5593 : H5534 x 7 = H x 7 := ((f5539 x 7 _ gx rfl).trans (f5503 x 7 _ gx rfl))
      have q5594 : H5534 x 7 = (dr : Int) := k5593.trans edr
      have h5595 : TP T H5534 tc B := (TP_fr w5502 gtc f5539 rfl (TP_fr hW gtc f5503 rfl htc))
      have h5596 : TM T H5534 tm B := (TM_fr w5502 gtm f5539 rfl (TM_fr hW gtm f5503 rfl htm))
      have h5597 : DD T H5534 cu  := (DD_fr w5502 gcu f5539 rfl (DD_fr hW gcu f5503 rfl hcu))
      have h5598 : DD T H5534 dr  := (DD_fr w5502 gdr f5539 rfl (DD_fr hW gdr f5503 rfl hdr))
      have h5599 : DE T H5534 cu  := (DE_fr w5502 gcu f5539 rfl (DE_fr hW gcu f5503 rfl hdec))
      have h5600 : DE T H5534 dr  := (DE_fr w5502 gdr f5539 rfl (DE_fr hW gdr f5503 rfl hded))
      have h5601 : SP T H5534 x C8 := (SP_fr w5502 gx f5539 rfl (SP_fr hW gx f5503 rfl hsp))
      have h5602 : CU T H5534 cu e8 d8 n8 := (CU_fr w5502 gcu f5539 rfl a5509)
      have h5603 : CY T H5534 cu (d8 0 3) g8 (H cu 17) := (CY_fr w5502 gcu f5539 rfl (CY_fr hW gcu f5503 rfl h5494))
      have k5604 : H5534 x 3 = H x 3 := ((f5539 x 3 _ gx rfl).trans (f5503 x 3 _ gx rfl))
      have q5605 : H5534 x 3 = (ce8 : Int) := k5604.trans ece8
      have h5606 : CEN T H5534 ce8 e8 d8 := (CEN_fr w5502 gce8 f5539 rfl a5510)
      have h5607 : HDR T H5534 ce8  := (HDR_fr w5502 gce8 f5539 rfl (HDR_fr hW gce8 f5503 rfl hhdr8))
      exfalso
      omega
  · show WL _ _ _ _ 1383 [(4, vI i), (3, .ref o), (2, .ref m), (1, .ref x), (0, .ref 0)] [vI z5504] _ H5498
    have u5608 := CU_k a5515
    refine wl_of hX hb cL_1383 (rw_pop (pc' := 1384) rfl rfl ?_)
    refine wl_of hX hb cL_1384 (rw_aload_n (pc' := 1385) (v := .ref m) rfl rfl rfl ?_)
    refine wl_of hX hb cL_1385 (rw_aload_n (pc' := 1386) (v := .ref 0) rfl rfl rfl ?_)
    refine wl_of hX hb cL_1386 (rw_iload (pc' := 1388) (z := i) rfl rfl ?_)
    refine wl_of hX hb cL_1388 (rw_iconst (pc' := 1389) rfl ?_)
    refine wl_of hX hb cL_1389 (rw_iadd (pc' := 1390) rfl ?_)
    have k5611 : H5498 0 ((i + 1).toNat) = H 0 ((i + 1).toNat) := (f5503 0 ((i + 1).toNat) _ g0 (wmem_s rfl))
    refine wl_of hX hb cL_1390 (xa_I (so := 0) (pc' := 1391) (a := 0) w5502 g0 (wsh_s _) (by omega) (wty_s _ _) (by omega) (by omega) rfl (fun b5609 b5610 => ?_))
    refine wl_of hX hb cL_1391 (rw_aload_n (pc' := 1392) (v := .ref 0) rfl rfl rfl ?_)
    refine wl_of hX hb cL_1392 (rw_iload (pc' := 1394) (z := i) rfl rfl ?_)
    refine wl_of hX hb cL_1394 (rw_iconst (pc' := 1395) rfl ?_)
    refine wl_of hX hb cL_1395 (rw_iadd (pc' := 1396) rfl ?_)
    have k5614 : H5498 0 ((i + 2).toNat) = H 0 ((i + 2).toNat) := (f5503 0 ((i + 2).toNat) _ g0 (wmem_s rfl))
    refine wl_of hX hb cL_1396 (xa_I (so := 0) (pc' := 1397) (a := 0) w5502 g0 (wsh_s _) (by omega) (wty_s _ _) (by omega) (by omega) rfl (fun b5612 b5613 => ?_))
    have k5615 : wKI H5498 m = wKI H m := (wKI_fr hW gm f5503 rfl)
    have k5616 : H5498 x 9 = H x 9 := (f5503 x 9 _ gx rfl)
    have k5617 : H5498 m 6 = H m 6 := (f5503 m 6 _ gm rfl)
    have k5618 : H5498 x 11 = H x 11 := (f5503 x 11 _ gx rfl)
    have k5619 : H5498 m 13 = H m 13 := (f5503 m 13 _ gm rfl)
    have k5620 : H5498 x 8 = H x 8 := (f5503 x 8 _ gx rfl)
    have k5621 : H5498 m 3 = H m 3 := (f5503 m 3 _ gm rfl)
    rw [show H5498 0 ((i + 2).toNat) = H 0 ((i + 2).toNat) by omega]
    rw [show H5498 0 ((i + 1).toNat) = H 0 ((i + 1).toNat) by omega]
    have h5622 : RB T H5498 m e8 d8 := (RB_fr hW gm f5503 rfl hrb8)
    have h5623 : KNN T H5498 m e8 d8 := (KNN_fr hW gm f5503 rfl hknn8)
    refine wl_of hX hb cL_1397 (xc_V (pc' := 1400) (r := m) (as := [vI (H 0 ((i + 1).toNat)), vI (H 0 ((i + 2).toNat))]) (st := []) (lm_11_186) rfl rfl (Nat.le_of_ble_eq_true rfl) w5502 gm sh_42 (by decide) rfl (by decide) (u_285 (e := e8) (d := d8) (y := ((H 0 ((i + 1).toNat)))) (w := (((H 0 ((i + 2).toNat)) + 1))) w5502 gm ⟨by omega, by omega⟩ ⟨by omega, by omega⟩ (by omega) (by omega) (by omega) h5622 h5623) (fun R5624 T5625 H5626 p5627 => ?_))
    obtain ⟨e5628, w5630, f5631, z5632, e5629, b5633, p5634⟩ := p5627
    subst e5628
    subst e5629
    rcases p5634 with ⟨a5635, a5636, a5637, a5638, a5639⟩ | ⟨a5640, a5641, a5642, a5643, a5644⟩
    · show WL _ _ _ _ 1400 [(4, vI i), (3, .ref o), (2, .ref m), (1, .ref x), (0, .ref 0)] [vI z5632] _ H5626
      refine wl_of hX hb cL_1400 (rw_pop (pc' := 1401) rfl rfl ?_)
      refine wl_of hX hb cL_1401 (rw_goto (p1 := 1653) (by decide) ?_)
      have k5645 : H5626 x 9 = H5498 x 9 := (f5631 x 9 _ gx rfl)
      have k5646 : H5626 m 6 = H5498 m 6 := (f5631 m 6 _ gm rfl)
      have k5647 : H5626 x 11 = H5498 x 11 := (f5631 x 11 _ gx rfl)
      have k5648 : H5626 m 13 = H5498 m 13 := (f5631 m 13 _ gm rfl)
      have k5649 : H5626 x 8 = H5498 x 8 := (f5631 x 8 _ gx rfl)
      have k5650 : H5626 m 3 = H5498 m 3 := (f5631 m 3 _ gm rfl)
      have k5651 : H5626 x 0 = H x 0 := ((f5631 x 0 _ gx rfl).trans (f5503 x 0 _ gx rfl))
      have q5652 : H5626 x 0 = (tc : Int) := k5651.trans e0
      have k5653 : H5626 m 5 = H m 5 := ((f5631 m 5 _ gm rfl).trans (f5503 m 5 _ gm rfl))
      have q5654 : H5626 m 5 = (tm : Int) := k5653.trans em
      have k5655 : H5626 x 6 = H x 6 := ((f5631 x 6 _ gx rfl).trans (f5503 x 6 _ gx rfl))
      have q5656 : H5626 x 6 = (cu : Int) := k5655.trans ecu
      have k5657 : H5626 x 7 = H x 7 := ((f5631 x 7 _ gx rfl).trans (f5503 x 7 _ gx rfl))
      have q5658 : H5626 x 7 = (dr : Int) := k5657.trans edr
      have h5659 : TP T H5626 tc B := (TP_fr w5502 gtc f5631 rfl (TP_fr hW gtc f5503 rfl htc))
      have h5660 : TM T H5626 tm B := (TM_fr w5502 gtm f5631 rfl (TM_fr hW gtm f5503 rfl htm))
      have h5661 : DD T H5626 cu  := (DD_fr w5502 gcu f5631 rfl (DD_fr hW gcu f5503 rfl hcu))
      have h5662 : DD T H5626 dr  := (DD_fr w5502 gdr f5631 rfl (DD_fr hW gdr f5503 rfl hdr))
      have h5663 : DE T H5626 cu  := (DE_fr w5502 gcu f5631 rfl (DE_fr hW gcu f5503 rfl hdec))
      have h5664 : DE T H5626 dr  := (DE_fr w5502 gdr f5631 rfl (DE_fr hW gdr f5503 rfl hded))
      have h5665 : SP T H5626 x C8 := (SP_fr w5502 gx f5631 rfl (SP_fr hW gx f5503 rfl hsp))
      have h5666 : CU T H5626 cu (wq_u e8 13 (((H 0 ((i + 1).toNat)))).toNat (((H 0 ((i + 2).toNat)) + 1))) d8 n8 := (CU_fr w5502 gcu f5631 rfl a5515)
      have h5667 : CY T H5626 cu (d8 0 3) g8 (H cu 17) := (CY_fr w5502 gcu f5631 rfl (CY_fr hW gcu f5503 rfl h5494))
      have k5668 : H5626 x 3 = H x 3 := ((f5631 x 3 _ gx rfl).trans (f5503 x 3 _ gx rfl))
      have q5669 : H5626 x 3 = (ce8 : Int) := k5668.trans ece8
      have h5670 : HDR T H5626 ce8  := (HDR_fr w5502 gce8 f5631 rfl (HDR_fr hW gce8 f5503 rfl hhdr8))
      exfalso
      omega
    · show WL _ _ _ _ 1400 [(4, vI i), (3, .ref o), (2, .ref m), (1, .ref x), (0, .ref 0)] [vI z5632] _ H5626
      refine wl_of hX hb cL_1400 (rw_pop (pc' := 1401) rfl rfl ?_)
      refine wl_of hX hb cL_1401 (rw_goto (p1 := 1653) (by decide) ?_)
      have k5671 : H5626 x 9 = H5498 x 9 := (f5631 x 9 _ gx rfl)
      have k5672 : H5626 m 6 = H5498 m 6 := (f5631 m 6 _ gm rfl)
      have k5673 : H5626 x 11 = H5498 x 11 := (f5631 x 11 _ gx rfl)
      have k5674 : H5626 m 13 = H5498 m 13 := (f5631 m 13 _ gm rfl)
      have k5675 : H5626 x 8 = H5498 x 8 := (f5631 x 8 _ gx rfl)
      have k5676 : H5626 m 3 = H5498 m 3 := (f5631 m 3 _ gm rfl)
      have k5677 : H5626 x 0 = H x 0 := ((f5631 x 0 _ gx rfl).trans (f5503 x 0 _ gx rfl))
      have q5678 : H5626 x 0 = (tc : Int) := k5677.trans e0
      have k5679 : H5626 m 5 = H m 5 := ((f5631 m 5 _ gm rfl).trans (f5503 m 5 _ gm rfl))
      have q5680 : H5626 m 5 = (tm : Int) := k5679.trans em
      have k5681 : H5626 x 6 = H x 6 := ((f5631 x 6 _ gx rfl).trans (f5503 x 6 _ gx rfl))
      have q5682 : H5626 x 6 = (cu : Int) := k5681.trans ecu
      have k5683 : H5626 x 7 = H x 7 := ((f5631 x 7 _ gx rfl).trans (f5503 x 7 _ gx rfl))
      have q5684 : H5626 x 7 = (dr : Int) := k5683.trans edr
      have h5685 : TP T H5626 tc B := (TP_fr w5502 gtc f5631 rfl (TP_fr hW gtc f5503 rfl htc))
      have h5686 : TM T H5626 tm B := (TM_fr w5502 gtm f5631 rfl (TM_fr hW gtm f5503 rfl htm))
      have h5687 : DD T H5626 cu  := (DD_fr w5502 gcu f5631 rfl (DD_fr hW gcu f5503 rfl hcu))
      have h5688 : DD T H5626 dr  := (DD_fr w5502 gdr f5631 rfl (DD_fr hW gdr f5503 rfl hdr))
      have h5689 : DE T H5626 cu  := (DE_fr w5502 gcu f5631 rfl (DE_fr hW gcu f5503 rfl hdec))
      have h5690 : DE T H5626 dr  := (DE_fr w5502 gdr f5631 rfl (DE_fr hW gdr f5503 rfl hded))
      have h5691 : SP T H5626 x C8 := (SP_fr w5502 gx f5631 rfl (SP_fr hW gx f5503 rfl hsp))
      have h5692 : CU T H5626 cu (wq_u e8 13 (((H 0 ((i + 1).toNat)))).toNat (((H 0 ((i + 2).toNat)) + 1))) d8 n8 := (CU_fr w5502 gcu f5631 rfl a5515)
      have h5693 : CY T H5626 cu (d8 0 3) g8 (H cu 17) := (CY_fr w5502 gcu f5631 rfl (CY_fr hW gcu f5503 rfl h5494))
      have k5694 : H5626 x 3 = H x 3 := ((f5631 x 3 _ gx rfl).trans (f5503 x 3 _ gx rfl))
      have q5695 : H5626 x 3 = (ce8 : Int) := k5694.trans ece8
      have h5696 : HDR T H5626 ce8  := (HDR_fr w5502 gce8 f5631 rfl (HDR_fr hW gce8 f5503 rfl hhdr8))
      have h5697 : RY T H5626 m (d8 0 3) g8 (H m 32) := (RY_fr w5502 gm f5631 rfl (RY_fr hW gm f5503 rfl h5495))
      exact WL.loc hX (by simp) (next T H5626 ⟨⟨w5630, g0, gx, gm, go, by omega, by omega⟩, ⟨_, tc, tm, cu, dr, _, _, _, _, _, ce8, q5678, gtc, h5685, q5680, gtm, h5686, q5682, gcu, q5684, gdr, h5687, h5688, h5689, h5690, h5691, hC1, hC2, h5692, a5644, (h5693).1, (h5697).1, (fun i hi => (wq_u_row hi).trans (hE i hi)), (fun h h1 h2 => by rw [wq_u_e2 (fun c => by omega)]; exact hZ h h1 h2), (by omega), (by assumption), (by omega), (by first | assumption | exact SG_0), q5695, gce8, (by first | assumption | exact CEN_new (by omega)), h5696, (by first | assumption | exact KNN_new (by omega)), gm⟩, by omega, by omega⟩ (by omega) (by omega))
set_option maxHeartbeats 4000000 in
theorem wl_c40 {kt : Nat → Option mc_E} {CB SB : Nat} {X : mc_S → Prop} {T : wq_T} {H : wq_H} {Len x m o : Nat} {i : Int} (hX : wlX kt CB SB X) (hb : T.2.1 ≤ CB ∧ T.2.2.1 ≤ SB) (hI : wlJ Len x m o T H) (hL : Len ≤ 3072) (hi : 0 ≤ i ∧ i + 6 ≤ Len) (hb2 : T.2.1 + 20 ≤ CB ∧ T.2.2.1 + 500 ≤ SB)  (next : ∀ T' H', wlJ Len x m o T' H' → T'.2.1 ≤ T.2.1 + 20 → T'.2.2.1 ≤ T.2.2.1 + 500 → WL kt CB SB X 1653 (wlL i x m o) [] T' H') : WL kt CB SB X 1404 (wlL i x m o) [] T H := by
  obtain ⟨⟨hW, g0, gx, gm, go, hK, hr⟩, hXI, hY1, hY2⟩ := hI
  refine wl_of hX hb cL_1404 (rw_aload_n (pc' := 1405) (v := .ref x) rfl rfl rfl ?_)
  refine wl_of hX hb cL_1405 (rw_aload_n (pc' := 1406) (v := .ref 0) rfl rfl rfl ?_)
  refine wl_of hX hb cL_1406 (rw_iload (pc' := 1408) (z := i) rfl rfl ?_)
  refine wl_of hX hb cL_1408 (rw_iconst (pc' := 1409) rfl ?_)
  refine wl_of hX hb cL_1409 (rw_iadd (pc' := 1410) rfl ?_)
  refine wl_of hX hb cL_1410 (xa_I (so := 0) (pc' := 1411) (a := 0) hW g0 (wsh_s _) (by omega) (wty_s _ _) (by omega) (by omega) rfl (fun b5698 b5699 => ?_))
  obtain ⟨B, tc, tm, cu, dr, C8, e8, d8, n8, g8, ce8, e0, gtc, htc, em, gtm, htm, ecu, gcu, edr, gdr, hcu, hdr, hdec, hded, hsp, hC1, hC2, hcu8, hrb8, hcg8, hmn8, hE, hZ, hn8, hXA, hV8, hSG, ece8, gce8, hcen8, hhdr8, hknn8, -⟩ := hXI
  have hN3 := RB_n3 hrb8
  have hE13 : ∀ h : Nat, h < 24 → 0 ≤ e8 13 h ∧ e8 13 h ≤ 100 := fun k hk => by
    obtain ⟨s, h1, h2, h3⟩ := hcu8.1.2.2.1
    exact ⟨(h3 k hk).1, (h3 k hk).2.1⟩
  have hXW := hXA.1
  have hXN := hXA.2
  have hE0 : e8 0 3 = d8 0 3 ∧ e8 0 0 = d8 0 0 := by
    have h := hE 0 (by decide)
    exact ⟨congrFun h 3, congrFun h 0⟩
  have u5700 := CU_k hcu8
  have h5701 : CY T H cu (d8 0 3) g8 (H cu 17) := ⟨hcg8, rfl⟩
  have h5702 : RY T H m (d8 0 3) g8 (H m 32) := ⟨hmn8, rfl⟩
  obtain ⟨t9, ht9⟩ : ∃ t : Int, t = H x 9 := ⟨_, rfl⟩
  obtain ⟨y9, hy9⟩ : ∃ y : Int, y = H 0 ((i + 1).toNat) := ⟨_, rfl⟩
  refine wl_of hX hb cL_1411 (xc_V (pc' := 1414) (r := x) (as := [vI (H 0 ((i + 1).toNat))]) (st := []) (lm_11_187) rfl rfl (Nat.le_of_ble_eq_true rfl) hW gx sh_1 (by decide) rfl (by decide) (u_154 (e := e8) (d := d8) (n := n8) (y := ((H 0 ((i + 1).toNat)))) hW gx ⟨by omega, by omega⟩ ecu gcu ece8 gce8 (by omega) (by omega) (by omega) hcu8 hcen8) (fun R5703 T5704 H5705 p5706 => ?_))
  obtain ⟨e5707, w5709, f5710, z5711, e5708, b5712, p5713⟩ := p5706
  subst e5707
  subst e5708
  rcases p5713 with ⟨a5714, a5715, a5716, a5717, a5718⟩ | ⟨a5719, a5720, a5721, a5722⟩
  · show WL _ _ _ _ 1414 [(4, vI i), (3, .ref o), (2, .ref m), (1, .ref x), (0, .ref 0)] [vI z5711] _ H5705
    have u5723 := CU_k a5718
    refine wl_of hX hb cL_1414 (rw_pop (pc' := 1415) rfl rfl ?_)
    refine wl_of hX hb cL_1415 (rw_aload_n (pc' := 1416) (v := .ref m) rfl rfl rfl ?_)
    refine wl_of hX hb cL_1416 (rw_aload_n (pc' := 1417) (v := .ref 0) rfl rfl rfl ?_)
    refine wl_of hX hb cL_1417 (rw_iload (pc' := 1419) (z := i) rfl rfl ?_)
    refine wl_of hX hb cL_1419 (rw_iconst (pc' := 1420) rfl ?_)
    refine wl_of hX hb cL_1420 (rw_iadd (pc' := 1421) rfl ?_)
    have k5726 : H5705 0 ((i + 1).toNat) = H 0 ((i + 1).toNat) := (f5710 0 ((i + 1).toNat) _ g0 (wmem_s rfl))
    refine wl_of hX hb cL_1421 (xa_I (so := 0) (pc' := 1422) (a := 0) w5709 g0 (wsh_s _) (by omega) (wty_s _ _) (by omega) (by omega) rfl (fun b5724 b5725 => ?_))
    have k5727 : wKI H5705 m = wKI H m := (wKI_fr hW gm f5710 rfl)
    have k5728 : H5705 x 9 = H x 9 := (f5710 x 9 _ gx rfl)
    have k5729 : H5705 m 6 = H m 6 := (f5710 m 6 _ gm rfl)
    have k5730 : H5705 x 11 = H x 11 := (f5710 x 11 _ gx rfl)
    have k5731 : H5705 m 13 = H m 13 := (f5710 m 13 _ gm rfl)
    have k5732 : H5705 x 8 = H x 8 := (f5710 x 8 _ gx rfl)
    have k5733 : H5705 m 3 = H m 3 := (f5710 m 3 _ gm rfl)
    rw [show H5705 0 ((i + 1).toNat) = H 0 ((i + 1).toNat) by omega]
    have h5734 : RB T H5705 m e8 d8 := (RB_fr hW gm f5710 rfl hrb8)
    have h5735 : KNN T H5705 m e8 d8 := (KNN_fr hW gm f5710 rfl hknn8)
    refine wl_of hX hb cL_1422 (xc_V (pc' := 1425) (r := m) (as := [vI (H 0 ((i + 1).toNat))]) (st := []) (lm_11_191) rfl rfl (Nat.le_of_ble_eq_true rfl) w5709 gm sh_42 (by decide) rfl (by decide) (u_286 (e := e8) (d := d8) (y := ((H 0 ((i + 1).toNat)))) w5709 gm ⟨by omega, by omega⟩ (by omega) (by omega) h5734 h5735) (fun R5736 T5737 H5738 p5739 => ?_))
    obtain ⟨e5740, w5742, f5743, z5744, e5741, b5745, p5746⟩ := p5739
    subst e5740
    subst e5741
    rcases p5746 with ⟨a5747, a5748, a5749, a5750, a5751, a5752⟩ | ⟨a5753, a5754, a5755, a5756, a5757⟩
    · show WL _ _ _ _ 1425 [(4, vI i), (3, .ref o), (2, .ref m), (1, .ref x), (0, .ref 0)] [vI z5744] _ H5738
      refine wl_of hX hb cL_1425 (rw_pop (pc' := 1426) rfl rfl ?_)
      refine wl_of hX hb cL_1426 (rw_goto (p1 := 1653) (by decide) ?_)
      have k5758 : H5738 x 9 = H5705 x 9 := (f5743 x 9 _ gx rfl)
      have k5759 : H5738 m 6 = H5705 m 6 := (f5743 m 6 _ gm rfl)
      have k5760 : H5738 x 11 = H5705 x 11 := (f5743 x 11 _ gx rfl)
      have k5761 : H5738 m 13 = H5705 m 13 := (f5743 m 13 _ gm rfl)
      have k5762 : H5738 x 8 = H5705 x 8 := (f5743 x 8 _ gx rfl)
      have k5763 : H5738 m 3 = H5705 m 3 := (f5743 m 3 _ gm rfl)
      have k5764 : H5738 x 0 = H x 0 := ((f5743 x 0 _ gx rfl).trans (f5710 x 0 _ gx rfl))
      have q5765 : H5738 x 0 = (tc : Int) := k5764.trans e0
      have k5766 : H5738 m 5 = H m 5 := ((f5743 m 5 _ gm rfl).trans (f5710 m 5 _ gm rfl))
      have q5767 : H5738 m 5 = (tm : Int) := k5766.trans em
      have k5768 : H5738 x 6 = H x 6 := ((f5743 x 6 _ gx rfl).trans (f5710 x 6 _ gx rfl))
      have q5769 : H5738 x 6 = (cu : Int) := k5768.trans ecu
      have k5770 : H5738 x 7 = H x 7 := ((f5743 x 7 _ gx rfl).trans (f5710 x 7 _ gx rfl))
      have q5771 : H5738 x 7 = (dr : Int) := k5770.trans edr
      have h5772 : TP T H5738 tc B := (TP_fr w5709 gtc f5743 rfl (TP_fr hW gtc f5710 rfl htc))
      have h5773 : TM T H5738 tm B := (TM_fr w5709 gtm f5743 rfl (TM_fr hW gtm f5710 rfl htm))
      have h5774 : DD T H5738 cu  := (DD_fr w5709 gcu f5743 rfl (DD_fr hW gcu f5710 rfl hcu))
      have h5775 : DD T H5738 dr  := (DD_fr w5709 gdr f5743 rfl (DD_fr hW gdr f5710 rfl hdr))
      have h5776 : DE T H5738 cu  := (DE_fr w5709 gcu f5743 rfl (DE_fr hW gcu f5710 rfl hdec))
      have h5777 : DE T H5738 dr  := (DE_fr w5709 gdr f5743 rfl (DE_fr hW gdr f5710 rfl hded))
      have h5778 : SP T H5738 x C8 := (SP_fr w5709 gx f5743 rfl (SP_fr hW gx f5710 rfl hsp))
      have h5779 : CU T H5738 cu (wq_u e8 13 (((H 0 ((i + 1).toNat)))).toNat 0) d8 n8 := (CU_fr w5709 gcu f5743 rfl a5718)
      have h5780 : CY T H5738 cu (d8 0 3) g8 (H cu 17) := (CY_fr w5709 gcu f5743 rfl (CY_fr hW gcu f5710 rfl h5701))
      have k5781 : H5738 x 3 = H x 3 := ((f5743 x 3 _ gx rfl).trans (f5710 x 3 _ gx rfl))
      have q5782 : H5738 x 3 = (ce8 : Int) := k5781.trans ece8
      have h5783 : HDR T H5738 ce8  := (HDR_fr w5709 gce8 f5743 rfl (HDR_fr hW gce8 f5710 rfl hhdr8))
      have h5784 : RY T H5738 m (d8 0 3) g8 (H m 32) := (RY_fr w5709 gm f5743 rfl (RY_fr hW gm f5710 rfl h5702))
      exact WL.loc hX (by simp) (next T H5738 ⟨⟨w5742, g0, gx, gm, go, by omega, by omega⟩, ⟨_, tc, tm, cu, dr, _, _, _, _, _, ce8, q5765, gtc, h5772, q5767, gtm, h5773, q5769, gcu, q5771, gdr, h5774, h5775, h5776, h5777, h5778, hC1, hC2, h5779, a5752, (h5780).1, (h5784).1, (fun i hi => (wq_u_row hi).trans (hE i hi)), (fun h h1 h2 => by rw [wq_u_e2 (fun c => by omega)]; exact hZ h h1 h2), (by omega), (by assumption), (by omega), (by first | assumption | exact SG_0), q5782, gce8, (by first | assumption | exact CEN_new (by omega)), h5783, (by first | assumption | exact KNN_new (by omega)), gm⟩, by omega, by omega⟩ (by omega) (by omega))
    · show WL _ _ _ _ 1425 [(4, vI i), (3, .ref o), (2, .ref m), (1, .ref x), (0, .ref 0)] [vI z5744] _ H5738
      refine wl_of hX hb cL_1425 (rw_pop (pc' := 1426) rfl rfl ?_)
      refine wl_of hX hb cL_1426 (rw_goto (p1 := 1653) (by decide) ?_)
      have k5785 : H5738 x 9 = H5705 x 9 := (f5743 x 9 _ gx rfl)
      have k5786 : H5738 m 6 = H5705 m 6 := (f5743 m 6 _ gm rfl)
      have k5787 : H5738 x 11 = H5705 x 11 := (f5743 x 11 _ gx rfl)
      have k5788 : H5738 m 13 = H5705 m 13 := (f5743 m 13 _ gm rfl)
      have k5789 : H5738 x 8 = H5705 x 8 := (f5743 x 8 _ gx rfl)
      have k5790 : H5738 m 3 = H5705 m 3 := (f5743 m 3 _ gm rfl)
      have k5791 : H5738 x 0 = H x 0 := ((f5743 x 0 _ gx rfl).trans (f5710 x 0 _ gx rfl))
      have q5792 : H5738 x 0 = (tc : Int) := k5791.trans e0
      have k5793 : H5738 m 5 = H m 5 := ((f5743 m 5 _ gm rfl).trans (f5710 m 5 _ gm rfl))
      have q5794 : H5738 m 5 = (tm : Int) := k5793.trans em
      have k5795 : H5738 x 6 = H x 6 := ((f5743 x 6 _ gx rfl).trans (f5710 x 6 _ gx rfl))
      have q5796 : H5738 x 6 = (cu : Int) := k5795.trans ecu
      have k5797 : H5738 x 7 = H x 7 := ((f5743 x 7 _ gx rfl).trans (f5710 x 7 _ gx rfl))
      have q5798 : H5738 x 7 = (dr : Int) := k5797.trans edr
      have h5799 : TP T H5738 tc B := (TP_fr w5709 gtc f5743 rfl (TP_fr hW gtc f5710 rfl htc))
      have h5800 : TM T H5738 tm B := (TM_fr w5709 gtm f5743 rfl (TM_fr hW gtm f5710 rfl htm))
      have h5801 : DD T H5738 cu  := (DD_fr w5709 gcu f5743 rfl (DD_fr hW gcu f5710 rfl hcu))
      have h5802 : DD T H5738 dr  := (DD_fr w5709 gdr f5743 rfl (DD_fr hW gdr f5710 rfl hdr))
      have h5803 : DE T H5738 cu  := (DE_fr w5709 gcu f5743 rfl (DE_fr hW gcu f5710 rfl hdec))
      have h5804 : DE T H5738 dr  := (DE_fr w5709 gdr f5743 rfl (DE_fr hW gdr f5710 rfl hded))
      have h5805 : SP T H5738 x C8 := (SP_fr w5709 gx f5743 rfl (SP_fr hW gx f5710 rfl hsp))
      have h5806 : CU T H5738 cu (wq_u e8 13 (((H 0 ((i + 1).toNat)))).toNat 0) d8 n8 := (CU_fr w5709 gcu f5743 rfl a5718)
      have h5807 : CY T H5738 cu (d8 0 3) g8 (H cu 17) := (CY_fr w5709 gcu f5743 rfl (CY_fr hW gcu f5710 rfl h5701))
      have k5808 : H5738 x 3 = H x 3 := ((f5743 x 3 _ gx rfl).trans (f5710 x 3 _ gx rfl))
      have q5809 : H5738 x 3 = (ce8 : Int) := k5808.trans ece8
      have h5810 : HDR T H5738 ce8  := (HDR_fr w5709 gce8 f5743 rfl (HDR_fr hW gce8 f5710 rfl hhdr8))
      exfalso
      omega
  · show WL _ _ _ _ 1414 [(4, vI i), (3, .ref o), (2, .ref m), (1, .ref x), (0, .ref 0)] [vI z5711] _ H5705
    have u5811 := CU_k a5721
    refine wl_of hX hb cL_1414 (rw_pop (pc' := 1415) rfl rfl ?_)
    refine wl_of hX hb cL_1415 (rw_aload_n (pc' := 1416) (v := .ref m) rfl rfl rfl ?_)
    refine wl_of hX hb cL_1416 (rw_aload_n (pc' := 1417) (v := .ref 0) rfl rfl rfl ?_)
    refine wl_of hX hb cL_1417 (rw_iload (pc' := 1419) (z := i) rfl rfl ?_)
    refine wl_of hX hb cL_1419 (rw_iconst (pc' := 1420) rfl ?_)
    refine wl_of hX hb cL_1420 (rw_iadd (pc' := 1421) rfl ?_)
    have k5814 : H5705 0 ((i + 1).toNat) = H 0 ((i + 1).toNat) := (f5710 0 ((i + 1).toNat) _ g0 (wmem_s rfl))
    refine wl_of hX hb cL_1421 (xa_I (so := 0) (pc' := 1422) (a := 0) w5709 g0 (wsh_s _) (by omega) (wty_s _ _) (by omega) (by omega) rfl (fun b5812 b5813 => ?_))
    have k5815 : wKI H5705 m = wKI H m := (wKI_fr hW gm f5710 rfl)
    have k5816 : H5705 x 9 = H x 9 := (f5710 x 9 _ gx rfl)
    have k5817 : H5705 m 6 = H m 6 := (f5710 m 6 _ gm rfl)
    have k5818 : H5705 x 11 = H x 11 := (f5710 x 11 _ gx rfl)
    have k5819 : H5705 m 13 = H m 13 := (f5710 m 13 _ gm rfl)
    have k5820 : H5705 x 8 = H x 8 := (f5710 x 8 _ gx rfl)
    have k5821 : H5705 m 3 = H m 3 := (f5710 m 3 _ gm rfl)
    rw [show H5705 0 ((i + 1).toNat) = H 0 ((i + 1).toNat) by omega]
    have h5822 : RB T H5705 m e8 d8 := (RB_fr hW gm f5710 rfl hrb8)
    have h5823 : KNN T H5705 m e8 d8 := (KNN_fr hW gm f5710 rfl hknn8)
    refine wl_of hX hb cL_1422 (xc_V (pc' := 1425) (r := m) (as := [vI (H 0 ((i + 1).toNat))]) (st := []) (lm_11_191) rfl rfl (Nat.le_of_ble_eq_true rfl) w5709 gm sh_42 (by decide) rfl (by decide) (u_286 (e := e8) (d := d8) (y := ((H 0 ((i + 1).toNat)))) w5709 gm ⟨by omega, by omega⟩ (by omega) (by omega) h5822 h5823) (fun R5824 T5825 H5826 p5827 => ?_))
    obtain ⟨e5828, w5830, f5831, z5832, e5829, b5833, p5834⟩ := p5827
    subst e5828
    subst e5829
    rcases p5834 with ⟨a5835, a5836, a5837, a5838, a5839, a5840⟩ | ⟨a5841, a5842, a5843, a5844, a5845⟩
    · show WL _ _ _ _ 1425 [(4, vI i), (3, .ref o), (2, .ref m), (1, .ref x), (0, .ref 0)] [vI z5832] _ H5826
      refine wl_of hX hb cL_1425 (rw_pop (pc' := 1426) rfl rfl ?_)
      refine wl_of hX hb cL_1426 (rw_goto (p1 := 1653) (by decide) ?_)
      have k5846 : H5826 x 9 = H5705 x 9 := (f5831 x 9 _ gx rfl)
      have k5847 : H5826 m 6 = H5705 m 6 := (f5831 m 6 _ gm rfl)
      have k5848 : H5826 x 11 = H5705 x 11 := (f5831 x 11 _ gx rfl)
      have k5849 : H5826 m 13 = H5705 m 13 := (f5831 m 13 _ gm rfl)
      have k5850 : H5826 x 8 = H5705 x 8 := (f5831 x 8 _ gx rfl)
      have k5851 : H5826 m 3 = H5705 m 3 := (f5831 m 3 _ gm rfl)
      have k5852 : H5826 x 0 = H x 0 := ((f5831 x 0 _ gx rfl).trans (f5710 x 0 _ gx rfl))
      have q5853 : H5826 x 0 = (tc : Int) := k5852.trans e0
      have k5854 : H5826 m 5 = H m 5 := ((f5831 m 5 _ gm rfl).trans (f5710 m 5 _ gm rfl))
      have q5855 : H5826 m 5 = (tm : Int) := k5854.trans em
      have k5856 : H5826 x 6 = H x 6 := ((f5831 x 6 _ gx rfl).trans (f5710 x 6 _ gx rfl))
      have q5857 : H5826 x 6 = (cu : Int) := k5856.trans ecu
      have k5858 : H5826 x 7 = H x 7 := ((f5831 x 7 _ gx rfl).trans (f5710 x 7 _ gx rfl))
      have q5859 : H5826 x 7 = (dr : Int) := k5858.trans edr
      have h5860 : TP T H5826 tc B := (TP_fr w5709 gtc f5831 rfl (TP_fr hW gtc f5710 rfl htc))
      have h5861 : TM T H5826 tm B := (TM_fr w5709 gtm f5831 rfl (TM_fr hW gtm f5710 rfl htm))
      have h5862 : DD T H5826 cu  := (DD_fr w5709 gcu f5831 rfl (DD_fr hW gcu f5710 rfl hcu))
      have h5863 : DD T H5826 dr  := (DD_fr w5709 gdr f5831 rfl (DD_fr hW gdr f5710 rfl hdr))
      have h5864 : DE T H5826 cu  := (DE_fr w5709 gcu f5831 rfl (DE_fr hW gcu f5710 rfl hdec))
      have h5865 : DE T H5826 dr  := (DE_fr w5709 gdr f5831 rfl (DE_fr hW gdr f5710 rfl hded))
      have h5866 : SP T H5826 x C8 := (SP_fr w5709 gx f5831 rfl (SP_fr hW gx f5710 rfl hsp))
      have h5867 : CU T H5826 cu e8 d8 n8 := (CU_fr w5709 gcu f5831 rfl a5721)
      have h5868 : CY T H5826 cu (d8 0 3) g8 (H cu 17) := (CY_fr w5709 gcu f5831 rfl (CY_fr hW gcu f5710 rfl h5701))
      have k5869 : H5826 x 3 = H x 3 := ((f5831 x 3 _ gx rfl).trans (f5710 x 3 _ gx rfl))
      have q5870 : H5826 x 3 = (ce8 : Int) := k5869.trans ece8
      have h5871 : CEN T H5826 ce8 e8 d8 := (CEN_fr w5709 gce8 f5831 rfl a5722)
      have h5872 : HDR T H5826 ce8  := (HDR_fr w5709 gce8 f5831 rfl (HDR_fr hW gce8 f5710 rfl hhdr8))
      exfalso
      omega
    · show WL _ _ _ _ 1425 [(4, vI i), (3, .ref o), (2, .ref m), (1, .ref x), (0, .ref 0)] [vI z5832] _ H5826
      refine wl_of hX hb cL_1425 (rw_pop (pc' := 1426) rfl rfl ?_)
      refine wl_of hX hb cL_1426 (rw_goto (p1 := 1653) (by decide) ?_)
      have k5873 : H5826 x 9 = H5705 x 9 := (f5831 x 9 _ gx rfl)
      have k5874 : H5826 m 6 = H5705 m 6 := (f5831 m 6 _ gm rfl)
      have k5875 : H5826 x 11 = H5705 x 11 := (f5831 x 11 _ gx rfl)
      have k5876 : H5826 m 13 = H5705 m 13 := (f5831 m 13 _ gm rfl)
      have k5877 : H5826 x 8 = H5705 x 8 := (f5831 x 8 _ gx rfl)
      have k5878 : H5826 m 3 = H5705 m 3 := (f5831 m 3 _ gm rfl)
      have k5879 : H5826 x 0 = H x 0 := ((f5831 x 0 _ gx rfl).trans (f5710 x 0 _ gx rfl))
      have q5880 : H5826 x 0 = (tc : Int) := k5879.trans e0
      have k5881 : H5826 m 5 = H m 5 := ((f5831 m 5 _ gm rfl).trans (f5710 m 5 _ gm rfl))
      have q5882 : H5826 m 5 = (tm : Int) := k5881.trans em
      have k5883 : H5826 x 6 = H x 6 := ((f5831 x 6 _ gx rfl).trans (f5710 x 6 _ gx rfl))
      have q5884 : H5826 x 6 = (cu : Int) := k5883.trans ecu
      have k5885 : H5826 x 7 = H x 7 := ((f5831 x 7 _ gx rfl).trans (f5710 x 7 _ gx rfl))
      have q5886 : H5826 x 7 = (dr : Int) := k5885.trans edr
      have h5887 : TP T H5826 tc B := (TP_fr w5709 gtc f5831 rfl (TP_fr hW gtc f5710 rfl htc))
      have h5888 : TM T H5826 tm B := (TM_fr w5709 gtm f5831 rfl (TM_fr hW gtm f5710 rfl htm))
      have h5889 : DD T H5826 cu  := (DD_fr w5709 gcu f5831 rfl (DD_fr hW gcu f5710 rfl hcu))
      have h5890 : DD T H5826 dr  := (DD_fr w5709 gdr f5831 rfl (DD_fr hW gdr f5710 rfl hdr))
      have h5891 : DE T H5826 cu  := (DE_fr w5709 gcu f5831 rfl (DE_fr hW gcu f5710 rfl hdec))
      have h5892 : DE T H5826 dr  := (DE_fr w5709 gdr f5831 rfl (DE_fr hW gdr f5710 rfl hded))
      have h5893 : SP T H5826 x C8 := (SP_fr w5709 gx f5831 rfl (SP_fr hW gx f5710 rfl hsp))
      have h5894 : CU T H5826 cu e8 d8 n8 := (CU_fr w5709 gcu f5831 rfl a5721)
      have h5895 : CY T H5826 cu (d8 0 3) g8 (H cu 17) := (CY_fr w5709 gcu f5831 rfl (CY_fr hW gcu f5710 rfl h5701))
      have k5896 : H5826 x 3 = H x 3 := ((f5831 x 3 _ gx rfl).trans (f5710 x 3 _ gx rfl))
      have q5897 : H5826 x 3 = (ce8 : Int) := k5896.trans ece8
      have h5898 : CEN T H5826 ce8 e8 d8 := (CEN_fr w5709 gce8 f5831 rfl a5722)
      have h5899 : HDR T H5826 ce8  := (HDR_fr w5709 gce8 f5831 rfl (HDR_fr hW gce8 f5710 rfl hhdr8))
      have h5900 : RY T H5826 m (d8 0 3) g8 (H m 32) := (RY_fr w5709 gm f5831 rfl (RY_fr hW gm f5710 rfl h5702))
      exact WL.loc hX (by simp) (next T H5826 ⟨⟨w5830, g0, gx, gm, go, by omega, by omega⟩, ⟨_, tc, tm, cu, dr, _, _, _, _, _, ce8, q5880, gtc, h5887, q5882, gtm, h5888, q5884, gcu, q5886, gdr, h5889, h5890, h5891, h5892, h5893, hC1, hC2, h5894, a5844, (h5895).1, (h5900).1, hE, hZ, (by omega), (by assumption), (by omega), (by first | assumption | exact SG_0), q5897, gce8, h5898, h5899, a5845, gm⟩, by omega, by omega⟩ (by omega) (by omega))
set_option maxHeartbeats 4000000 in
theorem wl_c41 {kt : Nat → Option mc_E} {CB SB : Nat} {X : mc_S → Prop} {T : wq_T} {H : wq_H} {Len x m o : Nat} {i : Int} (hX : wlX kt CB SB X) (hb : T.2.1 ≤ CB ∧ T.2.2.1 ≤ SB) (hI : wlJ Len x m o T H) (hL : Len ≤ 3072) (hi : 0 ≤ i ∧ i + 6 ≤ Len) (hb2 : T.2.1 + 20 ≤ CB ∧ T.2.2.1 + 500 ≤ SB)  (next : ∀ T' H', wlJ Len x m o T' H' → T'.2.1 ≤ T.2.1 + 20 → T'.2.2.1 ≤ T.2.2.1 + 500 → WL kt CB SB X 1653 (wlL i x m o) [] T' H') : WL kt CB SB X 1429 (wlL i x m o) [] T H := by
  obtain ⟨⟨hW, g0, gx, gm, go, hK, hr⟩, hXI, hY1, hY2⟩ := hI
  refine wl_of hX hb cL_1429 (rw_aload_n (pc' := 1430) (v := .ref x) rfl rfl rfl ?_)
  refine wl_of hX hb cL_1430 (rw_aload_n (pc' := 1431) (v := .ref 0) rfl rfl rfl ?_)
  refine wl_of hX hb cL_1431 (rw_iload (pc' := 1433) (z := i) rfl rfl ?_)
  refine wl_of hX hb cL_1433 (rw_iconst (pc' := 1434) rfl ?_)
  refine wl_of hX hb cL_1434 (rw_iadd (pc' := 1435) rfl ?_)
  refine wl_of hX hb cL_1435 (xa_I (so := 0) (pc' := 1436) (a := 0) hW g0 (wsh_s _) (by omega) (wty_s _ _) (by omega) (by omega) rfl (fun b5901 b5902 => ?_))
  refine wl_of hX hb cL_1436 (xc_V (pc' := 1439) (r := x) (as := [vI (H 0 ((i + 1).toNat))]) (st := []) (lm_11_192) rfl rfl (Nat.le_of_ble_eq_true rfl) hW gx sh_1 (by decide) rfl (by decide) (s_155 hW gx ⟨by omega, by omega⟩) (fun R5903 T5904 H5905 p5906 => ?_))
  obtain ⟨e5907, w5909, f5910, z5911, e5908, b5912⟩ := p5906
  subst e5907
  subst e5908
  show WL _ _ _ _ 1439 [(4, vI i), (3, .ref o), (2, .ref m), (1, .ref x), (0, .ref 0)] [vI z5911] _ H5905
  refine wl_of hX hb cL_1439 (rw_pop (pc' := 1440) rfl rfl ?_)
  refine wl_of hX hb cL_1440 (rw_aload_n (pc' := 1441) (v := .ref m) rfl rfl rfl ?_)
  refine wl_of hX hb cL_1441 (rw_aload_n (pc' := 1442) (v := .ref 0) rfl rfl rfl ?_)
  refine wl_of hX hb cL_1442 (rw_iload (pc' := 1444) (z := i) rfl rfl ?_)
  refine wl_of hX hb cL_1444 (rw_iconst (pc' := 1445) rfl ?_)
  refine wl_of hX hb cL_1445 (rw_iadd (pc' := 1446) rfl ?_)
  have k5915 : H5905 0 ((i + 1).toNat) = H 0 ((i + 1).toNat) := (f5910 0 ((i + 1).toNat) _ g0 (wmem_s rfl))
  refine wl_of hX hb cL_1446 (xa_I (so := 0) (pc' := 1447) (a := 0) w5909 g0 (wsh_s _) (by omega) (wty_s _ _) (by omega) (by omega) rfl (fun b5913 b5914 => ?_))
  have k5916 : wKI H5905 m = wKI H m := (wKI_fr hW gm f5910 rfl)
  have k5917 : H5905 x 9 = H x 9 := (f5910 x 9 _ gx rfl)
  have k5918 : H5905 m 6 = H m 6 := (f5910 m 6 _ gm rfl)
  have k5919 : H5905 x 11 = H x 11 := (f5910 x 11 _ gx rfl)
  have k5920 : H5905 m 13 = H m 13 := (f5910 m 13 _ gm rfl)
  have k5921 : H5905 x 8 = H x 8 := (f5910 x 8 _ gx rfl)
  have k5922 : H5905 m 3 = H m 3 := (f5910 m 3 _ gm rfl)
  refine wl_of hX hb cL_1447 (xc_V (pc' := 1450) (r := m) (as := [vI (H5905 0 ((i + 1).toNat))]) (st := []) (lm_11_195) rfl rfl (Nat.le_of_ble_eq_true rfl) w5909 gm sh_42 (by decide) rfl (by decide) (s_287 w5909 gm ⟨by omega, by omega⟩ (by omega)) (fun R5923 T5924 H5925 p5926 => ?_))
  obtain ⟨e5927, w5929, f5930, z5932, e5928, b5933, p5931⟩ := p5926
  subst e5927
  subst e5928
  show WL _ _ _ _ 1450 [(4, vI i), (3, .ref o), (2, .ref m), (1, .ref x), (0, .ref 0)] [vI z5932] _ H5925
  refine wl_of hX hb cL_1450 (rw_pop (pc' := 1451) rfl rfl ?_)
  refine wl_of hX hb cL_1451 (rw_goto (p1 := 1653) (by decide) ?_)
  have k5934 : H5925 x 9 = H5905 x 9 := (f5930 x 9 _ gx rfl)
  have k5935 : H5925 m 6 = H5905 m 6 := (f5930 m 6 _ gm rfl)
  have k5936 : H5925 x 11 = H5905 x 11 := (f5930 x 11 _ gx rfl)
  have k5937 : H5925 m 13 = H5905 m 13 := (f5930 m 13 _ gm rfl)
  have k5938 : H5925 x 8 = H5905 x 8 := (f5930 x 8 _ gx rfl)
  have k5939 : H5925 m 3 = H5905 m 3 := (f5930 m 3 _ gm rfl)
  have h5940 : XI T H5925 x m := (XI_fr w5909 gx f5930 rfl (XI_fr hW gx f5910 rfl hXI))
  exact WL.loc hX (by simp) (next T H5925 ⟨⟨w5929, g0, gx, gm, go, by omega, by omega⟩, h5940, by omega, by omega⟩ (by omega) (by omega))
set_option maxHeartbeats 4000000 in
theorem wl_c42 {kt : Nat → Option mc_E} {CB SB : Nat} {X : mc_S → Prop} {T : wq_T} {H : wq_H} {Len x m o : Nat} {i : Int} (hX : wlX kt CB SB X) (hb : T.2.1 ≤ CB ∧ T.2.2.1 ≤ SB) (hI : wlJ Len x m o T H) (hL : Len ≤ 3072) (hi : 0 ≤ i ∧ i + 6 ≤ Len) (hb2 : T.2.1 + 20 ≤ CB ∧ T.2.2.1 + 500 ≤ SB)  (next : ∀ T' H', wlJ Len x m o T' H' → T'.2.1 ≤ T.2.1 + 20 → T'.2.2.1 ≤ T.2.2.1 + 500 → WL kt CB SB X 1653 (wlL i x m o) [] T' H') : WL kt CB SB X 1454 (wlL i x m o) [] T H := by
  obtain ⟨⟨hW, g0, gx, gm, go, hK, hr⟩, hXI, hY1, hY2⟩ := hI
  refine wl_of hX hb cL_1454 (rw_aload_n (pc' := 1455) (v := .ref x) rfl rfl rfl ?_)
  obtain ⟨B, tc, tm, cu, dr, C8, e8, d8, n8, g8, ce8, e0, gtc, htc, em, gtm, htm, ecu, gcu, edr, gdr, hcu, hdr, hdec, hded, hsp, hC1, hC2, hcu8, hrb8, hcg8, hmn8, hE, hZ, hn8, hXA, hV8, hSG, ece8, gce8, hcen8, hhdr8, hknn8, -⟩ := hXI
  have hN3 := RB_n3 hrb8
  have hE13 : ∀ h : Nat, h < 24 → 0 ≤ e8 13 h ∧ e8 13 h ≤ 100 := fun k hk => by
    obtain ⟨s, h1, h2, h3⟩ := hcu8.1.2.2.1
    exact ⟨(h3 k hk).1, (h3 k hk).2.1⟩
  have hXW := hXA.1
  have hXN := hXA.2
  have hE0 : e8 0 3 = d8 0 3 ∧ e8 0 0 = d8 0 0 := by
    have h := hE 0 (by decide)
    exact ⟨congrFun h 3, congrFun h 0⟩
  have u5941 := CU_k hcu8
  have h5942 : CY T H cu (d8 0 3) g8 (H cu 17) := ⟨hcg8, rfl⟩
  have h5943 : RY T H m (d8 0 3) g8 (H m 32) := ⟨hmn8, rfl⟩
  obtain ⟨t9, ht9⟩ : ∃ t : Int, t = H x 9 := ⟨_, rfl⟩
  obtain ⟨r5944, q5945, g5946⟩ := hW.ref gx (t' := 6) (n := 13) (j := 2) (p := 0) (q := 0) rfl (by decide) rfl
  refine wl_of hX hb cL_1455 (xc_V (pc' := 1458) (r := x) (as := []) (st := []) (lm_11_196) rfl rfl (Nat.le_of_ble_eq_true rfl) hW gx sh_1 (by decide) rfl (by decide) (u_156 (e := e8) (d := d8) (n := n8) hW gx ecu gcu q5945 g5946 ece8 gce8 (by assumption) (by assumption) (by omega) (by omega) (by omega) (by omega) hcu8 hcen8 hhdr8) (fun R5947 T5948 H5949 p5950 => ?_))
  obtain ⟨e5951, w5953, f5954, z5955, e5952, b5956, p5957⟩ := p5950
  subst e5951
  subst e5952
  show WL _ _ _ _ 1458 [(4, vI i), (3, .ref o), (2, .ref m), (1, .ref x), (0, .ref 0)] [vI z5955] _ H5949
  refine wl_of hX hb cL_1458 (rw_pop (pc' := 1459) rfl rfl ?_)
  refine wl_of hX hb cL_1459 (rw_aload_n (pc' := 1460) (v := .ref m) rfl rfl rfl ?_)
  have k5959 : wKI H5949 m = wKI H m := (wKI_fr hW gm f5954 rfl)
  have k5960 : H5949 x 9 = H x 9 := (f5954 x 9 _ gx rfl)
  have k5961 : H5949 m 6 = H m 6 := (f5954 m 6 _ gm rfl)
  have k5962 : H5949 x 11 = H x 11 := (f5954 x 11 _ gx rfl)
  have k5963 : H5949 m 13 = H m 13 := (f5954 m 13 _ gm rfl)
  have k5964 : H5949 x 8 = H x 8 := (f5954 x 8 _ gx rfl)
  have k5965 : H5949 m 3 = H m 3 := (f5954 m 3 _ gm rfl)
  have h5966 : RB T H5949 m e8 d8 := (RB_fr hW gm f5954 rfl hrb8)
  have h5967 : KNN T H5949 m e8 d8 := (KNN_fr hW gm f5954 rfl hknn8)
  refine wl_of hX hb cL_1460 (xc_V (pc' := 1463) (r := m) (as := []) (st := []) (lm_11_199) rfl rfl (Nat.le_of_ble_eq_true rfl) w5953 gm sh_42 (by decide) rfl (by decide) (u_288 (e := e8) (d := d8) w5953 gm (by omega) (by assumption) (by assumption) (by assumption) (by assumption) h5966 h5967) (fun R5968 T5969 H5970 p5971 => ?_))
  obtain ⟨e5972, w5974, f5975, z5976, e5973, b5977, p5978⟩ := p5971
  subst e5972
  subst e5973
  obtain ⟨a5979, a5980⟩ := p5978
  show WL _ _ _ _ 1463 [(4, vI i), (3, .ref o), (2, .ref m), (1, .ref x), (0, .ref 0)] [vI z5976] _ H5970
  refine wl_of hX hb cL_1463 (rw_pop (pc' := 1464) rfl rfl ?_)
  refine wl_of hX hb cL_1464 (rw_goto (p1 := 1653) (by decide) ?_)
  have k5981 : H5970 x 9 = H5949 x 9 := (f5975 x 9 _ gx rfl)
  have k5982 : H5970 m 6 = H5949 m 6 := (f5975 m 6 _ gm rfl)
  have k5983 : H5970 x 11 = H5949 x 11 := (f5975 x 11 _ gx rfl)
  have k5984 : H5970 m 13 = H5949 m 13 := (f5975 m 13 _ gm rfl)
  have k5985 : H5970 x 8 = H5949 x 8 := (f5975 x 8 _ gx rfl)
  have k5986 : H5970 m 3 = H5949 m 3 := (f5975 m 3 _ gm rfl)
  have k5987 : H5970 x 0 = H x 0 := ((f5975 x 0 _ gx rfl).trans (f5954 x 0 _ gx rfl))
  have q5988 : H5970 x 0 = (tc : Int) := k5987.trans e0
  have k5989 : H5970 m 5 = H m 5 := ((f5975 m 5 _ gm rfl).trans (f5954 m 5 _ gm rfl))
  have q5990 : H5970 m 5 = (tm : Int) := k5989.trans em
  have k5991 : H5970 x 6 = H x 6 := ((f5975 x 6 _ gx rfl).trans (f5954 x 6 _ gx rfl))
  have q5992 : H5970 x 6 = (cu : Int) := k5991.trans ecu
  have k5993 : H5970 x 7 = H x 7 := ((f5975 x 7 _ gx rfl).trans (f5954 x 7 _ gx rfl))
  have q5994 : H5970 x 7 = (dr : Int) := k5993.trans edr
  have h5995 : TP T H5970 tc B := (TP_fr w5953 gtc f5975 rfl (TP_fr hW gtc f5954 rfl htc))
  have h5996 : TM T H5970 tm B := (TM_fr w5953 gtm f5975 rfl (TM_fr hW gtm f5954 rfl htm))
  have h5997 : DD T H5970 cu  := (DD_fr w5953 gcu f5975 rfl (DD_fr hW gcu f5954 rfl hcu))
  have h5998 : DD T H5970 dr  := (DD_fr w5953 gdr f5975 rfl (DD_fr hW gdr f5954 rfl hdr))
  have h5999 : DE T H5970 cu  := (DE_fr w5953 gcu f5975 rfl (DE_fr hW gcu f5954 rfl hdec))
  have h6000 : DE T H5970 dr  := (DE_fr w5953 gdr f5975 rfl (DE_fr hW gdr f5954 rfl hded))
  have h6001 : SP T H5970 x C8 := (SP_fr w5953 gx f5975 rfl (SP_fr hW gx f5954 rfl hsp))
  have h6002 : CU T H5970 cu e8 d8 n8 := (CU_fr w5953 gcu f5975 rfl (CU_fr hW gcu f5954 rfl hcu8))
  have h6003 : CG T H5970 cu (d8 0 3) g8 := (CG_fr w5953 gcu f5975 rfl (CG_fr hW gcu f5954 rfl hcg8))
  have k6004 : H5970 x 3 = H x 3 := ((f5975 x 3 _ gx rfl).trans (f5954 x 3 _ gx rfl))
  have q6005 : H5970 x 3 = (ce8 : Int) := k6004.trans ece8
  have h6006 : CEN T H5970 ce8 e8 d8 := (CEN_fr w5953 gce8 f5975 rfl p5957)
  have h6007 : HDR T H5970 ce8  := (HDR_fr w5953 gce8 f5975 rfl (HDR_fr hW gce8 f5954 rfl hhdr8))
  have h6008 : MN26 T H5970 m (d8 0 3) g8 := (MN26_fr w5953 gm f5975 rfl (MN26_fr hW gm f5954 rfl hmn8))
  have h6009 : RB T H5970 m e8 d8 := (RB_fr w5953 gm f5975 rfl h5966)
  exact WL.loc hX (by simp) (next T H5970 ⟨⟨w5974, g0, gx, gm, go, by omega, by omega⟩, ⟨_, tc, tm, cu, dr, _, _, _, _, _, ce8, q5988, gtc, h5995, q5990, gtm, h5996, q5992, gcu, q5994, gdr, h5997, h5998, h5999, h6000, h6001, hC1, hC2, h6002, h6009, h6003, h6008, hE, hZ, (by omega), (by assumption), (by omega), (by first | assumption | exact SG_0), q6005, gce8, h6006, h6007, a5980, gm⟩, by omega, by omega⟩ (by omega) (by omega))
