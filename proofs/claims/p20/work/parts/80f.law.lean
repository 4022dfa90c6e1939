/-! THE LAW, GONE ON WITH (own work) -/
set_option maxHeartbeats 4000000 in
theorem wl_c36 {kt : Nat → Option mc_E} {CB SB : Nat} {X : mc_S → Prop} {T : wq_T} {H : wq_H} {Len x m o : Nat} {i : Int} (hX : wlX kt CB SB X) (hb : T.2.1 ≤ CB ∧ T.2.2.1 ≤ SB) (hI : wlJ Len x m o T H) (hL : Len ≤ 3072) (hi : 0 ≤ i ∧ i + 6 ≤ Len) (hb2 : T.2.1 + 20 ≤ CB ∧ T.2.2.1 + 500 ≤ SB)  (next : ∀ T' H', wlJ Len x m o T' H' → T'.2.1 ≤ T.2.1 + 20 → T'.2.2.1 ≤ T.2.2.1 + 500 → WL kt CB SB X 1653 (wlL i x m o) [] T' H') : WL kt CB SB X 1316 (wlL i x m o) [] T H := by
  obtain ⟨⟨hW, g0, gx, gm, go, hK, hr⟩, hXI, hY1, hY2⟩ := hI
  refine wl_of hX hb cL_1316 (rw_aload_n (pc' := 1317) (v := .ref x) rfl rfl rfl ?_)
  obtain ⟨B, tc, tm, cu, dr, C8, e8, d8, n8, g8, ce8, e0, gtc, htc, em, gtm, htm, ecu, gcu, edr, gdr, hcu, hdr, hdec, hded, hsp, hC1, hC2, hcu8, hrb8, hcg8, hmn8, hE, hZ, hn8, hXA, hV8, hSG, ece8, gce8, hcen8, hhdr8, hknn8, -⟩ := hXI
  have hN3 := RB_n3 hrb8
  have hE13 : ∀ h : Nat, h < 24 → 0 ≤ e8 13 h ∧ e8 13 h ≤ 100 := fun k hk => by
    obtain ⟨s, h1, h2, h3⟩ := hcu8.1.2.2.1
    exact ⟨(h3 k hk).1, (h3 k hk).2.1⟩
  have hXW := hXA.1
  have hXN := hXA.2
  have hE0 : e8 0 3 = d8 0 3 ∧ e8 0 0 = d8 0 0 := by
    have h := hE 0 (by decide)
    exact ⟨congrFun h 3, congrFun h 0⟩
  have u5385 := CU_k hcu8
  have h5386 : CY T H cu (d8 0 3) g8 (H cu 17) := ⟨hcg8, rfl⟩
  have h5387 : RY T H m (d8 0 3) g8 (H m 32) := ⟨hmn8, rfl⟩
  obtain ⟨t9, ht9⟩ : ∃ t : Int, t = H x 9 := ⟨_, rfl⟩
  obtain ⟨r5388, q5389, g5390⟩ := hW.ref gx (t' := 6) (n := 13) (j := 2) (p := 0) (q := 0) rfl (by decide) rfl
  refine wl_of hX hb cL_1317 (xc_V (pc' := 1320) (r := x) (as := []) (st := []) (lm_11_171) rfl rfl (Nat.le_of_ble_eq_true rfl) hW gx sh_1 (by decide) rfl (by decide) (u_147 (e := e8) (d := d8) (n := n8) hW gx ecu gcu q5389 g5390 ece8 gce8 (by assumption) (by assumption) (by omega) (by omega) (by omega) (by omega) hcu8 hcen8 hhdr8) (fun R5391 T5392 H5393 p5394 => ?_))
  obtain ⟨e5395, w5397, f5398, z5399, e5396, b5400, p5401⟩ := p5394
  subst e5395
  subst e5396
  show WL _ _ _ _ 1320 [(4, vI i), (3, .ref o), (2, .ref m), (1, .ref x), (0, .ref 0)] [vI z5399] _ H5393
  refine wl_of hX hb cL_1320 (rw_pop (pc' := 1321) rfl rfl ?_)
  refine wl_of hX hb cL_1321 (rw_aload_n (pc' := 1322) (v := .ref m) rfl rfl rfl ?_)
  have k5403 : wKI H5393 m = wKI H m := (wKI_fr hW gm f5398 rfl)
  have k5404 : H5393 x 9 = H x 9 := (f5398 x 9 _ gx rfl)
  have k5405 : H5393 m 6 = H m 6 := (f5398 m 6 _ gm rfl)
  have k5406 : H5393 x 11 = H x 11 := (f5398 x 11 _ gx rfl)
  have k5407 : H5393 m 13 = H m 13 := (f5398 m 13 _ gm rfl)
  have k5408 : H5393 x 8 = H x 8 := (f5398 x 8 _ gx rfl)
  have k5409 : H5393 m 3 = H m 3 := (f5398 m 3 _ gm rfl)
  have h5410 : RB T H5393 m e8 d8 := (RB_fr hW gm f5398 rfl hrb8)
  have h5411 : KNN T H5393 m e8 d8 := (KNN_fr hW gm f5398 rfl hknn8)
  refine wl_of hX hb cL_1322 (xc_V (pc' := 1325) (r := m) (as := []) (st := []) (lm_11_174) rfl rfl (Nat.le_of_ble_eq_true rfl) w5397 gm sh_42 (by decide) rfl (by decide) (u_282 (e := e8) (d := d8) w5397 gm (by omega) (by assumption) (by assumption) (by assumption) (by assumption) h5410 h5411) (fun R5412 T5413 H5414 p5415 => ?_))
  obtain ⟨e5416, w5418, f5419, z5420, e5417, b5421, p5422⟩ := p5415
  subst e5416
  subst e5417
  obtain ⟨a5423, a5424⟩ := p5422
  show WL _ _ _ _ 1325 [(4, vI i), (3, .ref o), (2, .ref m), (1, .ref x), (0, .ref 0)] [vI z5420] _ H5414
  refine wl_of hX hb cL_1325 (rw_pop (pc' := 1326) rfl rfl ?_)
  refine wl_of hX hb cL_1326 (rw_goto (p1 := 1653) (by decide) ?_)
  have k5425 : H5414 x 9 = H5393 x 9 := (f5419 x 9 _ gx rfl)
  have k5426 : H5414 m 6 = H5393 m 6 := (f5419 m 6 _ gm rfl)
  have k5427 : H5414 x 11 = H5393 x 11 := (f5419 x 11 _ gx rfl)
  have k5428 : H5414 m 13 = H5393 m 13 := (f5419 m 13 _ gm rfl)
  have k5429 : H5414 x 8 = H5393 x 8 := (f5419 x 8 _ gx rfl)
  have k5430 : H5414 m 3 = H5393 m 3 := (f5419 m 3 _ gm rfl)
  have k5431 : H5414 x 0 = H x 0 := ((f5419 x 0 _ gx rfl).trans (f5398 x 0 _ gx rfl))
  have q5432 : H5414 x 0 = (tc : Int) := k5431.trans e0
  have k5433 : H5414 m 5 = H m 5 := ((f5419 m 5 _ gm rfl).trans (f5398 m 5 _ gm rfl))
  have q5434 : H5414 m 5 = (tm : Int) := k5433.trans em
  have k5435 : H5414 x 6 = H x 6 := ((f5419 x 6 _ gx rfl).trans (f5398 x 6 _ gx rfl))
  have q5436 : H5414 x 6 = (cu : Int) := k5435.trans ecu
  have k5437 : H5414 x 7 = H x 7 := ((f5419 x 7 _ gx rfl).trans (f5398 x 7 _ gx rfl))
  have q5438 : H5414 x 7 = (dr : Int) := k5437.trans edr
  have h5439 : TP T H5414 tc B := (TP_fr w5397 gtc f5419 rfl (TP_fr hW gtc f5398 rfl htc))
  have h5440 : TM T H5414 tm B := (TM_fr w5397 gtm f5419 rfl (TM_fr hW gtm f5398 rfl htm))
  have h5441 : DD T H5414 cu  := (DD_fr w5397 gcu f5419 rfl (DD_fr hW gcu f5398 rfl hcu))
  have h5442 : DD T H5414 dr  := (DD_fr w5397 gdr f5419 rfl (DD_fr hW gdr f5398 rfl hdr))
  have h5443 : DE T H5414 cu  := (DE_fr w5397 gcu f5419 rfl (DE_fr hW gcu f5398 rfl hdec))
  have h5444 : DE T H5414 dr  := (DE_fr w5397 gdr f5419 rfl (DE_fr hW gdr f5398 rfl hded))
  have h5445 : SP T H5414 x C8 := (SP_fr w5397 gx f5419 rfl (SP_fr hW gx f5398 rfl hsp))
  have h5446 : CU T H5414 cu e8 d8 n8 := (CU_fr w5397 gcu f5419 rfl (CU_fr hW gcu f5398 rfl hcu8))
  have h5447 : CY T H5414 cu (d8 0 3) g8 (H cu 17) := (CY_fr w5397 gcu f5419 rfl (CY_fr hW gcu f5398 rfl h5386))
  have k5448 : H5414 x 3 = H x 3 := ((f5419 x 3 _ gx rfl).trans (f5398 x 3 _ gx rfl))
  have q5449 : H5414 x 3 = (ce8 : Int) := k5448.trans ece8
  have h5450 : CEN T H5414 ce8 e8 d8 := (CEN_fr w5397 gce8 f5419 rfl p5401)
  have h5451 : HDR T H5414 ce8  := (HDR_fr w5397 gce8 f5419 rfl (HDR_fr hW gce8 f5398 rfl hhdr8))
  have h5452 : RY T H5414 m (d8 0 3) g8 (H m 32) := (RY_fr w5397 gm f5419 rfl (RY_fr hW gm f5398 rfl h5387))
  have h5453 : RB T H5414 m e8 d8 := (RB_fr w5397 gm f5419 rfl h5410)
  exact WL.loc hX (by simp) (next T H5414 ⟨⟨w5418, g0, gx, gm, go, by omega, by omega⟩, ⟨_, tc, tm, cu, dr, _, _, _, _, _, ce8, q5432, gtc, h5439, q5434, gtm, h5440, q5436, gcu, q5438, gdr, h5441, h5442, h5443, h5444, h5445, hC1, hC2, h5446, h5453, (h5447).1, (h5452).1, hE, hZ, (by omega), (by assumption), (by omega), (by first | assumption | exact SG_0), q5449, gce8, h5450, h5451, a5424, gm⟩, by omega, by omega⟩ (by omega) (by omega))
set_option maxHeartbeats 4000000 in
theorem wl_c37 {kt : Nat → Option mc_E} {CB SB : Nat} {X : mc_S → Prop} {T : wq_T} {H : wq_H} {Len x m o : Nat} {i : Int} (hX : wlX kt CB SB X) (hb : T.2.1 ≤ CB ∧ T.2.2.1 ≤ SB) (hI : wlJ Len x m o T H) (hL : Len ≤ 3072) (hi : 0 ≤ i ∧ i + 6 ≤ Len) (hb2 : T.2.1 + 20 ≤ CB ∧ T.2.2.1 + 500 ≤ SB)  (next : ∀ T' H', wlJ Len x m o T' H' → T'.2.1 ≤ T.2.1 + 20 → T'.2.2.1 ≤ T.2.2.1 + 500 → WL kt CB SB X 1653 (wlL i x m o) [] T' H') : WL kt CB SB X 1329 (wlL i x m o) [] T H := by
  obtain ⟨⟨hW, g0, gx, gm, go, hK, hr⟩, hXI, hY1, hY2⟩ := hI
  refine wl_of hX hb cL_1329 (rw_aload_n (pc' := 1330) (v := .ref x) rfl rfl rfl ?_)
  refine wl_of hX hb cL_1330 (xc_V (pc' := 1333) (r := x) (as := []) (st := []) (lm_11_175) rfl rfl (Nat.le_of_ble_eq_true rfl) hW gx sh_1 (by decide) rfl (by decide) (s_149 hW gx) (fun R5454 T5455 H5456 p5457 => ?_))
  obtain ⟨e5458, w5460, f5461, z5462, e5459, b5463⟩ := p5457
  subst e5458
  subst e5459
  show WL _ _ _ _ 1333 [(4, vI i), (3, .ref o), (2, .ref m), (1, .ref x), (0, .ref 0)] [vI z5462] _ H5456
  refine wl_of hX hb cL_1333 (rw_pop (pc' := 1334) rfl rfl ?_)
  refine wl_of hX hb cL_1334 (rw_aload_n (pc' := 1335) (v := .ref m) rfl rfl rfl ?_)
  have k5464 : wKI H5456 m = wKI H m := (wKI_fr hW gm f5461 rfl)
  have k5465 : H5456 x 9 = H x 9 := (f5461 x 9 _ gx rfl)
  have k5466 : H5456 m 6 = H m 6 := (f5461 m 6 _ gm rfl)
  have k5467 : H5456 x 11 = H x 11 := (f5461 x 11 _ gx rfl)
  have k5468 : H5456 m 13 = H m 13 := (f5461 m 13 _ gm rfl)
  have k5469 : H5456 x 8 = H x 8 := (f5461 x 8 _ gx rfl)
  have k5470 : H5456 m 3 = H m 3 := (f5461 m 3 _ gm rfl)
  refine wl_of hX hb cL_1335 (xc_V (pc' := 1338) (r := m) (as := []) (st := []) (lm_11_178) rfl rfl (Nat.le_of_ble_eq_true rfl) w5460 gm sh_42 (by decide) rfl (by decide) (s_283 w5460 gm (by omega)) (fun R5471 T5472 H5473 p5474 => ?_))
  obtain ⟨e5475, w5477, f5478, z5480, e5476, b5481, p5479⟩ := p5474
  subst e5475
  subst e5476
  show WL _ _ _ _ 1338 [(4, vI i), (3, .ref o), (2, .ref m), (1, .ref x), (0, .ref 0)] [vI z5480] _ H5473
  refine wl_of hX hb cL_1338 (rw_pop (pc' := 1339) rfl rfl ?_)
  refine wl_of hX hb cL_1339 (rw_goto (p1 := 1653) (by decide) ?_)
  have k5482 : H5473 x 9 = H5456 x 9 := (f5478 x 9 _ gx rfl)
  have k5483 : H5473 m 6 = H5456 m 6 := (f5478 m 6 _ gm rfl)
  have k5484 : H5473 x 11 = H5456 x 11 := (f5478 x 11 _ gx rfl)
  have k5485 : H5473 m 13 = H5456 m 13 := (f5478 m 13 _ gm rfl)
  have k5486 : H5473 x 8 = H5456 x 8 := (f5478 x 8 _ gx rfl)
  have k5487 : H5473 m 3 = H5456 m 3 := (f5478 m 3 _ gm rfl)
  have h5488 : XI T H5473 x m := (XI_fr w5460 gx f5478 rfl (XI_fr hW gx f5461 rfl hXI))
  exact WL.loc hX (by simp) (next T H5473 ⟨⟨w5477, g0, gx, gm, go, by omega, by omega⟩, h5488, by omega, by omega⟩ (by omega) (by omega))
set_option maxHeartbeats 4000000 in
theorem wl_c38 {kt : Nat → Option mc_E} {CB SB : Nat} {X : mc_S → Prop} {T : wq_T} {H : wq_H} {Len x m o : Nat} {i : Int} (hX : wlX kt CB SB X) (hb : T.2.1 ≤ CB ∧ T.2.2.1 ≤ SB) (hI : wlJ Len x m o T H) (hL : Len ≤ 3072) (hi : 0 ≤ i ∧ i + 6 ≤ Len) (hb2 : T.2.1 + 20 ≤ CB ∧ T.2.2.1 + 500 ≤ SB)  (next : ∀ T' H', wlJ Len x m o T' H' → T'.2.1 ≤ T.2.1 + 20 → T'.2.2.1 ≤ T.2.2.1 + 500 → WL kt CB SB X 1653 (wlL i x m o) [] T' H') : WL kt CB SB X 1342 (wlL i x m o) [] T H := by
  obtain ⟨⟨hW, g0, gx, gm, go, hK, hr⟩, hXI, hY1, hY2⟩ := hI
  refine wl_of hX hb cL_1342 (rw_aload_n (pc' := 1343) (v := .ref x) rfl rfl rfl ?_)
  refine wl_of hX hb cL_1343 (rw_aload_n (pc' := 1344) (v := .ref 0) rfl rfl rfl ?_)
  refine wl_of hX hb cL_1344 (rw_iload (pc' := 1346) (z := i) rfl rfl ?_)
  refine wl_of hX hb cL_1346 (rw_iconst (pc' := 1347) rfl ?_)
  refine wl_of hX hb cL_1347 (rw_iadd (pc' := 1348) rfl ?_)
  refine wl_of hX hb cL_1348 (xa_I (so := 0) (pc' := 1349) (a := 0) hW g0 (wsh_s _) (by omega) (wty_s _ _) (by omega) (by omega) rfl (fun b5489 b5490 => ?_))
  refine wl_of hX hb cL_1349 (xc_V (pc' := 1352) (r := x) (as := [vI (H 0 ((i + 1).toNat))]) (st := []) (lm_11_179) rfl rfl (Nat.le_of_ble_eq_true rfl) hW gx sh_1 (by decide) rfl (by decide) (s_152 hW gx ⟨by omega, by omega⟩) (fun R5491 T5492 H5493 p5494 => ?_))
  obtain ⟨e5495, w5497, f5498, z5499, e5496, b5500⟩ := p5494
  subst e5495
  subst e5496
  show WL _ _ _ _ 1352 [(4, vI i), (3, .ref o), (2, .ref m), (1, .ref x), (0, .ref 0)] [vI z5499] _ H5493
  refine wl_of hX hb cL_1352 (rw_pop (pc' := 1353) rfl rfl ?_)
  refine wl_of hX hb cL_1353 (rw_aload_n (pc' := 1354) (v := .ref m) rfl rfl rfl ?_)
  refine wl_of hX hb cL_1354 (rw_aload_n (pc' := 1355) (v := .ref 0) rfl rfl rfl ?_)
  refine wl_of hX hb cL_1355 (rw_iload (pc' := 1357) (z := i) rfl rfl ?_)
  refine wl_of hX hb cL_1357 (rw_iconst (pc' := 1358) rfl ?_)
  refine wl_of hX hb cL_1358 (rw_iadd (pc' := 1359) rfl ?_)
  have k5503 : H5493 0 ((i + 1).toNat) = H 0 ((i + 1).toNat) := (f5498 0 ((i + 1).toNat) _ g0 (wmem_s rfl))
  refine wl_of hX hb cL_1359 (xa_I (so := 0) (pc' := 1360) (a := 0) w5497 g0 (wsh_s _) (by omega) (wty_s _ _) (by omega) (by omega) rfl (fun b5501 b5502 => ?_))
  have k5504 : wKI H5493 m = wKI H m := (wKI_fr hW gm f5498 rfl)
  have k5505 : H5493 x 9 = H x 9 := (f5498 x 9 _ gx rfl)
  have k5506 : H5493 m 6 = H m 6 := (f5498 m 6 _ gm rfl)
  have k5507 : H5493 x 11 = H x 11 := (f5498 x 11 _ gx rfl)
  have k5508 : H5493 m 13 = H m 13 := (f5498 m 13 _ gm rfl)
  have k5509 : H5493 x 8 = H x 8 := (f5498 x 8 _ gx rfl)
  have k5510 : H5493 m 3 = H m 3 := (f5498 m 3 _ gm rfl)
  refine wl_of hX hb cL_1360 (xc_V (pc' := 1363) (r := m) (as := [vI (H5493 0 ((i + 1).toNat))]) (st := []) (lm_11_182) rfl rfl (Nat.le_of_ble_eq_true rfl) w5497 gm sh_42 (by decide) rfl (by decide) (s_284 w5497 gm ⟨by omega, by omega⟩ (by omega)) (fun R5511 T5512 H5513 p5514 => ?_))
  obtain ⟨e5515, w5517, f5518, z5520, e5516, b5521, p5519⟩ := p5514
  subst e5515
  subst e5516
  show WL _ _ _ _ 1363 [(4, vI i), (3, .ref o), (2, .ref m), (1, .ref x), (0, .ref 0)] [vI z5520] _ H5513
  refine wl_of hX hb cL_1363 (rw_pop (pc' := 1364) rfl rfl ?_)
  refine wl_of hX hb cL_1364 (rw_goto (p1 := 1653) (by decide) ?_)
  have k5522 : H5513 x 9 = H5493 x 9 := (f5518 x 9 _ gx rfl)
  have k5523 : H5513 m 6 = H5493 m 6 := (f5518 m 6 _ gm rfl)
  have k5524 : H5513 x 11 = H5493 x 11 := (f5518 x 11 _ gx rfl)
  have k5525 : H5513 m 13 = H5493 m 13 := (f5518 m 13 _ gm rfl)
  have k5526 : H5513 x 8 = H5493 x 8 := (f5518 x 8 _ gx rfl)
  have k5527 : H5513 m 3 = H5493 m 3 := (f5518 m 3 _ gm rfl)
  have h5528 : XI T H5513 x m := (XI_fr w5497 gx f5518 rfl (XI_fr hW gx f5498 rfl hXI))
  exact WL.loc hX (by simp) (next T H5513 ⟨⟨w5517, g0, gx, gm, go, by omega, by omega⟩, h5528, by omega, by omega⟩ (by omega) (by omega))
set_option maxHeartbeats 4000000 in
theorem wl_c39 {kt : Nat → Option mc_E} {CB SB : Nat} {X : mc_S → Prop} {T : wq_T} {H : wq_H} {Len x m o : Nat} {i : Int} (hX : wlX kt CB SB X) (hb : T.2.1 ≤ CB ∧ T.2.2.1 ≤ SB) (hI : wlJ Len x m o T H) (hL : Len ≤ 3072) (hi : 0 ≤ i ∧ i + 6 ≤ Len) (hb2 : T.2.1 + 20 ≤ CB ∧ T.2.2.1 + 500 ≤ SB)  (next : ∀ T' H', wlJ Len x m o T' H' → T'.2.1 ≤ T.2.1 + 20 → T'.2.2.1 ≤ T.2.2.1 + 500 → WL kt CB SB X 1653 (wlL i x m o) [] T' H') : WL kt CB SB X 1367 (wlL i x m o) [] T H := by
  obtain ⟨⟨hW, g0, gx, gm, go, hK, hr⟩, hXI, hY1, hY2⟩ := hI
  refine wl_of hX hb cL_1367 (rw_aload_n (pc' := 1368) (v := .ref x) rfl rfl rfl ?_)
  refine wl_of hX hb cL_1368 (rw_aload_n (pc' := 1369) (v := .ref 0) rfl rfl rfl ?_)
  refine wl_of hX hb cL_1369 (rw_iload (pc' := 1371) (z := i) rfl rfl ?_)
  refine wl_of hX hb cL_1371 (rw_iconst (pc' := 1372) rfl ?_)
  refine wl_of hX hb cL_1372 (rw_iadd (pc' := 1373) rfl ?_)
  refine wl_of hX hb cL_1373 (xa_I (so := 0) (pc' := 1374) (a := 0) hW g0 (wsh_s _) (by omega) (wty_s _ _) (by omega) (by omega) rfl (fun b5529 b5530 => ?_))
  refine wl_of hX hb cL_1374 (rw_aload_n (pc' := 1375) (v := .ref 0) rfl rfl rfl ?_)
  refine wl_of hX hb cL_1375 (rw_iload (pc' := 1377) (z := i) rfl rfl ?_)
  refine wl_of hX hb cL_1377 (rw_iconst (pc' := 1378) rfl ?_)
  refine wl_of hX hb cL_1378 (rw_iadd (pc' := 1379) rfl ?_)
  refine wl_of hX hb cL_1379 (xa_I (so := 0) (pc' := 1380) (a := 0) hW g0 (wsh_s _) (by omega) (wty_s _ _) (by omega) (by omega) rfl (fun b5531 b5532 => ?_))
  obtain ⟨B, tc, tm, cu, dr, C8, e8, d8, n8, g8, ce8, e0, gtc, htc, em, gtm, htm, ecu, gcu, edr, gdr, hcu, hdr, hdec, hded, hsp, hC1, hC2, hcu8, hrb8, hcg8, hmn8, hE, hZ, hn8, hXA, hV8, hSG, ece8, gce8, hcen8, hhdr8, hknn8, -⟩ := hXI
  have hN3 := RB_n3 hrb8
  have hE13 : ∀ h : Nat, h < 24 → 0 ≤ e8 13 h ∧ e8 13 h ≤ 100 := fun k hk => by
    obtain ⟨s, h1, h2, h3⟩ := hcu8.1.2.2.1
    exact ⟨(h3 k hk).1, (h3 k hk).2.1⟩
  have hXW := hXA.1
  have hXN := hXA.2
  have hE0 : e8 0 3 = d8 0 3 ∧ e8 0 0 = d8 0 0 := by
    have h := hE 0 (by decide)
    exact ⟨congrFun h 3, congrFun h 0⟩
  have u5533 := CU_k hcu8
  have h5534 : CY T H cu (d8 0 3) g8 (H cu 17) := ⟨hcg8, rfl⟩
  have h5535 : RY T H m (d8 0 3) g8 (H m 32) := ⟨hmn8, rfl⟩
  obtain ⟨t9, ht9⟩ : ∃ t : Int, t = H x 9 := ⟨_, rfl⟩
  obtain ⟨y9, hy9⟩ : ∃ y : Int, y = H 0 ((i + 2).toNat) := ⟨_, rfl⟩
  refine wl_of hX hb cL_1380 (xc_V (pc' := 1383) (r := x) (as := [vI (H 0 ((i + 1).toNat)), vI (H 0 ((i + 2).toNat))]) (st := []) (lm_11_183) rfl rfl (Nat.le_of_ble_eq_true rfl) hW gx sh_1 (by decide) rfl (by decide) (u_153 (e := e8) (d := d8) (n := n8) (y := ((H 0 ((i + 1).toNat)))) (w := (((H 0 ((i + 2).toNat)) + 1))) hW gx ⟨by omega, by omega⟩ ⟨by omega, by omega⟩ ecu gcu ece8 gce8 (by omega) (by omega) (by omega) (by omega) hcu8 hcen8) (fun R5536 T5537 H5538 p5539 => ?_))
  obtain ⟨e5540, w5542, f5543, z5544, e5541, b5545, p5546⟩ := p5539
  subst e5540
  subst e5541
  rcases p5546 with ⟨a5547, a5548, a5549, a5550⟩ | ⟨a5551, a5552, a5553, a5554, a5555⟩
  · show WL _ _ _ _ 1383 [(4, vI i), (3, .ref o), (2, .ref m), (1, .ref x), (0, .ref 0)] [vI z5544] _ H5538
    have u5556 := CU_k a5549
    refine wl_of hX hb cL_1383 (rw_pop (pc' := 1384) rfl rfl ?_)
    refine wl_of hX hb cL_1384 (rw_aload_n (pc' := 1385) (v := .ref m) rfl rfl rfl ?_)
    refine wl_of hX hb cL_1385 (rw_aload_n (pc' := 1386) (v := .ref 0) rfl rfl rfl ?_)
    refine wl_of hX hb cL_1386 (rw_iload (pc' := 1388) (z := i) rfl rfl ?_)
    refine wl_of hX hb cL_1388 (rw_iconst (pc' := 1389) rfl ?_)
    refine wl_of hX hb cL_1389 (rw_iadd (pc' := 1390) rfl ?_)
    have k5559 : H5538 0 ((i + 1).toNat) = H 0 ((i + 1).toNat) := (f5543 0 ((i + 1).toNat) _ g0 (wmem_s rfl))
    refine wl_of hX hb cL_1390 (xa_I (so := 0) (pc' := 1391) (a := 0) w5542 g0 (wsh_s _) (by omega) (wty_s _ _) (by omega) (by omega) rfl (fun b5557 b5558 => ?_))
    refine wl_of hX hb cL_1391 (rw_aload_n (pc' := 1392) (v := .ref 0) rfl rfl rfl ?_)
    refine wl_of hX hb cL_1392 (rw_iload (pc' := 1394) (z := i) rfl rfl ?_)
    refine wl_of hX hb cL_1394 (rw_iconst (pc' := 1395) rfl ?_)
    refine wl_of hX hb cL_1395 (rw_iadd (pc' := 1396) rfl ?_)
    have k5562 : H5538 0 ((i + 2).toNat) = H 0 ((i + 2).toNat) := (f5543 0 ((i + 2).toNat) _ g0 (wmem_s rfl))
    refine wl_of hX hb cL_1396 (xa_I (so := 0) (pc' := 1397) (a := 0) w5542 g0 (wsh_s _) (by omega) (wty_s _ _) (by omega) (by omega) rfl (fun b5560 b5561 => ?_))
    have k5563 : wKI H5538 m = wKI H m := (wKI_fr hW gm f5543 rfl)
    have k5564 : H5538 x 9 = H x 9 := (f5543 x 9 _ gx rfl)
    have k5565 : H5538 m 6 = H m 6 := (f5543 m 6 _ gm rfl)
    have k5566 : H5538 x 11 = H x 11 := (f5543 x 11 _ gx rfl)
    have k5567 : H5538 m 13 = H m 13 := (f5543 m 13 _ gm rfl)
    have k5568 : H5538 x 8 = H x 8 := (f5543 x 8 _ gx rfl)
    have k5569 : H5538 m 3 = H m 3 := (f5543 m 3 _ gm rfl)
    rw [show H5538 0 ((i + 2).toNat) = H 0 ((i + 2).toNat) by omega]
    rw [show H5538 0 ((i + 1).toNat) = H 0 ((i + 1).toNat) by omega]
    have h5570 : RB T H5538 m e8 d8 := (RB_fr hW gm f5543 rfl hrb8)
    have h5571 : KNN T H5538 m e8 d8 := (KNN_fr hW gm f5543 rfl hknn8)
    refine wl_of hX hb cL_1397 (xc_V (pc' := 1400) (r := m) (as := [vI (H 0 ((i + 1).toNat)), vI (H 0 ((i + 2).toNat))]) (st := []) (lm_11_186) rfl rfl (Nat.le_of_ble_eq_true rfl) w5542 gm sh_42 (by decide) rfl (by decide) (u_285 (e := e8) (d := d8) (y := ((H 0 ((i + 1).toNat)))) (w := (((H 0 ((i + 2).toNat)) + 1))) w5542 gm ⟨by omega, by omega⟩ ⟨by omega, by omega⟩ (by omega) (by omega) (by omega) h5570 h5571) (fun R5572 T5573 H5574 p5575 => ?_))
    obtain ⟨e5576, w5578, f5579, z5580, e5577, b5581, p5582⟩ := p5575
    subst e5576
    subst e5577
    rcases p5582 with ⟨a5583, a5584, a5585, a5586, a5587⟩ | ⟨a5588, a5589, a5590, a5591, a5592⟩
    · show WL _ _ _ _ 1400 [(4, vI i), (3, .ref o), (2, .ref m), (1, .ref x), (0, .ref 0)] [vI z5580] _ H5574
      refine wl_of hX hb cL_1400 (rw_pop (pc' := 1401) rfl rfl ?_)
      refine wl_of hX hb cL_1401 (rw_goto (p1 := 1653) (by decide) ?_)
      have k5593 : H5574 x 9 = H5538 x 9 := (f5579 x 9 _ gx rfl)
      have k5594 : H5574 m 6 = H5538 m 6 := (f5579 m 6 _ gm rfl)
      have k5595 : H5574 x 11 = H5538 x 11 := (f5579 x 11 _ gx rfl)
      have k5596 : H5574 m 13 = H5538 m 13 := (f5579 m 13 _ gm rfl)
      have k5597 : H5574 x 8 = H5538 x 8 := (f5579 x 8 _ gx rfl)
      have k5598 : H5574 m 3 = H5538 m 3 := (f5579 m 3 _ gm rfl)
      have k5599 : H5574 x 0 = H x 0 := ((f5579 x 0 _ gx rfl).trans (f5543 x 0 _ gx rfl))
      have q5600 : H5574 x 0 = (tc : Int) := k5599.trans e0
      have k5601 : H5574 m 5 = H m 5 := ((f5579 m 5 _ gm rfl).trans (f5543 m 5 _ gm rfl))
      have q5602 : H5574 m 5 = (tm : Int) := k5601.trans em
      have k5603 : H5574 x 6 = H x 6 := ((f5579 x 6 _ gx rfl).trans (f5543 x 6 _ gx rfl))
      have q5604 : H5574 x 6 = (cu : Int) := k5603.trans ecu
      have k5605 : H5574 x 7 = H x 7 := ((f5579 x 7 _ gx rfl).trans (f5543 x 7 _ gx rfl))
      have q5606 : H5574 x 7 = (dr : Int) := k5605.trans edr
      have h5607 : TP T H5574 tc B := (TP_fr w5542 gtc f5579 rfl (TP_fr hW gtc f5543 rfl htc))
      have h5608 : TM T H5574 tm B := (TM_fr w5542 gtm f5579 rfl (TM_fr hW gtm f5543 rfl htm))
      have h5609 : DD T H5574 cu  := (DD_fr w5542 gcu f5579 rfl (DD_fr hW gcu f5543 rfl hcu))
      have h5610 : DD T H5574 dr  := (DD_fr w5542 gdr f5579 rfl (DD_fr hW gdr f5543 rfl hdr))
      have h5611 : DE T H5574 cu  := (DE_fr w5542 gcu f5579 rfl (DE_fr hW gcu f5543 rfl hdec))
      have h5612 : DE T H5574 dr  := (DE_fr w5542 gdr f5579 rfl (DE_fr hW gdr f5543 rfl hded))
      have h5613 : SP T H5574 x C8 := (SP_fr w5542 gx f5579 rfl (SP_fr hW gx f5543 rfl hsp))
      have h5614 : CU T H5574 cu e8 d8 n8 := (CU_fr w5542 gcu f5579 rfl a5549)
      have h5615 : CY T H5574 cu (d8 0 3) g8 (H cu 17) := (CY_fr w5542 gcu f5579 rfl (CY_fr hW gcu f5543 rfl h5534))
      have k5616 : H5574 x 3 = H x 3 := ((f5579 x 3 _ gx rfl).trans (f5543 x 3 _ gx rfl))
      have q5617 : H5574 x 3 = (ce8 : Int) := k5616.trans ece8
      have h5618 : CEN T H5574 ce8 e8 d8 := (CEN_fr w5542 gce8 f5579 rfl a5550)
      have h5619 : HDR T H5574 ce8  := (HDR_fr w5542 gce8 f5579 rfl (HDR_fr hW gce8 f5543 rfl hhdr8))
      have h5620 : RY T H5574 m (d8 0 3) g8 (H m 32) := (RY_fr w5542 gm f5579 rfl (RY_fr hW gm f5543 rfl h5535))
      exact WL.loc hX (by simp) (next T H5574 ⟨⟨w5578, g0, gx, gm, go, by omega, by omega⟩, ⟨_, tc, tm, cu, dr, _, _, _, _, _, ce8, q5600, gtc, h5607, q5602, gtm, h5608, q5604, gcu, q5606, gdr, h5609, h5610, h5611, h5612, h5613, hC1, hC2, h5614, a5586, (h5615).1, (h5620).1, hE, hZ, (by omega), (by assumption), (by omega), (by first | assumption | exact SG_0), q5617, gce8, h5618, h5619, a5587, gm⟩, by omega, by omega⟩ (by omega) (by omega))
    · show WL _ _ _ _ 1400 [(4, vI i), (3, .ref o), (2, .ref m), (1, .ref x), (0, .ref 0)] [vI z5580] _ H5574
      refine wl_of hX hb cL_1400 (rw_pop (pc' := 1401) rfl rfl ?_)
      refine wl_of hX hb cL_1401 (rw_goto (p1 := 1653) (by decide) ?_)
      have k5621 : H5574 x 9 = H5538 x 9 := (f5579 x 9 _ gx rfl)
      have k5622 : H5574 m 6 = H5538 m 6 := (f5579 m 6 _ gm rfl)
      have k5623 : H5574 x 11 = H5538 x 11 := (f5579 x 11 _ gx rfl)
      have k5624 : H5574 m 13 = H5538 m 13 := (f5579 m 13 _ gm rfl)
      have k5625 : H5574 x 8 = H5538 x 8 := (f5579 x 8 _ gx rfl)
      have k5626 : H5574 m 3 = H5538 m 3 := (f5579 m 3 _ gm rfl)
      have k5627 : H5574 x 0 = H x 0 := ((f5579 x 0 _ gx rfl).trans (f5543 x 0 _ gx rfl))
      have q5628 : H5574 x 0 = (tc : Int) := k5627.trans e0
      have k5629 : H5574 m 5 = H m 5 := ((f5579 m 5 _ gm rfl).trans (f5543 m 5 _ gm rfl))
      have q5630 : H5574 m 5 = (tm : Int) := k5629.trans em
      have k5631 : H5574 x 6 = H x 6 := ((f5579 x 6 _ gx rfl).trans (f5543 x 6 _ gx rfl))
      have q5632 : H5574 x 6 = (cu : Int) := k5631.trans ecu
      have k5633 : H5574 x 7 = H x 7 := ((f5579 x 7 _ gx rfl).trans (f5543 x 7 _ gx rfl))
      have q5634 : H5574 x 7 = (dr : Int) := k5633.trans edr
      have h5635 : TP T H5574 tc B := (TP_fr w5542 gtc f5579 rfl (TP_fr hW gtc f5543 rfl htc))
      have h5636 : TM T H5574 tm B := (TM_fr w5542 gtm f5579 rfl (TM_fr hW gtm f5543 rfl htm))
      have h5637 : DD T H5574 cu  := (DD_fr w5542 gcu f5579 rfl (DD_fr hW gcu f5543 rfl hcu))
      have h5638 : DD T H5574 dr  := (DD_fr w5542 gdr f5579 rfl (DD_fr hW gdr f5543 rfl hdr))
      have h5639 : DE T H5574 cu  := (DE_fr w5542 gcu f5579 rfl (DE_fr hW gcu f5543 rfl hdec))
      have h5640 : DE T H5574 dr  := (DE_fr w5542 gdr f5579 rfl (DE_fr hW gdr f5543 rfl hded))
      have h5641 : SP T H5574 x C8 := (SP_fr w5542 gx f5579 rfl (SP_fr hW gx f5543 rfl hsp))
      have h5642 : CU T H5574 cu e8 d8 n8 := (CU_fr w5542 gcu f5579 rfl a5549)
      have h5643 : CY T H5574 cu (d8 0 3) g8 (H cu 17) := (CY_fr w5542 gcu f5579 rfl (CY_fr hW gcu f5543 rfl h5534))
      have k5644 : H5574 x 3 = H x 3 := ((f5579 x 3 _ gx rfl).trans (f5543 x 3 _ gx rfl))
      have q5645 : H5574 x 3 = (ce8 : Int) := k5644.trans ece8
      have h5646 : CEN T H5574 ce8 e8 d8 := (CEN_fr w5542 gce8 f5579 rfl a5550)
      have h5647 : HDR T H5574 ce8  := (HDR_fr w5542 gce8 f5579 rfl (HDR_fr hW gce8 f5543 rfl hhdr8))
      exfalso
      omega
  · show WL _ _ _ _ 1383 [(4, vI i), (3, .ref o), (2, .ref m), (1, .ref x), (0, .ref 0)] [vI z5544] _ H5538
    have u5648 := CU_k a5555
    refine wl_of hX hb cL_1383 (rw_pop (pc' := 1384) rfl rfl ?_)
    refine wl_of hX hb cL_1384 (rw_aload_n (pc' := 1385) (v := .ref m) rfl rfl rfl ?_)
    refine wl_of hX hb cL_1385 (rw_aload_n (pc' := 1386) (v := .ref 0) rfl rfl rfl ?_)
    refine wl_of hX hb cL_1386 (rw_iload (pc' := 1388) (z := i) rfl rfl ?_)
    refine wl_of hX hb cL_1388 (rw_iconst (pc' := 1389) rfl ?_)
    refine wl_of hX hb cL_1389 (rw_iadd (pc' := 1390) rfl ?_)
    have k5651 : H5538 0 ((i + 1).toNat) = H 0 ((i + 1).toNat) := (f5543 0 ((i + 1).toNat) _ g0 (wmem_s rfl))
    refine wl_of hX hb cL_1390 (xa_I (so := 0) (pc' := 1391) (a := 0) w5542 g0 (wsh_s _) (by omega) (wty_s _ _) (by omega) (by omega) rfl (fun b5649 b5650 => ?_))
    refine wl_of hX hb cL_1391 (rw_aload_n (pc' := 1392) (v := .ref 0) rfl rfl rfl ?_)
    refine wl_of hX hb cL_1392 (rw_iload (pc' := 1394) (z := i) rfl rfl ?_)
    refine wl_of hX hb cL_1394 (rw_iconst (pc' := 1395) rfl ?_)
    refine wl_of hX hb cL_1395 (rw_iadd (pc' := 1396) rfl ?_)
    have k5654 : H5538 0 ((i + 2).toNat) = H 0 ((i + 2).toNat) := (f5543 0 ((i + 2).toNat) _ g0 (wmem_s rfl))
    refine wl_of hX hb cL_1396 (xa_I (so := 0) (pc' := 1397) (a := 0) w5542 g0 (wsh_s _) (by omega) (wty_s _ _) (by omega) (by omega) rfl (fun b5652 b5653 => ?_))
    have k5655 : wKI H5538 m = wKI H m := (wKI_fr hW gm f5543 rfl)
    have k5656 : H5538 x 9 = H x 9 := (f5543 x 9 _ gx rfl)
    have k5657 : H5538 m 6 = H m 6 := (f5543 m 6 _ gm rfl)
    have k5658 : H5538 x 11 = H x 11 := (f5543 x 11 _ gx rfl)
    have k5659 : H5538 m 13 = H m 13 := (f5543 m 13 _ gm rfl)
    have k5660 : H5538 x 8 = H x 8 := (f5543 x 8 _ gx rfl)
    have k5661 : H5538 m 3 = H m 3 := (f5543 m 3 _ gm rfl)
    rw [show H5538 0 ((i + 2).toNat) = H 0 ((i + 2).toNat) by omega]
    rw [show H5538 0 ((i + 1).toNat) = H 0 ((i + 1).toNat) by omega]
    have h5662 : RB T H5538 m e8 d8 := (RB_fr hW gm f5543 rfl hrb8)
    have h5663 : KNN T H5538 m e8 d8 := (KNN_fr hW gm f5543 rfl hknn8)
    refine wl_of hX hb cL_1397 (xc_V (pc' := 1400) (r := m) (as := [vI (H 0 ((i + 1).toNat)), vI (H 0 ((i + 2).toNat))]) (st := []) (lm_11_186) rfl rfl (Nat.le_of_ble_eq_true rfl) w5542 gm sh_42 (by decide) rfl (by decide) (u_285 (e := e8) (d := d8) (y := ((H 0 ((i + 1).toNat)))) (w := (((H 0 ((i + 2).toNat)) + 1))) w5542 gm ⟨by omega, by omega⟩ ⟨by omega, by omega⟩ (by omega) (by omega) (by omega) h5662 h5663) (fun R5664 T5665 H5666 p5667 => ?_))
    obtain ⟨e5668, w5670, f5671, z5672, e5669, b5673, p5674⟩ := p5667
    subst e5668
    subst e5669
    rcases p5674 with ⟨a5675, a5676, a5677, a5678, a5679⟩ | ⟨a5680, a5681, a5682, a5683, a5684⟩
    · show WL _ _ _ _ 1400 [(4, vI i), (3, .ref o), (2, .ref m), (1, .ref x), (0, .ref 0)] [vI z5672] _ H5666
      refine wl_of hX hb cL_1400 (rw_pop (pc' := 1401) rfl rfl ?_)
      refine wl_of hX hb cL_1401 (rw_goto (p1 := 1653) (by decide) ?_)
      have k5685 : H5666 x 9 = H5538 x 9 := (f5671 x 9 _ gx rfl)
      have k5686 : H5666 m 6 = H5538 m 6 := (f5671 m 6 _ gm rfl)
      have k5687 : H5666 x 11 = H5538 x 11 := (f5671 x 11 _ gx rfl)
      have k5688 : H5666 m 13 = H5538 m 13 := (f5671 m 13 _ gm rfl)
      have k5689 : H5666 x 8 = H5538 x 8 := (f5671 x 8 _ gx rfl)
      have k5690 : H5666 m 3 = H5538 m 3 := (f5671 m 3 _ gm rfl)
      have k5691 : H5666 x 0 = H x 0 := ((f5671 x 0 _ gx rfl).trans (f5543 x 0 _ gx rfl))
      have q5692 : H5666 x 0 = (tc : Int) := k5691.trans e0
      have k5693 : H5666 m 5 = H m 5 := ((f5671 m 5 _ gm rfl).trans (f5543 m 5 _ gm rfl))
      have q5694 : H5666 m 5 = (tm : Int) := k5693.trans em
      have k5695 : H5666 x 6 = H x 6 := ((f5671 x 6 _ gx rfl).trans (f5543 x 6 _ gx rfl))
      have q5696 : H5666 x 6 = (cu : Int) := k5695.trans ecu
      have k5697 : H5666 x 7 = H x 7 := ((f5671 x 7 _ gx rfl).trans (f5543 x 7 _ gx rfl))
      have q5698 : H5666 x 7 = (dr : Int) := k5697.trans edr
      have h5699 : TP T H5666 tc B := (TP_fr w5542 gtc f5671 rfl (TP_fr hW gtc f5543 rfl htc))
      have h5700 : TM T H5666 tm B := (TM_fr w5542 gtm f5671 rfl (TM_fr hW gtm f5543 rfl htm))
      have h5701 : DD T H5666 cu  := (DD_fr w5542 gcu f5671 rfl (DD_fr hW gcu f5543 rfl hcu))
      have h5702 : DD T H5666 dr  := (DD_fr w5542 gdr f5671 rfl (DD_fr hW gdr f5543 rfl hdr))
      have h5703 : DE T H5666 cu  := (DE_fr w5542 gcu f5671 rfl (DE_fr hW gcu f5543 rfl hdec))
      have h5704 : DE T H5666 dr  := (DE_fr w5542 gdr f5671 rfl (DE_fr hW gdr f5543 rfl hded))
      have h5705 : SP T H5666 x C8 := (SP_fr w5542 gx f5671 rfl (SP_fr hW gx f5543 rfl hsp))
      have h5706 : CU T H5666 cu (wq_u e8 13 (((H 0 ((i + 1).toNat)))).toNat (((H 0 ((i + 2).toNat)) + 1))) d8 n8 := (CU_fr w5542 gcu f5671 rfl a5555)
      have h5707 : CY T H5666 cu (d8 0 3) g8 (H cu 17) := (CY_fr w5542 gcu f5671 rfl (CY_fr hW gcu f5543 rfl h5534))
      have k5708 : H5666 x 3 = H x 3 := ((f5671 x 3 _ gx rfl).trans (f5543 x 3 _ gx rfl))
      have q5709 : H5666 x 3 = (ce8 : Int) := k5708.trans ece8
      have h5710 : HDR T H5666 ce8  := (HDR_fr w5542 gce8 f5671 rfl (HDR_fr hW gce8 f5543 rfl hhdr8))
      exfalso
      omega
    · show WL _ _ _ _ 1400 [(4, vI i), (3, .ref o), (2, .ref m), (1, .ref x), (0, .ref 0)] [vI z5672] _ H5666
      refine wl_of hX hb cL_1400 (rw_pop (pc' := 1401) rfl rfl ?_)
      refine wl_of hX hb cL_1401 (rw_goto (p1 := 1653) (by decide) ?_)
      have k5711 : H5666 x 9 = H5538 x 9 := (f5671 x 9 _ gx rfl)
      have k5712 : H5666 m 6 = H5538 m 6 := (f5671 m 6 _ gm rfl)
      have k5713 : H5666 x 11 = H5538 x 11 := (f5671 x 11 _ gx rfl)
      have k5714 : H5666 m 13 = H5538 m 13 := (f5671 m 13 _ gm rfl)
      have k5715 : H5666 x 8 = H5538 x 8 := (f5671 x 8 _ gx rfl)
      have k5716 : H5666 m 3 = H5538 m 3 := (f5671 m 3 _ gm rfl)
      have k5717 : H5666 x 0 = H x 0 := ((f5671 x 0 _ gx rfl).trans (f5543 x 0 _ gx rfl))
      have q5718 : H5666 x 0 = (tc : Int) := k5717.trans e0
      have k5719 : H5666 m 5 = H m 5 := ((f5671 m 5 _ gm rfl).trans (f5543 m 5 _ gm rfl))
      have q5720 : H5666 m 5 = (tm : Int) := k5719.trans em
      have k5721 : H5666 x 6 = H x 6 := ((f5671 x 6 _ gx rfl).trans (f5543 x 6 _ gx rfl))
      have q5722 : H5666 x 6 = (cu : Int) := k5721.trans ecu
      have k5723 : H5666 x 7 = H x 7 := ((f5671 x 7 _ gx rfl).trans (f5543 x 7 _ gx rfl))
      have q5724 : H5666 x 7 = (dr : Int) := k5723.trans edr
      have h5725 : TP T H5666 tc B := (TP_fr w5542 gtc f5671 rfl (TP_fr hW gtc f5543 rfl htc))
      have h5726 : TM T H5666 tm B := (TM_fr w5542 gtm f5671 rfl (TM_fr hW gtm f5543 rfl htm))
      have h5727 : DD T H5666 cu  := (DD_fr w5542 gcu f5671 rfl (DD_fr hW gcu f5543 rfl hcu))
      have h5728 : DD T H5666 dr  := (DD_fr w5542 gdr f5671 rfl (DD_fr hW gdr f5543 rfl hdr))
      have h5729 : DE T H5666 cu  := (DE_fr w5542 gcu f5671 rfl (DE_fr hW gcu f5543 rfl hdec))
      have h5730 : DE T H5666 dr  := (DE_fr w5542 gdr f5671 rfl (DE_fr hW gdr f5543 rfl hded))
      have h5731 : SP T H5666 x C8 := (SP_fr w5542 gx f5671 rfl (SP_fr hW gx f5543 rfl hsp))
      have h5732 : CU T H5666 cu (wq_u e8 13 (((H 0 ((i + 1).toNat)))).toNat (((H 0 ((i + 2).toNat)) + 1))) d8 n8 := (CU_fr w5542 gcu f5671 rfl a5555)
      have h5733 : CY T H5666 cu (d8 0 3) g8 (H cu 17) := (CY_fr w5542 gcu f5671 rfl (CY_fr hW gcu f5543 rfl h5534))
      have k5734 : H5666 x 3 = H x 3 := ((f5671 x 3 _ gx rfl).trans (f5543 x 3 _ gx rfl))
      have q5735 : H5666 x 3 = (ce8 : Int) := k5734.trans ece8
      have h5736 : HDR T H5666 ce8  := (HDR_fr w5542 gce8 f5671 rfl (HDR_fr hW gce8 f5543 rfl hhdr8))
      have h5737 : RY T H5666 m (d8 0 3) g8 (H m 32) := (RY_fr w5542 gm f5671 rfl (RY_fr hW gm f5543 rfl h5535))
      exact WL.loc hX (by simp) (next T H5666 ⟨⟨w5670, g0, gx, gm, go, by omega, by omega⟩, ⟨_, tc, tm, cu, dr, _, _, _, _, _, ce8, q5718, gtc, h5725, q5720, gtm, h5726, q5722, gcu, q5724, gdr, h5727, h5728, h5729, h5730, h5731, hC1, hC2, h5732, a5684, (h5733).1, (h5737).1, (fun i hi => (wq_u_row hi).trans (hE i hi)), (fun h h1 h2 => by rw [wq_u_e2 (fun c => by omega)]; exact hZ h h1 h2), (by omega), (by assumption), (by omega), (by first | assumption | exact SG_0), q5735, gce8, (by first | assumption | exact CEN_new (by omega)), h5736, (by first | assumption | exact KNN_new (by omega)), gm⟩, by omega, by omega⟩ (by omega) (by omega))
set_option maxHeartbeats 4000000 in
theorem wl_c40 {kt : Nat → Option mc_E} {CB SB : Nat} {X : mc_S → Prop} {T : wq_T} {H : wq_H} {Len x m o : Nat} {i : Int} (hX : wlX kt CB SB X) (hb : T.2.1 ≤ CB ∧ T.2.2.1 ≤ SB) (hI : wlJ Len x m o T H) (hL : Len ≤ 3072) (hi : 0 ≤ i ∧ i + 6 ≤ Len) (hb2 : T.2.1 + 20 ≤ CB ∧ T.2.2.1 + 500 ≤ SB)  (next : ∀ T' H', wlJ Len x m o T' H' → T'.2.1 ≤ T.2.1 + 20 → T'.2.2.1 ≤ T.2.2.1 + 500 → WL kt CB SB X 1653 (wlL i x m o) [] T' H') : WL kt CB SB X 1404 (wlL i x m o) [] T H := by
  obtain ⟨⟨hW, g0, gx, gm, go, hK, hr⟩, hXI, hY1, hY2⟩ := hI
  refine wl_of hX hb cL_1404 (rw_aload_n (pc' := 1405) (v := .ref x) rfl rfl rfl ?_)
  refine wl_of hX hb cL_1405 (rw_aload_n (pc' := 1406) (v := .ref 0) rfl rfl rfl ?_)
  refine wl_of hX hb cL_1406 (rw_iload (pc' := 1408) (z := i) rfl rfl ?_)
  refine wl_of hX hb cL_1408 (rw_iconst (pc' := 1409) rfl ?_)
  refine wl_of hX hb cL_1409 (rw_iadd (pc' := 1410) rfl ?_)
  refine wl_of hX hb cL_1410 (xa_I (so := 0) (pc' := 1411) (a := 0) hW g0 (wsh_s _) (by omega) (wty_s _ _) (by omega) (by omega) rfl (fun b5738 b5739 => ?_))
  obtain ⟨B, tc, tm, cu, dr, C8, e8, d8, n8, g8, ce8, e0, gtc, htc, em, gtm, htm, ecu, gcu, edr, gdr, hcu, hdr, hdec, hded, hsp, hC1, hC2, hcu8, hrb8, hcg8, hmn8, hE, hZ, hn8, hXA, hV8, hSG, ece8, gce8, hcen8, hhdr8, hknn8, -⟩ := hXI
  have hN3 := RB_n3 hrb8
  have hE13 : ∀ h : Nat, h < 24 → 0 ≤ e8 13 h ∧ e8 13 h ≤ 100 := fun k hk => by
    obtain ⟨s, h1, h2, h3⟩ := hcu8.1.2.2.1
    exact ⟨(h3 k hk).1, (h3 k hk).2.1⟩
  have hXW := hXA.1
  have hXN := hXA.2
  have hE0 : e8 0 3 = d8 0 3 ∧ e8 0 0 = d8 0 0 := by
    have h := hE 0 (by decide)
    exact ⟨congrFun h 3, congrFun h 0⟩
  have u5740 := CU_k hcu8
  have h5741 : CY T H cu (d8 0 3) g8 (H cu 17) := ⟨hcg8, rfl⟩
  have h5742 : RY T H m (d8 0 3) g8 (H m 32) := ⟨hmn8, rfl⟩
  obtain ⟨t9, ht9⟩ : ∃ t : Int, t = H x 9 := ⟨_, rfl⟩
  obtain ⟨y9, hy9⟩ : ∃ y : Int, y = H 0 ((i + 1).toNat) := ⟨_, rfl⟩
  refine wl_of hX hb cL_1411 (xc_V (pc' := 1414) (r := x) (as := [vI (H 0 ((i + 1).toNat))]) (st := []) (lm_11_187) rfl rfl (Nat.le_of_ble_eq_true rfl) hW gx sh_1 (by decide) rfl (by decide) (u_154 (e := e8) (d := d8) (n := n8) (y := ((H 0 ((i + 1).toNat)))) hW gx ⟨by omega, by omega⟩ ecu gcu ece8 gce8 (by omega) (by omega) (by omega) hcu8 hcen8) (fun R5743 T5744 H5745 p5746 => ?_))
  obtain ⟨e5747, w5749, f5750, z5751, e5748, b5752, p5753⟩ := p5746
  subst e5747
  subst e5748
  rcases p5753 with ⟨a5754, a5755, a5756, a5757, a5758⟩ | ⟨a5759, a5760, a5761, a5762⟩
  · show WL _ _ _ _ 1414 [(4, vI i), (3, .ref o), (2, .ref m), (1, .ref x), (0, .ref 0)] [vI z5751] _ H5745
    have u5763 := CU_k a5758
    refine wl_of hX hb cL_1414 (rw_pop (pc' := 1415) rfl rfl ?_)
    refine wl_of hX hb cL_1415 (rw_aload_n (pc' := 1416) (v := .ref m) rfl rfl rfl ?_)
    refine wl_of hX hb cL_1416 (rw_aload_n (pc' := 1417) (v := .ref 0) rfl rfl rfl ?_)
    refine wl_of hX hb cL_1417 (rw_iload (pc' := 1419) (z := i) rfl rfl ?_)
    refine wl_of hX hb cL_1419 (rw_iconst (pc' := 1420) rfl ?_)
    refine wl_of hX hb cL_1420 (rw_iadd (pc' := 1421) rfl ?_)
    have k5766 : H5745 0 ((i + 1).toNat) = H 0 ((i + 1).toNat) := (f5750 0 ((i + 1).toNat) _ g0 (wmem_s rfl))
    refine wl_of hX hb cL_1421 (xa_I (so := 0) (pc' := 1422) (a := 0) w5749 g0 (wsh_s _) (by omega) (wty_s _ _) (by omega) (by omega) rfl (fun b5764 b5765 => ?_))
    have k5767 : wKI H5745 m = wKI H m := (wKI_fr hW gm f5750 rfl)
    have k5768 : H5745 x 9 = H x 9 := (f5750 x 9 _ gx rfl)
    have k5769 : H5745 m 6 = H m 6 := (f5750 m 6 _ gm rfl)
    have k5770 : H5745 x 11 = H x 11 := (f5750 x 11 _ gx rfl)
    have k5771 : H5745 m 13 = H m 13 := (f5750 m 13 _ gm rfl)
    have k5772 : H5745 x 8 = H x 8 := (f5750 x 8 _ gx rfl)
    have k5773 : H5745 m 3 = H m 3 := (f5750 m 3 _ gm rfl)
    rw [show H5745 0 ((i + 1).toNat) = H 0 ((i + 1).toNat) by omega]
    have h5774 : RB T H5745 m e8 d8 := (RB_fr hW gm f5750 rfl hrb8)
    have h5775 : KNN T H5745 m e8 d8 := (KNN_fr hW gm f5750 rfl hknn8)
    refine wl_of hX hb cL_1422 (xc_V (pc' := 1425) (r := m) (as := [vI (H 0 ((i + 1).toNat))]) (st := []) (lm_11_191) rfl rfl (Nat.le_of_ble_eq_true rfl) w5749 gm sh_42 (by decide) rfl (by decide) (u_286 (e := e8) (d := d8) (y := ((H 0 ((i + 1).toNat)))) w5749 gm ⟨by omega, by omega⟩ (by omega) (by omega) h5774 h5775) (fun R5776 T5777 H5778 p5779 => ?_))
    obtain ⟨e5780, w5782, f5783, z5784, e5781, b5785, p5786⟩ := p5779
    subst e5780
    subst e5781
    rcases p5786 with ⟨a5787, a5788, a5789, a5790, a5791, a5792⟩ | ⟨a5793, a5794, a5795, a5796, a5797⟩
    · show WL _ _ _ _ 1425 [(4, vI i), (3, .ref o), (2, .ref m), (1, .ref x), (0, .ref 0)] [vI z5784] _ H5778
      refine wl_of hX hb cL_1425 (rw_pop (pc' := 1426) rfl rfl ?_)
      refine wl_of hX hb cL_1426 (rw_goto (p1 := 1653) (by decide) ?_)
      have k5798 : H5778 x 9 = H5745 x 9 := (f5783 x 9 _ gx rfl)
      have k5799 : H5778 m 6 = H5745 m 6 := (f5783 m 6 _ gm rfl)
      have k5800 : H5778 x 11 = H5745 x 11 := (f5783 x 11 _ gx rfl)
      have k5801 : H5778 m 13 = H5745 m 13 := (f5783 m 13 _ gm rfl)
      have k5802 : H5778 x 8 = H5745 x 8 := (f5783 x 8 _ gx rfl)
      have k5803 : H5778 m 3 = H5745 m 3 := (f5783 m 3 _ gm rfl)
      have k5804 : H5778 x 0 = H x 0 := ((f5783 x 0 _ gx rfl).trans (f5750 x 0 _ gx rfl))
      have q5805 : H5778 x 0 = (tc : Int) := k5804.trans e0
      have k5806 : H5778 m 5 = H m 5 := ((f5783 m 5 _ gm rfl).trans (f5750 m 5 _ gm rfl))
      have q5807 : H5778 m 5 = (tm : Int) := k5806.trans em
      have k5808 : H5778 x 6 = H x 6 := ((f5783 x 6 _ gx rfl).trans (f5750 x 6 _ gx rfl))
      have q5809 : H5778 x 6 = (cu : Int) := k5808.trans ecu
      have k5810 : H5778 x 7 = H x 7 := ((f5783 x 7 _ gx rfl).trans (f5750 x 7 _ gx rfl))
      have q5811 : H5778 x 7 = (dr : Int) := k5810.trans edr
      have h5812 : TP T H5778 tc B := (TP_fr w5749 gtc f5783 rfl (TP_fr hW gtc f5750 rfl htc))
      have h5813 : TM T H5778 tm B := (TM_fr w5749 gtm f5783 rfl (TM_fr hW gtm f5750 rfl htm))
      have h5814 : DD T H5778 cu  := (DD_fr w5749 gcu f5783 rfl (DD_fr hW gcu f5750 rfl hcu))
      have h5815 : DD T H5778 dr  := (DD_fr w5749 gdr f5783 rfl (DD_fr hW gdr f5750 rfl hdr))
      have h5816 : DE T H5778 cu  := (DE_fr w5749 gcu f5783 rfl (DE_fr hW gcu f5750 rfl hdec))
      have h5817 : DE T H5778 dr  := (DE_fr w5749 gdr f5783 rfl (DE_fr hW gdr f5750 rfl hded))
      have h5818 : SP T H5778 x C8 := (SP_fr w5749 gx f5783 rfl (SP_fr hW gx f5750 rfl hsp))
      have h5819 : CU T H5778 cu (wq_u e8 13 (((H 0 ((i + 1).toNat)))).toNat 0) d8 n8 := (CU_fr w5749 gcu f5783 rfl a5758)
      have h5820 : CY T H5778 cu (d8 0 3) g8 (H cu 17) := (CY_fr w5749 gcu f5783 rfl (CY_fr hW gcu f5750 rfl h5741))
      have k5821 : H5778 x 3 = H x 3 := ((f5783 x 3 _ gx rfl).trans (f5750 x 3 _ gx rfl))
      have q5822 : H5778 x 3 = (ce8 : Int) := k5821.trans ece8
      have h5823 : HDR T H5778 ce8  := (HDR_fr w5749 gce8 f5783 rfl (HDR_fr hW gce8 f5750 rfl hhdr8))
      have h5824 : RY T H5778 m (d8 0 3) g8 (H m 32) := (RY_fr w5749 gm f5783 rfl (RY_fr hW gm f5750 rfl h5742))
      exact WL.loc hX (by simp) (next T H5778 ⟨⟨w5782, g0, gx, gm, go, by omega, by omega⟩, ⟨_, tc, tm, cu, dr, _, _, _, _, _, ce8, q5805, gtc, h5812, q5807, gtm, h5813, q5809, gcu, q5811, gdr, h5814, h5815, h5816, h5817, h5818, hC1, hC2, h5819, a5792, (h5820).1, (h5824).1, (fun i hi => (wq_u_row hi).trans (hE i hi)), (fun h h1 h2 => by rw [wq_u_e2 (fun c => by omega)]; exact hZ h h1 h2), (by omega), (by assumption), (by omega), (by first | assumption | exact SG_0), q5822, gce8, (by first | assumption | exact CEN_new (by omega)), h5823, (by first | assumption | exact KNN_new (by omega)), gm⟩, by omega, by omega⟩ (by omega) (by omega))
    · show WL _ _ _ _ 1425 [(4, vI i), (3, .ref o), (2, .ref m), (1, .ref x), (0, .ref 0)] [vI z5784] _ H5778
      refine wl_of hX hb cL_1425 (rw_pop (pc' := 1426) rfl rfl ?_)
      refine wl_of hX hb cL_1426 (rw_goto (p1 := 1653) (by decide) ?_)
      have k5825 : H5778 x 9 = H5745 x 9 := (f5783 x 9 _ gx rfl)
      have k5826 : H5778 m 6 = H5745 m 6 := (f5783 m 6 _ gm rfl)
      have k5827 : H5778 x 11 = H5745 x 11 := (f5783 x 11 _ gx rfl)
      have k5828 : H5778 m 13 = H5745 m 13 := (f5783 m 13 _ gm rfl)
      have k5829 : H5778 x 8 = H5745 x 8 := (f5783 x 8 _ gx rfl)
      have k5830 : H5778 m 3 = H5745 m 3 := (f5783 m 3 _ gm rfl)
      have k5831 : H5778 x 0 = H x 0 := ((f5783 x 0 _ gx rfl).trans (f5750 x 0 _ gx rfl))
      have q5832 : H5778 x 0 = (tc : Int) := k5831.trans e0
      have k5833 : H5778 m 5 = H m 5 := ((f5783 m 5 _ gm rfl).trans (f5750 m 5 _ gm rfl))
      have q5834 : H5778 m 5 = (tm : Int) := k5833.trans em
      have k5835 : H5778 x 6 = H x 6 := ((f5783 x 6 _ gx rfl).trans (f5750 x 6 _ gx rfl))
      have q5836 : H5778 x 6 = (cu : Int) := k5835.trans ecu
      have k5837 : H5778 x 7 = H x 7 := ((f5783 x 7 _ gx rfl).trans (f5750 x 7 _ gx rfl))
      have q5838 : H5778 x 7 = (dr : Int) := k5837.trans edr
      have h5839 : TP T H5778 tc B := (TP_fr w5749 gtc f5783 rfl (TP_fr hW gtc f5750 rfl htc))
      have h5840 : TM T H5778 tm B := (TM_fr w5749 gtm f5783 rfl (TM_fr hW gtm f5750 rfl htm))
      have h5841 : DD T H5778 cu  := (DD_fr w5749 gcu f5783 rfl (DD_fr hW gcu f5750 rfl hcu))
      have h5842 : DD T H5778 dr  := (DD_fr w5749 gdr f5783 rfl (DD_fr hW gdr f5750 rfl hdr))
      have h5843 : DE T H5778 cu  := (DE_fr w5749 gcu f5783 rfl (DE_fr hW gcu f5750 rfl hdec))
      have h5844 : DE T H5778 dr  := (DE_fr w5749 gdr f5783 rfl (DE_fr hW gdr f5750 rfl hded))
      have h5845 : SP T H5778 x C8 := (SP_fr w5749 gx f5783 rfl (SP_fr hW gx f5750 rfl hsp))
      have h5846 : CU T H5778 cu (wq_u e8 13 (((H 0 ((i + 1).toNat)))).toNat 0) d8 n8 := (CU_fr w5749 gcu f5783 rfl a5758)
      have h5847 : CY T H5778 cu (d8 0 3) g8 (H cu 17) := (CY_fr w5749 gcu f5783 rfl (CY_fr hW gcu f5750 rfl h5741))
      have k5848 : H5778 x 3 = H x 3 := ((f5783 x 3 _ gx rfl).trans (f5750 x 3 _ gx rfl))
      have q5849 : H5778 x 3 = (ce8 : Int) := k5848.trans ece8
      have h5850 : HDR T H5778 ce8  := (HDR_fr w5749 gce8 f5783 rfl (HDR_fr hW gce8 f5750 rfl hhdr8))
      exfalso
      omega
  · show WL _ _ _ _ 1414 [(4, vI i), (3, .ref o), (2, .ref m), (1, .ref x), (0, .ref 0)] [vI z5751] _ H5745
    have u5851 := CU_k a5761
    refine wl_of hX hb cL_1414 (rw_pop (pc' := 1415) rfl rfl ?_)
    refine wl_of hX hb cL_1415 (rw_aload_n (pc' := 1416) (v := .ref m) rfl rfl rfl ?_)
    refine wl_of hX hb cL_1416 (rw_aload_n (pc' := 1417) (v := .ref 0) rfl rfl rfl ?_)
    refine wl_of hX hb cL_1417 (rw_iload (pc' := 1419) (z := i) rfl rfl ?_)
    refine wl_of hX hb cL_1419 (rw_iconst (pc' := 1420) rfl ?_)
    refine wl_of hX hb cL_1420 (rw_iadd (pc' := 1421) rfl ?_)
    have k5854 : H5745 0 ((i + 1).toNat) = H 0 ((i + 1).toNat) := (f5750 0 ((i + 1).toNat) _ g0 (wmem_s rfl))
    refine wl_of hX hb cL_1421 (xa_I (so := 0) (pc' := 1422) (a := 0) w5749 g0 (wsh_s _) (by omega) (wty_s _ _) (by omega) (by omega) rfl (fun b5852 b5853 => ?_))
    have k5855 : wKI H5745 m = wKI H m := (wKI_fr hW gm f5750 rfl)
    have k5856 : H5745 x 9 = H x 9 := (f5750 x 9 _ gx rfl)
    have k5857 : H5745 m 6 = H m 6 := (f5750 m 6 _ gm rfl)
    have k5858 : H5745 x 11 = H x 11 := (f5750 x 11 _ gx rfl)
    have k5859 : H5745 m 13 = H m 13 := (f5750 m 13 _ gm rfl)
    have k5860 : H5745 x 8 = H x 8 := (f5750 x 8 _ gx rfl)
    have k5861 : H5745 m 3 = H m 3 := (f5750 m 3 _ gm rfl)
    rw [show H5745 0 ((i + 1).toNat) = H 0 ((i + 1).toNat) by omega]
    have h5862 : RB T H5745 m e8 d8 := (RB_fr hW gm f5750 rfl hrb8)
    have h5863 : KNN T H5745 m e8 d8 := (KNN_fr hW gm f5750 rfl hknn8)
    refine wl_of hX hb cL_1422 (xc_V (pc' := 1425) (r := m) (as := [vI (H 0 ((i + 1).toNat))]) (st := []) (lm_11_191) rfl rfl (Nat.le_of_ble_eq_true rfl) w5749 gm sh_42 (by decide) rfl (by decide) (u_286 (e := e8) (d := d8) (y := ((H 0 ((i + 1).toNat)))) w5749 gm ⟨by omega, by omega⟩ (by omega) (by omega) h5862 h5863) (fun R5864 T5865 H5866 p5867 => ?_))
    obtain ⟨e5868, w5870, f5871, z5872, e5869, b5873, p5874⟩ := p5867
    subst e5868
    subst e5869
    rcases p5874 with ⟨a5875, a5876, a5877, a5878, a5879, a5880⟩ | ⟨a5881, a5882, a5883, a5884, a5885⟩
    · show WL _ _ _ _ 1425 [(4, vI i), (3, .ref o), (2, .ref m), (1, .ref x), (0, .ref 0)] [vI z5872] _ H5866
      refine wl_of hX hb cL_1425 (rw_pop (pc' := 1426) rfl rfl ?_)
      refine wl_of hX hb cL_1426 (rw_goto (p1 := 1653) (by decide) ?_)
      have k5886 : H5866 x 9 = H5745 x 9 := (f5871 x 9 _ gx rfl)
      have k5887 : H5866 m 6 = H5745 m 6 := (f5871 m 6 _ gm rfl)
      have k5888 : H5866 x 11 = H5745 x 11 := (f5871 x 11 _ gx rfl)
      have k5889 : H5866 m 13 = H5745 m 13 := (f5871 m 13 _ gm rfl)
      have k5890 : H5866 x 8 = H5745 x 8 := (f5871 x 8 _ gx rfl)
      have k5891 : H5866 m 3 = H5745 m 3 := (f5871 m 3 _ gm rfl)
      have k5892 : H5866 x 0 = H x 0 := ((f5871 x 0 _ gx rfl).trans (f5750 x 0 _ gx rfl))
      have q5893 : H5866 x 0 = (tc : Int) := k5892.trans e0
      have k5894 : H5866 m 5 = H m 5 := ((f5871 m 5 _ gm rfl).trans (f5750 m 5 _ gm rfl))
      have q5895 : H5866 m 5 = (tm : Int) := k5894.trans em
      have k5896 : H5866 x 6 = H x 6 := ((f5871 x 6 _ gx rfl).trans (f5750 x 6 _ gx rfl))
      have q5897 : H5866 x 6 = (cu : Int) := k5896.trans ecu
      have k5898 : H5866 x 7 = H x 7 := ((f5871 x 7 _ gx rfl).trans (f5750 x 7 _ gx rfl))
      have q5899 : H5866 x 7 = (dr : Int) := k5898.trans edr
      have h5900 : TP T H5866 tc B := (TP_fr w5749 gtc f5871 rfl (TP_fr hW gtc f5750 rfl htc))
      have h5901 : TM T H5866 tm B := (TM_fr w5749 gtm f5871 rfl (TM_fr hW gtm f5750 rfl htm))
      have h5902 : DD T H5866 cu  := (DD_fr w5749 gcu f5871 rfl (DD_fr hW gcu f5750 rfl hcu))
      have h5903 : DD T H5866 dr  := (DD_fr w5749 gdr f5871 rfl (DD_fr hW gdr f5750 rfl hdr))
      have h5904 : DE T H5866 cu  := (DE_fr w5749 gcu f5871 rfl (DE_fr hW gcu f5750 rfl hdec))
      have h5905 : DE T H5866 dr  := (DE_fr w5749 gdr f5871 rfl (DE_fr hW gdr f5750 rfl hded))
      have h5906 : SP T H5866 x C8 := (SP_fr w5749 gx f5871 rfl (SP_fr hW gx f5750 rfl hsp))
      have h5907 : CU T H5866 cu e8 d8 n8 := (CU_fr w5749 gcu f5871 rfl a5761)
      have h5908 : CY T H5866 cu (d8 0 3) g8 (H cu 17) := (CY_fr w5749 gcu f5871 rfl (CY_fr hW gcu f5750 rfl h5741))
      have k5909 : H5866 x 3 = H x 3 := ((f5871 x 3 _ gx rfl).trans (f5750 x 3 _ gx rfl))
      have q5910 : H5866 x 3 = (ce8 : Int) := k5909.trans ece8
      have h5911 : CEN T H5866 ce8 e8 d8 := (CEN_fr w5749 gce8 f5871 rfl a5762)
      have h5912 : HDR T H5866 ce8  := (HDR_fr w5749 gce8 f5871 rfl (HDR_fr hW gce8 f5750 rfl hhdr8))
      exfalso
      omega
    · show WL _ _ _ _ 1425 [(4, vI i), (3, .ref o), (2, .ref m), (1, .ref x), (0, .ref 0)] [vI z5872] _ H5866
      refine wl_of hX hb cL_1425 (rw_pop (pc' := 1426) rfl rfl ?_)
      refine wl_of hX hb cL_1426 (rw_goto (p1 := 1653) (by decide) ?_)
      have k5913 : H5866 x 9 = H5745 x 9 := (f5871 x 9 _ gx rfl)
      have k5914 : H5866 m 6 = H5745 m 6 := (f5871 m 6 _ gm rfl)
      have k5915 : H5866 x 11 = H5745 x 11 := (f5871 x 11 _ gx rfl)
      have k5916 : H5866 m 13 = H5745 m 13 := (f5871 m 13 _ gm rfl)
      have k5917 : H5866 x 8 = H5745 x 8 := (f5871 x 8 _ gx rfl)
      have k5918 : H5866 m 3 = H5745 m 3 := (f5871 m 3 _ gm rfl)
      have k5919 : H5866 x 0 = H x 0 := ((f5871 x 0 _ gx rfl).trans (f5750 x 0 _ gx rfl))
      have q5920 : H5866 x 0 = (tc : Int) := k5919.trans e0
      have k5921 : H5866 m 5 = H m 5 := ((f5871 m 5 _ gm rfl).trans (f5750 m 5 _ gm rfl))
      have q5922 : H5866 m 5 = (tm : Int) := k5921.trans em
      have k5923 : H5866 x 6 = H x 6 := ((f5871 x 6 _ gx rfl).trans (f5750 x 6 _ gx rfl))
      have q5924 : H5866 x 6 = (cu : Int) := k5923.trans ecu
      have k5925 : H5866 x 7 = H x 7 := ((f5871 x 7 _ gx rfl).trans (f5750 x 7 _ gx rfl))
      have q5926 : H5866 x 7 = (dr : Int) := k5925.trans edr
      have h5927 : TP T H5866 tc B := (TP_fr w5749 gtc f5871 rfl (TP_fr hW gtc f5750 rfl htc))
      have h5928 : TM T H5866 tm B := (TM_fr w5749 gtm f5871 rfl (TM_fr hW gtm f5750 rfl htm))
      have h5929 : DD T H5866 cu  := (DD_fr w5749 gcu f5871 rfl (DD_fr hW gcu f5750 rfl hcu))
      have h5930 : DD T H5866 dr  := (DD_fr w5749 gdr f5871 rfl (DD_fr hW gdr f5750 rfl hdr))
      have h5931 : DE T H5866 cu  := (DE_fr w5749 gcu f5871 rfl (DE_fr hW gcu f5750 rfl hdec))
      have h5932 : DE T H5866 dr  := (DE_fr w5749 gdr f5871 rfl (DE_fr hW gdr f5750 rfl hded))
      have h5933 : SP T H5866 x C8 := (SP_fr w5749 gx f5871 rfl (SP_fr hW gx f5750 rfl hsp))
      have h5934 : CU T H5866 cu e8 d8 n8 := (CU_fr w5749 gcu f5871 rfl a5761)
      have h5935 : CY T H5866 cu (d8 0 3) g8 (H cu 17) := (CY_fr w5749 gcu f5871 rfl (CY_fr hW gcu f5750 rfl h5741))
      have k5936 : H5866 x 3 = H x 3 := ((f5871 x 3 _ gx rfl).trans (f5750 x 3 _ gx rfl))
      have q5937 : H5866 x 3 = (ce8 : Int) := k5936.trans ece8
      have h5938 : CEN T H5866 ce8 e8 d8 := (CEN_fr w5749 gce8 f5871 rfl a5762)
      have h5939 : HDR T H5866 ce8  := (HDR_fr w5749 gce8 f5871 rfl (HDR_fr hW gce8 f5750 rfl hhdr8))
      have h5940 : RY T H5866 m (d8 0 3) g8 (H m 32) := (RY_fr w5749 gm f5871 rfl (RY_fr hW gm f5750 rfl h5742))
      exact WL.loc hX (by simp) (next T H5866 ⟨⟨w5870, g0, gx, gm, go, by omega, by omega⟩, ⟨_, tc, tm, cu, dr, _, _, _, _, _, ce8, q5920, gtc, h5927, q5922, gtm, h5928, q5924, gcu, q5926, gdr, h5929, h5930, h5931, h5932, h5933, hC1, hC2, h5934, a5884, (h5935).1, (h5940).1, hE, hZ, (by omega), (by assumption), (by omega), (by first | assumption | exact SG_0), q5937, gce8, h5938, h5939, a5885, gm⟩, by omega, by omega⟩ (by omega) (by omega))
set_option maxHeartbeats 4000000 in
theorem wl_c41 {kt : Nat → Option mc_E} {CB SB : Nat} {X : mc_S → Prop} {T : wq_T} {H : wq_H} {Len x m o : Nat} {i : Int} (hX : wlX kt CB SB X) (hb : T.2.1 ≤ CB ∧ T.2.2.1 ≤ SB) (hI : wlJ Len x m o T H) (hL : Len ≤ 3072) (hi : 0 ≤ i ∧ i + 6 ≤ Len) (hb2 : T.2.1 + 20 ≤ CB ∧ T.2.2.1 + 500 ≤ SB)  (next : ∀ T' H', wlJ Len x m o T' H' → T'.2.1 ≤ T.2.1 + 20 → T'.2.2.1 ≤ T.2.2.1 + 500 → WL kt CB SB X 1653 (wlL i x m o) [] T' H') : WL kt CB SB X 1429 (wlL i x m o) [] T H := by
  obtain ⟨⟨hW, g0, gx, gm, go, hK, hr⟩, hXI, hY1, hY2⟩ := hI
  refine wl_of hX hb cL_1429 (rw_aload_n (pc' := 1430) (v := .ref x) rfl rfl rfl ?_)
  refine wl_of hX hb cL_1430 (rw_aload_n (pc' := 1431) (v := .ref 0) rfl rfl rfl ?_)
  refine wl_of hX hb cL_1431 (rw_iload (pc' := 1433) (z := i) rfl rfl ?_)
  refine wl_of hX hb cL_1433 (rw_iconst (pc' := 1434) rfl ?_)
  refine wl_of hX hb cL_1434 (rw_iadd (pc' := 1435) rfl ?_)
  refine wl_of hX hb cL_1435 (xa_I (so := 0) (pc' := 1436) (a := 0) hW g0 (wsh_s _) (by omega) (wty_s _ _) (by omega) (by omega) rfl (fun b5941 b5942 => ?_))
  refine wl_of hX hb cL_1436 (xc_V (pc' := 1439) (r := x) (as := [vI (H 0 ((i + 1).toNat))]) (st := []) (lm_11_192) rfl rfl (Nat.le_of_ble_eq_true rfl) hW gx sh_1 (by decide) rfl (by decide) (s_155 hW gx ⟨by omega, by omega⟩) (fun R5943 T5944 H5945 p5946 => ?_))
  obtain ⟨e5947, w5949, f5950, z5951, e5948, b5952⟩ := p5946
  subst e5947
  subst e5948
  show WL _ _ _ _ 1439 [(4, vI i), (3, .ref o), (2, .ref m), (1, .ref x), (0, .ref 0)] [vI z5951] _ H5945
  refine wl_of hX hb cL_1439 (rw_pop (pc' := 1440) rfl rfl ?_)
  refine wl_of hX hb cL_1440 (rw_aload_n (pc' := 1441) (v := .ref m) rfl rfl rfl ?_)
  refine wl_of hX hb cL_1441 (rw_aload_n (pc' := 1442) (v := .ref 0) rfl rfl rfl ?_)
  refine wl_of hX hb cL_1442 (rw_iload (pc' := 1444) (z := i) rfl rfl ?_)
  refine wl_of hX hb cL_1444 (rw_iconst (pc' := 1445) rfl ?_)
  refine wl_of hX hb cL_1445 (rw_iadd (pc' := 1446) rfl ?_)
  have k5955 : H5945 0 ((i + 1).toNat) = H 0 ((i + 1).toNat) := (f5950 0 ((i + 1).toNat) _ g0 (wmem_s rfl))
  refine wl_of hX hb cL_1446 (xa_I (so := 0) (pc' := 1447) (a := 0) w5949 g0 (wsh_s _) (by omega) (wty_s _ _) (by omega) (by omega) rfl (fun b5953 b5954 => ?_))
  have k5956 : wKI H5945 m = wKI H m := (wKI_fr hW gm f5950 rfl)
  have k5957 : H5945 x 9 = H x 9 := (f5950 x 9 _ gx rfl)
  have k5958 : H5945 m 6 = H m 6 := (f5950 m 6 _ gm rfl)
  have k5959 : H5945 x 11 = H x 11 := (f5950 x 11 _ gx rfl)
  have k5960 : H5945 m 13 = H m 13 := (f5950 m 13 _ gm rfl)
  have k5961 : H5945 x 8 = H x 8 := (f5950 x 8 _ gx rfl)
  have k5962 : H5945 m 3 = H m 3 := (f5950 m 3 _ gm rfl)
  refine wl_of hX hb cL_1447 (xc_V (pc' := 1450) (r := m) (as := [vI (H5945 0 ((i + 1).toNat))]) (st := []) (lm_11_195) rfl rfl (Nat.le_of_ble_eq_true rfl) w5949 gm sh_42 (by decide) rfl (by decide) (s_287 w5949 gm ⟨by omega, by omega⟩ (by omega)) (fun R5963 T5964 H5965 p5966 => ?_))
  obtain ⟨e5967, w5969, f5970, z5972, e5968, b5973, p5971⟩ := p5966
  subst e5967
  subst e5968
  show WL _ _ _ _ 1450 [(4, vI i), (3, .ref o), (2, .ref m), (1, .ref x), (0, .ref 0)] [vI z5972] _ H5965
  refine wl_of hX hb cL_1450 (rw_pop (pc' := 1451) rfl rfl ?_)
  refine wl_of hX hb cL_1451 (rw_goto (p1 := 1653) (by decide) ?_)
  have k5974 : H5965 x 9 = H5945 x 9 := (f5970 x 9 _ gx rfl)
  have k5975 : H5965 m 6 = H5945 m 6 := (f5970 m 6 _ gm rfl)
  have k5976 : H5965 x 11 = H5945 x 11 := (f5970 x 11 _ gx rfl)
  have k5977 : H5965 m 13 = H5945 m 13 := (f5970 m 13 _ gm rfl)
  have k5978 : H5965 x 8 = H5945 x 8 := (f5970 x 8 _ gx rfl)
  have k5979 : H5965 m 3 = H5945 m 3 := (f5970 m 3 _ gm rfl)
  have h5980 : XI T H5965 x m := (XI_fr w5949 gx f5970 rfl (XI_fr hW gx f5950 rfl hXI))
  exact WL.loc hX (by simp) (next T H5965 ⟨⟨w5969, g0, gx, gm, go, by omega, by omega⟩, h5980, by omega, by omega⟩ (by omega) (by omega))
set_option maxHeartbeats 4000000 in
theorem wl_c42 {kt : Nat → Option mc_E} {CB SB : Nat} {X : mc_S → Prop} {T : wq_T} {H : wq_H} {Len x m o : Nat} {i : Int} (hX : wlX kt CB SB X) (hb : T.2.1 ≤ CB ∧ T.2.2.1 ≤ SB) (hI : wlJ Len x m o T H) (hL : Len ≤ 3072) (hi : 0 ≤ i ∧ i + 6 ≤ Len) (hb2 : T.2.1 + 20 ≤ CB ∧ T.2.2.1 + 500 ≤ SB)  (next : ∀ T' H', wlJ Len x m o T' H' → T'.2.1 ≤ T.2.1 + 20 → T'.2.2.1 ≤ T.2.2.1 + 500 → WL kt CB SB X 1653 (wlL i x m o) [] T' H') : WL kt CB SB X 1454 (wlL i x m o) [] T H := by
  obtain ⟨⟨hW, g0, gx, gm, go, hK, hr⟩, hXI, hY1, hY2⟩ := hI
  refine wl_of hX hb cL_1454 (rw_aload_n (pc' := 1455) (v := .ref x) rfl rfl rfl ?_)
  obtain ⟨B, tc, tm, cu, dr, C8, e8, d8, n8, g8, ce8, e0, gtc, htc, em, gtm, htm, ecu, gcu, edr, gdr, hcu, hdr, hdec, hded, hsp, hC1, hC2, hcu8, hrb8, hcg8, hmn8, hE, hZ, hn8, hXA, hV8, hSG, ece8, gce8, hcen8, hhdr8, hknn8, -⟩ := hXI
  have hN3 := RB_n3 hrb8
  have hE13 : ∀ h : Nat, h < 24 → 0 ≤ e8 13 h ∧ e8 13 h ≤ 100 := fun k hk => by
    obtain ⟨s, h1, h2, h3⟩ := hcu8.1.2.2.1
    exact ⟨(h3 k hk).1, (h3 k hk).2.1⟩
  have hXW := hXA.1
  have hXN := hXA.2
  have hE0 : e8 0 3 = d8 0 3 ∧ e8 0 0 = d8 0 0 := by
    have h := hE 0 (by decide)
    exact ⟨congrFun h 3, congrFun h 0⟩
  have u5981 := CU_k hcu8
  have h5982 : CY T H cu (d8 0 3) g8 (H cu 17) := ⟨hcg8, rfl⟩
  have h5983 : RY T H m (d8 0 3) g8 (H m 32) := ⟨hmn8, rfl⟩
  obtain ⟨t9, ht9⟩ : ∃ t : Int, t = H x 9 := ⟨_, rfl⟩
  obtain ⟨r5984, q5985, g5986⟩ := hW.ref gx (t' := 6) (n := 13) (j := 2) (p := 0) (q := 0) rfl (by decide) rfl
  refine wl_of hX hb cL_1455 (xc_V (pc' := 1458) (r := x) (as := []) (st := []) (lm_11_196) rfl rfl (Nat.le_of_ble_eq_true rfl) hW gx sh_1 (by decide) rfl (by decide) (u_156 (e := e8) (d := d8) (n := n8) hW gx ecu gcu q5985 g5986 ece8 gce8 (by assumption) (by assumption) (by omega) (by omega) (by omega) (by omega) hcu8 hcen8 hhdr8) (fun R5987 T5988 H5989 p5990 => ?_))
  obtain ⟨e5991, w5993, f5994, z5995, e5992, b5996, p5997⟩ := p5990
  subst e5991
  subst e5992
  show WL _ _ _ _ 1458 [(4, vI i), (3, .ref o), (2, .ref m), (1, .ref x), (0, .ref 0)] [vI z5995] _ H5989
  refine wl_of hX hb cL_1458 (rw_pop (pc' := 1459) rfl rfl ?_)
  refine wl_of hX hb cL_1459 (rw_aload_n (pc' := 1460) (v := .ref m) rfl rfl rfl ?_)
  have k5999 : wKI H5989 m = wKI H m := (wKI_fr hW gm f5994 rfl)
  have k6000 : H5989 x 9 = H x 9 := (f5994 x 9 _ gx rfl)
  have k6001 : H5989 m 6 = H m 6 := (f5994 m 6 _ gm rfl)
  have k6002 : H5989 x 11 = H x 11 := (f5994 x 11 _ gx rfl)
  have k6003 : H5989 m 13 = H m 13 := (f5994 m 13 _ gm rfl)
  have k6004 : H5989 x 8 = H x 8 := (f5994 x 8 _ gx rfl)
  have k6005 : H5989 m 3 = H m 3 := (f5994 m 3 _ gm rfl)
  have h6006 : RB T H5989 m e8 d8 := (RB_fr hW gm f5994 rfl hrb8)
  have h6007 : KNN T H5989 m e8 d8 := (KNN_fr hW gm f5994 rfl hknn8)
  refine wl_of hX hb cL_1460 (xc_V (pc' := 1463) (r := m) (as := []) (st := []) (lm_11_199) rfl rfl (Nat.le_of_ble_eq_true rfl) w5993 gm sh_42 (by decide) rfl (by decide) (u_288 (e := e8) (d := d8) w5993 gm (by omega) (by assumption) (by assumption) (by assumption) (by assumption) h6006 h6007) (fun R6008 T6009 H6010 p6011 => ?_))
  obtain ⟨e6012, w6014, f6015, z6016, e6013, b6017, p6018⟩ := p6011
  subst e6012
  subst e6013
  obtain ⟨a6019, a6020⟩ := p6018
  show WL _ _ _ _ 1463 [(4, vI i), (3, .ref o), (2, .ref m), (1, .ref x), (0, .ref 0)] [vI z6016] _ H6010
  refine wl_of hX hb cL_1463 (rw_pop (pc' := 1464) rfl rfl ?_)
  refine wl_of hX hb cL_1464 (rw_goto (p1 := 1653) (by decide) ?_)
  have k6021 : H6010 x 9 = H5989 x 9 := (f6015 x 9 _ gx rfl)
  have k6022 : H6010 m 6 = H5989 m 6 := (f6015 m 6 _ gm rfl)
  have k6023 : H6010 x 11 = H5989 x 11 := (f6015 x 11 _ gx rfl)
  have k6024 : H6010 m 13 = H5989 m 13 := (f6015 m 13 _ gm rfl)
  have k6025 : H6010 x 8 = H5989 x 8 := (f6015 x 8 _ gx rfl)
  have k6026 : H6010 m 3 = H5989 m 3 := (f6015 m 3 _ gm rfl)
  have k6027 : H6010 x 0 = H x 0 := ((f6015 x 0 _ gx rfl).trans (f5994 x 0 _ gx rfl))
  have q6028 : H6010 x 0 = (tc : Int) := k6027.trans e0
  have k6029 : H6010 m 5 = H m 5 := ((f6015 m 5 _ gm rfl).trans (f5994 m 5 _ gm rfl))
  have q6030 : H6010 m 5 = (tm : Int) := k6029.trans em
  have k6031 : H6010 x 6 = H x 6 := ((f6015 x 6 _ gx rfl).trans (f5994 x 6 _ gx rfl))
  have q6032 : H6010 x 6 = (cu : Int) := k6031.trans ecu
  have k6033 : H6010 x 7 = H x 7 := ((f6015 x 7 _ gx rfl).trans (f5994 x 7 _ gx rfl))
  have q6034 : H6010 x 7 = (dr : Int) := k6033.trans edr
  have h6035 : TP T H6010 tc B := (TP_fr w5993 gtc f6015 rfl (TP_fr hW gtc f5994 rfl htc))
  have h6036 : TM T H6010 tm B := (TM_fr w5993 gtm f6015 rfl (TM_fr hW gtm f5994 rfl htm))
  have h6037 : DD T H6010 cu  := (DD_fr w5993 gcu f6015 rfl (DD_fr hW gcu f5994 rfl hcu))
  have h6038 : DD T H6010 dr  := (DD_fr w5993 gdr f6015 rfl (DD_fr hW gdr f5994 rfl hdr))
  have h6039 : DE T H6010 cu  := (DE_fr w5993 gcu f6015 rfl (DE_fr hW gcu f5994 rfl hdec))
  have h6040 : DE T H6010 dr  := (DE_fr w5993 gdr f6015 rfl (DE_fr hW gdr f5994 rfl hded))
  have h6041 : SP T H6010 x C8 := (SP_fr w5993 gx f6015 rfl (SP_fr hW gx f5994 rfl hsp))
  have h6042 : CU T H6010 cu e8 d8 n8 := (CU_fr w5993 gcu f6015 rfl (CU_fr hW gcu f5994 rfl hcu8))
  have h6043 : CG T H6010 cu (d8 0 3) g8 := (CG_fr w5993 gcu f6015 rfl (CG_fr hW gcu f5994 rfl hcg8))
  have k6044 : H6010 x 3 = H x 3 := ((f6015 x 3 _ gx rfl).trans (f5994 x 3 _ gx rfl))
  have q6045 : H6010 x 3 = (ce8 : Int) := k6044.trans ece8
  have h6046 : CEN T H6010 ce8 e8 d8 := (CEN_fr w5993 gce8 f6015 rfl p5997)
  have h6047 : HDR T H6010 ce8  := (HDR_fr w5993 gce8 f6015 rfl (HDR_fr hW gce8 f5994 rfl hhdr8))
  have h6048 : MN26 T H6010 m (d8 0 3) g8 := (MN26_fr w5993 gm f6015 rfl (MN26_fr hW gm f5994 rfl hmn8))
  have h6049 : RB T H6010 m e8 d8 := (RB_fr w5993 gm f6015 rfl h6006)
  exact WL.loc hX (by simp) (next T H6010 ⟨⟨w6014, g0, gx, gm, go, by omega, by omega⟩, ⟨_, tc, tm, cu, dr, _, _, _, _, _, ce8, q6028, gtc, h6035, q6030, gtm, h6036, q6032, gcu, q6034, gdr, h6037, h6038, h6039, h6040, h6041, hC1, hC2, h6042, h6049, h6043, h6048, hE, hZ, (by omega), (by assumption), (by omega), (by first | assumption | exact SG_0), q6045, gce8, h6046, h6047, a6020, gm⟩, by omega, by omega⟩ (by omega) (by omega))
