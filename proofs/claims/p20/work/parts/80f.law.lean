/-! THE LAW, GONE ON WITH (own work) -/
set_option maxHeartbeats 4000000 in
theorem wl_c36 {kt : Nat → Option mc_E} {CB SB : Nat} {X : mc_S → Prop} {T : wq_T} {H : wq_H} {Len x m o : Nat} {i : Int} (hX : wlX kt CB SB X) (hb : T.2.1 ≤ CB ∧ T.2.2.1 ≤ SB) (hI : wlJ Len x m o T H) (hL : Len ≤ 3072) (hi : 0 ≤ i ∧ i + 6 ≤ Len) (hb2 : T.2.1 + 20 ≤ CB ∧ T.2.2.1 + 500 ≤ SB)  (next : ∀ T' H', wlJ Len x m o T' H' → T'.2.1 ≤ T.2.1 + 20 → T'.2.2.1 ≤ T.2.2.1 + 500 → WL kt CB SB X 1653 (wlL i x m o) [] T' H') : WL kt CB SB X 1316 (wlL i x m o) [] T H := by
  obtain ⟨⟨hW, g0, gx, gm, go, hK, hr⟩, hXI, hY1, hY2⟩ := hI
  refine wl_of hX hb cL_1316 (rw_aload_n (pc' := 1317) (v := .ref x) rfl rfl rfl ?_)
  obtain ⟨B, tc, tm, cu, dr, C8, e8, d8, n8, g8, ce8, e0, gtc, htc, em, gtm, htm, ecu, gcu, edr, gdr, hcu, hdr, hdec, hded, hsp, hC1, hC2, hcu8, hrb8, hcg8, hmn8, hE, hZ, hn8, hXA, hV8, hSG, ece8, gce8, hcen8, hhdr8, hknn8, -⟩ := hXI
  have hN3 := RB_n3 hrb8
  have hE13 : ∀ h : Nat, h < 24 → 0 ≤ e8 13 h ∧ e8 13 h ≤ 100 := fun k hk => by
    obtain ⟨s, h1, h2, h3⟩ := hcu8.1.2.2.1
    exact ⟨(h3 k hk).1, (h3 k hk).2.1⟩
  have hXW := hXA.1
  have hXN := hXA.2
  have hE0 : e8 0 3 = d8 0 3 ∧ e8 0 0 = d8 0 0 := by
    have h := hE 0 (by decide)
    exact ⟨congrFun h 3, congrFun h 0⟩
  have u5385 := CU_k hcu8
  have h5386 : CY T H cu (d8 0 3) g8 (H cu 17) := ⟨hcg8, rfl⟩
  have h5387 : RY T H m (d8 0 3) g8 (H m 32) := ⟨hmn8, rfl⟩
  obtain ⟨t9, ht9⟩ : ∃ t : Int, t = H x 9 := ⟨_, rfl⟩
  obtain ⟨r5388, q5389, g5390⟩ := hW.ref gx (t' := 6) (n := 13) (j := 2) (p := 0) (q := 0) rfl (by decide) rfl
  refine wl_of hX hb cL_1317 (xc_V (pc' := 1320) (r := x) (as := []) (st := []) (lm_11_171) rfl rfl (Nat.le_of_ble_eq_true rfl) hW gx sh_1 (by decide) rfl (by decide) (u_147 (e := e8) (d := d8) (n := n8) hW gx ecu gcu q5389 g5390 ece8 gce8 (by assumption) (by assumption) (by omega) (by omega) (by omega) (by omega) hcu8 hcen8 hhdr8) (fun R5391 T5392 H5393 p5394 => ?_))
  obtain ⟨e5395, w5397, f5398, z5399, e5396, b5400, p5401⟩ := p5394
  subst e5395
  subst e5396
  show WL _ _ _ _ 1320 [(4, vI i), (3, .ref o), (2, .ref m), (1, .ref x), (0, .ref 0)] [vI z5399] _ H5393
  refine wl_of hX hb cL_1320 (rw_pop (pc' := 1321) rfl rfl ?_)
  refine wl_of hX hb cL_1321 (rw_aload_n (pc' := 1322) (v := .ref m) rfl rfl rfl ?_)
  have k5403 : wKI H5393 m = wKI H m := (wKI_fr hW gm f5398 rfl)
  have k5404 : H5393 x 9 = H x 9 := (f5398 x 9 _ gx rfl)
  have k5405 : H5393 m 6 = H m 6 := (f5398 m 6 _ gm rfl)
  have k5406 : H5393 x 11 = H x 11 := (f5398 x 11 _ gx rfl)
  have k5407 : H5393 m 13 = H m 13 := (f5398 m 13 _ gm rfl)
  have k5408 : H5393 x 8 = H x 8 := (f5398 x 8 _ gx rfl)
  have k5409 : H5393 m 3 = H m 3 := (f5398 m 3 _ gm rfl)
  have h5410 : RB T H5393 m e8 d8 := (RB_fr hW gm f5398 rfl hrb8)
  have h5411 : KNN T H5393 m e8 d8 := (KNN_fr hW gm f5398 rfl hknn8)
  refine wl_of hX hb cL_1322 (xc_V (pc' := 1325) (r := m) (as := []) (st := []) (lm_11_174) rfl rfl (Nat.le_of_ble_eq_true rfl) w5397 gm sh_42 (by decide) rfl (by decide) (u_282 (e := e8) (d := d8) w5397 gm (by omega) (by assumption) (by assumption) (by assumption) (by assumption) h5410 h5411) (fun R5412 T5413 H5414 p5415 => ?_))
  obtain ⟨e5416, w5418, f5419, z5420, e5417, b5421, p5422⟩ := p5415
  subst e5416
  subst e5417
  obtain ⟨a5423, a5424⟩ := p5422
  show WL _ _ _ _ 1325 [(4, vI i), (3, .ref o), (2, .ref m), (1, .ref x), (0, .ref 0)] [vI z5420] _ H5414
  refine wl_of hX hb cL_1325 (rw_pop (pc' := 1326) rfl rfl ?_)
  refine wl_of hX hb cL_1326 (rw_goto (p1 := 1653) (by decide) ?_)
  have k5425 : H5414 x 9 = H5393 x 9 := (f5419 x 9 _ gx rfl)
  have k5426 : H5414 m 6 = H5393 m 6 := (f5419 m 6 _ gm rfl)
  have k5427 : H5414 x 11 = H5393 x 11 := (f5419 x 11 _ gx rfl)
  have k5428 : H5414 m 13 = H5393 m 13 := (f5419 m 13 _ gm rfl)
  have k5429 : H5414 x 8 = H5393 x 8 := (f5419 x 8 _ gx rfl)
  have k5430 : H5414 m 3 = H5393 m 3 := (f5419 m 3 _ gm rfl)
  have k5431 : H5414 x 0 = H x 0 := ((f5419 x 0 _ gx rfl).trans (f5398 x 0 _ gx rfl))
  have q5432 : H5414 x 0 = (tc : Int) := k5431.trans e0
  have k5433 : H5414 m 5 = H m 5 := ((f5419 m 5 _ gm rfl).trans (f5398 m 5 _ gm rfl))
  have q5434 : H5414 m 5 = (tm : Int) := k5433.trans em
  have k5435 : H5414 x 6 = H x 6 := ((f5419 x 6 _ gx rfl).trans (f5398 x 6 _ gx rfl))
  have q5436 : H5414 x 6 = (cu : Int) := k5435.trans ecu
  have k5437 : H5414 x 7 = H x 7 := ((f5419 x 7 _ gx rfl).trans (f5398 x 7 _ gx rfl))
  have q5438 : H5414 x 7 = (dr : Int) := k5437.trans edr
  have h5439 : CEN T H5414 ce8 e8 d8 := (CEN_fr w5397 gce8 f5419 rfl p5401)
  have h5440 : TP T H5414 tc B := (TP_fr w5397 gtc f5419 rfl (TP_fr hW gtc f5398 rfl htc))
  have h5441 : TM T H5414 tm B := (TM_fr w5397 gtm f5419 rfl (TM_fr hW gtm f5398 rfl htm))
  have h5442 : DD T H5414 cu  := (DD_fr w5397 gcu f5419 rfl (DD_fr hW gcu f5398 rfl hcu))
  have h5443 : DD T H5414 dr  := (DD_fr w5397 gdr f5419 rfl (DD_fr hW gdr f5398 rfl hdr))
  have h5444 : DE T H5414 cu  := (DE_fr w5397 gcu f5419 rfl (DE_fr hW gcu f5398 rfl hdec))
  have h5445 : DE T H5414 dr  := (DE_fr w5397 gdr f5419 rfl (DE_fr hW gdr f5398 rfl hded))
  have h5446 : SP T H5414 x C8 := (SP_fr w5397 gx f5419 rfl (SP_fr hW gx f5398 rfl hsp))
  have h5447 : CU T H5414 cu e8 d8 n8 := (CU_fr w5397 gcu f5419 rfl (CU_fr hW gcu f5398 rfl hcu8))
  have h5448 : CY T H5414 cu (d8 0 3) g8 (H cu 17) := (CY_fr w5397 gcu f5419 rfl (CY_fr hW gcu f5398 rfl h5386))
  have k5449 : H5414 x 3 = H x 3 := ((f5419 x 3 _ gx rfl).trans (f5398 x 3 _ gx rfl))
  have q5450 : H5414 x 3 = (ce8 : Int) := k5449.trans ece8
  have h5451 : HDR T H5414 ce8  := (HDR_fr w5397 gce8 f5419 rfl (HDR_fr hW gce8 f5398 rfl hhdr8))
  have h5452 : RY T H5414 m (d8 0 3) g8 (H m 32) := (RY_fr w5397 gm f5419 rfl (RY_fr hW gm f5398 rfl h5387))
  have h5453 : RB T H5414 m e8 d8 := (RB_fr w5397 gm f5419 rfl h5410)
  exact WL.loc hX (by simp) (next T H5414 ⟨⟨w5418, g0, gx, gm, go, by omega, by omega⟩, ⟨_, tc, tm, cu, dr, _, _, _, _, _, ce8, q5432, gtc, h5440, q5434, gtm, h5441, q5436, gcu, q5438, gdr, h5442, h5443, h5444, h5445, h5446, hC1, hC2, h5447, h5453, (h5448).1, (h5452).1, hE, hZ, (by omega), (by assumption), (by omega), (by first | assumption | exact SG_0), q5450, gce8, h5439, h5451, a5424, gm⟩, by omega, by omega⟩ (by omega) (by omega))
set_option maxHeartbeats 4000000 in
theorem wl_c37 {kt : Nat → Option mc_E} {CB SB : Nat} {X : mc_S → Prop} {T : wq_T} {H : wq_H} {Len x m o : Nat} {i : Int} (hX : wlX kt CB SB X) (hb : T.2.1 ≤ CB ∧ T.2.2.1 ≤ SB) (hI : wlJ Len x m o T H) (hL : Len ≤ 3072) (hi : 0 ≤ i ∧ i + 6 ≤ Len) (hb2 : T.2.1 + 20 ≤ CB ∧ T.2.2.1 + 500 ≤ SB)  (next : ∀ T' H', wlJ Len x m o T' H' → T'.2.1 ≤ T.2.1 + 20 → T'.2.2.1 ≤ T.2.2.1 + 500 → WL kt CB SB X 1653 (wlL i x m o) [] T' H') : WL kt CB SB X 1329 (wlL i x m o) [] T H := by
  obtain ⟨⟨hW, g0, gx, gm, go, hK, hr⟩, hXI, hY1, hY2⟩ := hI
  refine wl_of hX hb cL_1329 (rw_aload_n (pc' := 1330) (v := .ref x) rfl rfl rfl ?_)
  refine wl_of hX hb cL_1330 (xc_V (pc' := 1333) (r := x) (as := []) (st := []) (lm_11_175) rfl rfl (Nat.le_of_ble_eq_true rfl) hW gx sh_1 (by decide) rfl (by decide) (s_149 hW gx) (fun R5454 T5455 H5456 p5457 => ?_))
  obtain ⟨e5458, w5460, f5461, z5462, e5459, b5463⟩ := p5457
  subst e5458
  subst e5459
  show WL _ _ _ _ 1333 [(4, vI i), (3, .ref o), (2, .ref m), (1, .ref x), (0, .ref 0)] [vI z5462] _ H5456
  refine wl_of hX hb cL_1333 (rw_pop (pc' := 1334) rfl rfl ?_)
  refine wl_of hX hb cL_1334 (rw_aload_n (pc' := 1335) (v := .ref m) rfl rfl rfl ?_)
  have k5464 : wKI H5456 m = wKI H m := (wKI_fr hW gm f5461 rfl)
  have k5465 : H5456 x 9 = H x 9 := (f5461 x 9 _ gx rfl)
  have k5466 : H5456 m 6 = H m 6 := (f5461 m 6 _ gm rfl)
  have k5467 : H5456 x 11 = H x 11 := (f5461 x 11 _ gx rfl)
  have k5468 : H5456 m 13 = H m 13 := (f5461 m 13 _ gm rfl)
  have k5469 : H5456 x 8 = H x 8 := (f5461 x 8 _ gx rfl)
  have k5470 : H5456 m 3 = H m 3 := (f5461 m 3 _ gm rfl)
  refine wl_of hX hb cL_1335 (xc_V (pc' := 1338) (r := m) (as := []) (st := []) (lm_11_178) rfl rfl (Nat.le_of_ble_eq_true rfl) w5460 gm sh_42 (by decide) rfl (by decide) (s_283 w5460 gm (by omega)) (fun R5471 T5472 H5473 p5474 => ?_))
  obtain ⟨e5475, w5477, f5478, z5480, e5476, b5481, p5479⟩ := p5474
  subst e5475
  subst e5476
  show WL _ _ _ _ 1338 [(4, vI i), (3, .ref o), (2, .ref m), (1, .ref x), (0, .ref 0)] [vI z5480] _ H5473
  refine wl_of hX hb cL_1338 (rw_pop (pc' := 1339) rfl rfl ?_)
  refine wl_of hX hb cL_1339 (rw_goto (p1 := 1653) (by decide) ?_)
  have k5482 : H5473 x 9 = H5456 x 9 := (f5478 x 9 _ gx rfl)
  have k5483 : H5473 m 6 = H5456 m 6 := (f5478 m 6 _ gm rfl)
  have k5484 : H5473 x 11 = H5456 x 11 := (f5478 x 11 _ gx rfl)
  have k5485 : H5473 m 13 = H5456 m 13 := (f5478 m 13 _ gm rfl)
  have k5486 : H5473 x 8 = H5456 x 8 := (f5478 x 8 _ gx rfl)
  have k5487 : H5473 m 3 = H5456 m 3 := (f5478 m 3 _ gm rfl)
  have h5488 : XI T H5473 x m := (XI_fr w5460 gx f5478 rfl (XI_fr hW gx f5461 rfl hXI))
  exact WL.loc hX (by simp) (next T H5473 ⟨⟨w5477, g0, gx, gm, go, by omega, by omega⟩, h5488, by omega, by omega⟩ (by omega) (by omega))
set_option maxHeartbeats 4000000 in
theorem wl_c38 {kt : Nat → Option mc_E} {CB SB : Nat} {X : mc_S → Prop} {T : wq_T} {H : wq_H} {Len x m o : Nat} {i : Int} (hX : wlX kt CB SB X) (hb : T.2.1 ≤ CB ∧ T.2.2.1 ≤ SB) (hI : wlJ Len x m o T H) (hL : Len ≤ 3072) (hi : 0 ≤ i ∧ i + 6 ≤ Len) (hb2 : T.2.1 + 20 ≤ CB ∧ T.2.2.1 + 500 ≤ SB)  (next : ∀ T' H', wlJ Len x m o T' H' → T'.2.1 ≤ T.2.1 + 20 → T'.2.2.1 ≤ T.2.2.1 + 500 → WL kt CB SB X 1653 (wlL i x m o) [] T' H') : WL kt CB SB X 1342 (wlL i x m o) [] T H := by
  obtain ⟨⟨hW, g0, gx, gm, go, hK, hr⟩, hXI, hY1, hY2⟩ := hI
  refine wl_of hX hb cL_1342 (rw_aload_n (pc' := 1343) (v := .ref x) rfl rfl rfl ?_)
  refine wl_of hX hb cL_1343 (rw_aload_n (pc' := 1344) (v := .ref 0) rfl rfl rfl ?_)
  refine wl_of hX hb cL_1344 (rw_iload (pc' := 1346) (z := i) rfl rfl ?_)
  refine wl_of hX hb cL_1346 (rw_iconst (pc' := 1347) rfl ?_)
  refine wl_of hX hb cL_1347 (rw_iadd (pc' := 1348) rfl ?_)
  refine wl_of hX hb cL_1348 (xa_I (so := 0) (pc' := 1349) (a := 0) hW g0 (wsh_s _) (by omega) (wty_s _ _) (by omega) (by omega) rfl (fun b5489 b5490 => ?_))
  refine wl_of hX hb cL_1349 (xc_V (pc' := 1352) (r := x) (as := [vI (H 0 ((i + 1).toNat))]) (st := []) (lm_11_179) rfl rfl (Nat.le_of_ble_eq_true rfl) hW gx sh_1 (by decide) rfl (by decide) (s_152 hW gx ⟨by omega, by omega⟩) (fun R5491 T5492 H5493 p5494 => ?_))
  obtain ⟨e5495, w5497, f5498, z5499, e5496, b5500⟩ := p5494
  subst e5495
  subst e5496
  show WL _ _ _ _ 1352 [(4, vI i), (3, .ref o), (2, .ref m), (1, .ref x), (0, .ref 0)] [vI z5499] _ H5493
  refine wl_of hX hb cL_1352 (rw_pop (pc' := 1353) rfl rfl ?_)
  refine wl_of hX hb cL_1353 (rw_aload_n (pc' := 1354) (v := .ref m) rfl rfl rfl ?_)
  refine wl_of hX hb cL_1354 (rw_aload_n (pc' := 1355) (v := .ref 0) rfl rfl rfl ?_)
  refine wl_of hX hb cL_1355 (rw_iload (pc' := 1357) (z := i) rfl rfl ?_)
  refine wl_of hX hb cL_1357 (rw_iconst (pc' := 1358) rfl ?_)
  refine wl_of hX hb cL_1358 (rw_iadd (pc' := 1359) rfl ?_)
  have k5503 : H5493 0 ((i + 1).toNat) = H 0 ((i + 1).toNat) := (f5498 0 ((i + 1).toNat) _ g0 (wmem_s rfl))
  refine wl_of hX hb cL_1359 (xa_I (so := 0) (pc' := 1360) (a := 0) w5497 g0 (wsh_s _) (by omega) (wty_s _ _) (by omega) (by omega) rfl (fun b5501 b5502 => ?_))
  have k5504 : wKI H5493 m = wKI H m := (wKI_fr hW gm f5498 rfl)
  have k5505 : H5493 x 9 = H x 9 := (f5498 x 9 _ gx rfl)
  have k5506 : H5493 m 6 = H m 6 := (f5498 m 6 _ gm rfl)
  have k5507 : H5493 x 11 = H x 11 := (f5498 x 11 _ gx rfl)
  have k5508 : H5493 m 13 = H m 13 := (f5498 m 13 _ gm rfl)
  have k5509 : H5493 x 8 = H x 8 := (f5498 x 8 _ gx rfl)
  have k5510 : H5493 m 3 = H m 3 := (f5498 m 3 _ gm rfl)
  refine wl_of hX hb cL_1360 (xc_V (pc' := 1363) (r := m) (as := [vI (H5493 0 ((i + 1).toNat))]) (st := []) (lm_11_182) rfl rfl (Nat.le_of_ble_eq_true rfl) w5497 gm sh_42 (by decide) rfl (by decide) (s_284 w5497 gm ⟨by omega, by omega⟩ (by omega)) (fun R5511 T5512 H5513 p5514 => ?_))
  obtain ⟨e5515, w5517, f5518, z5520, e5516, b5521, p5519⟩ := p5514
  subst e5515
  subst e5516
  show WL _ _ _ _ 1363 [(4, vI i), (3, .ref o), (2, .ref m), (1, .ref x), (0, .ref 0)] [vI z5520] _ H5513
  refine wl_of hX hb cL_1363 (rw_pop (pc' := 1364) rfl rfl ?_)
  refine wl_of hX hb cL_1364 (rw_goto (p1 := 1653) (by decide) ?_)
  have k5522 : H5513 x 9 = H5493 x 9 := (f5518 x 9 _ gx rfl)
  have k5523 : H5513 m 6 = H5493 m 6 := (f5518 m 6 _ gm rfl)
  have k5524 : H5513 x 11 = H5493 x 11 := (f5518 x 11 _ gx rfl)
  have k5525 : H5513 m 13 = H5493 m 13 := (f5518 m 13 _ gm rfl)
  have k5526 : H5513 x 8 = H5493 x 8 := (f5518 x 8 _ gx rfl)
  have k5527 : H5513 m 3 = H5493 m 3 := (f5518 m 3 _ gm rfl)
  have h5528 : XI T H5513 x m := (XI_fr w5497 gx f5518 rfl (XI_fr hW gx f5498 rfl hXI))
  exact WL.loc hX (by simp) (next T H5513 ⟨⟨w5517, g0, gx, gm, go, by omega, by omega⟩, h5528, by omega, by omega⟩ (by omega) (by omega))
set_option maxHeartbeats 4000000 in
theorem wl_c39 {kt : Nat → Option mc_E} {CB SB : Nat} {X : mc_S → Prop} {T : wq_T} {H : wq_H} {Len x m o : Nat} {i : Int} (hX : wlX kt CB SB X) (hb : T.2.1 ≤ CB ∧ T.2.2.1 ≤ SB) (hI : wlJ Len x m o T H) (hL : Len ≤ 3072) (hi : 0 ≤ i ∧ i + 6 ≤ Len) (hb2 : T.2.1 + 20 ≤ CB ∧ T.2.2.1 + 500 ≤ SB)  (next : ∀ T' H', wlJ Len x m o T' H' → T'.2.1 ≤ T.2.1 + 20 → T'.2.2.1 ≤ T.2.2.1 + 500 → WL kt CB SB X 1653 (wlL i x m o) [] T' H') : WL kt CB SB X 1367 (wlL i x m o) [] T H := by
  obtain ⟨⟨hW, g0, gx, gm, go, hK, hr⟩, hXI, hY1, hY2⟩ := hI
  refine wl_of hX hb cL_1367 (rw_aload_n (pc' := 1368) (v := .ref x) rfl rfl rfl ?_)
  refine wl_of hX hb cL_1368 (rw_aload_n (pc' := 1369) (v := .ref 0) rfl rfl rfl ?_)
  refine wl_of hX hb cL_1369 (rw_iload (pc' := 1371) (z := i) rfl rfl ?_)
  refine wl_of hX hb cL_1371 (rw_iconst (pc' := 1372) rfl ?_)
  refine wl_of hX hb cL_1372 (rw_iadd (pc' := 1373) rfl ?_)
  refine wl_of hX hb cL_1373 (xa_I (so := 0) (pc' := 1374) (a := 0) hW g0 (wsh_s _) (by omega) (wty_s _ _) (by omega) (by omega) rfl (fun b5529 b5530 => ?_))
  refine wl_of hX hb cL_1374 (rw_aload_n (pc' := 1375) (v := .ref 0) rfl rfl rfl ?_)
  refine wl_of hX hb cL_1375 (rw_iload (pc' := 1377) (z := i) rfl rfl ?_)
  refine wl_of hX hb cL_1377 (rw_iconst (pc' := 1378) rfl ?_)
  refine wl_of hX hb cL_1378 (rw_iadd (pc' := 1379) rfl ?_)
  refine wl_of hX hb cL_1379 (xa_I (so := 0) (pc' := 1380) (a := 0) hW g0 (wsh_s _) (by omega) (wty_s _ _) (by omega) (by omega) rfl (fun b5531 b5532 => ?_))
  obtain ⟨B, tc, tm, cu, dr, C8, e8, d8, n8, g8, ce8, e0, gtc, htc, em, gtm, htm, ecu, gcu, edr, gdr, hcu, hdr, hdec, hded, hsp, hC1, hC2, hcu8, hrb8, hcg8, hmn8, hE, hZ, hn8, hXA, hV8, hSG, ece8, gce8, hcen8, hhdr8, hknn8, -⟩ := hXI
  have hN3 := RB_n3 hrb8
  have hE13 : ∀ h : Nat, h < 24 → 0 ≤ e8 13 h ∧ e8 13 h ≤ 100 := fun k hk => by
    obtain ⟨s, h1, h2, h3⟩ := hcu8.1.2.2.1
    exact ⟨(h3 k hk).1, (h3 k hk).2.1⟩
  have hXW := hXA.1
  have hXN := hXA.2
  have hE0 : e8 0 3 = d8 0 3 ∧ e8 0 0 = d8 0 0 := by
    have h := hE 0 (by decide)
    exact ⟨congrFun h 3, congrFun h 0⟩
  have u5533 := CU_k hcu8
  have h5534 : CY T H cu (d8 0 3) g8 (H cu 17) := ⟨hcg8, rfl⟩
  have h5535 : RY T H m (d8 0 3) g8 (H m 32) := ⟨hmn8, rfl⟩
  obtain ⟨t9, ht9⟩ : ∃ t : Int, t = H x 9 := ⟨_, rfl⟩
  obtain ⟨y9, hy9⟩ : ∃ y : Int, y = H 0 ((i + 2).toNat) := ⟨_, rfl⟩
  refine wl_of hX hb cL_1380 (xc_V (pc' := 1383) (r := x) (as := [vI (H 0 ((i + 1).toNat)), vI (H 0 ((i + 2).toNat))]) (st := []) (lm_11_183) rfl rfl (Nat.le_of_ble_eq_true rfl) hW gx sh_1 (by decide) rfl (by decide) (u_153 (e := e8) (d := d8) (n := n8) (y := ((H 0 ((i + 1).toNat)))) (w := (((H 0 ((i + 2).toNat)) + 1))) hW gx ⟨by omega, by omega⟩ ⟨by omega, by omega⟩ ecu gcu ece8 gce8 (by omega) (by omega) (by omega) (by omega) hcu8 hcen8) (fun R5536 T5537 H5538 p5539 => ?_))
  obtain ⟨e5540, w5542, f5543, z5544, e5541, b5545, p5546⟩ := p5539
  subst e5540
  subst e5541
  rcases p5546 with ⟨a5547, a5548, a5549, a5550⟩ | ⟨a5551, a5552, a5553, a5554, a5555⟩
  · show WL _ _ _ _ 1383 [(4, vI i), (3, .ref o), (2, .ref m), (1, .ref x), (0, .ref 0)] [vI z5544] _ H5538
    have u5556 := CU_k a5549
    refine wl_of hX hb cL_1383 (rw_pop (pc' := 1384) rfl rfl ?_)
    refine wl_of hX hb cL_1384 (rw_aload_n (pc' := 1385) (v := .ref m) rfl rfl rfl ?_)
    refine wl_of hX hb cL_1385 (rw_aload_n (pc' := 1386) (v := .ref 0) rfl rfl rfl ?_)
    refine wl_of hX hb cL_1386 (rw_iload (pc' := 1388) (z := i) rfl rfl ?_)
    refine wl_of hX hb cL_1388 (rw_iconst (pc' := 1389) rfl ?_)
    refine wl_of hX hb cL_1389 (rw_iadd (pc' := 1390) rfl ?_)
    have k5559 : H5538 0 ((i + 1).toNat) = H 0 ((i + 1).toNat) := (f5543 0 ((i + 1).toNat) _ g0 (wmem_s rfl))
    refine wl_of hX hb cL_1390 (xa_I (so := 0) (pc' := 1391) (a := 0) w5542 g0 (wsh_s _) (by omega) (wty_s _ _) (by omega) (by omega) rfl (fun b5557 b5558 => ?_))
    refine wl_of hX hb cL_1391 (rw_aload_n (pc' := 1392) (v := .ref 0) rfl rfl rfl ?_)
    refine wl_of hX hb cL_1392 (rw_iload (pc' := 1394) (z := i) rfl rfl ?_)
    refine wl_of hX hb cL_1394 (rw_iconst (pc' := 1395) rfl ?_)
    refine wl_of hX hb cL_1395 (rw_iadd (pc' := 1396) rfl ?_)
    have k5562 : H5538 0 ((i + 2).toNat) = H 0 ((i + 2).toNat) := (f5543 0 ((i + 2).toNat) _ g0 (wmem_s rfl))
    refine wl_of hX hb cL_1396 (xa_I (so := 0) (pc' := 1397) (a := 0) w5542 g0 (wsh_s _) (by omega) (wty_s _ _) (by omega) (by omega) rfl (fun b5560 b5561 => ?_))
    have k5563 : wKI H5538 m = wKI H m := (wKI_fr hW gm f5543 rfl)
    have k5564 : H5538 x 9 = H x 9 := (f5543 x 9 _ gx rfl)
    have k5565 : H5538 m 6 = H m 6 := (f5543 m 6 _ gm rfl)
    have k5566 : H5538 x 11 = H x 11 := (f5543 x 11 _ gx rfl)
    have k5567 : H5538 m 13 = H m 13 := (f5543 m 13 _ gm rfl)
    have k5568 : H5538 x 8 = H x 8 := (f5543 x 8 _ gx rfl)
    have k5569 : H5538 m 3 = H m 3 := (f5543 m 3 _ gm rfl)
    rw [show H5538 0 ((i + 2).toNat) = H 0 ((i + 2).toNat) by omega]
    rw [show H5538 0 ((i + 1).toNat) = H 0 ((i + 1).toNat) by omega]
    have h5570 : RB T H5538 m e8 d8 := (RB_fr hW gm f5543 rfl hrb8)
    have h5571 : KNN T H5538 m e8 d8 := (KNN_fr hW gm f5543 rfl hknn8)
    refine wl_of hX hb cL_1397 (xc_V (pc' := 1400) (r := m) (as := [vI (H 0 ((i + 1).toNat)), vI (H 0 ((i + 2).toNat))]) (st := []) (lm_11_186) rfl rfl (Nat.le_of_ble_eq_true rfl) w5542 gm sh_42 (by decide) rfl (by decide) (u_285 (e := e8) (d := d8) (y := ((H 0 ((i + 1).toNat)))) (w := (((H 0 ((i + 2).toNat)) + 1))) w5542 gm ⟨by omega, by omega⟩ ⟨by omega, by omega⟩ (by omega) (by omega) (by omega) h5570 h5571) (fun R5572 T5573 H5574 p5575 => ?_))
    obtain ⟨e5576, w5578, f5579, z5580, e5577, b5581, p5582⟩ := p5575
    subst e5576
    subst e5577
    rcases p5582 with ⟨a5583, a5584, a5585, a5586, a5587⟩ | ⟨a5588, a5589, a5590, a5591, a5592⟩
    · show WL _ _ _ _ 1400 [(4, vI i), (3, .ref o), (2, .ref m), (1, .ref x), (0, .ref 0)] [vI z5580] _ H5574
      refine wl_of hX hb cL_1400 (rw_pop (pc' := 1401) rfl rfl ?_)
      refine wl_of hX hb cL_1401 (rw_goto (p1 := 1653) (by decide) ?_)
      have k5593 : H5574 x 9 = H5538 x 9 := (f5579 x 9 _ gx rfl)
      have k5594 : H5574 m 6 = H5538 m 6 := (f5579 m 6 _ gm rfl)
      have k5595 : H5574 x 11 = H5538 x 11 := (f5579 x 11 _ gx rfl)
      have k5596 : H5574 m 13 = H5538 m 13 := (f5579 m 13 _ gm rfl)
      have k5597 : H5574 x 8 = H5538 x 8 := (f5579 x 8 _ gx rfl)
      have k5598 : H5574 m 3 = H5538 m 3 := (f5579 m 3 _ gm rfl)
      have k5599 : H5574 x 0 = H x 0 := ((f5579 x 0 _ gx rfl).trans (f5543 x 0 _ gx rfl))
      have q5600 : H5574 x 0 = (tc : Int) := k5599.trans e0
      have k5601 : H5574 m 5 = H m 5 := ((f5579 m 5 _ gm rfl).trans (f5543 m 5 _ gm rfl))
      have q5602 : H5574 m 5 = (tm : Int) := k5601.trans em
      have k5603 : H5574 x 6 = H x 6 := ((f5579 x 6 _ gx rfl).trans (f5543 x 6 _ gx rfl))
      have q5604 : H5574 x 6 = (cu : Int) := k5603.trans ecu
      have k5605 : H5574 x 7 = H x 7 := ((f5579 x 7 _ gx rfl).trans (f5543 x 7 _ gx rfl))
      have q5606 : H5574 x 7 = (dr : Int) := k5605.trans edr
      have h5607 : CEN T H5574 ce8 e8 d8 := (CEN_fr w5542 gce8 f5579 rfl a5550)
      have h5608 : TP T H5574 tc B := (TP_fr w5542 gtc f5579 rfl (TP_fr hW gtc f5543 rfl htc))
      have h5609 : TM T H5574 tm B := (TM_fr w5542 gtm f5579 rfl (TM_fr hW gtm f5543 rfl htm))
      have h5610 : DD T H5574 cu  := (DD_fr w5542 gcu f5579 rfl (DD_fr hW gcu f5543 rfl hcu))
      have h5611 : DD T H5574 dr  := (DD_fr w5542 gdr f5579 rfl (DD_fr hW gdr f5543 rfl hdr))
      have h5612 : DE T H5574 cu  := (DE_fr w5542 gcu f5579 rfl (DE_fr hW gcu f5543 rfl hdec))
      have h5613 : DE T H5574 dr  := (DE_fr w5542 gdr f5579 rfl (DE_fr hW gdr f5543 rfl hded))
      have h5614 : SP T H5574 x C8 := (SP_fr w5542 gx f5579 rfl (SP_fr hW gx f5543 rfl hsp))
      have h5615 : CU T H5574 cu e8 d8 n8 := (CU_fr w5542 gcu f5579 rfl a5549)
      have h5616 : CY T H5574 cu (d8 0 3) g8 (H cu 17) := (CY_fr w5542 gcu f5579 rfl (CY_fr hW gcu f5543 rfl h5534))
      have k5617 : H5574 x 3 = H x 3 := ((f5579 x 3 _ gx rfl).trans (f5543 x 3 _ gx rfl))
      have q5618 : H5574 x 3 = (ce8 : Int) := k5617.trans ece8
      have h5619 : HDR T H5574 ce8  := (HDR_fr w5542 gce8 f5579 rfl (HDR_fr hW gce8 f5543 rfl hhdr8))
      have h5620 : RY T H5574 m (d8 0 3) g8 (H m 32) := (RY_fr w5542 gm f5579 rfl (RY_fr hW gm f5543 rfl h5535))
      exact WL.loc hX (by simp) (next T H5574 ⟨⟨w5578, g0, gx, gm, go, by omega, by omega⟩, ⟨_, tc, tm, cu, dr, _, _, _, _, _, ce8, q5600, gtc, h5608, q5602, gtm, h5609, q5604, gcu, q5606, gdr, h5610, h5611, h5612, h5613, h5614, hC1, hC2, h5615, a5586, (h5616).1, (h5620).1, hE, hZ, (by omega), (by assumption), (by omega), (by first | assumption | exact SG_0), q5618, gce8, h5607, h5619, a5587, gm⟩, by omega, by omega⟩ (by omega) (by omega))
    · show WL _ _ _ _ 1400 [(4, vI i), (3, .ref o), (2, .ref m), (1, .ref x), (0, .ref 0)] [vI z5580] _ H5574
      refine wl_of hX hb cL_1400 (rw_pop (pc' := 1401) rfl rfl ?_)
      refine wl_of hX hb cL_1401 (rw_goto (p1 := 1653) (by decide) ?_)
      have k5621 : H5574 x 9 = H5538 x 9 := (f5579 x 9 _ gx rfl)
      have k5622 : H5574 m 6 = H5538 m 6 := (f5579 m 6 _ gm rfl)
      have k5623 : H5574 x 11 = H5538 x 11 := (f5579 x 11 _ gx rfl)
      have k5624 : H5574 m 13 = H5538 m 13 := (f5579 m 13 _ gm rfl)
      have k5625 : H5574 x 8 = H5538 x 8 := (f5579 x 8 _ gx rfl)
      have k5626 : H5574 m 3 = H5538 m 3 := (f5579 m 3 _ gm rfl)
      have k5627 : H5574 x 0 = H x 0 := ((f5579 x 0 _ gx rfl).trans (f5543 x 0 _ gx rfl))
      have q5628 : H5574 x 0 = (tc : Int) := k5627.trans e0
      have k5629 : H5574 m 5 = H m 5 := ((f5579 m 5 _ gm rfl).trans (f5543 m 5 _ gm rfl))
      have q5630 : H5574 m 5 = (tm : Int) := k5629.trans em
      have k5631 : H5574 x 6 = H x 6 := ((f5579 x 6 _ gx rfl).trans (f5543 x 6 _ gx rfl))
      have q5632 : H5574 x 6 = (cu : Int) := k5631.trans ecu
      have k5633 : H5574 x 7 = H x 7 := ((f5579 x 7 _ gx rfl).trans (f5543 x 7 _ gx rfl))
      have q5634 : H5574 x 7 = (dr : Int) := k5633.trans edr
      have h5635 : CEN T H5574 ce8 e8 d8 := (CEN_fr w5542 gce8 f5579 rfl a5550)
      have h5636 : TP T H5574 tc B := (TP_fr w5542 gtc f5579 rfl (TP_fr hW gtc f5543 rfl htc))
      have h5637 : TM T H5574 tm B := (TM_fr w5542 gtm f5579 rfl (TM_fr hW gtm f5543 rfl htm))
      have h5638 : DD T H5574 cu  := (DD_fr w5542 gcu f5579 rfl (DD_fr hW gcu f5543 rfl hcu))
      have h5639 : DD T H5574 dr  := (DD_fr w5542 gdr f5579 rfl (DD_fr hW gdr f5543 rfl hdr))
      have h5640 : DE T H5574 cu  := (DE_fr w5542 gcu f5579 rfl (DE_fr hW gcu f5543 rfl hdec))
      have h5641 : DE T H5574 dr  := (DE_fr w5542 gdr f5579 rfl (DE_fr hW gdr f5543 rfl hded))
      have h5642 : SP T H5574 x C8 := (SP_fr w5542 gx f5579 rfl (SP_fr hW gx f5543 rfl hsp))
      have h5643 : CU T H5574 cu e8 d8 n8 := (CU_fr w5542 gcu f5579 rfl a5549)
      have h5644 : CY T H5574 cu (d8 0 3) g8 (H cu 17) := (CY_fr w5542 gcu f5579 rfl (CY_fr hW gcu f5543 rfl h5534))
      have k5645 : H5574 x 3 = H x 3 := ((f5579 x 3 _ gx rfl).trans (f5543 x 3 _ gx rfl))
      have q5646 : H5574 x 3 = (ce8 : Int) := k5645.trans ece8
      have h5647 : HDR T H5574 ce8  := (HDR_fr w5542 gce8 f5579 rfl (HDR_fr hW gce8 f5543 rfl hhdr8))
      exfalso
      omega
  · show WL _ _ _ _ 1383 [(4, vI i), (3, .ref o), (2, .ref m), (1, .ref x), (0, .ref 0)] [vI z5544] _ H5538
    have u5648 := CU_k a5555
    refine wl_of hX hb cL_1383 (rw_pop (pc' := 1384) rfl rfl ?_)
    refine wl_of hX hb cL_1384 (rw_aload_n (pc' := 1385) (v := .ref m) rfl rfl rfl ?_)
    refine wl_of hX hb cL_1385 (rw_aload_n (pc' := 1386) (v := .ref 0) rfl rfl rfl ?_)
    refine wl_of hX hb cL_1386 (rw_iload (pc' := 1388) (z := i) rfl rfl ?_)
    refine wl_of hX hb cL_1388 (rw_iconst (pc' := 1389) rfl ?_)
    refine wl_of hX hb cL_1389 (rw_iadd (pc' := 1390) rfl ?_)
    have k5651 : H5538 0 ((i + 1).toNat) = H 0 ((i + 1).toNat) := (f5543 0 ((i + 1).toNat) _ g0 (wmem_s rfl))
    refine wl_of hX hb cL_1390 (xa_I (so := 0) (pc' := 1391) (a := 0) w5542 g0 (wsh_s _) (by omega) (wty_s _ _) (by omega) (by omega) rfl (fun b5649 b5650 => ?_))
    refine wl_of hX hb cL_1391 (rw_aload_n (pc' := 1392) (v := .ref 0) rfl rfl rfl ?_)
    refine wl_of hX hb cL_1392 (rw_iload (pc' := 1394) (z := i) rfl rfl ?_)
    refine wl_of hX hb cL_1394 (rw_iconst (pc' := 1395) rfl ?_)
    refine wl_of hX hb cL_1395 (rw_iadd (pc' := 1396) rfl ?_)
    have k5654 : H5538 0 ((i + 2).toNat) = H 0 ((i + 2).toNat) := (f5543 0 ((i + 2).toNat) _ g0 (wmem_s rfl))
    refine wl_of hX hb cL_1396 (xa_I (so := 0) (pc' := 1397) (a := 0) w5542 g0 (wsh_s _) (by omega) (wty_s _ _) (by omega) (by omega) rfl (fun b5652 b5653 => ?_))
    have k5655 : wKI H5538 m = wKI H m := (wKI_fr hW gm f5543 rfl)
    have k5656 : H5538 x 9 = H x 9 := (f5543 x 9 _ gx rfl)
    have k5657 : H5538 m 6 = H m 6 := (f5543 m 6 _ gm rfl)
    have k5658 : H5538 x 11 = H x 11 := (f5543 x 11 _ gx rfl)
    have k5659 : H5538 m 13 = H m 13 := (f5543 m 13 _ gm rfl)
    have k5660 : H5538 x 8 = H x 8 := (f5543 x 8 _ gx rfl)
    have k5661 : H5538 m 3 = H m 3 := (f5543 m 3 _ gm rfl)
    rw [show H5538 0 ((i + 2).toNat) = H 0 ((i + 2).toNat) by omega]
    rw [show H5538 0 ((i + 1).toNat) = H 0 ((i + 1).toNat) by omega]
    have h5662 : RB T H5538 m e8 d8 := (RB_fr hW gm f5543 rfl hrb8)
    have h5663 : KNN T H5538 m e8 d8 := (KNN_fr hW gm f5543 rfl hknn8)
    refine wl_of hX hb cL_1397 (xc_V (pc' := 1400) (r := m) (as := [vI (H 0 ((i + 1).toNat)), vI (H 0 ((i + 2).toNat))]) (st := []) (lm_11_186) rfl rfl (Nat.le_of_ble_eq_true rfl) w5542 gm sh_42 (by decide) rfl (by decide) (u_285 (e := e8) (d := d8) (y := ((H 0 ((i + 1).toNat)))) (w := (((H 0 ((i + 2).toNat)) + 1))) w5542 gm ⟨by omega, by omega⟩ ⟨by omega, by omega⟩ (by omega) (by omega) (by omega) h5662 h5663) (fun R5664 T5665 H5666 p5667 => ?_))
    obtain ⟨e5668, w5670, f5671, z5672, e5669, b5673, p5674⟩ := p5667
    subst e5668
    subst e5669
    rcases p5674 with ⟨a5675, a5676, a5677, a5678, a5679⟩ | ⟨a5680, a5681, a5682, a5683, a5684⟩
    · show WL _ _ _ _ 1400 [(4, vI i), (3, .ref o), (2, .ref m), (1, .ref x), (0, .ref 0)] [vI z5672] _ H5666
      refine wl_of hX hb cL_1400 (rw_pop (pc' := 1401) rfl rfl ?_)
      refine wl_of hX hb cL_1401 (rw_goto (p1 := 1653) (by decide) ?_)
      have k5685 : H5666 x 9 = H5538 x 9 := (f5671 x 9 _ gx rfl)
      have k5686 : H5666 m 6 = H5538 m 6 := (f5671 m 6 _ gm rfl)
      have k5687 : H5666 x 11 = H5538 x 11 := (f5671 x 11 _ gx rfl)
      have k5688 : H5666 m 13 = H5538 m 13 := (f5671 m 13 _ gm rfl)
      have k5689 : H5666 x 8 = H5538 x 8 := (f5671 x 8 _ gx rfl)
      have k5690 : H5666 m 3 = H5538 m 3 := (f5671 m 3 _ gm rfl)
      have k5691 : H5666 x 0 = H x 0 := ((f5671 x 0 _ gx rfl).trans (f5543 x 0 _ gx rfl))
      have q5692 : H5666 x 0 = (tc : Int) := k5691.trans e0
      have k5693 : H5666 m 5 = H m 5 := ((f5671 m 5 _ gm rfl).trans (f5543 m 5 _ gm rfl))
      have q5694 : H5666 m 5 = (tm : Int) := k5693.trans em
      have k5695 : H5666 x 6 = H x 6 := ((f5671 x 6 _ gx rfl).trans (f5543 x 6 _ gx rfl))
      have q5696 : H5666 x 6 = (cu : Int) := k5695.trans ecu
      have k5697 : H5666 x 7 = H x 7 := ((f5671 x 7 _ gx rfl).trans (f5543 x 7 _ gx rfl))
      have q5698 : H5666 x 7 = (dr : Int) := k5697.trans edr
      have k5699 : H5666 ce8 9 = H5538 ce8 9 := (f5671 ce8 9 _ gce8 rfl)
      have h5700 : TP T H5666 tc B := (TP_fr w5542 gtc f5671 rfl (TP_fr hW gtc f5543 rfl htc))
      have h5701 : TM T H5666 tm B := (TM_fr w5542 gtm f5671 rfl (TM_fr hW gtm f5543 rfl htm))
      have h5702 : DD T H5666 cu  := (DD_fr w5542 gcu f5671 rfl (DD_fr hW gcu f5543 rfl hcu))
      have h5703 : DD T H5666 dr  := (DD_fr w5542 gdr f5671 rfl (DD_fr hW gdr f5543 rfl hdr))
      have h5704 : DE T H5666 cu  := (DE_fr w5542 gcu f5671 rfl (DE_fr hW gcu f5543 rfl hdec))
      have h5705 : DE T H5666 dr  := (DE_fr w5542 gdr f5671 rfl (DE_fr hW gdr f5543 rfl hded))
      have h5706 : SP T H5666 x C8 := (SP_fr w5542 gx f5671 rfl (SP_fr hW gx f5543 rfl hsp))
      have h5707 : CU T H5666 cu (wq_u e8 13 (((H 0 ((i + 1).toNat)))).toNat (((H 0 ((i + 2).toNat)) + 1))) d8 n8 := (CU_fr w5542 gcu f5671 rfl a5555)
      have h5708 : CY T H5666 cu (d8 0 3) g8 (H cu 17) := (CY_fr w5542 gcu f5671 rfl (CY_fr hW gcu f5543 rfl h5534))
      have k5709 : H5666 x 3 = H x 3 := ((f5671 x 3 _ gx rfl).trans (f5543 x 3 _ gx rfl))
      have q5710 : H5666 x 3 = (ce8 : Int) := k5709.trans ece8
      have h5711 : HDR T H5666 ce8  := (HDR_fr w5542 gce8 f5671 rfl (HDR_fr hW gce8 f5543 rfl hhdr8))
      exfalso
      omega
    · show WL _ _ _ _ 1400 [(4, vI i), (3, .ref o), (2, .ref m), (1, .ref x), (0, .ref 0)] [vI z5672] _ H5666
      refine wl_of hX hb cL_1400 (rw_pop (pc' := 1401) rfl rfl ?_)
      refine wl_of hX hb cL_1401 (rw_goto (p1 := 1653) (by decide) ?_)
      have k5712 : H5666 x 9 = H5538 x 9 := (f5671 x 9 _ gx rfl)
      have k5713 : H5666 m 6 = H5538 m 6 := (f5671 m 6 _ gm rfl)
      have k5714 : H5666 x 11 = H5538 x 11 := (f5671 x 11 _ gx rfl)
      have k5715 : H5666 m 13 = H5538 m 13 := (f5671 m 13 _ gm rfl)
      have k5716 : H5666 x 8 = H5538 x 8 := (f5671 x 8 _ gx rfl)
      have k5717 : H5666 m 3 = H5538 m 3 := (f5671 m 3 _ gm rfl)
      have k5718 : H5666 x 0 = H x 0 := ((f5671 x 0 _ gx rfl).trans (f5543 x 0 _ gx rfl))
      have q5719 : H5666 x 0 = (tc : Int) := k5718.trans e0
      have k5720 : H5666 m 5 = H m 5 := ((f5671 m 5 _ gm rfl).trans (f5543 m 5 _ gm rfl))
      have q5721 : H5666 m 5 = (tm : Int) := k5720.trans em
      have k5722 : H5666 x 6 = H x 6 := ((f5671 x 6 _ gx rfl).trans (f5543 x 6 _ gx rfl))
      have q5723 : H5666 x 6 = (cu : Int) := k5722.trans ecu
      have k5724 : H5666 x 7 = H x 7 := ((f5671 x 7 _ gx rfl).trans (f5543 x 7 _ gx rfl))
      have q5725 : H5666 x 7 = (dr : Int) := k5724.trans edr
      have k5726 : H5666 ce8 9 = H5538 ce8 9 := (f5671 ce8 9 _ gce8 rfl)
      have h5727 : TP T H5666 tc B := (TP_fr w5542 gtc f5671 rfl (TP_fr hW gtc f5543 rfl htc))
      have h5728 : TM T H5666 tm B := (TM_fr w5542 gtm f5671 rfl (TM_fr hW gtm f5543 rfl htm))
      have h5729 : DD T H5666 cu  := (DD_fr w5542 gcu f5671 rfl (DD_fr hW gcu f5543 rfl hcu))
      have h5730 : DD T H5666 dr  := (DD_fr w5542 gdr f5671 rfl (DD_fr hW gdr f5543 rfl hdr))
      have h5731 : DE T H5666 cu  := (DE_fr w5542 gcu f5671 rfl (DE_fr hW gcu f5543 rfl hdec))
      have h5732 : DE T H5666 dr  := (DE_fr w5542 gdr f5671 rfl (DE_fr hW gdr f5543 rfl hded))
      have h5733 : SP T H5666 x C8 := (SP_fr w5542 gx f5671 rfl (SP_fr hW gx f5543 rfl hsp))
      have h5734 : CU T H5666 cu (wq_u e8 13 (((H 0 ((i + 1).toNat)))).toNat (((H 0 ((i + 2).toNat)) + 1))) d8 n8 := (CU_fr w5542 gcu f5671 rfl a5555)
      have h5735 : CY T H5666 cu (d8 0 3) g8 (H cu 17) := (CY_fr w5542 gcu f5671 rfl (CY_fr hW gcu f5543 rfl h5534))
      have k5736 : H5666 x 3 = H x 3 := ((f5671 x 3 _ gx rfl).trans (f5543 x 3 _ gx rfl))
      have q5737 : H5666 x 3 = (ce8 : Int) := k5736.trans ece8
      have h5738 : HDR T H5666 ce8  := (HDR_fr w5542 gce8 f5671 rfl (HDR_fr hW gce8 f5543 rfl hhdr8))
      have h5739 : RY T H5666 m (d8 0 3) g8 (H m 32) := (RY_fr w5542 gm f5671 rfl (RY_fr hW gm f5543 rfl h5535))
      exact WL.loc hX (by simp) (next T H5666 ⟨⟨w5670, g0, gx, gm, go, by omega, by omega⟩, ⟨_, tc, tm, cu, dr, _, _, _, _, _, ce8, q5719, gtc, h5727, q5721, gtm, h5728, q5723, gcu, q5725, gdr, h5729, h5730, h5731, h5732, h5733, hC1, hC2, h5734, a5684, (h5735).1, (h5739).1, (fun i hi => (wq_u_row hi).trans (hE i hi)), (fun h h1 h2 => by rw [wq_u_e2 (fun c => by omega)]; exact hZ h h1 h2), (by omega), (by assumption), (by omega), (by first | assumption | exact SG_0), q5737, gce8, (by first | assumption | exact CEN_new (by omega)), h5738, (by first | assumption | exact KNN_new (by omega)), gm⟩, by omega, by omega⟩ (by omega) (by omega))
set_option maxHeartbeats 4000000 in
theorem wl_c40 {kt : Nat → Option mc_E} {CB SB : Nat} {X : mc_S → Prop} {T : wq_T} {H : wq_H} {Len x m o : Nat} {i : Int} (hX : wlX kt CB SB X) (hb : T.2.1 ≤ CB ∧ T.2.2.1 ≤ SB) (hI : wlJ Len x m o T H) (hL : Len ≤ 3072) (hi : 0 ≤ i ∧ i + 6 ≤ Len) (hb2 : T.2.1 + 20 ≤ CB ∧ T.2.2.1 + 500 ≤ SB)  (next : ∀ T' H', wlJ Len x m o T' H' → T'.2.1 ≤ T.2.1 + 20 → T'.2.2.1 ≤ T.2.2.1 + 500 → WL kt CB SB X 1653 (wlL i x m o) [] T' H') : WL kt CB SB X 1404 (wlL i x m o) [] T H := by
  obtain ⟨⟨hW, g0, gx, gm, go, hK, hr⟩, hXI, hY1, hY2⟩ := hI
  refine wl_of hX hb cL_1404 (rw_aload_n (pc' := 1405) (v := .ref x) rfl rfl rfl ?_)
  refine wl_of hX hb cL_1405 (rw_aload_n (pc' := 1406) (v := .ref 0) rfl rfl rfl ?_)
  refine wl_of hX hb cL_1406 (rw_iload (pc' := 1408) (z := i) rfl rfl ?_)
  refine wl_of hX hb cL_1408 (rw_iconst (pc' := 1409) rfl ?_)
  refine wl_of hX hb cL_1409 (rw_iadd (pc' := 1410) rfl ?_)
  refine wl_of hX hb cL_1410 (xa_I (so := 0) (pc' := 1411) (a := 0) hW g0 (wsh_s _) (by omega) (wty_s _ _) (by omega) (by omega) rfl (fun b5740 b5741 => ?_))
  obtain ⟨B, tc, tm, cu, dr, C8, e8, d8, n8, g8, ce8, e0, gtc, htc, em, gtm, htm, ecu, gcu, edr, gdr, hcu, hdr, hdec, hded, hsp, hC1, hC2, hcu8, hrb8, hcg8, hmn8, hE, hZ, hn8, hXA, hV8, hSG, ece8, gce8, hcen8, hhdr8, hknn8, -⟩ := hXI
  have hN3 := RB_n3 hrb8
  have hE13 : ∀ h : Nat, h < 24 → 0 ≤ e8 13 h ∧ e8 13 h ≤ 100 := fun k hk => by
    obtain ⟨s, h1, h2, h3⟩ := hcu8.1.2.2.1
    exact ⟨(h3 k hk).1, (h3 k hk).2.1⟩
  have hXW := hXA.1
  have hXN := hXA.2
  have hE0 : e8 0 3 = d8 0 3 ∧ e8 0 0 = d8 0 0 := by
    have h := hE 0 (by decide)
    exact ⟨congrFun h 3, congrFun h 0⟩
  have u5742 := CU_k hcu8
  have h5743 : CY T H cu (d8 0 3) g8 (H cu 17) := ⟨hcg8, rfl⟩
  have h5744 : RY T H m (d8 0 3) g8 (H m 32) := ⟨hmn8, rfl⟩
  obtain ⟨t9, ht9⟩ : ∃ t : Int, t = H x 9 := ⟨_, rfl⟩
  obtain ⟨y9, hy9⟩ : ∃ y : Int, y = H 0 ((i + 1).toNat) := ⟨_, rfl⟩
  refine wl_of hX hb cL_1411 (xc_V (pc' := 1414) (r := x) (as := [vI (H 0 ((i + 1).toNat))]) (st := []) (lm_11_187) rfl rfl (Nat.le_of_ble_eq_true rfl) hW gx sh_1 (by decide) rfl (by decide) (u_154 (e := e8) (d := d8) (n := n8) (y := ((H 0 ((i + 1).toNat)))) hW gx ⟨by omega, by omega⟩ ecu gcu ece8 gce8 (by omega) (by omega) (by omega) hcu8 hcen8) (fun R5745 T5746 H5747 p5748 => ?_))
  obtain ⟨e5749, w5751, f5752, z5753, e5750, b5754, p5755⟩ := p5748
  subst e5749
  subst e5750
  rcases p5755 with ⟨a5756, a5757, a5758, a5759, a5760⟩ | ⟨a5761, a5762, a5763, a5764⟩
  · show WL _ _ _ _ 1414 [(4, vI i), (3, .ref o), (2, .ref m), (1, .ref x), (0, .ref 0)] [vI z5753] _ H5747
    have u5765 := CU_k a5760
    refine wl_of hX hb cL_1414 (rw_pop (pc' := 1415) rfl rfl ?_)
    refine wl_of hX hb cL_1415 (rw_aload_n (pc' := 1416) (v := .ref m) rfl rfl rfl ?_)
    refine wl_of hX hb cL_1416 (rw_aload_n (pc' := 1417) (v := .ref 0) rfl rfl rfl ?_)
    refine wl_of hX hb cL_1417 (rw_iload (pc' := 1419) (z := i) rfl rfl ?_)
    refine wl_of hX hb cL_1419 (rw_iconst (pc' := 1420) rfl ?_)
    refine wl_of hX hb cL_1420 (rw_iadd (pc' := 1421) rfl ?_)
    have k5768 : H5747 0 ((i + 1).toNat) = H 0 ((i + 1).toNat) := (f5752 0 ((i + 1).toNat) _ g0 (wmem_s rfl))
    refine wl_of hX hb cL_1421 (xa_I (so := 0) (pc' := 1422) (a := 0) w5751 g0 (wsh_s _) (by omega) (wty_s _ _) (by omega) (by omega) rfl (fun b5766 b5767 => ?_))
    have k5769 : wKI H5747 m = wKI H m := (wKI_fr hW gm f5752 rfl)
    have k5770 : H5747 x 9 = H x 9 := (f5752 x 9 _ gx rfl)
    have k5771 : H5747 m 6 = H m 6 := (f5752 m 6 _ gm rfl)
    have k5772 : H5747 x 11 = H x 11 := (f5752 x 11 _ gx rfl)
    have k5773 : H5747 m 13 = H m 13 := (f5752 m 13 _ gm rfl)
    have k5774 : H5747 x 8 = H x 8 := (f5752 x 8 _ gx rfl)
    have k5775 : H5747 m 3 = H m 3 := (f5752 m 3 _ gm rfl)
    rw [show H5747 0 ((i + 1).toNat) = H 0 ((i + 1).toNat) by omega]
    have h5776 : RB T H5747 m e8 d8 := (RB_fr hW gm f5752 rfl hrb8)
    have h5777 : KNN T H5747 m e8 d8 := (KNN_fr hW gm f5752 rfl hknn8)
    refine wl_of hX hb cL_1422 (xc_V (pc' := 1425) (r := m) (as := [vI (H 0 ((i + 1).toNat))]) (st := []) (lm_11_191) rfl rfl (Nat.le_of_ble_eq_true rfl) w5751 gm sh_42 (by decide) rfl (by decide) (u_286 (e := e8) (d := d8) (y := ((H 0 ((i + 1).toNat)))) w5751 gm ⟨by omega, by omega⟩ (by omega) (by omega) h5776 h5777) (fun R5778 T5779 H5780 p5781 => ?_))
    obtain ⟨e5782, w5784, f5785, z5786, e5783, b5787, p5788⟩ := p5781
    subst e5782
    subst e5783
    rcases p5788 with ⟨a5789, a5790, a5791, a5792, a5793, a5794⟩ | ⟨a5795, a5796, a5797, a5798, a5799⟩
    · show WL _ _ _ _ 1425 [(4, vI i), (3, .ref o), (2, .ref m), (1, .ref x), (0, .ref 0)] [vI z5786] _ H5780
      refine wl_of hX hb cL_1425 (rw_pop (pc' := 1426) rfl rfl ?_)
      refine wl_of hX hb cL_1426 (rw_goto (p1 := 1653) (by decide) ?_)
      have k5800 : H5780 x 9 = H5747 x 9 := (f5785 x 9 _ gx rfl)
      have k5801 : H5780 m 6 = H5747 m 6 := (f5785 m 6 _ gm rfl)
      have k5802 : H5780 x 11 = H5747 x 11 := (f5785 x 11 _ gx rfl)
      have k5803 : H5780 m 13 = H5747 m 13 := (f5785 m 13 _ gm rfl)
      have k5804 : H5780 x 8 = H5747 x 8 := (f5785 x 8 _ gx rfl)
      have k5805 : H5780 m 3 = H5747 m 3 := (f5785 m 3 _ gm rfl)
      have k5806 : H5780 x 0 = H x 0 := ((f5785 x 0 _ gx rfl).trans (f5752 x 0 _ gx rfl))
      have q5807 : H5780 x 0 = (tc : Int) := k5806.trans e0
      have k5808 : H5780 m 5 = H m 5 := ((f5785 m 5 _ gm rfl).trans (f5752 m 5 _ gm rfl))
      have q5809 : H5780 m 5 = (tm : Int) := k5808.trans em
      have k5810 : H5780 x 6 = H x 6 := ((f5785 x 6 _ gx rfl).trans (f5752 x 6 _ gx rfl))
      have q5811 : H5780 x 6 = (cu : Int) := k5810.trans ecu
      have k5812 : H5780 x 7 = H x 7 := ((f5785 x 7 _ gx rfl).trans (f5752 x 7 _ gx rfl))
      have q5813 : H5780 x 7 = (dr : Int) := k5812.trans edr
      have k5814 : H5780 ce8 9 = H5747 ce8 9 := (f5785 ce8 9 _ gce8 rfl)
      have h5815 : TP T H5780 tc B := (TP_fr w5751 gtc f5785 rfl (TP_fr hW gtc f5752 rfl htc))
      have h5816 : TM T H5780 tm B := (TM_fr w5751 gtm f5785 rfl (TM_fr hW gtm f5752 rfl htm))
      have h5817 : DD T H5780 cu  := (DD_fr w5751 gcu f5785 rfl (DD_fr hW gcu f5752 rfl hcu))
      have h5818 : DD T H5780 dr  := (DD_fr w5751 gdr f5785 rfl (DD_fr hW gdr f5752 rfl hdr))
      have h5819 : DE T H5780 cu  := (DE_fr w5751 gcu f5785 rfl (DE_fr hW gcu f5752 rfl hdec))
      have h5820 : DE T H5780 dr  := (DE_fr w5751 gdr f5785 rfl (DE_fr hW gdr f5752 rfl hded))
      have h5821 : SP T H5780 x C8 := (SP_fr w5751 gx f5785 rfl (SP_fr hW gx f5752 rfl hsp))
      have h5822 : CU T H5780 cu (wq_u e8 13 (((H 0 ((i + 1).toNat)))).toNat 0) d8 n8 := (CU_fr w5751 gcu f5785 rfl a5760)
      have h5823 : CY T H5780 cu (d8 0 3) g8 (H cu 17) := (CY_fr w5751 gcu f5785 rfl (CY_fr hW gcu f5752 rfl h5743))
      have k5824 : H5780 x 3 = H x 3 := ((f5785 x 3 _ gx rfl).trans (f5752 x 3 _ gx rfl))
      have q5825 : H5780 x 3 = (ce8 : Int) := k5824.trans ece8
      have h5826 : HDR T H5780 ce8  := (HDR_fr w5751 gce8 f5785 rfl (HDR_fr hW gce8 f5752 rfl hhdr8))
      have h5827 : RY T H5780 m (d8 0 3) g8 (H m 32) := (RY_fr w5751 gm f5785 rfl (RY_fr hW gm f5752 rfl h5744))
      exact WL.loc hX (by simp) (next T H5780 ⟨⟨w5784, g0, gx, gm, go, by omega, by omega⟩, ⟨_, tc, tm, cu, dr, _, _, _, _, _, ce8, q5807, gtc, h5815, q5809, gtm, h5816, q5811, gcu, q5813, gdr, h5817, h5818, h5819, h5820, h5821, hC1, hC2, h5822, a5794, (h5823).1, (h5827).1, (fun i hi => (wq_u_row hi).trans (hE i hi)), (fun h h1 h2 => by rw [wq_u_e2 (fun c => by omega)]; exact hZ h h1 h2), (by omega), (by assumption), (by omega), (by first | assumption | exact SG_0), q5825, gce8, (by first | assumption | exact CEN_new (by omega)), h5826, (by first | assumption | exact KNN_new (by omega)), gm⟩, by omega, by omega⟩ (by omega) (by omega))
    · show WL _ _ _ _ 1425 [(4, vI i), (3, .ref o), (2, .ref m), (1, .ref x), (0, .ref 0)] [vI z5786] _ H5780
      refine wl_of hX hb cL_1425 (rw_pop (pc' := 1426) rfl rfl ?_)
      refine wl_of hX hb cL_1426 (rw_goto (p1 := 1653) (by decide) ?_)
      have k5828 : H5780 x 9 = H5747 x 9 := (f5785 x 9 _ gx rfl)
      have k5829 : H5780 m 6 = H5747 m 6 := (f5785 m 6 _ gm rfl)
      have k5830 : H5780 x 11 = H5747 x 11 := (f5785 x 11 _ gx rfl)
      have k5831 : H5780 m 13 = H5747 m 13 := (f5785 m 13 _ gm rfl)
      have k5832 : H5780 x 8 = H5747 x 8 := (f5785 x 8 _ gx rfl)
      have k5833 : H5780 m 3 = H5747 m 3 := (f5785 m 3 _ gm rfl)
      have k5834 : H5780 x 0 = H x 0 := ((f5785 x 0 _ gx rfl).trans (f5752 x 0 _ gx rfl))
      have q5835 : H5780 x 0 = (tc : Int) := k5834.trans e0
      have k5836 : H5780 m 5 = H m 5 := ((f5785 m 5 _ gm rfl).trans (f5752 m 5 _ gm rfl))
      have q5837 : H5780 m 5 = (tm : Int) := k5836.trans em
      have k5838 : H5780 x 6 = H x 6 := ((f5785 x 6 _ gx rfl).trans (f5752 x 6 _ gx rfl))
      have q5839 : H5780 x 6 = (cu : Int) := k5838.trans ecu
      have k5840 : H5780 x 7 = H x 7 := ((f5785 x 7 _ gx rfl).trans (f5752 x 7 _ gx rfl))
      have q5841 : H5780 x 7 = (dr : Int) := k5840.trans edr
      have k5842 : H5780 ce8 9 = H5747 ce8 9 := (f5785 ce8 9 _ gce8 rfl)
      have h5843 : TP T H5780 tc B := (TP_fr w5751 gtc f5785 rfl (TP_fr hW gtc f5752 rfl htc))
      have h5844 : TM T H5780 tm B := (TM_fr w5751 gtm f5785 rfl (TM_fr hW gtm f5752 rfl htm))
      have h5845 : DD T H5780 cu  := (DD_fr w5751 gcu f5785 rfl (DD_fr hW gcu f5752 rfl hcu))
      have h5846 : DD T H5780 dr  := (DD_fr w5751 gdr f5785 rfl (DD_fr hW gdr f5752 rfl hdr))
      have h5847 : DE T H5780 cu  := (DE_fr w5751 gcu f5785 rfl (DE_fr hW gcu f5752 rfl hdec))
      have h5848 : DE T H5780 dr  := (DE_fr w5751 gdr f5785 rfl (DE_fr hW gdr f5752 rfl hded))
      have h5849 : SP T H5780 x C8 := (SP_fr w5751 gx f5785 rfl (SP_fr hW gx f5752 rfl hsp))
      have h5850 : CU T H5780 cu (wq_u e8 13 (((H 0 ((i + 1).toNat)))).toNat 0) d8 n8 := (CU_fr w5751 gcu f5785 rfl a5760)
      have h5851 : CY T H5780 cu (d8 0 3) g8 (H cu 17) := (CY_fr w5751 gcu f5785 rfl (CY_fr hW gcu f5752 rfl h5743))
      have k5852 : H5780 x 3 = H x 3 := ((f5785 x 3 _ gx rfl).trans (f5752 x 3 _ gx rfl))
      have q5853 : H5780 x 3 = (ce8 : Int) := k5852.trans ece8
      have h5854 : HDR T H5780 ce8  := (HDR_fr w5751 gce8 f5785 rfl (HDR_fr hW gce8 f5752 rfl hhdr8))
      exfalso
      omega
  · show WL _ _ _ _ 1414 [(4, vI i), (3, .ref o), (2, .ref m), (1, .ref x), (0, .ref 0)] [vI z5753] _ H5747
    have u5855 := CU_k a5763
    refine wl_of hX hb cL_1414 (rw_pop (pc' := 1415) rfl rfl ?_)
    refine wl_of hX hb cL_1415 (rw_aload_n (pc' := 1416) (v := .ref m) rfl rfl rfl ?_)
    refine wl_of hX hb cL_1416 (rw_aload_n (pc' := 1417) (v := .ref 0) rfl rfl rfl ?_)
    refine wl_of hX hb cL_1417 (rw_iload (pc' := 1419) (z := i) rfl rfl ?_)
    refine wl_of hX hb cL_1419 (rw_iconst (pc' := 1420) rfl ?_)
    refine wl_of hX hb cL_1420 (rw_iadd (pc' := 1421) rfl ?_)
    have k5858 : H5747 0 ((i + 1).toNat) = H 0 ((i + 1).toNat) := (f5752 0 ((i + 1).toNat) _ g0 (wmem_s rfl))
    refine wl_of hX hb cL_1421 (xa_I (so := 0) (pc' := 1422) (a := 0) w5751 g0 (wsh_s _) (by omega) (wty_s _ _) (by omega) (by omega) rfl (fun b5856 b5857 => ?_))
    have k5859 : wKI H5747 m = wKI H m := (wKI_fr hW gm f5752 rfl)
    have k5860 : H5747 x 9 = H x 9 := (f5752 x 9 _ gx rfl)
    have k5861 : H5747 m 6 = H m 6 := (f5752 m 6 _ gm rfl)
    have k5862 : H5747 x 11 = H x 11 := (f5752 x 11 _ gx rfl)
    have k5863 : H5747 m 13 = H m 13 := (f5752 m 13 _ gm rfl)
    have k5864 : H5747 x 8 = H x 8 := (f5752 x 8 _ gx rfl)
    have k5865 : H5747 m 3 = H m 3 := (f5752 m 3 _ gm rfl)
    rw [show H5747 0 ((i + 1).toNat) = H 0 ((i + 1).toNat) by omega]
    have h5866 : RB T H5747 m e8 d8 := (RB_fr hW gm f5752 rfl hrb8)
    have h5867 : KNN T H5747 m e8 d8 := (KNN_fr hW gm f5752 rfl hknn8)
    refine wl_of hX hb cL_1422 (xc_V (pc' := 1425) (r := m) (as := [vI (H 0 ((i + 1).toNat))]) (st := []) (lm_11_191) rfl rfl (Nat.le_of_ble_eq_true rfl) w5751 gm sh_42 (by decide) rfl (by decide) (u_286 (e := e8) (d := d8) (y := ((H 0 ((i + 1).toNat)))) w5751 gm ⟨by omega, by omega⟩ (by omega) (by omega) h5866 h5867) (fun R5868 T5869 H5870 p5871 => ?_))
    obtain ⟨e5872, w5874, f5875, z5876, e5873, b5877, p5878⟩ := p5871
    subst e5872
    subst e5873
    rcases p5878 with ⟨a5879, a5880, a5881, a5882, a5883, a5884⟩ | ⟨a5885, a5886, a5887, a5888, a5889⟩
    · show WL _ _ _ _ 1425 [(4, vI i), (3, .ref o), (2, .ref m), (1, .ref x), (0, .ref 0)] [vI z5876] _ H5870
      refine wl_of hX hb cL_1425 (rw_pop (pc' := 1426) rfl rfl ?_)
      refine wl_of hX hb cL_1426 (rw_goto (p1 := 1653) (by decide) ?_)
      have k5890 : H5870 x 9 = H5747 x 9 := (f5875 x 9 _ gx rfl)
      have k5891 : H5870 m 6 = H5747 m 6 := (f5875 m 6 _ gm rfl)
      have k5892 : H5870 x 11 = H5747 x 11 := (f5875 x 11 _ gx rfl)
      have k5893 : H5870 m 13 = H5747 m 13 := (f5875 m 13 _ gm rfl)
      have k5894 : H5870 x 8 = H5747 x 8 := (f5875 x 8 _ gx rfl)
      have k5895 : H5870 m 3 = H5747 m 3 := (f5875 m 3 _ gm rfl)
      have k5896 : H5870 x 0 = H x 0 := ((f5875 x 0 _ gx rfl).trans (f5752 x 0 _ gx rfl))
      have q5897 : H5870 x 0 = (tc : Int) := k5896.trans e0
      have k5898 : H5870 m 5 = H m 5 := ((f5875 m 5 _ gm rfl).trans (f5752 m 5 _ gm rfl))
      have q5899 : H5870 m 5 = (tm : Int) := k5898.trans em
      have k5900 : H5870 x 6 = H x 6 := ((f5875 x 6 _ gx rfl).trans (f5752 x 6 _ gx rfl))
      have q5901 : H5870 x 6 = (cu : Int) := k5900.trans ecu
      have k5902 : H5870 x 7 = H x 7 := ((f5875 x 7 _ gx rfl).trans (f5752 x 7 _ gx rfl))
      have q5903 : H5870 x 7 = (dr : Int) := k5902.trans edr
      have h5904 : CEN T H5870 ce8 e8 d8 := (CEN_fr w5751 gce8 f5875 rfl a5764)
      have h5905 : TP T H5870 tc B := (TP_fr w5751 gtc f5875 rfl (TP_fr hW gtc f5752 rfl htc))
      have h5906 : TM T H5870 tm B := (TM_fr w5751 gtm f5875 rfl (TM_fr hW gtm f5752 rfl htm))
      have h5907 : DD T H5870 cu  := (DD_fr w5751 gcu f5875 rfl (DD_fr hW gcu f5752 rfl hcu))
      have h5908 : DD T H5870 dr  := (DD_fr w5751 gdr f5875 rfl (DD_fr hW gdr f5752 rfl hdr))
      have h5909 : DE T H5870 cu  := (DE_fr w5751 gcu f5875 rfl (DE_fr hW gcu f5752 rfl hdec))
      have h5910 : DE T H5870 dr  := (DE_fr w5751 gdr f5875 rfl (DE_fr hW gdr f5752 rfl hded))
      have h5911 : SP T H5870 x C8 := (SP_fr w5751 gx f5875 rfl (SP_fr hW gx f5752 rfl hsp))
      have h5912 : CU T H5870 cu e8 d8 n8 := (CU_fr w5751 gcu f5875 rfl a5763)
      have h5913 : CY T H5870 cu (d8 0 3) g8 (H cu 17) := (CY_fr w5751 gcu f5875 rfl (CY_fr hW gcu f5752 rfl h5743))
      have k5914 : H5870 x 3 = H x 3 := ((f5875 x 3 _ gx rfl).trans (f5752 x 3 _ gx rfl))
      have q5915 : H5870 x 3 = (ce8 : Int) := k5914.trans ece8
      have h5916 : HDR T H5870 ce8  := (HDR_fr w5751 gce8 f5875 rfl (HDR_fr hW gce8 f5752 rfl hhdr8))
      exfalso
      omega
    · show WL _ _ _ _ 1425 [(4, vI i), (3, .ref o), (2, .ref m), (1, .ref x), (0, .ref 0)] [vI z5876] _ H5870
      refine wl_of hX hb cL_1425 (rw_pop (pc' := 1426) rfl rfl ?_)
      refine wl_of hX hb cL_1426 (rw_goto (p1 := 1653) (by decide) ?_)
      have k5917 : H5870 x 9 = H5747 x 9 := (f5875 x 9 _ gx rfl)
      have k5918 : H5870 m 6 = H5747 m 6 := (f5875 m 6 _ gm rfl)
      have k5919 : H5870 x 11 = H5747 x 11 := (f5875 x 11 _ gx rfl)
      have k5920 : H5870 m 13 = H5747 m 13 := (f5875 m 13 _ gm rfl)
      have k5921 : H5870 x 8 = H5747 x 8 := (f5875 x 8 _ gx rfl)
      have k5922 : H5870 m 3 = H5747 m 3 := (f5875 m 3 _ gm rfl)
      have k5923 : H5870 x 0 = H x 0 := ((f5875 x 0 _ gx rfl).trans (f5752 x 0 _ gx rfl))
      have q5924 : H5870 x 0 = (tc : Int) := k5923.trans e0
      have k5925 : H5870 m 5 = H m 5 := ((f5875 m 5 _ gm rfl).trans (f5752 m 5 _ gm rfl))
      have q5926 : H5870 m 5 = (tm : Int) := k5925.trans em
      have k5927 : H5870 x 6 = H x 6 := ((f5875 x 6 _ gx rfl).trans (f5752 x 6 _ gx rfl))
      have q5928 : H5870 x 6 = (cu : Int) := k5927.trans ecu
      have k5929 : H5870 x 7 = H x 7 := ((f5875 x 7 _ gx rfl).trans (f5752 x 7 _ gx rfl))
      have q5930 : H5870 x 7 = (dr : Int) := k5929.trans edr
      have h5931 : CEN T H5870 ce8 e8 d8 := (CEN_fr w5751 gce8 f5875 rfl a5764)
      have h5932 : TP T H5870 tc B := (TP_fr w5751 gtc f5875 rfl (TP_fr hW gtc f5752 rfl htc))
      have h5933 : TM T H5870 tm B := (TM_fr w5751 gtm f5875 rfl (TM_fr hW gtm f5752 rfl htm))
      have h5934 : DD T H5870 cu  := (DD_fr w5751 gcu f5875 rfl (DD_fr hW gcu f5752 rfl hcu))
      have h5935 : DD T H5870 dr  := (DD_fr w5751 gdr f5875 rfl (DD_fr hW gdr f5752 rfl hdr))
      have h5936 : DE T H5870 cu  := (DE_fr w5751 gcu f5875 rfl (DE_fr hW gcu f5752 rfl hdec))
      have h5937 : DE T H5870 dr  := (DE_fr w5751 gdr f5875 rfl (DE_fr hW gdr f5752 rfl hded))
      have h5938 : SP T H5870 x C8 := (SP_fr w5751 gx f5875 rfl (SP_fr hW gx f5752 rfl hsp))
      have h5939 : CU T H5870 cu e8 d8 n8 := (CU_fr w5751 gcu f5875 rfl a5763)
      have h5940 : CY T H5870 cu (d8 0 3) g8 (H cu 17) := (CY_fr w5751 gcu f5875 rfl (CY_fr hW gcu f5752 rfl h5743))
      have k5941 : H5870 x 3 = H x 3 := ((f5875 x 3 _ gx rfl).trans (f5752 x 3 _ gx rfl))
      have q5942 : H5870 x 3 = (ce8 : Int) := k5941.trans ece8
      have h5943 : HDR T H5870 ce8  := (HDR_fr w5751 gce8 f5875 rfl (HDR_fr hW gce8 f5752 rfl hhdr8))
      have h5944 : RY T H5870 m (d8 0 3) g8 (H m 32) := (RY_fr w5751 gm f5875 rfl (RY_fr hW gm f5752 rfl h5744))
      exact WL.loc hX (by simp) (next T H5870 ⟨⟨w5874, g0, gx, gm, go, by omega, by omega⟩, ⟨_, tc, tm, cu, dr, _, _, _, _, _, ce8, q5924, gtc, h5932, q5926, gtm, h5933, q5928, gcu, q5930, gdr, h5934, h5935, h5936, h5937, h5938, hC1, hC2, h5939, a5888, (h5940).1, (h5944).1, hE, hZ, (by omega), (by assumption), (by omega), (by first | assumption | exact SG_0), q5942, gce8, h5931, h5943, a5889, gm⟩, by omega, by omega⟩ (by omega) (by omega))
set_option maxHeartbeats 4000000 in
theorem wl_c41 {kt : Nat → Option mc_E} {CB SB : Nat} {X : mc_S → Prop} {T : wq_T} {H : wq_H} {Len x m o : Nat} {i : Int} (hX : wlX kt CB SB X) (hb : T.2.1 ≤ CB ∧ T.2.2.1 ≤ SB) (hI : wlJ Len x m o T H) (hL : Len ≤ 3072) (hi : 0 ≤ i ∧ i + 6 ≤ Len) (hb2 : T.2.1 + 20 ≤ CB ∧ T.2.2.1 + 500 ≤ SB)  (next : ∀ T' H', wlJ Len x m o T' H' → T'.2.1 ≤ T.2.1 + 20 → T'.2.2.1 ≤ T.2.2.1 + 500 → WL kt CB SB X 1653 (wlL i x m o) [] T' H') : WL kt CB SB X 1429 (wlL i x m o) [] T H := by
  obtain ⟨⟨hW, g0, gx, gm, go, hK, hr⟩, hXI, hY1, hY2⟩ := hI
  refine wl_of hX hb cL_1429 (rw_aload_n (pc' := 1430) (v := .ref x) rfl rfl rfl ?_)
  refine wl_of hX hb cL_1430 (rw_aload_n (pc' := 1431) (v := .ref 0) rfl rfl rfl ?_)
  refine wl_of hX hb cL_1431 (rw_iload (pc' := 1433) (z := i) rfl rfl ?_)
  refine wl_of hX hb cL_1433 (rw_iconst (pc' := 1434) rfl ?_)
  refine wl_of hX hb cL_1434 (rw_iadd (pc' := 1435) rfl ?_)
  refine wl_of hX hb cL_1435 (xa_I (so := 0) (pc' := 1436) (a := 0) hW g0 (wsh_s _) (by omega) (wty_s _ _) (by omega) (by omega) rfl (fun b5945 b5946 => ?_))
  refine wl_of hX hb cL_1436 (xc_V (pc' := 1439) (r := x) (as := [vI (H 0 ((i + 1).toNat))]) (st := []) (lm_11_192) rfl rfl (Nat.le_of_ble_eq_true rfl) hW gx sh_1 (by decide) rfl (by decide) (s_155 hW gx ⟨by omega, by omega⟩) (fun R5947 T5948 H5949 p5950 => ?_))
  obtain ⟨e5951, w5953, f5954, z5955, e5952, b5956⟩ := p5950
  subst e5951
  subst e5952
  show WL _ _ _ _ 1439 [(4, vI i), (3, .ref o), (2, .ref m), (1, .ref x), (0, .ref 0)] [vI z5955] _ H5949
  refine wl_of hX hb cL_1439 (rw_pop (pc' := 1440) rfl rfl ?_)
  refine wl_of hX hb cL_1440 (rw_aload_n (pc' := 1441) (v := .ref m) rfl rfl rfl ?_)
  refine wl_of hX hb cL_1441 (rw_aload_n (pc' := 1442) (v := .ref 0) rfl rfl rfl ?_)
  refine wl_of hX hb cL_1442 (rw_iload (pc' := 1444) (z := i) rfl rfl ?_)
  refine wl_of hX hb cL_1444 (rw_iconst (pc' := 1445) rfl ?_)
  refine wl_of hX hb cL_1445 (rw_iadd (pc' := 1446) rfl ?_)
  have k5959 : H5949 0 ((i + 1).toNat) = H 0 ((i + 1).toNat) := (f5954 0 ((i + 1).toNat) _ g0 (wmem_s rfl))
  refine wl_of hX hb cL_1446 (xa_I (so := 0) (pc' := 1447) (a := 0) w5953 g0 (wsh_s _) (by omega) (wty_s _ _) (by omega) (by omega) rfl (fun b5957 b5958 => ?_))
  have k5960 : wKI H5949 m = wKI H m := (wKI_fr hW gm f5954 rfl)
  have k5961 : H5949 x 9 = H x 9 := (f5954 x 9 _ gx rfl)
  have k5962 : H5949 m 6 = H m 6 := (f5954 m 6 _ gm rfl)
  have k5963 : H5949 x 11 = H x 11 := (f5954 x 11 _ gx rfl)
  have k5964 : H5949 m 13 = H m 13 := (f5954 m 13 _ gm rfl)
  have k5965 : H5949 x 8 = H x 8 := (f5954 x 8 _ gx rfl)
  have k5966 : H5949 m 3 = H m 3 := (f5954 m 3 _ gm rfl)
  refine wl_of hX hb cL_1447 (xc_V (pc' := 1450) (r := m) (as := [vI (H5949 0 ((i + 1).toNat))]) (st := []) (lm_11_195) rfl rfl (Nat.le_of_ble_eq_true rfl) w5953 gm sh_42 (by decide) rfl (by decide) (s_287 w5953 gm ⟨by omega, by omega⟩ (by omega)) (fun R5967 T5968 H5969 p5970 => ?_))
  obtain ⟨e5971, w5973, f5974, z5976, e5972, b5977, p5975⟩ := p5970
  subst e5971
  subst e5972
  show WL _ _ _ _ 1450 [(4, vI i), (3, .ref o), (2, .ref m), (1, .ref x), (0, .ref 0)] [vI z5976] _ H5969
  refine wl_of hX hb cL_1450 (rw_pop (pc' := 1451) rfl rfl ?_)
  refine wl_of hX hb cL_1451 (rw_goto (p1 := 1653) (by decide) ?_)
  have k5978 : H5969 x 9 = H5949 x 9 := (f5974 x 9 _ gx rfl)
  have k5979 : H5969 m 6 = H5949 m 6 := (f5974 m 6 _ gm rfl)
  have k5980 : H5969 x 11 = H5949 x 11 := (f5974 x 11 _ gx rfl)
  have k5981 : H5969 m 13 = H5949 m 13 := (f5974 m 13 _ gm rfl)
  have k5982 : H5969 x 8 = H5949 x 8 := (f5974 x 8 _ gx rfl)
  have k5983 : H5969 m 3 = H5949 m 3 := (f5974 m 3 _ gm rfl)
  have h5984 : XI T H5969 x m := (XI_fr w5953 gx f5974 rfl (XI_fr hW gx f5954 rfl hXI))
  exact WL.loc hX (by simp) (next T H5969 ⟨⟨w5973, g0, gx, gm, go, by omega, by omega⟩, h5984, by omega, by omega⟩ (by omega) (by omega))
set_option maxHeartbeats 4000000 in
theorem wl_c42 {kt : Nat → Option mc_E} {CB SB : Nat} {X : mc_S → Prop} {T : wq_T} {H : wq_H} {Len x m o : Nat} {i : Int} (hX : wlX kt CB SB X) (hb : T.2.1 ≤ CB ∧ T.2.2.1 ≤ SB) (hI : wlJ Len x m o T H) (hL : Len ≤ 3072) (hi : 0 ≤ i ∧ i + 6 ≤ Len) (hb2 : T.2.1 + 20 ≤ CB ∧ T.2.2.1 + 500 ≤ SB)  (next : ∀ T' H', wlJ Len x m o T' H' → T'.2.1 ≤ T.2.1 + 20 → T'.2.2.1 ≤ T.2.2.1 + 500 → WL kt CB SB X 1653 (wlL i x m o) [] T' H') : WL kt CB SB X 1454 (wlL i x m o) [] T H := by
  obtain ⟨⟨hW, g0, gx, gm, go, hK, hr⟩, hXI, hY1, hY2⟩ := hI
  refine wl_of hX hb cL_1454 (rw_aload_n (pc' := 1455) (v := .ref x) rfl rfl rfl ?_)
  obtain ⟨B, tc, tm, cu, dr, C8, e8, d8, n8, g8, ce8, e0, gtc, htc, em, gtm, htm, ecu, gcu, edr, gdr, hcu, hdr, hdec, hded, hsp, hC1, hC2, hcu8, hrb8, hcg8, hmn8, hE, hZ, hn8, hXA, hV8, hSG, ece8, gce8, hcen8, hhdr8, hknn8, -⟩ := hXI
  have hN3 := RB_n3 hrb8
  have hE13 : ∀ h : Nat, h < 24 → 0 ≤ e8 13 h ∧ e8 13 h ≤ 100 := fun k hk => by
    obtain ⟨s, h1, h2, h3⟩ := hcu8.1.2.2.1
    exact ⟨(h3 k hk).1, (h3 k hk).2.1⟩
  have hXW := hXA.1
  have hXN := hXA.2
  have hE0 : e8 0 3 = d8 0 3 ∧ e8 0 0 = d8 0 0 := by
    have h := hE 0 (by decide)
    exact ⟨congrFun h 3, congrFun h 0⟩
  have u5985 := CU_k hcu8
  have h5986 : CY T H cu (d8 0 3) g8 (H cu 17) := ⟨hcg8, rfl⟩
  have h5987 : RY T H m (d8 0 3) g8 (H m 32) := ⟨hmn8, rfl⟩
  obtain ⟨t9, ht9⟩ : ∃ t : Int, t = H x 9 := ⟨_, rfl⟩
  obtain ⟨r5988, q5989, g5990⟩ := hW.ref gx (t' := 6) (n := 13) (j := 2) (p := 0) (q := 0) rfl (by decide) rfl
  refine wl_of hX hb cL_1455 (xc_V (pc' := 1458) (r := x) (as := []) (st := []) (lm_11_196) rfl rfl (Nat.le_of_ble_eq_true rfl) hW gx sh_1 (by decide) rfl (by decide) (u_156 (e := e8) (d := d8) (n := n8) hW gx ecu gcu q5989 g5990 ece8 gce8 (by assumption) (by assumption) (by omega) (by omega) (by omega) (by omega) hcu8 hcen8 hhdr8) (fun R5991 T5992 H5993 p5994 => ?_))
  obtain ⟨e5995, w5997, f5998, z5999, e5996, b6000, p6001⟩ := p5994
  subst e5995
  subst e5996
  show WL _ _ _ _ 1458 [(4, vI i), (3, .ref o), (2, .ref m), (1, .ref x), (0, .ref 0)] [vI z5999] _ H5993
  refine wl_of hX hb cL_1458 (rw_pop (pc' := 1459) rfl rfl ?_)
  refine wl_of hX hb cL_1459 (rw_aload_n (pc' := 1460) (v := .ref m) rfl rfl rfl ?_)
  have k6003 : wKI H5993 m = wKI H m := (wKI_fr hW gm f5998 rfl)
  have k6004 : H5993 x 9 = H x 9 := (f5998 x 9 _ gx rfl)
  have k6005 : H5993 m 6 = H m 6 := (f5998 m 6 _ gm rfl)
  have k6006 : H5993 x 11 = H x 11 := (f5998 x 11 _ gx rfl)
  have k6007 : H5993 m 13 = H m 13 := (f5998 m 13 _ gm rfl)
  have k6008 : H5993 x 8 = H x 8 := (f5998 x 8 _ gx rfl)
  have k6009 : H5993 m 3 = H m 3 := (f5998 m 3 _ gm rfl)
  have h6010 : RB T H5993 m e8 d8 := (RB_fr hW gm f5998 rfl hrb8)
  have h6011 : KNN T H5993 m e8 d8 := (KNN_fr hW gm f5998 rfl hknn8)
  refine wl_of hX hb cL_1460 (xc_V (pc' := 1463) (r := m) (as := []) (st := []) (lm_11_199) rfl rfl (Nat.le_of_ble_eq_true rfl) w5997 gm sh_42 (by decide) rfl (by decide) (u_288 (e := e8) (d := d8) w5997 gm (by omega) (by assumption) (by assumption) (by assumption) (by assumption) h6010 h6011) (fun R6012 T6013 H6014 p6015 => ?_))
  obtain ⟨e6016, w6018, f6019, z6020, e6017, b6021, p6022⟩ := p6015
  subst e6016
  subst e6017
  obtain ⟨a6023, a6024⟩ := p6022
  show WL _ _ _ _ 1463 [(4, vI i), (3, .ref o), (2, .ref m), (1, .ref x), (0, .ref 0)] [vI z6020] _ H6014
  refine wl_of hX hb cL_1463 (rw_pop (pc' := 1464) rfl rfl ?_)
  refine wl_of hX hb cL_1464 (rw_goto (p1 := 1653) (by decide) ?_)
  have k6025 : H6014 x 9 = H5993 x 9 := (f6019 x 9 _ gx rfl)
  have k6026 : H6014 m 6 = H5993 m 6 := (f6019 m 6 _ gm rfl)
  have k6027 : H6014 x 11 = H5993 x 11 := (f6019 x 11 _ gx rfl)
  have k6028 : H6014 m 13 = H5993 m 13 := (f6019 m 13 _ gm rfl)
  have k6029 : H6014 x 8 = H5993 x 8 := (f6019 x 8 _ gx rfl)
  have k6030 : H6014 m 3 = H5993 m 3 := (f6019 m 3 _ gm rfl)
  have k6031 : H6014 x 0 = H x 0 := ((f6019 x 0 _ gx rfl).trans (f5998 x 0 _ gx rfl))
  have q6032 : H6014 x 0 = (tc : Int) := k6031.trans e0
  have k6033 : H6014 m 5 = H m 5 := ((f6019 m 5 _ gm rfl).trans (f5998 m 5 _ gm rfl))
  have q6034 : H6014 m 5 = (tm : Int) := k6033.trans em
  have k6035 : H6014 x 6 = H x 6 := ((f6019 x 6 _ gx rfl).trans (f5998 x 6 _ gx rfl))
  have q6036 : H6014 x 6 = (cu : Int) := k6035.trans ecu
  have k6037 : H6014 x 7 = H x 7 := ((f6019 x 7 _ gx rfl).trans (f5998 x 7 _ gx rfl))
  have q6038 : H6014 x 7 = (dr : Int) := k6037.trans edr
  have h6039 : CEN T H6014 ce8 e8 d8 := (CEN_fr w5997 gce8 f6019 rfl p6001)
  have h6040 : TP T H6014 tc B := (TP_fr w5997 gtc f6019 rfl (TP_fr hW gtc f5998 rfl htc))
  have h6041 : TM T H6014 tm B := (TM_fr w5997 gtm f6019 rfl (TM_fr hW gtm f5998 rfl htm))
  have h6042 : DD T H6014 cu  := (DD_fr w5997 gcu f6019 rfl (DD_fr hW gcu f5998 rfl hcu))
  have h6043 : DD T H6014 dr  := (DD_fr w5997 gdr f6019 rfl (DD_fr hW gdr f5998 rfl hdr))
  have h6044 : DE T H6014 cu  := (DE_fr w5997 gcu f6019 rfl (DE_fr hW gcu f5998 rfl hdec))
  have h6045 : DE T H6014 dr  := (DE_fr w5997 gdr f6019 rfl (DE_fr hW gdr f5998 rfl hded))
  have h6046 : SP T H6014 x C8 := (SP_fr w5997 gx f6019 rfl (SP_fr hW gx f5998 rfl hsp))
  have h6047 : CU T H6014 cu e8 d8 n8 := (CU_fr w5997 gcu f6019 rfl (CU_fr hW gcu f5998 rfl hcu8))
  have h6048 : CG T H6014 cu (d8 0 3) g8 := (CG_fr w5997 gcu f6019 rfl (CG_fr hW gcu f5998 rfl hcg8))
  have k6049 : H6014 x 3 = H x 3 := ((f6019 x 3 _ gx rfl).trans (f5998 x 3 _ gx rfl))
  have q6050 : H6014 x 3 = (ce8 : Int) := k6049.trans ece8
  have h6051 : HDR T H6014 ce8  := (HDR_fr w5997 gce8 f6019 rfl (HDR_fr hW gce8 f5998 rfl hhdr8))
  have h6052 : MN26 T H6014 m (d8 0 3) g8 := (MN26_fr w5997 gm f6019 rfl (MN26_fr hW gm f5998 rfl hmn8))
  have h6053 : RB T H6014 m e8 d8 := (RB_fr w5997 gm f6019 rfl h6010)
  exact WL.loc hX (by simp) (next T H6014 ⟨⟨w6018, g0, gx, gm, go, by omega, by omega⟩, ⟨_, tc, tm, cu, dr, _, _, _, _, _, ce8, q6032, gtc, h6040, q6034, gtm, h6041, q6036, gcu, q6038, gdr, h6042, h6043, h6044, h6045, h6046, hC1, hC2, h6047, h6053, h6048, h6052, hE, hZ, (by omega), (by assumption), (by omega), (by first | assumption | exact SG_0), q6050, gce8, h6039, h6051, a6024, gm⟩, by omega, by omega⟩ (by omega) (by omega))
