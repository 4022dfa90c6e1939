/-! THE LAW, GONE ON WITH (own work) -/
set_option maxHeartbeats 4000000 in
theorem wl_c38 {kt : Nat → Option mc_E} {CB SB : Nat} {X : mc_S → Prop} {T : wq_T} {H : wq_H} {Len x m o : Nat} {i : Int} (hX : wlX kt CB SB X) (hb : T.2.1 ≤ CB ∧ T.2.2.1 ≤ SB) (hI : wlJ Len x m o T H) (hL : Len ≤ 3072) (hi : 0 ≤ i ∧ i + 6 ≤ Len) (hb2 : T.2.1 + 20 ≤ CB ∧ T.2.2.1 + 500 ≤ SB)  (next : ∀ T' H', wlJ Len x m o T' H' → T'.2.1 ≤ T.2.1 + 20 → T'.2.2.1 ≤ T.2.2.1 + 500 → WL kt CB SB X 1653 (wlL i x m o) [] T' H') : WL kt CB SB X 1342 (wlL i x m o) [] T H := by
  obtain ⟨⟨hW, g0, gx, gm, go, hK, hr⟩, hXI, hY1, hY2⟩ := hI
  refine wl_of hX hb cL_1342 (rw_aload_n (pc' := 1343) (v := .ref x) rfl rfl rfl ?_)
  refine wl_of hX hb cL_1343 (rw_aload_n (pc' := 1344) (v := .ref 0) rfl rfl rfl ?_)
  refine wl_of hX hb cL_1344 (rw_iload (pc' := 1346) (z := i) rfl rfl ?_)
  refine wl_of hX hb cL_1346 (rw_iconst (pc' := 1347) rfl ?_)
  refine wl_of hX hb cL_1347 (rw_iadd (pc' := 1348) rfl ?_)
  refine wl_of hX hb cL_1348 (xa_I (so := 0) (pc' := 1349) (a := 0) hW g0 (wsh_s _) (by omega) (wty_s _ _) (by omega) (by omega) rfl (fun b3539 b3540 => ?_))
  refine wl_of hX hb cL_1349 (xc_V (pc' := 1352) (r := x) (as := [vI (H 0 ((i + 1).toNat))]) (st := []) (lm_11_179) rfl rfl (Nat.le_of_ble_eq_true rfl) hW gx sh_1 (by decide) rfl (by decide) (s_152 hW gx ⟨by omega, by omega⟩) (fun R3541 T3542 H3543 p3544 => ?_))
  obtain ⟨e3545, w3547, f3548, z3549, e3546, b3550⟩ := p3544
  subst e3545
  subst e3546
  show WL _ _ _ _ 1352 [(4, vI i), (3, .ref o), (2, .ref m), (1, .ref x), (0, .ref 0)] [vI z3549] _ H3543
  refine wl_of hX hb cL_1352 (rw_pop (pc' := 1353) rfl rfl ?_)
  refine wl_of hX hb cL_1353 (rw_aload_n (pc' := 1354) (v := .ref m) rfl rfl rfl ?_)
  refine wl_of hX hb cL_1354 (rw_aload_n (pc' := 1355) (v := .ref 0) rfl rfl rfl ?_)
  refine wl_of hX hb cL_1355 (rw_iload (pc' := 1357) (z := i) rfl rfl ?_)
  refine wl_of hX hb cL_1357 (rw_iconst (pc' := 1358) rfl ?_)
  refine wl_of hX hb cL_1358 (rw_iadd (pc' := 1359) rfl ?_)
  have k3553 : H3543 0 ((i + 1).toNat) = H 0 ((i + 1).toNat) := (f3548 0 ((i + 1).toNat) _ g0 (wmem_s rfl))
  refine wl_of hX hb cL_1359 (xa_I (so := 0) (pc' := 1360) (a := 0) w3547 g0 (wsh_s _) (by omega) (wty_s _ _) (by omega) (by omega) rfl (fun b3551 b3552 => ?_))
  have k3554 : wKI H3543 m = wKI H m := (wKI_fr hW gm f3548 rfl)
  have k3555 : H3543 x 9 = H x 9 := (f3548 x 9 _ gx rfl)
  have k3556 : H3543 m 6 = H m 6 := (f3548 m 6 _ gm rfl)
  have k3557 : H3543 x 11 = H x 11 := (f3548 x 11 _ gx rfl)
  have k3558 : H3543 m 13 = H m 13 := (f3548 m 13 _ gm rfl)
  have k3559 : H3543 x 8 = H x 8 := (f3548 x 8 _ gx rfl)
  have k3560 : H3543 m 3 = H m 3 := (f3548 m 3 _ gm rfl)
  refine wl_of hX hb cL_1360 (xc_V (pc' := 1363) (r := m) (as := [vI (H3543 0 ((i + 1).toNat))]) (st := []) (lm_11_182) rfl rfl (Nat.le_of_ble_eq_true rfl) w3547 gm sh_42 (by decide) rfl (by decide) (s_284 w3547 gm ⟨by omega, by omega⟩ (by omega)) (fun R3561 T3562 H3563 p3564 => ?_))
  obtain ⟨e3565, w3567, f3568, z3570, e3566, b3571, p3569⟩ := p3564
  subst e3565
  subst e3566
  show WL _ _ _ _ 1363 [(4, vI i), (3, .ref o), (2, .ref m), (1, .ref x), (0, .ref 0)] [vI z3570] _ H3563
  refine wl_of hX hb cL_1363 (rw_pop (pc' := 1364) rfl rfl ?_)
  refine wl_of hX hb cL_1364 (rw_goto (p1 := 1653) (by decide) ?_)
  have k3572 : H3563 x 9 = H3543 x 9 := (f3568 x 9 _ gx rfl)
  have k3573 : H3563 m 6 = H3543 m 6 := (f3568 m 6 _ gm rfl)
  have k3574 : H3563 x 11 = H3543 x 11 := (f3568 x 11 _ gx rfl)
  have k3575 : H3563 m 13 = H3543 m 13 := (f3568 m 13 _ gm rfl)
  have k3576 : H3563 x 8 = H3543 x 8 := (f3568 x 8 _ gx rfl)
  have k3577 : H3563 m 3 = H3543 m 3 := (f3568 m 3 _ gm rfl)
  have h3578 : XI T H3563 x m := (XI_fr w3547 gx f3568 rfl (XI_fr hW gx f3548 rfl hXI))
  exact WL.loc hX (by simp) (next T H3563 ⟨⟨w3567, g0, gx, gm, go, by omega, by omega⟩, h3578, by omega, by omega⟩ (by omega) (by omega))
set_option maxHeartbeats 4000000 in
theorem wl_c39 {kt : Nat → Option mc_E} {CB SB : Nat} {X : mc_S → Prop} {T : wq_T} {H : wq_H} {Len x m o : Nat} {i : Int} (hX : wlX kt CB SB X) (hb : T.2.1 ≤ CB ∧ T.2.2.1 ≤ SB) (hI : wlJ Len x m o T H) (hL : Len ≤ 3072) (hi : 0 ≤ i ∧ i + 6 ≤ Len) (hb2 : T.2.1 + 20 ≤ CB ∧ T.2.2.1 + 500 ≤ SB)  (next : ∀ T' H', wlJ Len x m o T' H' → T'.2.1 ≤ T.2.1 + 20 → T'.2.2.1 ≤ T.2.2.1 + 500 → WL kt CB SB X 1653 (wlL i x m o) [] T' H') : WL kt CB SB X 1367 (wlL i x m o) [] T H := by
  obtain ⟨⟨hW, g0, gx, gm, go, hK, hr⟩, hXI, hY1, hY2⟩ := hI
  refine wl_of hX hb cL_1367 (rw_aload_n (pc' := 1368) (v := .ref x) rfl rfl rfl ?_)
  refine wl_of hX hb cL_1368 (rw_aload_n (pc' := 1369) (v := .ref 0) rfl rfl rfl ?_)
  refine wl_of hX hb cL_1369 (rw_iload (pc' := 1371) (z := i) rfl rfl ?_)
  refine wl_of hX hb cL_1371 (rw_iconst (pc' := 1372) rfl ?_)
  refine wl_of hX hb cL_1372 (rw_iadd (pc' := 1373) rfl ?_)
  refine wl_of hX hb cL_1373 (xa_I (so := 0) (pc' := 1374) (a := 0) hW g0 (wsh_s _) (by omega) (wty_s _ _) (by omega) (by omega) rfl (fun b3579 b3580 => ?_))
  refine wl_of hX hb cL_1374 (rw_aload_n (pc' := 1375) (v := .ref 0) rfl rfl rfl ?_)
  refine wl_of hX hb cL_1375 (rw_iload (pc' := 1377) (z := i) rfl rfl ?_)
  refine wl_of hX hb cL_1377 (rw_iconst (pc' := 1378) rfl ?_)
  refine wl_of hX hb cL_1378 (rw_iadd (pc' := 1379) rfl ?_)
  refine wl_of hX hb cL_1379 (xa_I (so := 0) (pc' := 1380) (a := 0) hW g0 (wsh_s _) (by omega) (wty_s _ _) (by omega) (by omega) rfl (fun b3581 b3582 => ?_))
  obtain ⟨B, tc, tm, cu, dr, C8, e8, d8, n8, g8, e0, gtc, htc, em, gtm, htm, ecu, gcu, edr, gdr, hcu, hdr, hdec, hded, hsp, hC1, hC2, hcu8, hrb8, hcg8, hmn8, hE, hZ, hn8, hXA, hV8, hSG, -⟩ := hXI
  have hN3 := RB_n3 hrb8
  have hE13 : ∀ h : Nat, h < 24 → 0 ≤ e8 13 h ∧ e8 13 h ≤ 100 := fun k hk => by
    obtain ⟨s, h1, h2, h3⟩ := hcu8.1.2.2.1
    exact ⟨(h3 k hk).1, (h3 k hk).2.1⟩
  have hXW := hXA.1
  have hXN := hXA.2
  have hE0 : e8 0 3 = d8 0 3 ∧ e8 0 0 = d8 0 0 := by
    have h := hE 0 (by decide)
    exact ⟨congrFun h 3, congrFun h 0⟩
  have u3583 := CU_k hcu8
  have h3584 : CY T H cu (d8 0 3) g8 (H cu 17) := ⟨hcg8, rfl⟩
  have h3585 : RY T H m (d8 0 3) g8 (H m 32) := ⟨hmn8, rfl⟩
  obtain ⟨t9, ht9⟩ : ∃ t : Int, t = H x 9 := ⟨_, rfl⟩
  obtain ⟨y9, hy9⟩ : ∃ y : Int, y = H 0 ((i + 2).toNat) := ⟨_, rfl⟩
  refine wl_of hX hb cL_1380 (xc_V (pc' := 1383) (r := x) (as := [vI (H 0 ((i + 1).toNat)), vI (H 0 ((i + 2).toNat))]) (st := []) (lm_11_183) rfl rfl (Nat.le_of_ble_eq_true rfl) hW gx sh_1 (by decide) rfl (by decide) (u_153 (e := e8) (d := d8) (n := n8) (y := ((H 0 ((i + 1).toNat)))) (w := (((H 0 ((i + 2).toNat)) + 1))) hW gx ⟨by omega, by omega⟩ ⟨by omega, by omega⟩ ecu gcu (by omega) (by omega) (by omega) (by omega) hcu8) (fun R3586 T3587 H3588 p3589 => ?_))
  obtain ⟨e3590, w3592, f3593, z3594, e3591, b3595, p3596⟩ := p3589
  subst e3590
  subst e3591
  rcases p3596 with ⟨a3597, a3598, a3599⟩ | ⟨a3600, a3601, a3602, a3603⟩
  · show WL _ _ _ _ 1383 [(4, vI i), (3, .ref o), (2, .ref m), (1, .ref x), (0, .ref 0)] [vI z3594] _ H3588
    have u3604 := CU_k a3599
    refine wl_of hX hb cL_1383 (rw_pop (pc' := 1384) rfl rfl ?_)
    refine wl_of hX hb cL_1384 (rw_aload_n (pc' := 1385) (v := .ref m) rfl rfl rfl ?_)
    refine wl_of hX hb cL_1385 (rw_aload_n (pc' := 1386) (v := .ref 0) rfl rfl rfl ?_)
    refine wl_of hX hb cL_1386 (rw_iload (pc' := 1388) (z := i) rfl rfl ?_)
    refine wl_of hX hb cL_1388 (rw_iconst (pc' := 1389) rfl ?_)
    refine wl_of hX hb cL_1389 (rw_iadd (pc' := 1390) rfl ?_)
    have k3607 : H3588 0 ((i + 1).toNat) = H 0 ((i + 1).toNat) := (f3593 0 ((i + 1).toNat) _ g0 (wmem_s rfl))
    refine wl_of hX hb cL_1390 (xa_I (so := 0) (pc' := 1391) (a := 0) w3592 g0 (wsh_s _) (by omega) (wty_s _ _) (by omega) (by omega) rfl (fun b3605 b3606 => ?_))
    refine wl_of hX hb cL_1391 (rw_aload_n (pc' := 1392) (v := .ref 0) rfl rfl rfl ?_)
    refine wl_of hX hb cL_1392 (rw_iload (pc' := 1394) (z := i) rfl rfl ?_)
    refine wl_of hX hb cL_1394 (rw_iconst (pc' := 1395) rfl ?_)
    refine wl_of hX hb cL_1395 (rw_iadd (pc' := 1396) rfl ?_)
    have k3610 : H3588 0 ((i + 2).toNat) = H 0 ((i + 2).toNat) := (f3593 0 ((i + 2).toNat) _ g0 (wmem_s rfl))
    refine wl_of hX hb cL_1396 (xa_I (so := 0) (pc' := 1397) (a := 0) w3592 g0 (wsh_s _) (by omega) (wty_s _ _) (by omega) (by omega) rfl (fun b3608 b3609 => ?_))
    have k3611 : wKI H3588 m = wKI H m := (wKI_fr hW gm f3593 rfl)
    have k3612 : H3588 x 9 = H x 9 := (f3593 x 9 _ gx rfl)
    have k3613 : H3588 m 6 = H m 6 := (f3593 m 6 _ gm rfl)
    have k3614 : H3588 x 11 = H x 11 := (f3593 x 11 _ gx rfl)
    have k3615 : H3588 m 13 = H m 13 := (f3593 m 13 _ gm rfl)
    have k3616 : H3588 x 8 = H x 8 := (f3593 x 8 _ gx rfl)
    have k3617 : H3588 m 3 = H m 3 := (f3593 m 3 _ gm rfl)
    rw [show H3588 0 ((i + 2).toNat) = H 0 ((i + 2).toNat) by omega]
    rw [show H3588 0 ((i + 1).toNat) = H 0 ((i + 1).toNat) by omega]
    have h3618 : RB T H3588 m e8 d8 := (RB_fr hW gm f3593 rfl hrb8)
    refine wl_of hX hb cL_1397 (xc_V (pc' := 1400) (r := m) (as := [vI (H 0 ((i + 1).toNat)), vI (H 0 ((i + 2).toNat))]) (st := []) (lm_11_186) rfl rfl (Nat.le_of_ble_eq_true rfl) w3592 gm sh_42 (by decide) rfl (by decide) (u_285 (e := e8) (d := d8) (y := ((H 0 ((i + 1).toNat)))) (w := (((H 0 ((i + 2).toNat)) + 1))) w3592 gm ⟨by omega, by omega⟩ ⟨by omega, by omega⟩ (by omega) (by omega) (by omega) h3618) (fun R3619 T3620 H3621 p3622 => ?_))
    obtain ⟨e3623, w3625, f3626, z3627, e3624, b3628, p3629⟩ := p3622
    subst e3623
    subst e3624
    rcases p3629 with ⟨a3630, a3631, a3632, a3633⟩ | ⟨a3634, a3635, a3636, a3637⟩
    · show WL _ _ _ _ 1400 [(4, vI i), (3, .ref o), (2, .ref m), (1, .ref x), (0, .ref 0)] [vI z3627] _ H3621
      refine wl_of hX hb cL_1400 (rw_pop (pc' := 1401) rfl rfl ?_)
      refine wl_of hX hb cL_1401 (rw_goto (p1 := 1653) (by decide) ?_)
      have k3638 : H3621 x 9 = H3588 x 9 := (f3626 x 9 _ gx rfl)
      have k3639 : H3621 m 6 = H3588 m 6 := (f3626 m 6 _ gm rfl)
      have k3640 : H3621 x 11 = H3588 x 11 := (f3626 x 11 _ gx rfl)
      have k3641 : H3621 m 13 = H3588 m 13 := (f3626 m 13 _ gm rfl)
      have k3642 : H3621 x 8 = H3588 x 8 := (f3626 x 8 _ gx rfl)
      have k3643 : H3621 m 3 = H3588 m 3 := (f3626 m 3 _ gm rfl)
      have k3644 : H3621 x 0 = H x 0 := ((f3626 x 0 _ gx rfl).trans (f3593 x 0 _ gx rfl))
      have q3645 : H3621 x 0 = (tc : Int) := k3644.trans e0
      have k3646 : H3621 m 5 = H m 5 := ((f3626 m 5 _ gm rfl).trans (f3593 m 5 _ gm rfl))
      have q3647 : H3621 m 5 = (tm : Int) := k3646.trans em
      have k3648 : H3621 x 6 = H x 6 := ((f3626 x 6 _ gx rfl).trans (f3593 x 6 _ gx rfl))
      have q3649 : H3621 x 6 = (cu : Int) := k3648.trans ecu
      have k3650 : H3621 x 7 = H x 7 := ((f3626 x 7 _ gx rfl).trans (f3593 x 7 _ gx rfl))
      have q3651 : H3621 x 7 = (dr : Int) := k3650.trans edr
      have h3652 : TP T H3621 tc B := (TP_fr w3592 gtc f3626 rfl (TP_fr hW gtc f3593 rfl htc))
      have h3653 : TM T H3621 tm B := (TM_fr w3592 gtm f3626 rfl (TM_fr hW gtm f3593 rfl htm))
      have h3654 : DD T H3621 cu  := (DD_fr w3592 gcu f3626 rfl (DD_fr hW gcu f3593 rfl hcu))
      have h3655 : DD T H3621 dr  := (DD_fr w3592 gdr f3626 rfl (DD_fr hW gdr f3593 rfl hdr))
      have h3656 : DE T H3621 cu  := (DE_fr w3592 gcu f3626 rfl (DE_fr hW gcu f3593 rfl hdec))
      have h3657 : DE T H3621 dr  := (DE_fr w3592 gdr f3626 rfl (DE_fr hW gdr f3593 rfl hded))
      have h3658 : SP T H3621 x C8 := (SP_fr w3592 gx f3626 rfl (SP_fr hW gx f3593 rfl hsp))
      have h3659 : CU T H3621 cu e8 d8 n8 := (CU_fr w3592 gcu f3626 rfl a3599)
      have h3660 : CY T H3621 cu (d8 0 3) g8 (H cu 17) := (CY_fr w3592 gcu f3626 rfl (CY_fr hW gcu f3593 rfl h3584))
      have h3661 : RY T H3621 m (d8 0 3) g8 (H m 32) := (RY_fr w3592 gm f3626 rfl (RY_fr hW gm f3593 rfl h3585))
      exact WL.loc hX (by simp) (next T H3621 ⟨⟨w3625, g0, gx, gm, go, by omega, by omega⟩, ⟨_, tc, tm, cu, dr, _, _, _, _, _, q3645, gtc, h3652, q3647, gtm, h3653, q3649, gcu, q3651, gdr, h3654, h3655, h3656, h3657, h3658, hC1, hC2, h3659, a3633, (h3660).1, (h3661).1, hE, hZ, (by omega), (by assumption), (by omega), (by first | assumption | exact SG_0), gm⟩, by omega, by omega⟩ (by omega) (by omega))
    · show WL _ _ _ _ 1400 [(4, vI i), (3, .ref o), (2, .ref m), (1, .ref x), (0, .ref 0)] [vI z3627] _ H3621
      refine wl_of hX hb cL_1400 (rw_pop (pc' := 1401) rfl rfl ?_)
      refine wl_of hX hb cL_1401 (rw_goto (p1 := 1653) (by decide) ?_)
      have k3662 : H3621 x 9 = H3588 x 9 := (f3626 x 9 _ gx rfl)
      have k3663 : H3621 m 6 = H3588 m 6 := (f3626 m 6 _ gm rfl)
      have k3664 : H3621 x 11 = H3588 x 11 := (f3626 x 11 _ gx rfl)
      have k3665 : H3621 m 13 = H3588 m 13 := (f3626 m 13 _ gm rfl)
      have k3666 : H3621 x 8 = H3588 x 8 := (f3626 x 8 _ gx rfl)
      have k3667 : H3621 m 3 = H3588 m 3 := (f3626 m 3 _ gm rfl)
      have k3668 : H3621 x 0 = H x 0 := ((f3626 x 0 _ gx rfl).trans (f3593 x 0 _ gx rfl))
      have q3669 : H3621 x 0 = (tc : Int) := k3668.trans e0
      have k3670 : H3621 m 5 = H m 5 := ((f3626 m 5 _ gm rfl).trans (f3593 m 5 _ gm rfl))
      have q3671 : H3621 m 5 = (tm : Int) := k3670.trans em
      have k3672 : H3621 x 6 = H x 6 := ((f3626 x 6 _ gx rfl).trans (f3593 x 6 _ gx rfl))
      have q3673 : H3621 x 6 = (cu : Int) := k3672.trans ecu
      have k3674 : H3621 x 7 = H x 7 := ((f3626 x 7 _ gx rfl).trans (f3593 x 7 _ gx rfl))
      have q3675 : H3621 x 7 = (dr : Int) := k3674.trans edr
      have h3676 : TP T H3621 tc B := (TP_fr w3592 gtc f3626 rfl (TP_fr hW gtc f3593 rfl htc))
      have h3677 : TM T H3621 tm B := (TM_fr w3592 gtm f3626 rfl (TM_fr hW gtm f3593 rfl htm))
      have h3678 : DD T H3621 cu  := (DD_fr w3592 gcu f3626 rfl (DD_fr hW gcu f3593 rfl hcu))
      have h3679 : DD T H3621 dr  := (DD_fr w3592 gdr f3626 rfl (DD_fr hW gdr f3593 rfl hdr))
      have h3680 : DE T H3621 cu  := (DE_fr w3592 gcu f3626 rfl (DE_fr hW gcu f3593 rfl hdec))
      have h3681 : DE T H3621 dr  := (DE_fr w3592 gdr f3626 rfl (DE_fr hW gdr f3593 rfl hded))
      have h3682 : SP T H3621 x C8 := (SP_fr w3592 gx f3626 rfl (SP_fr hW gx f3593 rfl hsp))
      have h3683 : CU T H3621 cu e8 d8 n8 := (CU_fr w3592 gcu f3626 rfl a3599)
      have h3684 : CY T H3621 cu (d8 0 3) g8 (H cu 17) := (CY_fr w3592 gcu f3626 rfl (CY_fr hW gcu f3593 rfl h3584))
      exfalso
      omega
  · show WL _ _ _ _ 1383 [(4, vI i), (3, .ref o), (2, .ref m), (1, .ref x), (0, .ref 0)] [vI z3594] _ H3588
    have u3685 := CU_k a3603
    refine wl_of hX hb cL_1383 (rw_pop (pc' := 1384) rfl rfl ?_)
    refine wl_of hX hb cL_1384 (rw_aload_n (pc' := 1385) (v := .ref m) rfl rfl rfl ?_)
    refine wl_of hX hb cL_1385 (rw_aload_n (pc' := 1386) (v := .ref 0) rfl rfl rfl ?_)
    refine wl_of hX hb cL_1386 (rw_iload (pc' := 1388) (z := i) rfl rfl ?_)
    refine wl_of hX hb cL_1388 (rw_iconst (pc' := 1389) rfl ?_)
    refine wl_of hX hb cL_1389 (rw_iadd (pc' := 1390) rfl ?_)
    have k3688 : H3588 0 ((i + 1).toNat) = H 0 ((i + 1).toNat) := (f3593 0 ((i + 1).toNat) _ g0 (wmem_s rfl))
    refine wl_of hX hb cL_1390 (xa_I (so := 0) (pc' := 1391) (a := 0) w3592 g0 (wsh_s _) (by omega) (wty_s _ _) (by omega) (by omega) rfl (fun b3686 b3687 => ?_))
    refine wl_of hX hb cL_1391 (rw_aload_n (pc' := 1392) (v := .ref 0) rfl rfl rfl ?_)
    refine wl_of hX hb cL_1392 (rw_iload (pc' := 1394) (z := i) rfl rfl ?_)
    refine wl_of hX hb cL_1394 (rw_iconst (pc' := 1395) rfl ?_)
    refine wl_of hX hb cL_1395 (rw_iadd (pc' := 1396) rfl ?_)
    have k3691 : H3588 0 ((i + 2).toNat) = H 0 ((i + 2).toNat) := (f3593 0 ((i + 2).toNat) _ g0 (wmem_s rfl))
    refine wl_of hX hb cL_1396 (xa_I (so := 0) (pc' := 1397) (a := 0) w3592 g0 (wsh_s _) (by omega) (wty_s _ _) (by omega) (by omega) rfl (fun b3689 b3690 => ?_))
    have k3692 : wKI H3588 m = wKI H m := (wKI_fr hW gm f3593 rfl)
    have k3693 : H3588 x 9 = H x 9 := (f3593 x 9 _ gx rfl)
    have k3694 : H3588 m 6 = H m 6 := (f3593 m 6 _ gm rfl)
    have k3695 : H3588 x 11 = H x 11 := (f3593 x 11 _ gx rfl)
    have k3696 : H3588 m 13 = H m 13 := (f3593 m 13 _ gm rfl)
    have k3697 : H3588 x 8 = H x 8 := (f3593 x 8 _ gx rfl)
    have k3698 : H3588 m 3 = H m 3 := (f3593 m 3 _ gm rfl)
    rw [show H3588 0 ((i + 2).toNat) = H 0 ((i + 2).toNat) by omega]
    rw [show H3588 0 ((i + 1).toNat) = H 0 ((i + 1).toNat) by omega]
    have h3699 : RB T H3588 m e8 d8 := (RB_fr hW gm f3593 rfl hrb8)
    refine wl_of hX hb cL_1397 (xc_V (pc' := 1400) (r := m) (as := [vI (H 0 ((i + 1).toNat)), vI (H 0 ((i + 2).toNat))]) (st := []) (lm_11_186) rfl rfl (Nat.le_of_ble_eq_true rfl) w3592 gm sh_42 (by decide) rfl (by decide) (u_285 (e := e8) (d := d8) (y := ((H 0 ((i + 1).toNat)))) (w := (((H 0 ((i + 2).toNat)) + 1))) w3592 gm ⟨by omega, by omega⟩ ⟨by omega, by omega⟩ (by omega) (by omega) (by omega) h3699) (fun R3700 T3701 H3702 p3703 => ?_))
    obtain ⟨e3704, w3706, f3707, z3708, e3705, b3709, p3710⟩ := p3703
    subst e3704
    subst e3705
    rcases p3710 with ⟨a3711, a3712, a3713, a3714⟩ | ⟨a3715, a3716, a3717, a3718⟩
    · show WL _ _ _ _ 1400 [(4, vI i), (3, .ref o), (2, .ref m), (1, .ref x), (0, .ref 0)] [vI z3708] _ H3702
      refine wl_of hX hb cL_1400 (rw_pop (pc' := 1401) rfl rfl ?_)
      refine wl_of hX hb cL_1401 (rw_goto (p1 := 1653) (by decide) ?_)
      have k3719 : H3702 x 9 = H3588 x 9 := (f3707 x 9 _ gx rfl)
      have k3720 : H3702 m 6 = H3588 m 6 := (f3707 m 6 _ gm rfl)
      have k3721 : H3702 x 11 = H3588 x 11 := (f3707 x 11 _ gx rfl)
      have k3722 : H3702 m 13 = H3588 m 13 := (f3707 m 13 _ gm rfl)
      have k3723 : H3702 x 8 = H3588 x 8 := (f3707 x 8 _ gx rfl)
      have k3724 : H3702 m 3 = H3588 m 3 := (f3707 m 3 _ gm rfl)
      have k3725 : H3702 x 0 = H x 0 := ((f3707 x 0 _ gx rfl).trans (f3593 x 0 _ gx rfl))
      have q3726 : H3702 x 0 = (tc : Int) := k3725.trans e0
      have k3727 : H3702 m 5 = H m 5 := ((f3707 m 5 _ gm rfl).trans (f3593 m 5 _ gm rfl))
      have q3728 : H3702 m 5 = (tm : Int) := k3727.trans em
      have k3729 : H3702 x 6 = H x 6 := ((f3707 x 6 _ gx rfl).trans (f3593 x 6 _ gx rfl))
      have q3730 : H3702 x 6 = (cu : Int) := k3729.trans ecu
      have k3731 : H3702 x 7 = H x 7 := ((f3707 x 7 _ gx rfl).trans (f3593 x 7 _ gx rfl))
      have q3732 : H3702 x 7 = (dr : Int) := k3731.trans edr
      have h3733 : TP T H3702 tc B := (TP_fr w3592 gtc f3707 rfl (TP_fr hW gtc f3593 rfl htc))
      have h3734 : TM T H3702 tm B := (TM_fr w3592 gtm f3707 rfl (TM_fr hW gtm f3593 rfl htm))
      have h3735 : DD T H3702 cu  := (DD_fr w3592 gcu f3707 rfl (DD_fr hW gcu f3593 rfl hcu))
      have h3736 : DD T H3702 dr  := (DD_fr w3592 gdr f3707 rfl (DD_fr hW gdr f3593 rfl hdr))
      have h3737 : DE T H3702 cu  := (DE_fr w3592 gcu f3707 rfl (DE_fr hW gcu f3593 rfl hdec))
      have h3738 : DE T H3702 dr  := (DE_fr w3592 gdr f3707 rfl (DE_fr hW gdr f3593 rfl hded))
      have h3739 : SP T H3702 x C8 := (SP_fr w3592 gx f3707 rfl (SP_fr hW gx f3593 rfl hsp))
      have h3740 : CU T H3702 cu (wq_u e8 13 (((H 0 ((i + 1).toNat)))).toNat (((H 0 ((i + 2).toNat)) + 1))) d8 n8 := (CU_fr w3592 gcu f3707 rfl a3603)
      have h3741 : CY T H3702 cu (d8 0 3) g8 (H cu 17) := (CY_fr w3592 gcu f3707 rfl (CY_fr hW gcu f3593 rfl h3584))
      exfalso
      omega
    · show WL _ _ _ _ 1400 [(4, vI i), (3, .ref o), (2, .ref m), (1, .ref x), (0, .ref 0)] [vI z3708] _ H3702
      refine wl_of hX hb cL_1400 (rw_pop (pc' := 1401) rfl rfl ?_)
      refine wl_of hX hb cL_1401 (rw_goto (p1 := 1653) (by decide) ?_)
      have k3742 : H3702 x 9 = H3588 x 9 := (f3707 x 9 _ gx rfl)
      have k3743 : H3702 m 6 = H3588 m 6 := (f3707 m 6 _ gm rfl)
      have k3744 : H3702 x 11 = H3588 x 11 := (f3707 x 11 _ gx rfl)
      have k3745 : H3702 m 13 = H3588 m 13 := (f3707 m 13 _ gm rfl)
      have k3746 : H3702 x 8 = H3588 x 8 := (f3707 x 8 _ gx rfl)
      have k3747 : H3702 m 3 = H3588 m 3 := (f3707 m 3 _ gm rfl)
      have k3748 : H3702 x 0 = H x 0 := ((f3707 x 0 _ gx rfl).trans (f3593 x 0 _ gx rfl))
      have q3749 : H3702 x 0 = (tc : Int) := k3748.trans e0
      have k3750 : H3702 m 5 = H m 5 := ((f3707 m 5 _ gm rfl).trans (f3593 m 5 _ gm rfl))
      have q3751 : H3702 m 5 = (tm : Int) := k3750.trans em
      have k3752 : H3702 x 6 = H x 6 := ((f3707 x 6 _ gx rfl).trans (f3593 x 6 _ gx rfl))
      have q3753 : H3702 x 6 = (cu : Int) := k3752.trans ecu
      have k3754 : H3702 x 7 = H x 7 := ((f3707 x 7 _ gx rfl).trans (f3593 x 7 _ gx rfl))
      have q3755 : H3702 x 7 = (dr : Int) := k3754.trans edr
      have h3756 : TP T H3702 tc B := (TP_fr w3592 gtc f3707 rfl (TP_fr hW gtc f3593 rfl htc))
      have h3757 : TM T H3702 tm B := (TM_fr w3592 gtm f3707 rfl (TM_fr hW gtm f3593 rfl htm))
      have h3758 : DD T H3702 cu  := (DD_fr w3592 gcu f3707 rfl (DD_fr hW gcu f3593 rfl hcu))
      have h3759 : DD T H3702 dr  := (DD_fr w3592 gdr f3707 rfl (DD_fr hW gdr f3593 rfl hdr))
      have h3760 : DE T H3702 cu  := (DE_fr w3592 gcu f3707 rfl (DE_fr hW gcu f3593 rfl hdec))
      have h3761 : DE T H3702 dr  := (DE_fr w3592 gdr f3707 rfl (DE_fr hW gdr f3593 rfl hded))
      have h3762 : SP T H3702 x C8 := (SP_fr w3592 gx f3707 rfl (SP_fr hW gx f3593 rfl hsp))
      have h3763 : CU T H3702 cu (wq_u e8 13 (((H 0 ((i + 1).toNat)))).toNat (((H 0 ((i + 2).toNat)) + 1))) d8 n8 := (CU_fr w3592 gcu f3707 rfl a3603)
      have h3764 : CY T H3702 cu (d8 0 3) g8 (H cu 17) := (CY_fr w3592 gcu f3707 rfl (CY_fr hW gcu f3593 rfl h3584))
      have h3765 : RY T H3702 m (d8 0 3) g8 (H m 32) := (RY_fr w3592 gm f3707 rfl (RY_fr hW gm f3593 rfl h3585))
      exact WL.loc hX (by simp) (next T H3702 ⟨⟨w3706, g0, gx, gm, go, by omega, by omega⟩, ⟨_, tc, tm, cu, dr, _, _, _, _, _, q3749, gtc, h3756, q3751, gtm, h3757, q3753, gcu, q3755, gdr, h3758, h3759, h3760, h3761, h3762, hC1, hC2, h3763, a3718, (h3764).1, (h3765).1, (fun i hi => (wq_u_row hi).trans (hE i hi)), (fun h h1 h2 => by rw [wq_u_e2 (fun c => by omega)]; exact hZ h h1 h2), (by omega), (by assumption), (by omega), (by first | assumption | exact SG_0), gm⟩, by omega, by omega⟩ (by omega) (by omega))
set_option maxHeartbeats 4000000 in
theorem wl_c40 {kt : Nat → Option mc_E} {CB SB : Nat} {X : mc_S → Prop} {T : wq_T} {H : wq_H} {Len x m o : Nat} {i : Int} (hX : wlX kt CB SB X) (hb : T.2.1 ≤ CB ∧ T.2.2.1 ≤ SB) (hI : wlJ Len x m o T H) (hL : Len ≤ 3072) (hi : 0 ≤ i ∧ i + 6 ≤ Len) (hb2 : T.2.1 + 20 ≤ CB ∧ T.2.2.1 + 500 ≤ SB)  (next : ∀ T' H', wlJ Len x m o T' H' → T'.2.1 ≤ T.2.1 + 20 → T'.2.2.1 ≤ T.2.2.1 + 500 → WL kt CB SB X 1653 (wlL i x m o) [] T' H') : WL kt CB SB X 1404 (wlL i x m o) [] T H := by
  obtain ⟨⟨hW, g0, gx, gm, go, hK, hr⟩, hXI, hY1, hY2⟩ := hI
  refine wl_of hX hb cL_1404 (rw_aload_n (pc' := 1405) (v := .ref x) rfl rfl rfl ?_)
  refine wl_of hX hb cL_1405 (rw_aload_n (pc' := 1406) (v := .ref 0) rfl rfl rfl ?_)
  refine wl_of hX hb cL_1406 (rw_iload (pc' := 1408) (z := i) rfl rfl ?_)
  refine wl_of hX hb cL_1408 (rw_iconst (pc' := 1409) rfl ?_)
  refine wl_of hX hb cL_1409 (rw_iadd (pc' := 1410) rfl ?_)
  refine wl_of hX hb cL_1410 (xa_I (so := 0) (pc' := 1411) (a := 0) hW g0 (wsh_s _) (by omega) (wty_s _ _) (by omega) (by omega) rfl (fun b3766 b3767 => ?_))
  obtain ⟨B, tc, tm, cu, dr, C8, e8, d8, n8, g8, e0, gtc, htc, em, gtm, htm, ecu, gcu, edr, gdr, hcu, hdr, hdec, hded, hsp, hC1, hC2, hcu8, hrb8, hcg8, hmn8, hE, hZ, hn8, hXA, hV8, hSG, -⟩ := hXI
  have hN3 := RB_n3 hrb8
  have hE13 : ∀ h : Nat, h < 24 → 0 ≤ e8 13 h ∧ e8 13 h ≤ 100 := fun k hk => by
    obtain ⟨s, h1, h2, h3⟩ := hcu8.1.2.2.1
    exact ⟨(h3 k hk).1, (h3 k hk).2.1⟩
  have hXW := hXA.1
  have hXN := hXA.2
  have hE0 : e8 0 3 = d8 0 3 ∧ e8 0 0 = d8 0 0 := by
    have h := hE 0 (by decide)
    exact ⟨congrFun h 3, congrFun h 0⟩
  have u3768 := CU_k hcu8
  have h3769 : CY T H cu (d8 0 3) g8 (H cu 17) := ⟨hcg8, rfl⟩
  have h3770 : RY T H m (d8 0 3) g8 (H m 32) := ⟨hmn8, rfl⟩
  obtain ⟨t9, ht9⟩ : ∃ t : Int, t = H x 9 := ⟨_, rfl⟩
  obtain ⟨y9, hy9⟩ : ∃ y : Int, y = H 0 ((i + 1).toNat) := ⟨_, rfl⟩
  refine wl_of hX hb cL_1411 (xc_V (pc' := 1414) (r := x) (as := [vI (H 0 ((i + 1).toNat))]) (st := []) (lm_11_187) rfl rfl (Nat.le_of_ble_eq_true rfl) hW gx sh_1 (by decide) rfl (by decide) (u_154 (e := e8) (d := d8) (n := n8) (y := ((H 0 ((i + 1).toNat)))) hW gx ⟨by omega, by omega⟩ ecu gcu (by omega) (by omega) (by omega) hcu8) (fun R3771 T3772 H3773 p3774 => ?_))
  obtain ⟨e3775, w3777, f3778, z3779, e3776, b3780, p3781⟩ := p3774
  subst e3775
  subst e3776
  rcases p3781 with ⟨a3782, a3783, a3784, a3785⟩ | ⟨a3786, a3787, a3788⟩
  · show WL _ _ _ _ 1414 [(4, vI i), (3, .ref o), (2, .ref m), (1, .ref x), (0, .ref 0)] [vI z3779] _ H3773
    have u3789 := CU_k a3785
    refine wl_of hX hb cL_1414 (rw_pop (pc' := 1415) rfl rfl ?_)
    refine wl_of hX hb cL_1415 (rw_aload_n (pc' := 1416) (v := .ref m) rfl rfl rfl ?_)
    refine wl_of hX hb cL_1416 (rw_aload_n (pc' := 1417) (v := .ref 0) rfl rfl rfl ?_)
    refine wl_of hX hb cL_1417 (rw_iload (pc' := 1419) (z := i) rfl rfl ?_)
    refine wl_of hX hb cL_1419 (rw_iconst (pc' := 1420) rfl ?_)
    refine wl_of hX hb cL_1420 (rw_iadd (pc' := 1421) rfl ?_)
    have k3792 : H3773 0 ((i + 1).toNat) = H 0 ((i + 1).toNat) := (f3778 0 ((i + 1).toNat) _ g0 (wmem_s rfl))
    refine wl_of hX hb cL_1421 (xa_I (so := 0) (pc' := 1422) (a := 0) w3777 g0 (wsh_s _) (by omega) (wty_s _ _) (by omega) (by omega) rfl (fun b3790 b3791 => ?_))
    have k3793 : wKI H3773 m = wKI H m := (wKI_fr hW gm f3778 rfl)
    have k3794 : H3773 x 9 = H x 9 := (f3778 x 9 _ gx rfl)
    have k3795 : H3773 m 6 = H m 6 := (f3778 m 6 _ gm rfl)
    have k3796 : H3773 x 11 = H x 11 := (f3778 x 11 _ gx rfl)
    have k3797 : H3773 m 13 = H m 13 := (f3778 m 13 _ gm rfl)
    have k3798 : H3773 x 8 = H x 8 := (f3778 x 8 _ gx rfl)
    have k3799 : H3773 m 3 = H m 3 := (f3778 m 3 _ gm rfl)
    rw [show H3773 0 ((i + 1).toNat) = H 0 ((i + 1).toNat) by omega]
    have h3800 : RB T H3773 m e8 d8 := (RB_fr hW gm f3778 rfl hrb8)
    refine wl_of hX hb cL_1422 (xc_V (pc' := 1425) (r := m) (as := [vI (H 0 ((i + 1).toNat))]) (st := []) (lm_11_191) rfl rfl (Nat.le_of_ble_eq_true rfl) w3777 gm sh_42 (by decide) rfl (by decide) (u_286 (e := e8) (d := d8) (y := ((H 0 ((i + 1).toNat)))) w3777 gm ⟨by omega, by omega⟩ (by omega) (by omega) h3800) (fun R3801 T3802 H3803 p3804 => ?_))
    obtain ⟨e3805, w3807, f3808, z3809, e3806, b3810, p3811⟩ := p3804
    subst e3805
    subst e3806
    rcases p3811 with ⟨a3812, a3813, a3814, a3815, a3816⟩ | ⟨a3817, a3818, a3819, a3820⟩
    · show WL _ _ _ _ 1425 [(4, vI i), (3, .ref o), (2, .ref m), (1, .ref x), (0, .ref 0)] [vI z3809] _ H3803
      refine wl_of hX hb cL_1425 (rw_pop (pc' := 1426) rfl rfl ?_)
      refine wl_of hX hb cL_1426 (rw_goto (p1 := 1653) (by decide) ?_)
      have k3821 : H3803 x 9 = H3773 x 9 := (f3808 x 9 _ gx rfl)
      have k3822 : H3803 m 6 = H3773 m 6 := (f3808 m 6 _ gm rfl)
      have k3823 : H3803 x 11 = H3773 x 11 := (f3808 x 11 _ gx rfl)
      have k3824 : H3803 m 13 = H3773 m 13 := (f3808 m 13 _ gm rfl)
      have k3825 : H3803 x 8 = H3773 x 8 := (f3808 x 8 _ gx rfl)
      have k3826 : H3803 m 3 = H3773 m 3 := (f3808 m 3 _ gm rfl)
      have k3827 : H3803 x 0 = H x 0 := ((f3808 x 0 _ gx rfl).trans (f3778 x 0 _ gx rfl))
      have q3828 : H3803 x 0 = (tc : Int) := k3827.trans e0
      have k3829 : H3803 m 5 = H m 5 := ((f3808 m 5 _ gm rfl).trans (f3778 m 5 _ gm rfl))
      have q3830 : H3803 m 5 = (tm : Int) := k3829.trans em
      have k3831 : H3803 x 6 = H x 6 := ((f3808 x 6 _ gx rfl).trans (f3778 x 6 _ gx rfl))
      have q3832 : H3803 x 6 = (cu : Int) := k3831.trans ecu
      have k3833 : H3803 x 7 = H x 7 := ((f3808 x 7 _ gx rfl).trans (f3778 x 7 _ gx rfl))
      have q3834 : H3803 x 7 = (dr : Int) := k3833.trans edr
      have h3835 : TP T H3803 tc B := (TP_fr w3777 gtc f3808 rfl (TP_fr hW gtc f3778 rfl htc))
      have h3836 : TM T H3803 tm B := (TM_fr w3777 gtm f3808 rfl (TM_fr hW gtm f3778 rfl htm))
      have h3837 : DD T H3803 cu  := (DD_fr w3777 gcu f3808 rfl (DD_fr hW gcu f3778 rfl hcu))
      have h3838 : DD T H3803 dr  := (DD_fr w3777 gdr f3808 rfl (DD_fr hW gdr f3778 rfl hdr))
      have h3839 : DE T H3803 cu  := (DE_fr w3777 gcu f3808 rfl (DE_fr hW gcu f3778 rfl hdec))
      have h3840 : DE T H3803 dr  := (DE_fr w3777 gdr f3808 rfl (DE_fr hW gdr f3778 rfl hded))
      have h3841 : SP T H3803 x C8 := (SP_fr w3777 gx f3808 rfl (SP_fr hW gx f3778 rfl hsp))
      have h3842 : CU T H3803 cu (wq_u e8 13 (((H 0 ((i + 1).toNat)))).toNat 0) d8 n8 := (CU_fr w3777 gcu f3808 rfl a3785)
      have h3843 : CY T H3803 cu (d8 0 3) g8 (H cu 17) := (CY_fr w3777 gcu f3808 rfl (CY_fr hW gcu f3778 rfl h3769))
      have h3844 : RY T H3803 m (d8 0 3) g8 (H m 32) := (RY_fr w3777 gm f3808 rfl (RY_fr hW gm f3778 rfl h3770))
      exact WL.loc hX (by simp) (next T H3803 ⟨⟨w3807, g0, gx, gm, go, by omega, by omega⟩, ⟨_, tc, tm, cu, dr, _, _, _, _, _, q3828, gtc, h3835, q3830, gtm, h3836, q3832, gcu, q3834, gdr, h3837, h3838, h3839, h3840, h3841, hC1, hC2, h3842, a3816, (h3843).1, (h3844).1, (fun i hi => (wq_u_row hi).trans (hE i hi)), (fun h h1 h2 => by rw [wq_u_e2 (fun c => by omega)]; exact hZ h h1 h2), (by omega), (by assumption), (by omega), (by first | assumption | exact SG_0), gm⟩, by omega, by omega⟩ (by omega) (by omega))
    · show WL _ _ _ _ 1425 [(4, vI i), (3, .ref o), (2, .ref m), (1, .ref x), (0, .ref 0)] [vI z3809] _ H3803
      refine wl_of hX hb cL_1425 (rw_pop (pc' := 1426) rfl rfl ?_)
      refine wl_of hX hb cL_1426 (rw_goto (p1 := 1653) (by decide) ?_)
      have k3845 : H3803 x 9 = H3773 x 9 := (f3808 x 9 _ gx rfl)
      have k3846 : H3803 m 6 = H3773 m 6 := (f3808 m 6 _ gm rfl)
      have k3847 : H3803 x 11 = H3773 x 11 := (f3808 x 11 _ gx rfl)
      have k3848 : H3803 m 13 = H3773 m 13 := (f3808 m 13 _ gm rfl)
      have k3849 : H3803 x 8 = H3773 x 8 := (f3808 x 8 _ gx rfl)
      have k3850 : H3803 m 3 = H3773 m 3 := (f3808 m 3 _ gm rfl)
      have k3851 : H3803 x 0 = H x 0 := ((f3808 x 0 _ gx rfl).trans (f3778 x 0 _ gx rfl))
      have q3852 : H3803 x 0 = (tc : Int) := k3851.trans e0
      have k3853 : H3803 m 5 = H m 5 := ((f3808 m 5 _ gm rfl).trans (f3778 m 5 _ gm rfl))
      have q3854 : H3803 m 5 = (tm : Int) := k3853.trans em
      have k3855 : H3803 x 6 = H x 6 := ((f3808 x 6 _ gx rfl).trans (f3778 x 6 _ gx rfl))
      have q3856 : H3803 x 6 = (cu : Int) := k3855.trans ecu
      have k3857 : H3803 x 7 = H x 7 := ((f3808 x 7 _ gx rfl).trans (f3778 x 7 _ gx rfl))
      have q3858 : H3803 x 7 = (dr : Int) := k3857.trans edr
      have h3859 : TP T H3803 tc B := (TP_fr w3777 gtc f3808 rfl (TP_fr hW gtc f3778 rfl htc))
      have h3860 : TM T H3803 tm B := (TM_fr w3777 gtm f3808 rfl (TM_fr hW gtm f3778 rfl htm))
      have h3861 : DD T H3803 cu  := (DD_fr w3777 gcu f3808 rfl (DD_fr hW gcu f3778 rfl hcu))
      have h3862 : DD T H3803 dr  := (DD_fr w3777 gdr f3808 rfl (DD_fr hW gdr f3778 rfl hdr))
      have h3863 : DE T H3803 cu  := (DE_fr w3777 gcu f3808 rfl (DE_fr hW gcu f3778 rfl hdec))
      have h3864 : DE T H3803 dr  := (DE_fr w3777 gdr f3808 rfl (DE_fr hW gdr f3778 rfl hded))
      have h3865 : SP T H3803 x C8 := (SP_fr w3777 gx f3808 rfl (SP_fr hW gx f3778 rfl hsp))
      have h3866 : CU T H3803 cu (wq_u e8 13 (((H 0 ((i + 1).toNat)))).toNat 0) d8 n8 := (CU_fr w3777 gcu f3808 rfl a3785)
      have h3867 : CY T H3803 cu (d8 0 3) g8 (H cu 17) := (CY_fr w3777 gcu f3808 rfl (CY_fr hW gcu f3778 rfl h3769))
      exfalso
      omega
  · show WL _ _ _ _ 1414 [(4, vI i), (3, .ref o), (2, .ref m), (1, .ref x), (0, .ref 0)] [vI z3779] _ H3773
    have u3868 := CU_k a3788
    refine wl_of hX hb cL_1414 (rw_pop (pc' := 1415) rfl rfl ?_)
    refine wl_of hX hb cL_1415 (rw_aload_n (pc' := 1416) (v := .ref m) rfl rfl rfl ?_)
    refine wl_of hX hb cL_1416 (rw_aload_n (pc' := 1417) (v := .ref 0) rfl rfl rfl ?_)
    refine wl_of hX hb cL_1417 (rw_iload (pc' := 1419) (z := i) rfl rfl ?_)
    refine wl_of hX hb cL_1419 (rw_iconst (pc' := 1420) rfl ?_)
    refine wl_of hX hb cL_1420 (rw_iadd (pc' := 1421) rfl ?_)
    have k3871 : H3773 0 ((i + 1).toNat) = H 0 ((i + 1).toNat) := (f3778 0 ((i + 1).toNat) _ g0 (wmem_s rfl))
    refine wl_of hX hb cL_1421 (xa_I (so := 0) (pc' := 1422) (a := 0) w3777 g0 (wsh_s _) (by omega) (wty_s _ _) (by omega) (by omega) rfl (fun b3869 b3870 => ?_))
    have k3872 : wKI H3773 m = wKI H m := (wKI_fr hW gm f3778 rfl)
    have k3873 : H3773 x 9 = H x 9 := (f3778 x 9 _ gx rfl)
    have k3874 : H3773 m 6 = H m 6 := (f3778 m 6 _ gm rfl)
    have k3875 : H3773 x 11 = H x 11 := (f3778 x 11 _ gx rfl)
    have k3876 : H3773 m 13 = H m 13 := (f3778 m 13 _ gm rfl)
    have k3877 : H3773 x 8 = H x 8 := (f3778 x 8 _ gx rfl)
    have k3878 : H3773 m 3 = H m 3 := (f3778 m 3 _ gm rfl)
    rw [show H3773 0 ((i + 1).toNat) = H 0 ((i + 1).toNat) by omega]
    have h3879 : RB T H3773 m e8 d8 := (RB_fr hW gm f3778 rfl hrb8)
    refine wl_of hX hb cL_1422 (xc_V (pc' := 1425) (r := m) (as := [vI (H 0 ((i + 1).toNat))]) (st := []) (lm_11_191) rfl rfl (Nat.le_of_ble_eq_true rfl) w3777 gm sh_42 (by decide) rfl (by decide) (u_286 (e := e8) (d := d8) (y := ((H 0 ((i + 1).toNat)))) w3777 gm ⟨by omega, by omega⟩ (by omega) (by omega) h3879) (fun R3880 T3881 H3882 p3883 => ?_))
    obtain ⟨e3884, w3886, f3887, z3888, e3885, b3889, p3890⟩ := p3883
    subst e3884
    subst e3885
    rcases p3890 with ⟨a3891, a3892, a3893, a3894, a3895⟩ | ⟨a3896, a3897, a3898, a3899⟩
    · show WL _ _ _ _ 1425 [(4, vI i), (3, .ref o), (2, .ref m), (1, .ref x), (0, .ref 0)] [vI z3888] _ H3882
      refine wl_of hX hb cL_1425 (rw_pop (pc' := 1426) rfl rfl ?_)
      refine wl_of hX hb cL_1426 (rw_goto (p1 := 1653) (by decide) ?_)
      have k3900 : H3882 x 9 = H3773 x 9 := (f3887 x 9 _ gx rfl)
      have k3901 : H3882 m 6 = H3773 m 6 := (f3887 m 6 _ gm rfl)
      have k3902 : H3882 x 11 = H3773 x 11 := (f3887 x 11 _ gx rfl)
      have k3903 : H3882 m 13 = H3773 m 13 := (f3887 m 13 _ gm rfl)
      have k3904 : H3882 x 8 = H3773 x 8 := (f3887 x 8 _ gx rfl)
      have k3905 : H3882 m 3 = H3773 m 3 := (f3887 m 3 _ gm rfl)
      have k3906 : H3882 x 0 = H x 0 := ((f3887 x 0 _ gx rfl).trans (f3778 x 0 _ gx rfl))
      have q3907 : H3882 x 0 = (tc : Int) := k3906.trans e0
      have k3908 : H3882 m 5 = H m 5 := ((f3887 m 5 _ gm rfl).trans (f3778 m 5 _ gm rfl))
      have q3909 : H3882 m 5 = (tm : Int) := k3908.trans em
      have k3910 : H3882 x 6 = H x 6 := ((f3887 x 6 _ gx rfl).trans (f3778 x 6 _ gx rfl))
      have q3911 : H3882 x 6 = (cu : Int) := k3910.trans ecu
      have k3912 : H3882 x 7 = H x 7 := ((f3887 x 7 _ gx rfl).trans (f3778 x 7 _ gx rfl))
      have q3913 : H3882 x 7 = (dr : Int) := k3912.trans edr
      have h3914 : TP T H3882 tc B := (TP_fr w3777 gtc f3887 rfl (TP_fr hW gtc f3778 rfl htc))
      have h3915 : TM T H3882 tm B := (TM_fr w3777 gtm f3887 rfl (TM_fr hW gtm f3778 rfl htm))
      have h3916 : DD T H3882 cu  := (DD_fr w3777 gcu f3887 rfl (DD_fr hW gcu f3778 rfl hcu))
      have h3917 : DD T H3882 dr  := (DD_fr w3777 gdr f3887 rfl (DD_fr hW gdr f3778 rfl hdr))
      have h3918 : DE T H3882 cu  := (DE_fr w3777 gcu f3887 rfl (DE_fr hW gcu f3778 rfl hdec))
      have h3919 : DE T H3882 dr  := (DE_fr w3777 gdr f3887 rfl (DE_fr hW gdr f3778 rfl hded))
      have h3920 : SP T H3882 x C8 := (SP_fr w3777 gx f3887 rfl (SP_fr hW gx f3778 rfl hsp))
      have h3921 : CU T H3882 cu e8 d8 n8 := (CU_fr w3777 gcu f3887 rfl a3788)
      have h3922 : CY T H3882 cu (d8 0 3) g8 (H cu 17) := (CY_fr w3777 gcu f3887 rfl (CY_fr hW gcu f3778 rfl h3769))
      exfalso
      omega
    · show WL _ _ _ _ 1425 [(4, vI i), (3, .ref o), (2, .ref m), (1, .ref x), (0, .ref 0)] [vI z3888] _ H3882
      refine wl_of hX hb cL_1425 (rw_pop (pc' := 1426) rfl rfl ?_)
      refine wl_of hX hb cL_1426 (rw_goto (p1 := 1653) (by decide) ?_)
      have k3923 : H3882 x 9 = H3773 x 9 := (f3887 x 9 _ gx rfl)
      have k3924 : H3882 m 6 = H3773 m 6 := (f3887 m 6 _ gm rfl)
      have k3925 : H3882 x 11 = H3773 x 11 := (f3887 x 11 _ gx rfl)
      have k3926 : H3882 m 13 = H3773 m 13 := (f3887 m 13 _ gm rfl)
      have k3927 : H3882 x 8 = H3773 x 8 := (f3887 x 8 _ gx rfl)
      have k3928 : H3882 m 3 = H3773 m 3 := (f3887 m 3 _ gm rfl)
      have k3929 : H3882 x 0 = H x 0 := ((f3887 x 0 _ gx rfl).trans (f3778 x 0 _ gx rfl))
      have q3930 : H3882 x 0 = (tc : Int) := k3929.trans e0
      have k3931 : H3882 m 5 = H m 5 := ((f3887 m 5 _ gm rfl).trans (f3778 m 5 _ gm rfl))
      have q3932 : H3882 m 5 = (tm : Int) := k3931.trans em
      have k3933 : H3882 x 6 = H x 6 := ((f3887 x 6 _ gx rfl).trans (f3778 x 6 _ gx rfl))
      have q3934 : H3882 x 6 = (cu : Int) := k3933.trans ecu
      have k3935 : H3882 x 7 = H x 7 := ((f3887 x 7 _ gx rfl).trans (f3778 x 7 _ gx rfl))
      have q3936 : H3882 x 7 = (dr : Int) := k3935.trans edr
      have h3937 : TP T H3882 tc B := (TP_fr w3777 gtc f3887 rfl (TP_fr hW gtc f3778 rfl htc))
      have h3938 : TM T H3882 tm B := (TM_fr w3777 gtm f3887 rfl (TM_fr hW gtm f3778 rfl htm))
      have h3939 : DD T H3882 cu  := (DD_fr w3777 gcu f3887 rfl (DD_fr hW gcu f3778 rfl hcu))
      have h3940 : DD T H3882 dr  := (DD_fr w3777 gdr f3887 rfl (DD_fr hW gdr f3778 rfl hdr))
      have h3941 : DE T H3882 cu  := (DE_fr w3777 gcu f3887 rfl (DE_fr hW gcu f3778 rfl hdec))
      have h3942 : DE T H3882 dr  := (DE_fr w3777 gdr f3887 rfl (DE_fr hW gdr f3778 rfl hded))
      have h3943 : SP T H3882 x C8 := (SP_fr w3777 gx f3887 rfl (SP_fr hW gx f3778 rfl hsp))
      have h3944 : CU T H3882 cu e8 d8 n8 := (CU_fr w3777 gcu f3887 rfl a3788)
      have h3945 : CY T H3882 cu (d8 0 3) g8 (H cu 17) := (CY_fr w3777 gcu f3887 rfl (CY_fr hW gcu f3778 rfl h3769))
      have h3946 : RY T H3882 m (d8 0 3) g8 (H m 32) := (RY_fr w3777 gm f3887 rfl (RY_fr hW gm f3778 rfl h3770))
      exact WL.loc hX (by simp) (next T H3882 ⟨⟨w3886, g0, gx, gm, go, by omega, by omega⟩, ⟨_, tc, tm, cu, dr, _, _, _, _, _, q3930, gtc, h3937, q3932, gtm, h3938, q3934, gcu, q3936, gdr, h3939, h3940, h3941, h3942, h3943, hC1, hC2, h3944, a3899, (h3945).1, (h3946).1, hE, hZ, (by omega), (by assumption), (by omega), (by first | assumption | exact SG_0), gm⟩, by omega, by omega⟩ (by omega) (by omega))
set_option maxHeartbeats 4000000 in
theorem wl_c41 {kt : Nat → Option mc_E} {CB SB : Nat} {X : mc_S → Prop} {T : wq_T} {H : wq_H} {Len x m o : Nat} {i : Int} (hX : wlX kt CB SB X) (hb : T.2.1 ≤ CB ∧ T.2.2.1 ≤ SB) (hI : wlJ Len x m o T H) (hL : Len ≤ 3072) (hi : 0 ≤ i ∧ i + 6 ≤ Len) (hb2 : T.2.1 + 20 ≤ CB ∧ T.2.2.1 + 500 ≤ SB)  (next : ∀ T' H', wlJ Len x m o T' H' → T'.2.1 ≤ T.2.1 + 20 → T'.2.2.1 ≤ T.2.2.1 + 500 → WL kt CB SB X 1653 (wlL i x m o) [] T' H') : WL kt CB SB X 1429 (wlL i x m o) [] T H := by
  obtain ⟨⟨hW, g0, gx, gm, go, hK, hr⟩, hXI, hY1, hY2⟩ := hI
  refine wl_of hX hb cL_1429 (rw_aload_n (pc' := 1430) (v := .ref x) rfl rfl rfl ?_)
  refine wl_of hX hb cL_1430 (rw_aload_n (pc' := 1431) (v := .ref 0) rfl rfl rfl ?_)
  refine wl_of hX hb cL_1431 (rw_iload (pc' := 1433) (z := i) rfl rfl ?_)
  refine wl_of hX hb cL_1433 (rw_iconst (pc' := 1434) rfl ?_)
  refine wl_of hX hb cL_1434 (rw_iadd (pc' := 1435) rfl ?_)
  refine wl_of hX hb cL_1435 (xa_I (so := 0) (pc' := 1436) (a := 0) hW g0 (wsh_s _) (by omega) (wty_s _ _) (by omega) (by omega) rfl (fun b3947 b3948 => ?_))
  refine wl_of hX hb cL_1436 (xc_V (pc' := 1439) (r := x) (as := [vI (H 0 ((i + 1).toNat))]) (st := []) (lm_11_192) rfl rfl (Nat.le_of_ble_eq_true rfl) hW gx sh_1 (by decide) rfl (by decide) (s_155 hW gx ⟨by omega, by omega⟩) (fun R3949 T3950 H3951 p3952 => ?_))
  obtain ⟨e3953, w3955, f3956, z3957, e3954, b3958⟩ := p3952
  subst e3953
  subst e3954
  show WL _ _ _ _ 1439 [(4, vI i), (3, .ref o), (2, .ref m), (1, .ref x), (0, .ref 0)] [vI z3957] _ H3951
  refine wl_of hX hb cL_1439 (rw_pop (pc' := 1440) rfl rfl ?_)
  refine wl_of hX hb cL_1440 (rw_aload_n (pc' := 1441) (v := .ref m) rfl rfl rfl ?_)
  refine wl_of hX hb cL_1441 (rw_aload_n (pc' := 1442) (v := .ref 0) rfl rfl rfl ?_)
  refine wl_of hX hb cL_1442 (rw_iload (pc' := 1444) (z := i) rfl rfl ?_)
  refine wl_of hX hb cL_1444 (rw_iconst (pc' := 1445) rfl ?_)
  refine wl_of hX hb cL_1445 (rw_iadd (pc' := 1446) rfl ?_)
  have k3961 : H3951 0 ((i + 1).toNat) = H 0 ((i + 1).toNat) := (f3956 0 ((i + 1).toNat) _ g0 (wmem_s rfl))
  refine wl_of hX hb cL_1446 (xa_I (so := 0) (pc' := 1447) (a := 0) w3955 g0 (wsh_s _) (by omega) (wty_s _ _) (by omega) (by omega) rfl (fun b3959 b3960 => ?_))
  have k3962 : wKI H3951 m = wKI H m := (wKI_fr hW gm f3956 rfl)
  have k3963 : H3951 x 9 = H x 9 := (f3956 x 9 _ gx rfl)
  have k3964 : H3951 m 6 = H m 6 := (f3956 m 6 _ gm rfl)
  have k3965 : H3951 x 11 = H x 11 := (f3956 x 11 _ gx rfl)
  have k3966 : H3951 m 13 = H m 13 := (f3956 m 13 _ gm rfl)
  have k3967 : H3951 x 8 = H x 8 := (f3956 x 8 _ gx rfl)
  have k3968 : H3951 m 3 = H m 3 := (f3956 m 3 _ gm rfl)
  refine wl_of hX hb cL_1447 (xc_V (pc' := 1450) (r := m) (as := [vI (H3951 0 ((i + 1).toNat))]) (st := []) (lm_11_195) rfl rfl (Nat.le_of_ble_eq_true rfl) w3955 gm sh_42 (by decide) rfl (by decide) (s_287 w3955 gm ⟨by omega, by omega⟩ (by omega)) (fun R3969 T3970 H3971 p3972 => ?_))
  obtain ⟨e3973, w3975, f3976, z3978, e3974, b3979, p3977⟩ := p3972
  subst e3973
  subst e3974
  show WL _ _ _ _ 1450 [(4, vI i), (3, .ref o), (2, .ref m), (1, .ref x), (0, .ref 0)] [vI z3978] _ H3971
  refine wl_of hX hb cL_1450 (rw_pop (pc' := 1451) rfl rfl ?_)
  refine wl_of hX hb cL_1451 (rw_goto (p1 := 1653) (by decide) ?_)
  have k3980 : H3971 x 9 = H3951 x 9 := (f3976 x 9 _ gx rfl)
  have k3981 : H3971 m 6 = H3951 m 6 := (f3976 m 6 _ gm rfl)
  have k3982 : H3971 x 11 = H3951 x 11 := (f3976 x 11 _ gx rfl)
  have k3983 : H3971 m 13 = H3951 m 13 := (f3976 m 13 _ gm rfl)
  have k3984 : H3971 x 8 = H3951 x 8 := (f3976 x 8 _ gx rfl)
  have k3985 : H3971 m 3 = H3951 m 3 := (f3976 m 3 _ gm rfl)
  have h3986 : XI T H3971 x m := (XI_fr w3955 gx f3976 rfl (XI_fr hW gx f3956 rfl hXI))
  exact WL.loc hX (by simp) (next T H3971 ⟨⟨w3975, g0, gx, gm, go, by omega, by omega⟩, h3986, by omega, by omega⟩ (by omega) (by omega))
set_option maxHeartbeats 4000000 in
theorem wl_c42 {kt : Nat → Option mc_E} {CB SB : Nat} {X : mc_S → Prop} {T : wq_T} {H : wq_H} {Len x m o : Nat} {i : Int} (hX : wlX kt CB SB X) (hb : T.2.1 ≤ CB ∧ T.2.2.1 ≤ SB) (hI : wlJ Len x m o T H) (hL : Len ≤ 3072) (hi : 0 ≤ i ∧ i + 6 ≤ Len) (hb2 : T.2.1 + 20 ≤ CB ∧ T.2.2.1 + 500 ≤ SB)  (next : ∀ T' H', wlJ Len x m o T' H' → T'.2.1 ≤ T.2.1 + 20 → T'.2.2.1 ≤ T.2.2.1 + 500 → WL kt CB SB X 1653 (wlL i x m o) [] T' H') : WL kt CB SB X 1454 (wlL i x m o) [] T H := by
  obtain ⟨⟨hW, g0, gx, gm, go, hK, hr⟩, hXI, hY1, hY2⟩ := hI
  refine wl_of hX hb cL_1454 (rw_aload_n (pc' := 1455) (v := .ref x) rfl rfl rfl ?_)
  refine wl_of hX hb cL_1455 (xc_V (pc' := 1458) (r := x) (as := []) (st := []) (lm_11_196) rfl rfl (Nat.le_of_ble_eq_true rfl) hW gx sh_1 (by decide) rfl (by decide) (s_156 hW gx) (fun R3987 T3988 H3989 p3990 => ?_))
  obtain ⟨e3991, w3993, f3994, z3995, e3992, b3996⟩ := p3990
  subst e3991
  subst e3992
  show WL _ _ _ _ 1458 [(4, vI i), (3, .ref o), (2, .ref m), (1, .ref x), (0, .ref 0)] [vI z3995] _ H3989
  refine wl_of hX hb cL_1458 (rw_pop (pc' := 1459) rfl rfl ?_)
  refine wl_of hX hb cL_1459 (rw_aload_n (pc' := 1460) (v := .ref m) rfl rfl rfl ?_)
  have k3997 : wKI H3989 m = wKI H m := (wKI_fr hW gm f3994 rfl)
  have k3998 : H3989 x 9 = H x 9 := (f3994 x 9 _ gx rfl)
  have k3999 : H3989 m 6 = H m 6 := (f3994 m 6 _ gm rfl)
  have k4000 : H3989 x 11 = H x 11 := (f3994 x 11 _ gx rfl)
  have k4001 : H3989 m 13 = H m 13 := (f3994 m 13 _ gm rfl)
  have k4002 : H3989 x 8 = H x 8 := (f3994 x 8 _ gx rfl)
  have k4003 : H3989 m 3 = H m 3 := (f3994 m 3 _ gm rfl)
  refine wl_of hX hb cL_1460 (xc_V (pc' := 1463) (r := m) (as := []) (st := []) (lm_11_199) rfl rfl (Nat.le_of_ble_eq_true rfl) w3993 gm sh_42 (by decide) rfl (by decide) (s_288 w3993 gm (by omega)) (fun R4004 T4005 H4006 p4007 => ?_))
  obtain ⟨e4008, w4010, f4011, z4013, e4009, b4014, p4012⟩ := p4007
  subst e4008
  subst e4009
  show WL _ _ _ _ 1463 [(4, vI i), (3, .ref o), (2, .ref m), (1, .ref x), (0, .ref 0)] [vI z4013] _ H4006
  refine wl_of hX hb cL_1463 (rw_pop (pc' := 1464) rfl rfl ?_)
  refine wl_of hX hb cL_1464 (rw_goto (p1 := 1653) (by decide) ?_)
  have k4015 : H4006 x 9 = H3989 x 9 := (f4011 x 9 _ gx rfl)
  have k4016 : H4006 m 6 = H3989 m 6 := (f4011 m 6 _ gm rfl)
  have k4017 : H4006 x 11 = H3989 x 11 := (f4011 x 11 _ gx rfl)
  have k4018 : H4006 m 13 = H3989 m 13 := (f4011 m 13 _ gm rfl)
  have k4019 : H4006 x 8 = H3989 x 8 := (f4011 x 8 _ gx rfl)
  have k4020 : H4006 m 3 = H3989 m 3 := (f4011 m 3 _ gm rfl)
  have h4021 : XI T H4006 x m := (XI_fr w3993 gx f4011 rfl (XI_fr hW gx f3994 rfl hXI))
  exact WL.loc hX (by simp) (next T H4006 ⟨⟨w4010, g0, gx, gm, go, by omega, by omega⟩, h4021, by omega, by omega⟩ (by omega) (by omega))
set_option maxHeartbeats 4000000 in
theorem wl_c43 {kt : Nat → Option mc_E} {CB SB : Nat} {X : mc_S → Prop} {T : wq_T} {H : wq_H} {Len x m o : Nat} {i : Int} (hX : wlX kt CB SB X) (hb : T.2.1 ≤ CB ∧ T.2.2.1 ≤ SB) (hI : wlJ Len x m o T H) (hL : Len ≤ 3072) (hi : 0 ≤ i ∧ i + 6 ≤ Len) (hb2 : T.2.1 + 20 ≤ CB ∧ T.2.2.1 + 500 ≤ SB)  (next : ∀ T' H', wlJ Len x m o T' H' → T'.2.1 ≤ T.2.1 + 20 → T'.2.2.1 ≤ T.2.2.1 + 500 → WL kt CB SB X 1653 (wlL i x m o) [] T' H') : WL kt CB SB X 1467 (wlL i x m o) [] T H := by
  obtain ⟨⟨hW, g0, gx, gm, go, hK, hr⟩, hXI, hY1, hY2⟩ := hI
  refine wl_of hX hb cL_1467 (rw_aload_n (pc' := 1468) (v := .ref x) rfl rfl rfl ?_)
  refine wl_of hX hb cL_1468 (rw_aload_n (pc' := 1469) (v := .ref 0) rfl rfl rfl ?_)
  refine wl_of hX hb cL_1469 (rw_iload (pc' := 1471) (z := i) rfl rfl ?_)
  refine wl_of hX hb cL_1471 (rw_iconst (pc' := 1472) rfl ?_)
  refine wl_of hX hb cL_1472 (rw_iadd (pc' := 1473) rfl ?_)
  refine wl_of hX hb cL_1473 (xa_I (so := 0) (pc' := 1474) (a := 0) hW g0 (wsh_s _) (by omega) (wty_s _ _) (by omega) (by omega) rfl (fun b4022 b4023 => ?_))
  refine wl_of hX hb cL_1474 (rw_aload_n (pc' := 1475) (v := .ref 0) rfl rfl rfl ?_)
  refine wl_of hX hb cL_1475 (rw_iload (pc' := 1477) (z := i) rfl rfl ?_)
  refine wl_of hX hb cL_1477 (rw_iconst (pc' := 1478) rfl ?_)
  refine wl_of hX hb cL_1478 (rw_iadd (pc' := 1479) rfl ?_)
  refine wl_of hX hb cL_1479 (xa_I (so := 0) (pc' := 1480) (a := 0) hW g0 (wsh_s _) (by omega) (wty_s _ _) (by omega) (by omega) rfl (fun b4024 b4025 => ?_))
  refine wl_of hX hb cL_1480 (xc_V (pc' := 1483) (r := x) (as := [vI (H 0 ((i + 1).toNat)), vI (H 0 ((i + 2).toNat))]) (st := []) (lm_11_200) rfl rfl (Nat.le_of_ble_eq_true rfl) hW gx sh_1 (by decide) rfl (by decide) (s_157 hW gx ⟨by omega, by omega⟩ ⟨by omega, by omega⟩) (fun R4026 T4027 H4028 p4029 => ?_))
  obtain ⟨e4030, w4032, f4033, z4034, e4031, b4035⟩ := p4029
  subst e4030
  subst e4031
  show WL _ _ _ _ 1483 [(4, vI i), (3, .ref o), (2, .ref m), (1, .ref x), (0, .ref 0)] [vI z4034] _ H4028
  refine wl_of hX hb cL_1483 (rw_pop (pc' := 1484) rfl rfl ?_)
  refine wl_of hX hb cL_1484 (rw_aload_n (pc' := 1485) (v := .ref m) rfl rfl rfl ?_)
  refine wl_of hX hb cL_1485 (rw_aload_n (pc' := 1486) (v := .ref 0) rfl rfl rfl ?_)
  refine wl_of hX hb cL_1486 (rw_iload (pc' := 1488) (z := i) rfl rfl ?_)
  refine wl_of hX hb cL_1488 (rw_iconst (pc' := 1489) rfl ?_)
  refine wl_of hX hb cL_1489 (rw_iadd (pc' := 1490) rfl ?_)
  have k4038 : H4028 0 ((i + 1).toNat) = H 0 ((i + 1).toNat) := (f4033 0 ((i + 1).toNat) _ g0 (wmem_s rfl))
  refine wl_of hX hb cL_1490 (xa_I (so := 0) (pc' := 1491) (a := 0) w4032 g0 (wsh_s _) (by omega) (wty_s _ _) (by omega) (by omega) rfl (fun b4036 b4037 => ?_))
  refine wl_of hX hb cL_1491 (rw_aload_n (pc' := 1492) (v := .ref 0) rfl rfl rfl ?_)
  refine wl_of hX hb cL_1492 (rw_iload (pc' := 1494) (z := i) rfl rfl ?_)
  refine wl_of hX hb cL_1494 (rw_iconst (pc' := 1495) rfl ?_)
  refine wl_of hX hb cL_1495 (rw_iadd (pc' := 1496) rfl ?_)
  have k4041 : H4028 0 ((i + 2).toNat) = H 0 ((i + 2).toNat) := (f4033 0 ((i + 2).toNat) _ g0 (wmem_s rfl))
  refine wl_of hX hb cL_1496 (xa_I (so := 0) (pc' := 1497) (a := 0) w4032 g0 (wsh_s _) (by omega) (wty_s _ _) (by omega) (by omega) rfl (fun b4039 b4040 => ?_))
  have k4042 : wKI H4028 m = wKI H m := (wKI_fr hW gm f4033 rfl)
  have k4043 : H4028 x 9 = H x 9 := (f4033 x 9 _ gx rfl)
  have k4044 : H4028 m 6 = H m 6 := (f4033 m 6 _ gm rfl)
  have k4045 : H4028 x 11 = H x 11 := (f4033 x 11 _ gx rfl)
  have k4046 : H4028 m 13 = H m 13 := (f4033 m 13 _ gm rfl)
  have k4047 : H4028 x 8 = H x 8 := (f4033 x 8 _ gx rfl)
  have k4048 : H4028 m 3 = H m 3 := (f4033 m 3 _ gm rfl)
  refine wl_of hX hb cL_1497 (xc_V (pc' := 1500) (r := m) (as := [vI (H4028 0 ((i + 1).toNat)), vI (H4028 0 ((i + 2).toNat))]) (st := []) (lm_11_203) rfl rfl (Nat.le_of_ble_eq_true rfl) w4032 gm sh_42 (by decide) rfl (by decide) (s_289 w4032 gm ⟨by omega, by omega⟩ ⟨by omega, by omega⟩ (by omega)) (fun R4049 T4050 H4051 p4052 => ?_))
  obtain ⟨e4053, w4055, f4056, z4058, e4054, b4059, p4057⟩ := p4052
  subst e4053
  subst e4054
  show WL _ _ _ _ 1500 [(4, vI i), (3, .ref o), (2, .ref m), (1, .ref x), (0, .ref 0)] [vI z4058] _ H4051
  refine wl_of hX hb cL_1500 (rw_pop (pc' := 1501) rfl rfl ?_)
  refine wl_of hX hb cL_1501 (rw_goto (p1 := 1653) (by decide) ?_)
  have k4060 : H4051 x 9 = H4028 x 9 := (f4056 x 9 _ gx rfl)
  have k4061 : H4051 m 6 = H4028 m 6 := (f4056 m 6 _ gm rfl)
  have k4062 : H4051 x 11 = H4028 x 11 := (f4056 x 11 _ gx rfl)
  have k4063 : H4051 m 13 = H4028 m 13 := (f4056 m 13 _ gm rfl)
  have k4064 : H4051 x 8 = H4028 x 8 := (f4056 x 8 _ gx rfl)
  have k4065 : H4051 m 3 = H4028 m 3 := (f4056 m 3 _ gm rfl)
  have h4066 : XI T H4051 x m := (XI_fr w4032 gx f4056 rfl (XI_fr hW gx f4033 rfl hXI))
  exact WL.loc hX (by simp) (next T H4051 ⟨⟨w4055, g0, gx, gm, go, by omega, by omega⟩, h4066, by omega, by omega⟩ (by omega) (by omega))
set_option maxHeartbeats 4000000 in
theorem wl_c44 {kt : Nat → Option mc_E} {CB SB : Nat} {X : mc_S → Prop} {T : wq_T} {H : wq_H} {Len x m o : Nat} {i : Int} (hX : wlX kt CB SB X) (hb : T.2.1 ≤ CB ∧ T.2.2.1 ≤ SB) (hI : wlJ Len x m o T H) (hL : Len ≤ 3072) (hi : 0 ≤ i ∧ i + 6 ≤ Len) (hb2 : T.2.1 + 20 ≤ CB ∧ T.2.2.1 + 500 ≤ SB)  (next : ∀ T' H', wlJ Len x m o T' H' → T'.2.1 ≤ T.2.1 + 20 → T'.2.2.1 ≤ T.2.2.1 + 500 → WL kt CB SB X 1653 (wlL i x m o) [] T' H') : WL kt CB SB X 1504 (wlL i x m o) [] T H := by
  obtain ⟨⟨hW, g0, gx, gm, go, hK, hr⟩, hXI, hY1, hY2⟩ := hI
  refine wl_of hX hb cL_1504 (rw_aload_n (pc' := 1505) (v := .ref x) rfl rfl rfl ?_)
  refine wl_of hX hb cL_1505 (xc_V (pc' := 1508) (r := x) (as := []) (st := []) (lm_11_204) rfl rfl (Nat.le_of_ble_eq_true rfl) hW gx sh_1 (by decide) rfl (by decide) (s_158 hW gx) (fun R4067 T4068 H4069 p4070 => ?_))
  obtain ⟨e4071, w4073, f4074, z4075, e4072, b4076⟩ := p4070
  subst e4071
  subst e4072
  show WL _ _ _ _ 1508 [(4, vI i), (3, .ref o), (2, .ref m), (1, .ref x), (0, .ref 0)] [vI z4075] _ H4069
  refine wl_of hX hb cL_1508 (rw_pop (pc' := 1509) rfl rfl ?_)
  refine wl_of hX hb cL_1509 (rw_aload_n (pc' := 1510) (v := .ref m) rfl rfl rfl ?_)
  have k4077 : wKI H4069 m = wKI H m := (wKI_fr hW gm f4074 rfl)
  have k4078 : H4069 x 9 = H x 9 := (f4074 x 9 _ gx rfl)
  have k4079 : H4069 m 6 = H m 6 := (f4074 m 6 _ gm rfl)
  have k4080 : H4069 x 11 = H x 11 := (f4074 x 11 _ gx rfl)
  have k4081 : H4069 m 13 = H m 13 := (f4074 m 13 _ gm rfl)
  have k4082 : H4069 x 8 = H x 8 := (f4074 x 8 _ gx rfl)
  have k4083 : H4069 m 3 = H m 3 := (f4074 m 3 _ gm rfl)
  refine wl_of hX hb cL_1510 (xc_V (pc' := 1513) (r := m) (as := []) (st := []) (lm_11_208) rfl rfl (Nat.le_of_ble_eq_true rfl) w4073 gm sh_42 (by decide) rfl (by decide) (s_290 w4073 gm (by omega)) (fun R4084 T4085 H4086 p4087 => ?_))
  obtain ⟨e4088, w4090, f4091, z4093, e4089, b4094, p4092⟩ := p4087
  subst e4088
  subst e4089
  show WL _ _ _ _ 1513 [(4, vI i), (3, .ref o), (2, .ref m), (1, .ref x), (0, .ref 0)] [vI z4093] _ H4086
  refine wl_of hX hb cL_1513 (rw_pop (pc' := 1514) rfl rfl ?_)
  refine wl_of hX hb cL_1514 (rw_goto (p1 := 1653) (by decide) ?_)
  have k4095 : H4086 x 9 = H4069 x 9 := (f4091 x 9 _ gx rfl)
  have k4096 : H4086 m 6 = H4069 m 6 := (f4091 m 6 _ gm rfl)
  have k4097 : H4086 x 11 = H4069 x 11 := (f4091 x 11 _ gx rfl)
  have k4098 : H4086 m 13 = H4069 m 13 := (f4091 m 13 _ gm rfl)
  have k4099 : H4086 x 8 = H4069 x 8 := (f4091 x 8 _ gx rfl)
  have k4100 : H4086 m 3 = H4069 m 3 := (f4091 m 3 _ gm rfl)
  have h4101 : XI T H4086 x m := (XI_fr w4073 gx f4091 rfl (XI_fr hW gx f4074 rfl hXI))
  exact WL.loc hX (by simp) (next T H4086 ⟨⟨w4090, g0, gx, gm, go, by omega, by omega⟩, h4101, by omega, by omega⟩ (by omega) (by omega))
set_option maxHeartbeats 4000000 in
theorem wl_c45 {kt : Nat → Option mc_E} {CB SB : Nat} {X : mc_S → Prop} {T : wq_T} {H : wq_H} {Len x m o : Nat} {i : Int} (hX : wlX kt CB SB X) (hb : T.2.1 ≤ CB ∧ T.2.2.1 ≤ SB) (hI : wlJ Len x m o T H) (hL : Len ≤ 3072) (hi : 0 ≤ i ∧ i + 6 ≤ Len) (hb2 : T.2.1 + 20 ≤ CB ∧ T.2.2.1 + 500 ≤ SB)  (next : ∀ T' H', wlJ Len x m o T' H' → T'.2.1 ≤ T.2.1 + 20 → T'.2.2.1 ≤ T.2.2.1 + 500 → WL kt CB SB X 1653 (wlL i x m o) [] T' H') : WL kt CB SB X 1517 (wlL i x m o) [] T H := by
  obtain ⟨⟨hW, g0, gx, gm, go, hK, hr⟩, hXI, hY1, hY2⟩ := hI
  refine wl_of hX hb cL_1517 (rw_aload_n (pc' := 1518) (v := .ref x) rfl rfl rfl ?_)
  refine wl_of hX hb cL_1518 (xc_V (pc' := 1521) (r := x) (as := []) (st := []) (lm_11_209) rfl rfl (Nat.le_of_ble_eq_true rfl) hW gx sh_1 (by decide) rfl (by decide) (s_159 hW gx) (fun R4102 T4103 H4104 p4105 => ?_))
  obtain ⟨e4106, w4108, f4109, z4110, e4107, b4111⟩ := p4105
  subst e4106
  subst e4107
  show WL _ _ _ _ 1521 [(4, vI i), (3, .ref o), (2, .ref m), (1, .ref x), (0, .ref 0)] [vL z4110] _ H4104
  refine wl_of hX hb cL_1521 (rw_pop2 (pc' := 1522) rfl rfl ?_)
  refine wl_of hX hb cL_1522 (rw_aload_n (pc' := 1523) (v := .ref m) rfl rfl rfl ?_)
  have k4112 : wKI H4104 m = wKI H m := (wKI_fr hW gm f4109 rfl)
  have k4113 : H4104 x 9 = H x 9 := (f4109 x 9 _ gx rfl)
  have k4114 : H4104 m 6 = H m 6 := (f4109 m 6 _ gm rfl)
  have k4115 : H4104 x 11 = H x 11 := (f4109 x 11 _ gx rfl)
  have k4116 : H4104 m 13 = H m 13 := (f4109 m 13 _ gm rfl)
  have k4117 : H4104 x 8 = H x 8 := (f4109 x 8 _ gx rfl)
  have k4118 : H4104 m 3 = H m 3 := (f4109 m 3 _ gm rfl)
  refine wl_of hX hb cL_1523 (xc_V (pc' := 1526) (r := m) (as := []) (st := []) (lm_11_212) rfl rfl (Nat.le_of_ble_eq_true rfl) w4108 gm sh_42 (by decide) rfl (by decide) (s_291 w4108 gm (by omega)) (fun R4119 T4120 H4121 p4122 => ?_))
  obtain ⟨e4123, w4125, f4126, z4128, e4124, b4129, p4127⟩ := p4122
  subst e4123
  subst e4124
  show WL _ _ _ _ 1526 [(4, vI i), (3, .ref o), (2, .ref m), (1, .ref x), (0, .ref 0)] [vL z4128] _ H4121
  refine wl_of hX hb cL_1526 (rw_pop2 (pc' := 1527) rfl rfl ?_)
  refine wl_of hX hb cL_1527 (rw_goto (p1 := 1653) (by decide) ?_)
  have k4130 : H4121 x 9 = H4104 x 9 := (f4126 x 9 _ gx rfl)
  have k4131 : H4121 m 6 = H4104 m 6 := (f4126 m 6 _ gm rfl)
  have k4132 : H4121 x 11 = H4104 x 11 := (f4126 x 11 _ gx rfl)
  have k4133 : H4121 m 13 = H4104 m 13 := (f4126 m 13 _ gm rfl)
  have k4134 : H4121 x 8 = H4104 x 8 := (f4126 x 8 _ gx rfl)
  have k4135 : H4121 m 3 = H4104 m 3 := (f4126 m 3 _ gm rfl)
  have h4136 : XI T H4121 x m := (XI_fr w4108 gx f4126 rfl (XI_fr hW gx f4109 rfl hXI))
  exact WL.loc hX (by simp) (next T H4121 ⟨⟨w4125, g0, gx, gm, go, by omega, by omega⟩, h4136, by omega, by omega⟩ (by omega) (by omega))
set_option maxHeartbeats 4000000 in
theorem wl_c46 {kt : Nat → Option mc_E} {CB SB : Nat} {X : mc_S → Prop} {T : wq_T} {H : wq_H} {Len x m o : Nat} {i : Int} (hX : wlX kt CB SB X) (hb : T.2.1 ≤ CB ∧ T.2.2.1 ≤ SB) (hI : wlJ Len x m o T H) (hL : Len ≤ 3072) (hi : 0 ≤ i ∧ i + 6 ≤ Len) (hb2 : T.2.1 + 20 ≤ CB ∧ T.2.2.1 + 500 ≤ SB)  (next : ∀ T' H', wlJ Len x m o T' H' → T'.2.1 ≤ T.2.1 + 20 → T'.2.2.1 ≤ T.2.2.1 + 500 → WL kt CB SB X 1653 (wlL i x m o) [] T' H') : WL kt CB SB X 1530 (wlL i x m o) [] T H := by
  obtain ⟨⟨hW, g0, gx, gm, go, hK, hr⟩, hXI, hY1, hY2⟩ := hI
  refine wl_of hX hb cL_1530 (rw_aload_n (pc' := 1531) (v := .ref x) rfl rfl rfl ?_)
  refine wl_of hX hb cL_1531 (rw_aload_n (pc' := 1532) (v := .ref 0) rfl rfl rfl ?_)
  refine wl_of hX hb cL_1532 (rw_iload (pc' := 1534) (z := i) rfl rfl ?_)
  refine wl_of hX hb cL_1534 (rw_iconst (pc' := 1535) rfl ?_)
  refine wl_of hX hb cL_1535 (rw_iadd (pc' := 1536) rfl ?_)
  refine wl_of hX hb cL_1536 (xa_I (so := 0) (pc' := 1537) (a := 0) hW g0 (wsh_s _) (by omega) (wty_s _ _) (by omega) (by omega) rfl (fun b4137 b4138 => ?_))
  refine wl_of hX hb cL_1537 (rw_i2l (pc' := 1538) rfl ⟨by omega, by omega⟩ ?_)
  refine wl_of hX hb cL_1538 (rw_bipush (pc' := 1540) (z := 32) rfl (by decide) ?_)
  refine wl_of hX hb cL_1540 (rw_lshl (pc' := 1541) rfl ?_)
  obtain ⟨v4139, e4140⟩ : ∃ x : Int, x = wl_shl (H 0 ((i + 1).toNat)) 32 := ⟨_, rfl⟩
  rw [← e4140]
  have b4141 : -9223372036854775808 ≤ v4139 ∧ v4139 ≤ 9223372036854775807 := by
    rw [e4140]
    exact wL_shl _ _
  refine wl_of hX hb cL_1541 (rw_aload_n (pc' := 1542) (v := .ref 0) rfl rfl rfl ?_)
  refine wl_of hX hb cL_1542 (rw_iload (pc' := 1544) (z := i) rfl rfl ?_)
  refine wl_of hX hb cL_1544 (rw_iconst (pc' := 1545) rfl ?_)
  refine wl_of hX hb cL_1545 (rw_iadd (pc' := 1546) rfl ?_)
  refine wl_of hX hb cL_1546 (xa_I (so := 0) (pc' := 1547) (a := 0) hW g0 (wsh_s _) (by omega) (wty_s _ _) (by omega) (by omega) rfl (fun b4142 b4143 => ?_))
  refine wl_of hX hb cL_1547 (rw_i2l (pc' := 1548) rfl ⟨by omega, by omega⟩ ?_)
  refine wl_of hX hb cL_1548 (rw_ldc2 (pc' := 1551) (z := 4294967295) rfl rfl rfl ?_)
  refine wl_of hX hb cL_1551 (rw_land (pc' := 1552) rfl ?_)
  obtain ⟨v4144, e4145⟩ : ∃ x : Int, x = wl_and (H 0 ((i + 2).toNat)) 4294967295 := ⟨_, rfl⟩
  rw [← e4145]
  have b4146 : -9223372036854775808 ≤ v4144 ∧ v4144 ≤ 9223372036854775807 := by
    rw [e4145]
    exact wL_and _ _
  refine wl_of hX hb cL_1552 (rw_lor (pc' := 1553) rfl ?_)
  obtain ⟨v4147, e4148⟩ : ∃ x : Int, x = wl_or v4139 v4144 := ⟨_, rfl⟩
  rw [← e4148]
  have b4149 : -9223372036854775808 ≤ v4147 ∧ v4147 ≤ 9223372036854775807 := by
    rw [e4148]
    exact wL_or _ _
  obtain ⟨B, tc, tm, cu, dr, C8, e8, d8, n8, g8, e0, gtc, htc, em, gtm, htm, ecu, gcu, edr, gdr, hcu, hdr, hdec, hded, hsp, hC1, hC2, hcu8, hrb8, hcg8, hmn8, hE, hZ, hn8, hXA, hV8, hSG, -⟩ := hXI
  have hN3 := RB_n3 hrb8
  have hE13 : ∀ h : Nat, h < 24 → 0 ≤ e8 13 h ∧ e8 13 h ≤ 100 := fun k hk => by
    obtain ⟨s, h1, h2, h3⟩ := hcu8.1.2.2.1
    exact ⟨(h3 k hk).1, (h3 k hk).2.1⟩
  have hXW := hXA.1
  have hXN := hXA.2
  have hE0 : e8 0 3 = d8 0 3 ∧ e8 0 0 = d8 0 0 := by
    have h := hE 0 (by decide)
    exact ⟨congrFun h 3, congrFun h 0⟩
  have u4150 := CU_k hcu8
  have h4151 : CY T H cu (d8 0 3) g8 (H cu 17) := ⟨hcg8, rfl⟩
  have h4152 : RY T H m (d8 0 3) g8 (H m 32) := ⟨hmn8, rfl⟩
  obtain ⟨t9, ht9⟩ : ∃ t : Int, t = H x 9 := ⟨_, rfl⟩
  refine wl_of hX hb cL_1553 (xc_V (pc' := 1556) (r := x) (as := [vL v4147]) (st := []) (lm_11_215) rfl rfl (Nat.le_of_ble_eq_true rfl) hW gx sh_1 (by decide) rfl (by decide) (u_161 (e := e8) (d := d8) (n := n8) (nY := ((d8 0 3))) (gY := g8) (cY := ((H cu 17))) hW gx ⟨b4149.1, b4149.2⟩ ecu gcu (by omega) (by omega) (by omega) hcu8 h4151 hcu) (fun R4153 T4154 H4155 p4156 => ?_))
  obtain ⟨e4157, w4159, f4160, z4161, e4158, b4162, p4163⟩ := p4156
  subst e4157
  subst e4158
  rcases p4163 with ⟨a4164, a4165, a4166, a4167, a4168⟩ | ⟨a4169, a4170, a4171⟩
  · show WL _ _ _ _ 1556 [(4, vI i), (3, .ref o), (2, .ref m), (1, .ref x), (0, .ref 0)] [vI z4161] _ H4155
    refine wl_of hX hb cL_1556 (rw_pop (pc' := 1557) rfl rfl ?_)
    refine wl_of hX hb cL_1557 (rw_aload_n (pc' := 1558) (v := .ref m) rfl rfl rfl ?_)
    refine wl_of hX hb cL_1558 (rw_aload_n (pc' := 1559) (v := .ref 0) rfl rfl rfl ?_)
    refine wl_of hX hb cL_1559 (rw_iload (pc' := 1561) (z := i) rfl rfl ?_)
    refine wl_of hX hb cL_1561 (rw_iconst (pc' := 1562) rfl ?_)
    refine wl_of hX hb cL_1562 (rw_iadd (pc' := 1563) rfl ?_)
    have k4174 : H4155 0 ((i + 1).toNat) = H 0 ((i + 1).toNat) := (f4160 0 ((i + 1).toNat) _ g0 (wmem_s rfl))
    refine wl_of hX hb cL_1563 (xa_I (so := 0) (pc' := 1564) (a := 0) w4159 g0 (wsh_s _) (by omega) (wty_s _ _) (by omega) (by omega) rfl (fun b4172 b4173 => ?_))
    refine wl_of hX hb cL_1564 (rw_i2l (pc' := 1565) rfl ⟨by omega, by omega⟩ ?_)
    refine wl_of hX hb cL_1565 (rw_bipush (pc' := 1567) (z := 32) rfl (by decide) ?_)
    refine wl_of hX hb cL_1567 (rw_lshl (pc' := 1568) rfl ?_)
    obtain ⟨v4175, e4176⟩ : ∃ x : Int, x = wl_shl (H4155 0 ((i + 1).toNat)) 32 := ⟨_, rfl⟩
    rw [← e4176]
    have b4177 : -9223372036854775808 ≤ v4175 ∧ v4175 ≤ 9223372036854775807 := by
      rw [e4176]
      exact wL_shl _ _
    refine wl_of hX hb cL_1568 (rw_aload_n (pc' := 1569) (v := .ref 0) rfl rfl rfl ?_)
    refine wl_of hX hb cL_1569 (rw_iload (pc' := 1571) (z := i) rfl rfl ?_)
    refine wl_of hX hb cL_1571 (rw_iconst (pc' := 1572) rfl ?_)
    refine wl_of hX hb cL_1572 (rw_iadd (pc' := 1573) rfl ?_)
    have k4180 : H4155 0 ((i + 2).toNat) = H 0 ((i + 2).toNat) := (f4160 0 ((i + 2).toNat) _ g0 (wmem_s rfl))
    refine wl_of hX hb cL_1573 (xa_I (so := 0) (pc' := 1574) (a := 0) w4159 g0 (wsh_s _) (by omega) (wty_s _ _) (by omega) (by omega) rfl (fun b4178 b4179 => ?_))
    refine wl_of hX hb cL_1574 (rw_i2l (pc' := 1575) rfl ⟨by omega, by omega⟩ ?_)
    refine wl_of hX hb cL_1575 (rw_ldc2 (pc' := 1578) (z := 4294967295) rfl rfl rfl ?_)
    refine wl_of hX hb cL_1578 (rw_land (pc' := 1579) rfl ?_)
    obtain ⟨v4181, e4182⟩ : ∃ x : Int, x = wl_and (H4155 0 ((i + 2).toNat)) 4294967295 := ⟨_, rfl⟩
    rw [← e4182]
    have b4183 : -9223372036854775808 ≤ v4181 ∧ v4181 ≤ 9223372036854775807 := by
      rw [e4182]
      exact wL_and _ _
    refine wl_of hX hb cL_1579 (rw_lor (pc' := 1580) rfl ?_)
    obtain ⟨v4184, e4185⟩ : ∃ x : Int, x = wl_or v4175 v4181 := ⟨_, rfl⟩
    rw [← e4185]
    have b4186 : -9223372036854775808 ≤ v4184 ∧ v4184 ≤ 9223372036854775807 := by
      rw [e4185]
      exact wL_or _ _
    have k4187 : wKI H4155 m = wKI H m := (wKI_fr hW gm f4160 rfl)
    have k4188 : H4155 x 9 = H x 9 := (f4160 x 9 _ gx rfl)
    have k4189 : H4155 m 6 = H m 6 := (f4160 m 6 _ gm rfl)
    have k4190 : H4155 x 11 = H x 11 := (f4160 x 11 _ gx rfl)
    have k4191 : H4155 m 13 = H m 13 := (f4160 m 13 _ gm rfl)
    have k4192 : H4155 x 8 = H x 8 := (f4160 x 8 _ gx rfl)
    have k4193 : H4155 m 3 = H m 3 := (f4160 m 3 _ gm rfl)
    have rs9 : v4184 = v4147 := by
      rw [e4185, e4176, e4182, e4148, e4140, e4145, show H4155 0 ((i + 1).toNat) = H 0 ((i + 1).toNat) by omega, show H4155 0 ((i + 2).toNat) = H 0 ((i + 2).toNat) by omega]
    rw [rs9]
    have h4194 : RB T H4155 m e8 d8 := (RB_fr hW gm f4160 rfl hrb8)
    have h4195 : RY T H4155 m (d8 0 3) g8 (H m 32) := (RY_fr hW gm f4160 rfl h4152)
    refine wl_of hX hb cL_1580 (xc_V (pc' := 1583) (r := m) (as := [vL v4147]) (st := []) (lm_11_219) rfl rfl (Nat.le_of_ble_eq_true rfl) w4159 gm sh_42 (by decide) rfl (by decide) (u_292 (e := e8) (d := d8) (nY := ((d8 0 3))) (gY := g8) (cY := ((H m 32))) w4159 gm ⟨b4149.1, b4149.2⟩ (by omega) h4194 h4195) (fun R4196 T4197 H4198 p4199 => ?_))
    obtain ⟨e4200, w4202, f4203, z4204, e4201, b4205, p4206⟩ := p4199
    subst e4200
    subst e4201
    rcases p4206 with ⟨a4207, a4208, a4209, a4210⟩ | ⟨a4211, a4212, a4213⟩
    · show WL _ _ _ _ 1583 [(4, vI i), (3, .ref o), (2, .ref m), (1, .ref x), (0, .ref 0)] [vI z4204] _ H4198
      refine wl_of hX hb cL_1583 (rw_pop (pc' := 1584) rfl rfl ?_)
      refine wl_of hX hb cL_1584 (rw_goto (p1 := 1653) (by decide) ?_)
      have k4214 : wKI H4198 m = wKI H4155 m := (wKI_fr w4159 gm f4203 rfl)
      have k4215 : H4198 x 9 = H4155 x 9 := (f4203 x 9 _ gx rfl)
      have k4216 : H4198 m 6 = H4155 m 6 := (f4203 m 6 _ gm rfl)
      have k4217 : H4198 x 11 = H4155 x 11 := (f4203 x 11 _ gx rfl)
      have k4218 : H4198 m 13 = H4155 m 13 := (f4203 m 13 _ gm rfl)
      have k4219 : H4198 x 8 = H4155 x 8 := (f4203 x 8 _ gx rfl)
      have k4220 : H4198 m 3 = H4155 m 3 := (f4203 m 3 _ gm rfl)
      have k4221 : H4198 x 0 = H x 0 := ((f4203 x 0 _ gx rfl).trans (f4160 x 0 _ gx rfl))
      have q4222 : H4198 x 0 = (tc : Int) := k4221.trans e0
      have k4223 : H4198 m 5 = H m 5 := ((f4203 m 5 _ gm rfl).trans (f4160 m 5 _ gm rfl))
      have q4224 : H4198 m 5 = (tm : Int) := k4223.trans em
      have k4225 : H4198 x 6 = H x 6 := ((f4203 x 6 _ gx rfl).trans (f4160 x 6 _ gx rfl))
      have q4226 : H4198 x 6 = (cu : Int) := k4225.trans ecu
      have k4227 : H4198 x 7 = H x 7 := ((f4203 x 7 _ gx rfl).trans (f4160 x 7 _ gx rfl))
      have q4228 : H4198 x 7 = (dr : Int) := k4227.trans edr
      have h4229 : TP T H4198 tc B := (TP_fr w4159 gtc f4203 rfl (TP_fr hW gtc f4160 rfl htc))
      have h4230 : TM T H4198 tm B := (TM_fr w4159 gtm f4203 rfl (TM_fr hW gtm f4160 rfl htm))
      have h4231 : DD T H4198 cu  := (DD_fr w4159 gcu f4203 rfl (DD_fr hW gcu f4160 rfl hcu))
      have h4232 : DD T H4198 dr  := (DD_fr w4159 gdr f4203 rfl (DD_fr hW gdr f4160 rfl hdr))
      have h4233 : DE T H4198 cu  := (DE_fr w4159 gcu f4203 rfl (DE_fr hW gcu f4160 rfl hdec))
      have h4234 : DE T H4198 dr  := (DE_fr w4159 gdr f4203 rfl (DE_fr hW gdr f4160 rfl hded))
      have h4235 : SP T H4198 x C8 := (SP_fr w4159 gx f4203 rfl (SP_fr hW gx f4160 rfl hsp))
      have h4236 : CU T H4198 cu e8 d8 n8 := (CU_fr w4159 gcu f4203 rfl (CU_fr hW gcu f4160 rfl hcu8))
      have h4237 : CY T H4198 cu ((d8 0 3)) (xdg d8 v4147) (wdv (d8 0 3).toNat v4147) := (CY_fr w4159 gcu f4203 rfl a4168)
      have h4238 : RB T H4198 m e8 d8 := (RB_fr w4159 gm f4203 rfl h4194)
      exact WL.loc hX (by simp) (next T H4198 ⟨⟨w4202, g0, gx, gm, go, by omega, by omega⟩, ⟨_, tc, tm, cu, dr, _, _, _, _, _, q4222, gtc, h4229, q4224, gtm, h4230, q4226, gcu, q4228, gdr, h4231, h4232, h4233, h4234, h4235, hC1, hC2, h4236, h4238, (h4237).1, (a4210).1, hE, hZ, (by omega), (by assumption), (by omega), (by first | assumption | exact SG_0), gm⟩, by omega, by omega⟩ (by omega) (by omega))
    · show WL _ _ _ _ 1583 [(4, vI i), (3, .ref o), (2, .ref m), (1, .ref x), (0, .ref 0)] [vI z4204] _ H4198
      refine wl_of hX hb cL_1583 (rw_pop (pc' := 1584) rfl rfl ?_)
      refine wl_of hX hb cL_1584 (rw_goto (p1 := 1653) (by decide) ?_)
      have k4239 : wKI H4198 m = wKI H4155 m := (wKI_fr w4159 gm f4203 rfl)
      have k4240 : H4198 x 9 = H4155 x 9 := (f4203 x 9 _ gx rfl)
      have k4241 : H4198 m 6 = H4155 m 6 := (f4203 m 6 _ gm rfl)
      have k4242 : H4198 x 11 = H4155 x 11 := (f4203 x 11 _ gx rfl)
      have k4243 : H4198 m 13 = H4155 m 13 := (f4203 m 13 _ gm rfl)
      have k4244 : H4198 x 8 = H4155 x 8 := (f4203 x 8 _ gx rfl)
      have k4245 : H4198 m 3 = H4155 m 3 := (f4203 m 3 _ gm rfl)
      have k4246 : H4198 x 0 = H x 0 := ((f4203 x 0 _ gx rfl).trans (f4160 x 0 _ gx rfl))
      have q4247 : H4198 x 0 = (tc : Int) := k4246.trans e0
      have k4248 : H4198 m 5 = H m 5 := ((f4203 m 5 _ gm rfl).trans (f4160 m 5 _ gm rfl))
      have q4249 : H4198 m 5 = (tm : Int) := k4248.trans em
      have k4250 : H4198 x 6 = H x 6 := ((f4203 x 6 _ gx rfl).trans (f4160 x 6 _ gx rfl))
      have q4251 : H4198 x 6 = (cu : Int) := k4250.trans ecu
      have k4252 : H4198 x 7 = H x 7 := ((f4203 x 7 _ gx rfl).trans (f4160 x 7 _ gx rfl))
      have q4253 : H4198 x 7 = (dr : Int) := k4252.trans edr
      have h4254 : TP T H4198 tc B := (TP_fr w4159 gtc f4203 rfl (TP_fr hW gtc f4160 rfl htc))
      have h4255 : TM T H4198 tm B := (TM_fr w4159 gtm f4203 rfl (TM_fr hW gtm f4160 rfl htm))
      have h4256 : DD T H4198 cu  := (DD_fr w4159 gcu f4203 rfl (DD_fr hW gcu f4160 rfl hcu))
      have h4257 : DD T H4198 dr  := (DD_fr w4159 gdr f4203 rfl (DD_fr hW gdr f4160 rfl hdr))
      have h4258 : DE T H4198 cu  := (DE_fr w4159 gcu f4203 rfl (DE_fr hW gcu f4160 rfl hdec))
      have h4259 : DE T H4198 dr  := (DE_fr w4159 gdr f4203 rfl (DE_fr hW gdr f4160 rfl hded))
      have h4260 : SP T H4198 x C8 := (SP_fr w4159 gx f4203 rfl (SP_fr hW gx f4160 rfl hsp))
      have h4261 : CU T H4198 cu e8 d8 n8 := (CU_fr w4159 gcu f4203 rfl (CU_fr hW gcu f4160 rfl hcu8))
      have h4262 : CY T H4198 cu ((d8 0 3)) (xdg d8 v4147) (wdv (d8 0 3).toNat v4147) := (CY_fr w4159 gcu f4203 rfl a4168)
      exfalso
      omega
  · show WL _ _ _ _ 1556 [(4, vI i), (3, .ref o), (2, .ref m), (1, .ref x), (0, .ref 0)] [vI z4161] _ H4155
    refine wl_of hX hb cL_1556 (rw_pop (pc' := 1557) rfl rfl ?_)
    refine wl_of hX hb cL_1557 (rw_aload_n (pc' := 1558) (v := .ref m) rfl rfl rfl ?_)
    refine wl_of hX hb cL_1558 (rw_aload_n (pc' := 1559) (v := .ref 0) rfl rfl rfl ?_)
    refine wl_of hX hb cL_1559 (rw_iload (pc' := 1561) (z := i) rfl rfl ?_)
    refine wl_of hX hb cL_1561 (rw_iconst (pc' := 1562) rfl ?_)
    refine wl_of hX hb cL_1562 (rw_iadd (pc' := 1563) rfl ?_)
    have k4265 : H4155 0 ((i + 1).toNat) = H 0 ((i + 1).toNat) := (f4160 0 ((i + 1).toNat) _ g0 (wmem_s rfl))
    refine wl_of hX hb cL_1563 (xa_I (so := 0) (pc' := 1564) (a := 0) w4159 g0 (wsh_s _) (by omega) (wty_s _ _) (by omega) (by omega) rfl (fun b4263 b4264 => ?_))
    refine wl_of hX hb cL_1564 (rw_i2l (pc' := 1565) rfl ⟨by omega, by omega⟩ ?_)
    refine wl_of hX hb cL_1565 (rw_bipush (pc' := 1567) (z := 32) rfl (by decide) ?_)
    refine wl_of hX hb cL_1567 (rw_lshl (pc' := 1568) rfl ?_)
    obtain ⟨v4266, e4267⟩ : ∃ x : Int, x = wl_shl (H4155 0 ((i + 1).toNat)) 32 := ⟨_, rfl⟩
    rw [← e4267]
    have b4268 : -9223372036854775808 ≤ v4266 ∧ v4266 ≤ 9223372036854775807 := by
      rw [e4267]
      exact wL_shl _ _
    refine wl_of hX hb cL_1568 (rw_aload_n (pc' := 1569) (v := .ref 0) rfl rfl rfl ?_)
    refine wl_of hX hb cL_1569 (rw_iload (pc' := 1571) (z := i) rfl rfl ?_)
    refine wl_of hX hb cL_1571 (rw_iconst (pc' := 1572) rfl ?_)
    refine wl_of hX hb cL_1572 (rw_iadd (pc' := 1573) rfl ?_)
    have k4271 : H4155 0 ((i + 2).toNat) = H 0 ((i + 2).toNat) := (f4160 0 ((i + 2).toNat) _ g0 (wmem_s rfl))
    refine wl_of hX hb cL_1573 (xa_I (so := 0) (pc' := 1574) (a := 0) w4159 g0 (wsh_s _) (by omega) (wty_s _ _) (by omega) (by omega) rfl (fun b4269 b4270 => ?_))
    refine wl_of hX hb cL_1574 (rw_i2l (pc' := 1575) rfl ⟨by omega, by omega⟩ ?_)
    refine wl_of hX hb cL_1575 (rw_ldc2 (pc' := 1578) (z := 4294967295) rfl rfl rfl ?_)
    refine wl_of hX hb cL_1578 (rw_land (pc' := 1579) rfl ?_)
    obtain ⟨v4272, e4273⟩ : ∃ x : Int, x = wl_and (H4155 0 ((i + 2).toNat)) 4294967295 := ⟨_, rfl⟩
    rw [← e4273]
    have b4274 : -9223372036854775808 ≤ v4272 ∧ v4272 ≤ 9223372036854775807 := by
      rw [e4273]
      exact wL_and _ _
    refine wl_of hX hb cL_1579 (rw_lor (pc' := 1580) rfl ?_)
    obtain ⟨v4275, e4276⟩ : ∃ x : Int, x = wl_or v4266 v4272 := ⟨_, rfl⟩
    rw [← e4276]
    have b4277 : -9223372036854775808 ≤ v4275 ∧ v4275 ≤ 9223372036854775807 := by
      rw [e4276]
      exact wL_or _ _
    have k4278 : wKI H4155 m = wKI H m := (wKI_fr hW gm f4160 rfl)
    have k4279 : H4155 x 9 = H x 9 := (f4160 x 9 _ gx rfl)
    have k4280 : H4155 m 6 = H m 6 := (f4160 m 6 _ gm rfl)
    have k4281 : H4155 x 11 = H x 11 := (f4160 x 11 _ gx rfl)
    have k4282 : H4155 m 13 = H m 13 := (f4160 m 13 _ gm rfl)
    have k4283 : H4155 x 8 = H x 8 := (f4160 x 8 _ gx rfl)
    have k4284 : H4155 m 3 = H m 3 := (f4160 m 3 _ gm rfl)
    have rs9 : v4275 = v4147 := by
      rw [e4276, e4267, e4273, e4148, e4140, e4145, show H4155 0 ((i + 1).toNat) = H 0 ((i + 1).toNat) by omega, show H4155 0 ((i + 2).toNat) = H 0 ((i + 2).toNat) by omega]
    rw [rs9]
    have h4285 : RB T H4155 m e8 d8 := (RB_fr hW gm f4160 rfl hrb8)
    have h4286 : RY T H4155 m (d8 0 3) g8 (H m 32) := (RY_fr hW gm f4160 rfl h4152)
    refine wl_of hX hb cL_1580 (xc_V (pc' := 1583) (r := m) (as := [vL v4147]) (st := []) (lm_11_219) rfl rfl (Nat.le_of_ble_eq_true rfl) w4159 gm sh_42 (by decide) rfl (by decide) (u_292 (e := e8) (d := d8) (nY := ((d8 0 3))) (gY := g8) (cY := ((H m 32))) w4159 gm ⟨b4149.1, b4149.2⟩ (by omega) h4285 h4286) (fun R4287 T4288 H4289 p4290 => ?_))
    obtain ⟨e4291, w4293, f4294, z4295, e4292, b4296, p4297⟩ := p4290
    subst e4291
    subst e4292
    rcases p4297 with ⟨a4298, a4299, a4300, a4301⟩ | ⟨a4302, a4303, a4304⟩
    · show WL _ _ _ _ 1583 [(4, vI i), (3, .ref o), (2, .ref m), (1, .ref x), (0, .ref 0)] [vI z4295] _ H4289
      refine wl_of hX hb cL_1583 (rw_pop (pc' := 1584) rfl rfl ?_)
      refine wl_of hX hb cL_1584 (rw_goto (p1 := 1653) (by decide) ?_)
      have k4305 : wKI H4289 m = wKI H4155 m := (wKI_fr w4159 gm f4294 rfl)
      have k4306 : H4289 x 9 = H4155 x 9 := (f4294 x 9 _ gx rfl)
      have k4307 : H4289 m 6 = H4155 m 6 := (f4294 m 6 _ gm rfl)
      have k4308 : H4289 x 11 = H4155 x 11 := (f4294 x 11 _ gx rfl)
      have k4309 : H4289 m 13 = H4155 m 13 := (f4294 m 13 _ gm rfl)
      have k4310 : H4289 x 8 = H4155 x 8 := (f4294 x 8 _ gx rfl)
      have k4311 : H4289 m 3 = H4155 m 3 := (f4294 m 3 _ gm rfl)
      have k4312 : H4289 x 0 = H x 0 := ((f4294 x 0 _ gx rfl).trans (f4160 x 0 _ gx rfl))
      have q4313 : H4289 x 0 = (tc : Int) := k4312.trans e0
      have k4314 : H4289 m 5 = H m 5 := ((f4294 m 5 _ gm rfl).trans (f4160 m 5 _ gm rfl))
      have q4315 : H4289 m 5 = (tm : Int) := k4314.trans em
      have k4316 : H4289 x 6 = H x 6 := ((f4294 x 6 _ gx rfl).trans (f4160 x 6 _ gx rfl))
      have q4317 : H4289 x 6 = (cu : Int) := k4316.trans ecu
      have k4318 : H4289 x 7 = H x 7 := ((f4294 x 7 _ gx rfl).trans (f4160 x 7 _ gx rfl))
      have q4319 : H4289 x 7 = (dr : Int) := k4318.trans edr
      have h4320 : TP T H4289 tc B := (TP_fr w4159 gtc f4294 rfl (TP_fr hW gtc f4160 rfl htc))
      have h4321 : TM T H4289 tm B := (TM_fr w4159 gtm f4294 rfl (TM_fr hW gtm f4160 rfl htm))
      have h4322 : DD T H4289 cu  := (DD_fr w4159 gcu f4294 rfl (DD_fr hW gcu f4160 rfl hcu))
      have h4323 : DD T H4289 dr  := (DD_fr w4159 gdr f4294 rfl (DD_fr hW gdr f4160 rfl hdr))
      have h4324 : DE T H4289 cu  := (DE_fr w4159 gcu f4294 rfl (DE_fr hW gcu f4160 rfl hdec))
      have h4325 : DE T H4289 dr  := (DE_fr w4159 gdr f4294 rfl (DE_fr hW gdr f4160 rfl hded))
      have h4326 : SP T H4289 x C8 := (SP_fr w4159 gx f4294 rfl (SP_fr hW gx f4160 rfl hsp))
      have h4327 : CU T H4289 cu e8 d8 n8 := (CU_fr w4159 gcu f4294 rfl (CU_fr hW gcu f4160 rfl hcu8))
      have h4328 : CY T H4289 cu ((d8 0 3)) g8 ((H cu 17)) := (CY_fr w4159 gcu f4294 rfl a4171)
      exfalso
      omega
    · show WL _ _ _ _ 1583 [(4, vI i), (3, .ref o), (2, .ref m), (1, .ref x), (0, .ref 0)] [vI z4295] _ H4289
      refine wl_of hX hb cL_1583 (rw_pop (pc' := 1584) rfl rfl ?_)
      refine wl_of hX hb cL_1584 (rw_goto (p1 := 1653) (by decide) ?_)
      have k4329 : wKI H4289 m = wKI H4155 m := (wKI_fr w4159 gm f4294 rfl)
      have k4330 : H4289 x 9 = H4155 x 9 := (f4294 x 9 _ gx rfl)
      have k4331 : H4289 m 6 = H4155 m 6 := (f4294 m 6 _ gm rfl)
      have k4332 : H4289 x 11 = H4155 x 11 := (f4294 x 11 _ gx rfl)
      have k4333 : H4289 m 13 = H4155 m 13 := (f4294 m 13 _ gm rfl)
      have k4334 : H4289 x 8 = H4155 x 8 := (f4294 x 8 _ gx rfl)
      have k4335 : H4289 m 3 = H4155 m 3 := (f4294 m 3 _ gm rfl)
      have k4336 : H4289 x 0 = H x 0 := ((f4294 x 0 _ gx rfl).trans (f4160 x 0 _ gx rfl))
      have q4337 : H4289 x 0 = (tc : Int) := k4336.trans e0
      have k4338 : H4289 m 5 = H m 5 := ((f4294 m 5 _ gm rfl).trans (f4160 m 5 _ gm rfl))
      have q4339 : H4289 m 5 = (tm : Int) := k4338.trans em
      have k4340 : H4289 x 6 = H x 6 := ((f4294 x 6 _ gx rfl).trans (f4160 x 6 _ gx rfl))
      have q4341 : H4289 x 6 = (cu : Int) := k4340.trans ecu
      have k4342 : H4289 x 7 = H x 7 := ((f4294 x 7 _ gx rfl).trans (f4160 x 7 _ gx rfl))
      have q4343 : H4289 x 7 = (dr : Int) := k4342.trans edr
      have h4344 : TP T H4289 tc B := (TP_fr w4159 gtc f4294 rfl (TP_fr hW gtc f4160 rfl htc))
      have h4345 : TM T H4289 tm B := (TM_fr w4159 gtm f4294 rfl (TM_fr hW gtm f4160 rfl htm))
      have h4346 : DD T H4289 cu  := (DD_fr w4159 gcu f4294 rfl (DD_fr hW gcu f4160 rfl hcu))
      have h4347 : DD T H4289 dr  := (DD_fr w4159 gdr f4294 rfl (DD_fr hW gdr f4160 rfl hdr))
      have h4348 : DE T H4289 cu  := (DE_fr w4159 gcu f4294 rfl (DE_fr hW gcu f4160 rfl hdec))
      have h4349 : DE T H4289 dr  := (DE_fr w4159 gdr f4294 rfl (DE_fr hW gdr f4160 rfl hded))
      have h4350 : SP T H4289 x C8 := (SP_fr w4159 gx f4294 rfl (SP_fr hW gx f4160 rfl hsp))
      have h4351 : CU T H4289 cu e8 d8 n8 := (CU_fr w4159 gcu f4294 rfl (CU_fr hW gcu f4160 rfl hcu8))
      have h4352 : CY T H4289 cu ((d8 0 3)) g8 ((H cu 17)) := (CY_fr w4159 gcu f4294 rfl a4171)
      have h4353 : RB T H4289 m e8 d8 := (RB_fr w4159 gm f4294 rfl h4285)
      exact WL.loc hX (by simp) (next T H4289 ⟨⟨w4293, g0, gx, gm, go, by omega, by omega⟩, ⟨_, tc, tm, cu, dr, _, _, _, _, _, q4337, gtc, h4344, q4339, gtm, h4345, q4341, gcu, q4343, gdr, h4346, h4347, h4348, h4349, h4350, hC1, hC2, h4351, h4353, (h4352).1, (a4304).1, hE, hZ, (by omega), (by assumption), (by omega), (by first | assumption | exact SG_0), gm⟩, by omega, by omega⟩ (by omega) (by omega))
set_option maxHeartbeats 4000000 in
theorem wl_c47 {kt : Nat → Option mc_E} {CB SB : Nat} {X : mc_S → Prop} {T : wq_T} {H : wq_H} {Len x m o : Nat} {i : Int} (hX : wlX kt CB SB X) (hb : T.2.1 ≤ CB ∧ T.2.2.1 ≤ SB) (hI : wlJ Len x m o T H) (hL : Len ≤ 3072) (hi : 0 ≤ i ∧ i + 6 ≤ Len) (hb2 : T.2.1 + 20 ≤ CB ∧ T.2.2.1 + 500 ≤ SB) (hled : ∀ {z : Int}, wI z → T.2.1 ≤ CB ∧ T.2.2.1 ≤ SB → wlJ Len x m o T H → (∀ (z' : Int), wI z' → ∀ (T' : wq_T) (H' : wq_H), wlJ Len x m o T' H' → T'.2.1 ≤ T.2.1 + 20 → T'.2.2.1 ≤ T.2.2.1 + 500 → WL kt CB SB X 1598 (wlL i x m o) [vI z'] T' H') → WL kt CB SB X 1595 (wlL i x m o) [.ref o, vI z, .ref x] T H) (next : ∀ T' H', wlJ Len x m o T' H' → T'.2.1 ≤ T.2.1 + 20 → T'.2.2.1 ≤ T.2.2.1 + 500 → WL kt CB SB X 1653 (wlL i x m o) [] T' H') : WL kt CB SB X 1587 (wlL i x m o) [] T H := by
  obtain ⟨⟨hW, g0, gx, gm, go, hK, hr⟩, hXI, hY1, hY2⟩ := hI
  refine wl_of hX hb cL_1587 (rw_aload_n (pc' := 1588) (v := .ref x) rfl rfl rfl ?_)
  refine wl_of hX hb cL_1588 (rw_aload_n (pc' := 1589) (v := .ref 0) rfl rfl rfl ?_)
  refine wl_of hX hb cL_1589 (rw_iload (pc' := 1591) (z := i) rfl rfl ?_)
  refine wl_of hX hb cL_1591 (rw_iconst (pc' := 1592) rfl ?_)
  refine wl_of hX hb cL_1592 (rw_iadd (pc' := 1593) rfl ?_)
  refine wl_of hX hb cL_1593 (xa_I (so := 0) (pc' := 1594) (a := 0) hW g0 (wsh_s _) (by omega) (wty_s _ _) (by omega) (by omega) rfl (fun b4354 b4355 => ?_))
  refine wl_of hX hb cL_1594 (rw_aload_n (pc' := 1595) (v := .ref o) rfl rfl rfl ?_)
  refine hled ⟨by omega, by omega⟩ hb ⟨⟨hW, g0, gx, gm, go, by omega, by omega⟩, hXI, by omega, by omega⟩ (fun z9 b9 T9 H9 hI9 n9 s9 => ?_)
  obtain ⟨⟨w9, g0, gx, gm, go, hK, hr⟩, hXI, hY1, hY2⟩ := hI9
  have hb : T9.2.1 ≤ CB ∧ T9.2.2.1 ≤ SB := ⟨by omega, by omega⟩
  refine wl_of hX hb cL_1598 (rw_istore (pc' := 1600) (z := z9) (L' := [(5, vI z9), (4, vI i), (3, .ref o), (2, .ref m), (1, .ref x), (0, .ref 0)]) rfl rfl rfl ?_)
  refine wl_of hX hb cL_1600 (rw_aload_n (pc' := 1601) (v := .ref m) rfl rfl rfl ?_)
  refine wl_of hX hb cL_1601 (rw_aload_n (pc' := 1602) (v := .ref 0) rfl rfl rfl ?_)
  refine wl_of hX hb cL_1602 (rw_iload (pc' := 1604) (z := i) rfl rfl ?_)
  refine wl_of hX hb cL_1604 (rw_iconst (pc' := 1605) rfl ?_)
  refine wl_of hX hb cL_1605 (rw_iadd (pc' := 1606) rfl ?_)
  refine wl_of hX hb cL_1606 (xa_I (so := 0) (pc' := 1607) (a := 0) w9 g0 (wsh_s _) (by omega) (wty_s _ _) (by omega) (by omega) rfl (fun b4356 b4357 => ?_))
  refine wl_of hX hb cL_1607 (xc_V (pc' := 1610) (r := m) (as := [vI (H9 0 ((i + 1).toNat))]) (st := []) (lm_11_225) rfl rfl (Nat.le_of_ble_eq_true rfl) w9 gm sh_42 (by decide) rfl (by decide) (s_293 w9 gm ⟨by omega, by omega⟩ (by omega)) (fun R4358 T4359 H4360 p4361 => ?_))
  obtain ⟨e4362, w4364, f4365, z4367, e4363, b4368, p4366⟩ := p4361
  subst e4362
  subst e4363
  show WL _ _ _ _ 1610 [(5, vI z9), (4, vI i), (3, .ref o), (2, .ref m), (1, .ref x), (0, .ref 0)] [vI z4367] _ H4360
  refine wl_of hX hb cL_1610 (rw_istore (pc' := 1612) (z := z4367) (L' := [(6, vI z4367), (5, vI z9), (4, vI i), (3, .ref o), (2, .ref m), (1, .ref x), (0, .ref 0)]) rfl rfl rfl ?_)
  refine wl_of hX hb cL_1612 (rw_goto (p1 := 1653) (by decide) ?_)
  have k4369 : H4360 x 9 = H9 x 9 := (f4365 x 9 _ gx rfl)
  have k4370 : H4360 m 6 = H9 m 6 := (f4365 m 6 _ gm rfl)
  have k4371 : H4360 x 11 = H9 x 11 := (f4365 x 11 _ gx rfl)
  have k4372 : H4360 m 13 = H9 m 13 := (f4365 m 13 _ gm rfl)
  have k4373 : H4360 x 8 = H9 x 8 := (f4365 x 8 _ gx rfl)
  have k4374 : H4360 m 3 = H9 m 3 := (f4365 m 3 _ gm rfl)
  have h4375 : XI T9 H4360 x m := (XI_fr w9 gx f4365 rfl hXI)
  exact WL.loc hX (by simp) (next T9 H4360 ⟨⟨w4364, g0, gx, gm, go, by omega, by omega⟩, h4375, by omega, by omega⟩ (by omega) (by omega))
set_option maxHeartbeats 4000000 in
theorem wl_c48 {kt : Nat → Option mc_E} {CB SB : Nat} {X : mc_S → Prop} {T : wq_T} {H : wq_H} {Len x m o : Nat} {i : Int} (hX : wlX kt CB SB X) (hb : T.2.1 ≤ CB ∧ T.2.2.1 ≤ SB) (hI : wlJ Len x m o T H) (hL : Len ≤ 3072) (hi : 0 ≤ i ∧ i + 6 ≤ Len) (hb2 : T.2.1 + 20 ≤ CB ∧ T.2.2.1 + 500 ≤ SB)  (next : ∀ T' H', wlJ Len x m o T' H' → T'.2.1 ≤ T.2.1 + 20 → T'.2.2.1 ≤ T.2.2.1 + 500 → WL kt CB SB X 1653 (wlL i x m o) [] T' H') : WL kt CB SB X 1615 (wlL i x m o) [] T H := by
  obtain ⟨⟨hW, g0, gx, gm, go, hK, hr⟩, hXI, hY1, hY2⟩ := hI
  refine wl_of hX hb cL_1615 (rw_aload_n (pc' := 1616) (v := .ref x) rfl rfl rfl ?_)
  refine wl_of hX hb cL_1616 (rw_aload_n (pc' := 1617) (v := .ref 0) rfl rfl rfl ?_)
  refine wl_of hX hb cL_1617 (rw_iload (pc' := 1619) (z := i) rfl rfl ?_)
  refine wl_of hX hb cL_1619 (rw_iconst (pc' := 1620) rfl ?_)
  refine wl_of hX hb cL_1620 (rw_iadd (pc' := 1621) rfl ?_)
  refine wl_of hX hb cL_1621 (xa_I (so := 0) (pc' := 1622) (a := 0) hW g0 (wsh_s _) (by omega) (wty_s _ _) (by omega) (by omega) rfl (fun b4376 b4377 => ?_))
  refine wl_of hX hb cL_1622 (xc_V (pc' := 1625) (r := x) (as := [vI (H 0 ((i + 1).toNat))]) (st := []) (lm_11_226) rfl rfl (Nat.le_of_ble_eq_true rfl) hW gx sh_1 (by decide) rfl (by decide) (s_164 hW gx ⟨by omega, by omega⟩) (fun R4378 T4379 H4380 p4381 => ?_))
  obtain ⟨e4382, e4384, z4385, e4383, b4386⟩ := p4381
  subst e4382
  subst e4383
  subst e4384
  show WL _ _ _ _ 1625 [(4, vI i), (3, .ref o), (2, .ref m), (1, .ref x), (0, .ref 0)] [vI z4385] _ H
  refine wl_of hX hb cL_1625 (rw_pop (pc' := 1626) rfl rfl ?_)
  refine wl_of hX hb cL_1626 (rw_aload_n (pc' := 1627) (v := .ref m) rfl rfl rfl ?_)
  refine wl_of hX hb cL_1627 (rw_aload_n (pc' := 1628) (v := .ref 0) rfl rfl rfl ?_)
  refine wl_of hX hb cL_1628 (rw_iload (pc' := 1630) (z := i) rfl rfl ?_)
  refine wl_of hX hb cL_1630 (rw_iconst (pc' := 1631) rfl ?_)
  refine wl_of hX hb cL_1631 (rw_iadd (pc' := 1632) rfl ?_)
  refine wl_of hX hb cL_1632 (xa_I (so := 0) (pc' := 1633) (a := 0) hW g0 (wsh_s _) (by omega) (wty_s _ _) (by omega) (by omega) rfl (fun b4387 b4388 => ?_))
  refine wl_of hX hb cL_1633 (xc_V (pc' := 1636) (r := m) (as := [vI (H 0 ((i + 1).toNat))]) (st := []) (lm_11_229) rfl rfl (Nat.le_of_ble_eq_true rfl) hW gm sh_42 (by decide) rfl (by decide) (s_294 hW gm ⟨by omega, by omega⟩ (by omega)) (fun R4389 T4390 H4391 p4392 => ?_))
  obtain ⟨e4393, w4395, f4396, z4398, e4394, b4399, p4397⟩ := p4392
  subst e4393
  subst e4394
  show WL _ _ _ _ 1636 [(4, vI i), (3, .ref o), (2, .ref m), (1, .ref x), (0, .ref 0)] [vI z4398] _ H4391
  refine wl_of hX hb cL_1636 (rw_pop (pc' := 1637) rfl rfl ?_)
  refine wl_of hX hb cL_1637 (rw_goto (p1 := 1653) (by decide) ?_)
  have k4400 : H4391 x 9 = H x 9 := (f4396 x 9 _ gx rfl)
  have k4401 : H4391 m 6 = H m 6 := (f4396 m 6 _ gm rfl)
  have k4402 : H4391 x 11 = H x 11 := (f4396 x 11 _ gx rfl)
  have k4403 : H4391 m 13 = H m 13 := (f4396 m 13 _ gm rfl)
  have k4404 : H4391 x 8 = H x 8 := (f4396 x 8 _ gx rfl)
  have k4405 : H4391 m 3 = H m 3 := (f4396 m 3 _ gm rfl)
  have h4406 : XI T H4391 x m := (XI_fr hW gx f4396 rfl hXI)
  exact WL.loc hX (by simp) (next T H4391 ⟨⟨w4395, g0, gx, gm, go, by omega, by omega⟩, h4406, by omega, by omega⟩ (by omega) (by omega))
set_option maxHeartbeats 4000000 in
theorem wl_c49 {kt : Nat → Option mc_E} {CB SB : Nat} {X : mc_S → Prop} {T : wq_T} {H : wq_H} {Len x m o : Nat} {i : Int} (hX : wlX kt CB SB X) (hb : T.2.1 ≤ CB ∧ T.2.2.1 ≤ SB) (hI : wlJ Len x m o T H) (hL : Len ≤ 3072) (hi : 0 ≤ i ∧ i + 6 ≤ Len) (hb2 : T.2.1 + 20 ≤ CB ∧ T.2.2.1 + 500 ≤ SB)  (next : ∀ T' H', wlJ Len x m o T' H' → T'.2.1 ≤ T.2.1 + 20 → T'.2.2.1 ≤ T.2.2.1 + 500 → WL kt CB SB X 1653 (wlL i x m o) [] T' H') : WL kt CB SB X 1640 (wlL i x m o) [] T H := by
  obtain ⟨⟨hW, g0, gx, gm, go, hK, hr⟩, hXI, hY1, hY2⟩ := hI
  refine wl_of hX hb cL_1640 (rw_aload_n (pc' := 1641) (v := .ref x) rfl rfl rfl ?_)
  refine wl_of hX hb cL_1641 (xc_V (pc' := 1644) (r := x) (as := []) (st := []) (lm_11_230) rfl rfl (Nat.le_of_ble_eq_true rfl) hW gx sh_1 (by decide) rfl (by decide) (s_165 hW gx) (fun R4407 T4408 H4409 p4410 => ?_))
  obtain ⟨e4411, e4413, z4414, e4412, b4415⟩ := p4410
  subst e4411
  subst e4412
  subst e4413
  show WL _ _ _ _ 1644 [(4, vI i), (3, .ref o), (2, .ref m), (1, .ref x), (0, .ref 0)] [vI z4414] _ H
  refine wl_of hX hb cL_1644 (rw_pop (pc' := 1645) rfl rfl ?_)
  refine wl_of hX hb cL_1645 (rw_aload_n (pc' := 1646) (v := .ref m) rfl rfl rfl ?_)
  refine wl_of hX hb cL_1646 (xc_V (pc' := 1649) (r := m) (as := []) (st := []) (lm_11_233) rfl rfl (Nat.le_of_ble_eq_true rfl) hW gm sh_42 (by decide) rfl (by decide) (s_295 hW gm (by omega)) (fun R4416 T4417 H4418 p4419 => ?_))
  obtain ⟨e4420, w4422, f4423, z4425, e4421, b4426, p4424⟩ := p4419
  subst e4420
  subst e4421
  show WL _ _ _ _ 1649 [(4, vI i), (3, .ref o), (2, .ref m), (1, .ref x), (0, .ref 0)] [vI z4425] _ H4418
  refine wl_of hX hb cL_1649 (rw_pop (pc' := 1650) rfl rfl ?_)
  refine wl_of hX hb cL_1650 (rw_goto (p1 := 1653) (by decide) ?_)
  have k4427 : H4418 x 9 = H x 9 := (f4423 x 9 _ gx rfl)
  have k4428 : H4418 m 6 = H m 6 := (f4423 m 6 _ gm rfl)
  have k4429 : H4418 x 11 = H x 11 := (f4423 x 11 _ gx rfl)
  have k4430 : H4418 m 13 = H m 13 := (f4423 m 13 _ gm rfl)
  have k4431 : H4418 x 8 = H x 8 := (f4423 x 8 _ gx rfl)
  have k4432 : H4418 m 3 = H m 3 := (f4423 m 3 _ gm rfl)
  have h4433 : XI T H4418 x m := (XI_fr hW gx f4423 rfl hXI)
  exact WL.loc hX (by simp) (next T H4418 ⟨⟨w4422, g0, gx, gm, go, by omega, by omega⟩, h4433, by omega, by omega⟩ (by omega) (by omega))
set_option maxHeartbeats 4000000 in
theorem wl_head {kt : Nat → Option mc_E} {CB SB : Nat} {X : mc_S → Prop} {T : wq_T} {H : wq_H} {Len x m o : Nat} {i : Int} (hX : wlX kt CB SB X) (hb : T.2.1 ≤ CB ∧ T.2.2.1 ≤ SB) (hI : wlJ Len x m o T H) (hL : Len ≤ 3072) (hi : 0 ≤ i ∧ i ≤ Len) (cases : ∀ t, t ∈ [256, 329, 354, 367, 380, 405, 454, 503, 516, 553, 578, 603, 616, 629, 642, 655, 668, 705, 718, 755, 792, 829, 882, 919, 944, 957, 994, 1019, 1056, 1109, 1162, 1175, 1200, 1225, 1250, 1263, 1316, 1329, 1342, 1367, 1404, 1429, 1454, 1467, 1504, 1517, 1530, 1587, 1615, 1640] → i + 6 ≤ Len → WL kt CB SB X t (wlL i x m o) [] T H) (next : i + 6 ≤ Len → WL kt CB SB X 1653 (wlL i x m o) [] T H) : WL kt CB SB X 23 (wlL i x m o) [] T H := by
  obtain ⟨⟨hW, g0, gx, gm, go, hK, hr⟩, hXI, hY1, hY2⟩ := hI
  refine wl_of hX hb cL_23 (rw_iload (pc' := 25) (z := i) rfl rfl ?_)
  refine wl_of hX hb cL_25 (rw_aload_n (pc' := 26) (v := .ref 0) rfl rfl rfl ?_)
  refine wl_of hX hb cL_26 (xa_N (pc' := 27) (a := 0) (n := Len) hW g0 (wsh_s _) (by decide) rfl ?_)
  refine wl_of hX hb cL_27 (rw_bipush (pc' := 29) (z := 6) rfl (by decide) ?_)
  refine wl_of hX hb cL_29 (rw_isub (pc' := 30) rfl ?_)
  refine wl_of hX hb cL_30 (rw_icmp_gt (p1 := 1659) (p2 := 33) (by decide) rfl ⟨by omega, by omega⟩ ⟨by omega, by omega⟩ (fun c4434 => ?_) (fun c4434 => ?_))
  · refine wl_of hX hb cL_1659 (rw_iconst (pc' := 1660) rfl ?_)
    exact WL.fin hX hb
  · refine wl_of hX hb cL_33 (rw_aload_n (pc' := 34) (v := .ref 0) rfl rfl rfl ?_)
    refine wl_of hX hb cL_34 (rw_iload (pc' := 36) (z := i) rfl rfl ?_)
    refine wl_of hX hb cL_36 (xa_I (so := 0) (pc' := 37) (a := 0) hW g0 (wsh_s _) (by omega) (wty_s _ _) (by omega) (by omega) rfl (fun b4435 b4436 => ?_))
    refine wl_of hX hb cL_37 (rw_bipush (pc' := 39) (z := 63) rfl (by decide) ?_)
    refine wl_of hX hb cL_39 (rw_iand (pc' := 40) rfl ?_)
    obtain ⟨v4437, e4438⟩ : ∃ x : Int, x = wq_and (H 0 (i.toNat)) 63 := ⟨_, rfl⟩
    rw [← e4438]
    have b4439 : 0 ≤ v4437 ∧ v4437 ≤ 63 := by
      rw [e4438]
      exact wq_and_b _ (by omega) (by omega)
    have c4440 : v4437 = 0 ∨ v4437 = 1 ∨ v4437 = 2 ∨ v4437 = 3 ∨ v4437 = 4 ∨ v4437 = 5 ∨ v4437 = 6 ∨ v4437 = 7 ∨ v4437 = 8 ∨ v4437 = 9 ∨ v4437 = 10 ∨ v4437 = 11 ∨ v4437 = 12 ∨ v4437 = 13 ∨ v4437 = 14 ∨ v4437 = 15 ∨ v4437 = 16 ∨ v4437 = 17 ∨ v4437 = 18 ∨ v4437 = 19 ∨ v4437 = 20 ∨ v4437 = 21 ∨ v4437 = 22 ∨ v4437 = 23 ∨ v4437 = 24 ∨ v4437 = 25 ∨ v4437 = 26 ∨ v4437 = 27 ∨ v4437 = 28 ∨ v4437 = 29 ∨ v4437 = 30 ∨ v4437 = 31 ∨ v4437 = 32 ∨ v4437 = 33 ∨ v4437 = 34 ∨ v4437 = 35 ∨ v4437 = 36 ∨ v4437 = 37 ∨ v4437 = 38 ∨ v4437 = 39 ∨ v4437 = 40 ∨ v4437 = 41 ∨ v4437 = 42 ∨ v4437 = 43 ∨ v4437 = 44 ∨ v4437 = 45 ∨ v4437 = 46 ∨ v4437 = 47 ∨ v4437 = 48 ∨ v4437 = 49 ∨ (v4437 < 0 ∨ 49 < v4437) := by omega
    rcases c4440 with c4440 | c4440 | c4440 | c4440 | c4440 | c4440 | c4440 | c4440 | c4440 | c4440 | c4440 | c4440 | c4440 | c4440 | c4440 | c4440 | c4440 | c4440 | c4440 | c4440 | c4440 | c4440 | c4440 | c4440 | c4440 | c4440 | c4440 | c4440 | c4440 | c4440 | c4440 | c4440 | c4440 | c4440 | c4440 | c4440 | c4440 | c4440 | c4440 | c4440 | c4440 | c4440 | c4440 | c4440 | c4440 | c4440 | c4440 | c4440 | c4440 | c4440 | c4440
    · refine wl_of hX hb cL_40 (rw_tsw (p1 := 256) ⟨by omega, by omega⟩ (by rw [c4440]; decide) ?_)
      exact cases 256 (by decide) (by omega)
    · refine wl_of hX hb cL_40 (rw_tsw (p1 := 329) ⟨by omega, by omega⟩ (by rw [c4440]; decide) ?_)
      exact cases 329 (by decide) (by omega)
    · refine wl_of hX hb cL_40 (rw_tsw (p1 := 354) ⟨by omega, by omega⟩ (by rw [c4440]; decide) ?_)
      exact cases 354 (by decide) (by omega)
    · refine wl_of hX hb cL_40 (rw_tsw (p1 := 367) ⟨by omega, by omega⟩ (by rw [c4440]; decide) ?_)
      exact cases 367 (by decide) (by omega)
    · refine wl_of hX hb cL_40 (rw_tsw (p1 := 380) ⟨by omega, by omega⟩ (by rw [c4440]; decide) ?_)
      exact cases 380 (by decide) (by omega)
    · refine wl_of hX hb cL_40 (rw_tsw (p1 := 405) ⟨by omega, by omega⟩ (by rw [c4440]; decide) ?_)
      exact cases 405 (by decide) (by omega)
    · refine wl_of hX hb cL_40 (rw_tsw (p1 := 454) ⟨by omega, by omega⟩ (by rw [c4440]; decide) ?_)
      exact cases 454 (by decide) (by omega)
    · refine wl_of hX hb cL_40 (rw_tsw (p1 := 503) ⟨by omega, by omega⟩ (by rw [c4440]; decide) ?_)
      exact cases 503 (by decide) (by omega)
    · refine wl_of hX hb cL_40 (rw_tsw (p1 := 516) ⟨by omega, by omega⟩ (by rw [c4440]; decide) ?_)
      exact cases 516 (by decide) (by omega)
    · refine wl_of hX hb cL_40 (rw_tsw (p1 := 553) ⟨by omega, by omega⟩ (by rw [c4440]; decide) ?_)
      exact cases 553 (by decide) (by omega)
    · refine wl_of hX hb cL_40 (rw_tsw (p1 := 578) ⟨by omega, by omega⟩ (by rw [c4440]; decide) ?_)
      exact cases 578 (by decide) (by omega)
    · refine wl_of hX hb cL_40 (rw_tsw (p1 := 603) ⟨by omega, by omega⟩ (by rw [c4440]; decide) ?_)
      exact cases 603 (by decide) (by omega)
    · refine wl_of hX hb cL_40 (rw_tsw (p1 := 616) ⟨by omega, by omega⟩ (by rw [c4440]; decide) ?_)
      exact cases 616 (by decide) (by omega)
    · refine wl_of hX hb cL_40 (rw_tsw (p1 := 629) ⟨by omega, by omega⟩ (by rw [c4440]; decide) ?_)
      exact cases 629 (by decide) (by omega)
    · refine wl_of hX hb cL_40 (rw_tsw (p1 := 642) ⟨by omega, by omega⟩ (by rw [c4440]; decide) ?_)
      exact cases 642 (by decide) (by omega)
    · refine wl_of hX hb cL_40 (rw_tsw (p1 := 655) ⟨by omega, by omega⟩ (by rw [c4440]; decide) ?_)
      exact cases 655 (by decide) (by omega)
    · refine wl_of hX hb cL_40 (rw_tsw (p1 := 668) ⟨by omega, by omega⟩ (by rw [c4440]; decide) ?_)
      exact cases 668 (by decide) (by omega)
    · refine wl_of hX hb cL_40 (rw_tsw (p1 := 705) ⟨by omega, by omega⟩ (by rw [c4440]; decide) ?_)
      exact cases 705 (by decide) (by omega)
    · refine wl_of hX hb cL_40 (rw_tsw (p1 := 718) ⟨by omega, by omega⟩ (by rw [c4440]; decide) ?_)
      exact cases 718 (by decide) (by omega)
    · refine wl_of hX hb cL_40 (rw_tsw (p1 := 755) ⟨by omega, by omega⟩ (by rw [c4440]; decide) ?_)
      exact cases 755 (by decide) (by omega)
    · refine wl_of hX hb cL_40 (rw_tsw (p1 := 792) ⟨by omega, by omega⟩ (by rw [c4440]; decide) ?_)
      exact cases 792 (by decide) (by omega)
    · refine wl_of hX hb cL_40 (rw_tsw (p1 := 829) ⟨by omega, by omega⟩ (by rw [c4440]; decide) ?_)
      exact cases 829 (by decide) (by omega)
    · refine wl_of hX hb cL_40 (rw_tsw (p1 := 882) ⟨by omega, by omega⟩ (by rw [c4440]; decide) ?_)
      exact cases 882 (by decide) (by omega)
    · refine wl_of hX hb cL_40 (rw_tsw (p1 := 919) ⟨by omega, by omega⟩ (by rw [c4440]; decide) ?_)
      exact cases 919 (by decide) (by omega)
    · refine wl_of hX hb cL_40 (rw_tsw (p1 := 944) ⟨by omega, by omega⟩ (by rw [c4440]; decide) ?_)
      exact cases 944 (by decide) (by omega)
    · refine wl_of hX hb cL_40 (rw_tsw (p1 := 957) ⟨by omega, by omega⟩ (by rw [c4440]; decide) ?_)
      exact cases 957 (by decide) (by omega)
    · refine wl_of hX hb cL_40 (rw_tsw (p1 := 994) ⟨by omega, by omega⟩ (by rw [c4440]; decide) ?_)
      exact cases 994 (by decide) (by omega)
    · refine wl_of hX hb cL_40 (rw_tsw (p1 := 1019) ⟨by omega, by omega⟩ (by rw [c4440]; decide) ?_)
      exact cases 1019 (by decide) (by omega)
    · refine wl_of hX hb cL_40 (rw_tsw (p1 := 1056) ⟨by omega, by omega⟩ (by rw [c4440]; decide) ?_)
      exact cases 1056 (by decide) (by omega)
    · refine wl_of hX hb cL_40 (rw_tsw (p1 := 1109) ⟨by omega, by omega⟩ (by rw [c4440]; decide) ?_)
      exact cases 1109 (by decide) (by omega)
    · refine wl_of hX hb cL_40 (rw_tsw (p1 := 1162) ⟨by omega, by omega⟩ (by rw [c4440]; decide) ?_)
      exact cases 1162 (by decide) (by omega)
    · refine wl_of hX hb cL_40 (rw_tsw (p1 := 1175) ⟨by omega, by omega⟩ (by rw [c4440]; decide) ?_)
      exact cases 1175 (by decide) (by omega)
    · refine wl_of hX hb cL_40 (rw_tsw (p1 := 1200) ⟨by omega, by omega⟩ (by rw [c4440]; decide) ?_)
      exact cases 1200 (by decide) (by omega)
    · refine wl_of hX hb cL_40 (rw_tsw (p1 := 1225) ⟨by omega, by omega⟩ (by rw [c4440]; decide) ?_)
      exact cases 1225 (by decide) (by omega)
    · refine wl_of hX hb cL_40 (rw_tsw (p1 := 1250) ⟨by omega, by omega⟩ (by rw [c4440]; decide) ?_)
      exact cases 1250 (by decide) (by omega)
    · refine wl_of hX hb cL_40 (rw_tsw (p1 := 1263) ⟨by omega, by omega⟩ (by rw [c4440]; decide) ?_)
      exact cases 1263 (by decide) (by omega)
    · refine wl_of hX hb cL_40 (rw_tsw (p1 := 1316) ⟨by omega, by omega⟩ (by rw [c4440]; decide) ?_)
      exact cases 1316 (by decide) (by omega)
    · refine wl_of hX hb cL_40 (rw_tsw (p1 := 1329) ⟨by omega, by omega⟩ (by rw [c4440]; decide) ?_)
      exact cases 1329 (by decide) (by omega)
    · refine wl_of hX hb cL_40 (rw_tsw (p1 := 1342) ⟨by omega, by omega⟩ (by rw [c4440]; decide) ?_)
      exact cases 1342 (by decide) (by omega)
    · refine wl_of hX hb cL_40 (rw_tsw (p1 := 1367) ⟨by omega, by omega⟩ (by rw [c4440]; decide) ?_)
      exact cases 1367 (by decide) (by omega)
    · refine wl_of hX hb cL_40 (rw_tsw (p1 := 1404) ⟨by omega, by omega⟩ (by rw [c4440]; decide) ?_)
      exact cases 1404 (by decide) (by omega)
    · refine wl_of hX hb cL_40 (rw_tsw (p1 := 1429) ⟨by omega, by omega⟩ (by rw [c4440]; decide) ?_)
      exact cases 1429 (by decide) (by omega)
    · refine wl_of hX hb cL_40 (rw_tsw (p1 := 1454) ⟨by omega, by omega⟩ (by rw [c4440]; decide) ?_)
      exact cases 1454 (by decide) (by omega)
    · refine wl_of hX hb cL_40 (rw_tsw (p1 := 1467) ⟨by omega, by omega⟩ (by rw [c4440]; decide) ?_)
      exact cases 1467 (by decide) (by omega)
    · refine wl_of hX hb cL_40 (rw_tsw (p1 := 1504) ⟨by omega, by omega⟩ (by rw [c4440]; decide) ?_)
      exact cases 1504 (by decide) (by omega)
    · refine wl_of hX hb cL_40 (rw_tsw (p1 := 1517) ⟨by omega, by omega⟩ (by rw [c4440]; decide) ?_)
      exact cases 1517 (by decide) (by omega)
    · refine wl_of hX hb cL_40 (rw_tsw (p1 := 1530) ⟨by omega, by omega⟩ (by rw [c4440]; decide) ?_)
      exact cases 1530 (by decide) (by omega)
    · refine wl_of hX hb cL_40 (rw_tsw (p1 := 1587) ⟨by omega, by omega⟩ (by rw [c4440]; decide) ?_)
      exact cases 1587 (by decide) (by omega)
    · refine wl_of hX hb cL_40 (rw_tsw (p1 := 1615) ⟨by omega, by omega⟩ (by rw [c4440]; decide) ?_)
      exact cases 1615 (by decide) (by omega)
    · refine wl_of hX hb cL_40 (rw_tsw (p1 := 1640) ⟨by omega, by omega⟩ (by rw [c4440]; decide) ?_)
      exact cases 1640 (by decide) (by omega)
    · refine wl_of hX hb cL_40 (rw_tsw (p1 := 1653) ⟨by omega, by omega⟩ (by rw [if_pos c4440]; decide) ?_)
      exact next (by omega)
theorem wl_back {kt : Nat → Option mc_E} {CB SB : Nat} {X : mc_S → Prop} {T : wq_T} {H : wq_H} {Len x m o : Nat} {i : Int} (hX : wlX kt CB SB X) (hb : T.2.1 ≤ CB ∧ T.2.2.1 ≤ SB) (hI : wlJ Len x m o T H) (hL : Len ≤ 3072) (hi : 0 ≤ i ∧ i + 6 ≤ Len) (next : WL kt CB SB X 23 (wlL (i + 6) x m o) [] T H) : WL kt CB SB X 1653 (wlL i x m o) [] T H := by
  obtain ⟨⟨hW, g0, gx, gm, go, hK, hr⟩, hXI, hY1, hY2⟩ := hI
  refine wl_of hX hb cL_1653 (rw_iinc (pc' := 1656) (z := i) (L' := [(4, vI (i + 6)), (3, .ref o), (2, .ref m), (1, .ref x), (0, .ref 0)]) rfl rfl rfl rfl ?_)
  refine wl_of hX hb cL_1656 (rw_goto (p1 := 23) (by decide) ?_)
  exact next
/-- the call that may throw, as the loop wants it -/
def wlLed (kt : Nat → Option mc_E) (CB SB : Nat) (X : mc_S → Prop) (Len x m o : Nat) : Prop := ∀ (T : wq_T) (H : wq_H) (i z : Int), T.2.1 + 20 ≤ CB ∧ T.2.2.1 + 500 ≤ SB → wI z → wlJ Len x m o T H → (∀ (z' : Int), wI z' → ∀ (T' : wq_T) (H' : wq_H), wlJ Len x m o T' H' → T'.2.1 ≤ T.2.1 + 20 → T'.2.2.1 ≤ T.2.2.1 + 500 → WL kt CB SB X 1598 (wlL i x m o) [vI z'] T' H') → WL kt CB SB X 1595 (wlL i x m o) [.ref o, vI z, .ref x] T H
set_option maxRecDepth 40000 in
theorem wl_loopL {kt : Nat → Option mc_E} {CB SB : Nat} {X : mc_S → Prop} {Len x m o : Nat} (hX : wlX kt CB SB X) (hL : Len ≤ 3072) (hled : wlLed kt CB SB X Len x m o) : ∀ (n : Nat) (T : wq_T) (H : wq_H) (i : Int), 0 ≤ i ∧ i ≤ Len → (Len - i).toNat = n → T.2.1 + 4 * (n + 6) ≤ CB → T.2.2.1 + 100 * (n + 6) ≤ SB → wlJ Len x m o T H → WL kt CB SB X 23 (wlL i x m o) [] T H := by
  intro n
  induction n using Nat.strongRecOn with
  | _ n ih =>
    intro T H i hi hn hc hs hI
    have hb : T.2.1 ≤ CB ∧ T.2.2.1 ≤ SB := ⟨by omega, by omega⟩
    have hb2 : T.2.1 + 20 ≤ CB ∧ T.2.2.1 + 500 ≤ SB := ⟨by omega, by omega⟩
    refine wl_head hX hb hI hL hi (fun t ht h6 => ?_) (fun h6 => wl_back hX hb hI hL ⟨hi.1, h6⟩ (ih (Len - (i + 6)).toNat (by omega) T H (i + 6) ⟨by omega, by omega⟩ rfl (by omega) (by omega) hI))
    have next : ∀ T' H', wlJ Len x m o T' H' → T'.2.1 ≤ T.2.1 + 20 → T'.2.2.1 ≤ T.2.2.1 + 500 → WL kt CB SB X 1653 (wlL i x m o) [] T' H' := fun T' H' hI' h1 h2 => wl_back hX ⟨by omega, by omega⟩ hI' hL ⟨hi.1, h6⟩ (ih (Len - (i + 6)).toNat (by omega) T' H' (i + 6) ⟨by omega, by omega⟩ rfl (by omega) (by omega) hI')
    rcases List.mem_cons.mp ht with rfl | ht
    · exact wl_c0 hX hb hI hL ⟨hi.1, h6⟩ hb2 next
    rcases List.mem_cons.mp ht with rfl | ht
    · exact wl_c1 hX hb hI hL ⟨hi.1, h6⟩ hb2 next
    rcases List.mem_cons.mp ht with rfl | ht
    · exact wl_c2 hX hb hI hL ⟨hi.1, h6⟩ hb2 next
    rcases List.mem_cons.mp ht with rfl | ht
    · exact wl_c3 hX hb hI hL ⟨hi.1, h6⟩ hb2 next
    rcases List.mem_cons.mp ht with rfl | ht
    · exact wl_c4 hX hb hI hL ⟨hi.1, h6⟩ hb2 next
    rcases List.mem_cons.mp ht with rfl | ht
    · exact wl_c5 hX hb hI hL ⟨hi.1, h6⟩ hb2 next
    rcases List.mem_cons.mp ht with rfl | ht
    · exact wl_c6 hX hb hI hL ⟨hi.1, h6⟩ hb2 next
    rcases List.mem_cons.mp ht with rfl | ht
    · exact wl_c7 hX hb hI hL ⟨hi.1, h6⟩ hb2 next
    rcases List.mem_cons.mp ht with rfl | ht
    · exact wl_c8 hX hb hI hL ⟨hi.1, h6⟩ hb2 next
    rcases List.mem_cons.mp ht with rfl | ht
    · exact wl_c9 hX hb hI hL ⟨hi.1, h6⟩ hb2 next
    rcases List.mem_cons.mp ht with rfl | ht
    · exact wl_c10 hX hb hI hL ⟨hi.1, h6⟩ hb2 next
    rcases List.mem_cons.mp ht with rfl | ht
    · exact wl_c11 hX hb hI hL ⟨hi.1, h6⟩ hb2 next
    rcases List.mem_cons.mp ht with rfl | ht
    · exact wl_c12 hX hb hI hL ⟨hi.1, h6⟩ hb2 next
    rcases List.mem_cons.mp ht with rfl | ht
    · exact wl_c13 hX hb hI hL ⟨hi.1, h6⟩ hb2 next
    rcases List.mem_cons.mp ht with rfl | ht
    · exact wl_c14 hX hb hI hL ⟨hi.1, h6⟩ hb2 next
    rcases List.mem_cons.mp ht with rfl | ht
    · exact wl_c15 hX hb hI hL ⟨hi.1, h6⟩ hb2 next
    rcases List.mem_cons.mp ht with rfl | ht
    · exact wl_c16 hX hb hI hL ⟨hi.1, h6⟩ hb2 next
    rcases List.mem_cons.mp ht with rfl | ht
    · exact wl_c17 hX hb hI hL ⟨hi.1, h6⟩ hb2 next
    rcases List.mem_cons.mp ht with rfl | ht
    · exact wl_c18 hX hb hI hL ⟨hi.1, h6⟩ hb2 next
    rcases List.mem_cons.mp ht with rfl | ht
    · exact wl_c19 hX hb hI hL ⟨hi.1, h6⟩ hb2 next
    rcases List.mem_cons.mp ht with rfl | ht
    · exact wl_c20 hX hb hI hL ⟨hi.1, h6⟩ hb2 next
    rcases List.mem_cons.mp ht with rfl | ht
    · exact wl_c21 hX hb hI hL ⟨hi.1, h6⟩ hb2 next
    rcases List.mem_cons.mp ht with rfl | ht
    · exact wl_c22 hX hb hI hL ⟨hi.1, h6⟩ hb2 next
    rcases List.mem_cons.mp ht with rfl | ht
    · exact wl_c23 hX hb hI hL ⟨hi.1, h6⟩ hb2 next
    rcases List.mem_cons.mp ht with rfl | ht
    · exact wl_c24 hX hb hI hL ⟨hi.1, h6⟩ hb2 next
    rcases List.mem_cons.mp ht with rfl | ht
    · exact wl_c25 hX hb hI hL ⟨hi.1, h6⟩ hb2 next
    rcases List.mem_cons.mp ht with rfl | ht
    · exact wl_c26 hX hb hI hL ⟨hi.1, h6⟩ hb2 next
    rcases List.mem_cons.mp ht with rfl | ht
    · exact wl_c27 hX hb hI hL ⟨hi.1, h6⟩ hb2 next
    rcases List.mem_cons.mp ht with rfl | ht
    · exact wl_c28 hX hb hI hL ⟨hi.1, h6⟩ hb2 next
    rcases List.mem_cons.mp ht with rfl | ht
    · exact wl_c29 hX hb hI hL ⟨hi.1, h6⟩ hb2 next
    rcases List.mem_cons.mp ht with rfl | ht
    · exact wl_c30 hX hb hI hL ⟨hi.1, h6⟩ hb2 next
    rcases List.mem_cons.mp ht with rfl | ht
    · exact wl_c31 hX hb hI hL ⟨hi.1, h6⟩ hb2 next
    rcases List.mem_cons.mp ht with rfl | ht
    · exact wl_c32 hX hb hI hL ⟨hi.1, h6⟩ hb2 next
    rcases List.mem_cons.mp ht with rfl | ht
    · exact wl_c33 hX hb hI hL ⟨hi.1, h6⟩ hb2 next
    rcases List.mem_cons.mp ht with rfl | ht
    · exact wl_c34 hX hb hI hL ⟨hi.1, h6⟩ hb2 next
    rcases List.mem_cons.mp ht with rfl | ht
    · exact wl_c35 hX hb hI hL ⟨hi.1, h6⟩ hb2 next
    rcases List.mem_cons.mp ht with rfl | ht
    · exact wl_c36 hX hb hI hL ⟨hi.1, h6⟩ hb2 next
    rcases List.mem_cons.mp ht with rfl | ht
    · exact wl_c37 hX hb hI hL ⟨hi.1, h6⟩ hb2 next
    rcases List.mem_cons.mp ht with rfl | ht
    · exact wl_c38 hX hb hI hL ⟨hi.1, h6⟩ hb2 next
    rcases List.mem_cons.mp ht with rfl | ht
    · exact wl_c39 hX hb hI hL ⟨hi.1, h6⟩ hb2 next
    rcases List.mem_cons.mp ht with rfl | ht
    · exact wl_c40 hX hb hI hL ⟨hi.1, h6⟩ hb2 next
    rcases List.mem_cons.mp ht with rfl | ht
    · exact wl_c41 hX hb hI hL ⟨hi.1, h6⟩ hb2 next
    rcases List.mem_cons.mp ht with rfl | ht
    · exact wl_c42 hX hb hI hL ⟨hi.1, h6⟩ hb2 next
    rcases List.mem_cons.mp ht with rfl | ht
    · exact wl_c43 hX hb hI hL ⟨hi.1, h6⟩ hb2 next
    rcases List.mem_cons.mp ht with rfl | ht
    · exact wl_c44 hX hb hI hL ⟨hi.1, h6⟩ hb2 next
    rcases List.mem_cons.mp ht with rfl | ht
    · exact wl_c45 hX hb hI hL ⟨hi.1, h6⟩ hb2 next
    rcases List.mem_cons.mp ht with rfl | ht
    · exact wl_c46 hX hb hI hL ⟨hi.1, h6⟩ hb2 next
    rcases List.mem_cons.mp ht with rfl | ht
    · exact wl_c47 hX hb hI hL ⟨hi.1, h6⟩ hb2 (fun hz _ hI2 k => hled T H i _ hb2 hz hI2 k) next
    rcases List.mem_cons.mp ht with rfl | ht
    · exact wl_c48 hX hb hI hL ⟨hi.1, h6⟩ hb2 next
    rcases List.mem_cons.mp ht with rfl | ht
    · exact wl_c49 hX hb hI hL ⟨hi.1, h6⟩ hb2 next
    cases ht
