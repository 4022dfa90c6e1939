/-! THE LAW, GONE ON WITH (own work) -/
set_option maxHeartbeats 4000000 in
theorem wl_c47 {kt : Nat → Option mc_E} {CB SB : Nat} {X : mc_S → Prop} {T : wq_T} {H : wq_H} {Len x m o : Nat} {i : Int} (hX : wlX kt CB SB X) (hb : T.2.1 ≤ CB ∧ T.2.2.1 ≤ SB) (hI : wlJ Len x m o T H) (hL : Len ≤ 3072) (hi : 0 ≤ i ∧ i + 6 ≤ Len) (hb2 : T.2.1 + 20 ≤ CB ∧ T.2.2.1 + 500 ≤ SB) (hled : ∀ {z : Int}, wI z → T.2.1 ≤ CB ∧ T.2.2.1 ≤ SB → wlJ Len x m o T H → (∀ (z' : Int), wI z' → ∀ (T' : wq_T) (H' : wq_H), wlJ Len x m o T' H' → T'.2.1 ≤ T.2.1 + 20 → T'.2.2.1 ≤ T.2.2.1 + 500 → WL kt CB SB X 1598 (wlL i x m o) [vI z'] T' H') → WL kt CB SB X 1595 (wlL i x m o) [.ref o, vI z, .ref x] T H) (next : ∀ T' H', wlJ Len x m o T' H' → T'.2.1 ≤ T.2.1 + 20 → T'.2.2.1 ≤ T.2.2.1 + 500 → WL kt CB SB X 1653 (wlL i x m o) [] T' H') : WL kt CB SB X 1587 (wlL i x m o) [] T H := by
  obtain ⟨⟨hW, g0, gx, gm, go, hK, hr⟩, hXI, hY1, hY2⟩ := hI
  refine wl_of hX hb cL_1587 (rw_aload_n (pc' := 1588) (v := .ref x) rfl rfl rfl ?_)
  refine wl_of hX hb cL_1588 (rw_aload_n (pc' := 1589) (v := .ref 0) rfl rfl rfl ?_)
  refine wl_of hX hb cL_1589 (rw_iload (pc' := 1591) (z := i) rfl rfl ?_)
  refine wl_of hX hb cL_1591 (rw_iconst (pc' := 1592) rfl ?_)
  refine wl_of hX hb cL_1592 (rw_iadd (pc' := 1593) rfl ?_)
  refine wl_of hX hb cL_1593 (xa_I (so := 0) (pc' := 1594) (a := 0) hW g0 (wsh_s _) (by omega) (wty_s _ _) (by omega) (by omega) rfl (fun b6459 b6460 => ?_))
  refine wl_of hX hb cL_1594 (rw_aload_n (pc' := 1595) (v := .ref o) rfl rfl rfl ?_)
  refine hled ⟨by omega, by omega⟩ hb ⟨⟨hW, g0, gx, gm, go, by omega, by omega⟩, hXI, by omega, by omega⟩ (fun z9 b9 T9 H9 hI9 n9 s9 => ?_)
  obtain ⟨⟨w9, g0, gx, gm, go, hK, hr⟩, hXI, hY1, hY2⟩ := hI9
  have hb : T9.2.1 ≤ CB ∧ T9.2.2.1 ≤ SB := ⟨by omega, by omega⟩
  refine wl_of hX hb cL_1598 (rw_istore (pc' := 1600) (z := z9) (L' := [(5, vI z9), (4, vI i), (3, .ref o), (2, .ref m), (1, .ref x), (0, .ref 0)]) rfl rfl rfl ?_)
  refine wl_of hX hb cL_1600 (rw_aload_n (pc' := 1601) (v := .ref m) rfl rfl rfl ?_)
  refine wl_of hX hb cL_1601 (rw_aload_n (pc' := 1602) (v := .ref 0) rfl rfl rfl ?_)
  refine wl_of hX hb cL_1602 (rw_iload (pc' := 1604) (z := i) rfl rfl ?_)
  refine wl_of hX hb cL_1604 (rw_iconst (pc' := 1605) rfl ?_)
  refine wl_of hX hb cL_1605 (rw_iadd (pc' := 1606) rfl ?_)
  refine wl_of hX hb cL_1606 (xa_I (so := 0) (pc' := 1607) (a := 0) w9 g0 (wsh_s _) (by omega) (wty_s _ _) (by omega) (by omega) rfl (fun b6461 b6462 => ?_))
  refine wl_of hX hb cL_1607 (xc_V (pc' := 1610) (r := m) (as := [vI (H9 0 ((i + 1).toNat))]) (st := []) (lm_11_225) rfl rfl (Nat.le_of_ble_eq_true rfl) w9 gm sh_42 (by decide) rfl (by decide) (s_293 w9 gm ⟨by omega, by omega⟩ (by omega)) (fun R6463 T6464 H6465 p6466 => ?_))
  obtain ⟨e6467, w6469, f6470, z6472, e6468, b6473, p6471⟩ := p6466
  subst e6467
  subst e6468
  show WL _ _ _ _ 1610 [(5, vI z9), (4, vI i), (3, .ref o), (2, .ref m), (1, .ref x), (0, .ref 0)] [vI z6472] _ H6465
  refine wl_of hX hb cL_1610 (rw_istore (pc' := 1612) (z := z6472) (L' := [(6, vI z6472), (5, vI z9), (4, vI i), (3, .ref o), (2, .ref m), (1, .ref x), (0, .ref 0)]) rfl rfl rfl ?_)
  refine wl_of hX hb cL_1612 (rw_goto (p1 := 1653) (by decide) ?_)
  have k6474 : H6465 x 9 = H9 x 9 := (f6470 x 9 _ gx rfl)
  have k6475 : H6465 m 6 = H9 m 6 := (f6470 m 6 _ gm rfl)
  have k6476 : H6465 x 11 = H9 x 11 := (f6470 x 11 _ gx rfl)
  have k6477 : H6465 m 13 = H9 m 13 := (f6470 m 13 _ gm rfl)
  have k6478 : H6465 x 8 = H9 x 8 := (f6470 x 8 _ gx rfl)
  have k6479 : H6465 m 3 = H9 m 3 := (f6470 m 3 _ gm rfl)
  have h6480 : XI T9 H6465 x m := (XI_fr w9 gx f6470 rfl hXI)
  exact WL.loc hX (by simp) (next T9 H6465 ⟨⟨w6469, g0, gx, gm, go, by omega, by omega⟩, h6480, by omega, by omega⟩ (by omega) (by omega))
set_option maxHeartbeats 4000000 in
theorem wl_c48 {kt : Nat → Option mc_E} {CB SB : Nat} {X : mc_S → Prop} {T : wq_T} {H : wq_H} {Len x m o : Nat} {i : Int} (hX : wlX kt CB SB X) (hb : T.2.1 ≤ CB ∧ T.2.2.1 ≤ SB) (hI : wlJ Len x m o T H) (hL : Len ≤ 3072) (hi : 0 ≤ i ∧ i + 6 ≤ Len) (hb2 : T.2.1 + 20 ≤ CB ∧ T.2.2.1 + 500 ≤ SB)  (next : ∀ T' H', wlJ Len x m o T' H' → T'.2.1 ≤ T.2.1 + 20 → T'.2.2.1 ≤ T.2.2.1 + 500 → WL kt CB SB X 1653 (wlL i x m o) [] T' H') : WL kt CB SB X 1615 (wlL i x m o) [] T H := by
  obtain ⟨⟨hW, g0, gx, gm, go, hK, hr⟩, hXI, hY1, hY2⟩ := hI
  refine wl_of hX hb cL_1615 (rw_aload_n (pc' := 1616) (v := .ref x) rfl rfl rfl ?_)
  refine wl_of hX hb cL_1616 (rw_aload_n (pc' := 1617) (v := .ref 0) rfl rfl rfl ?_)
  refine wl_of hX hb cL_1617 (rw_iload (pc' := 1619) (z := i) rfl rfl ?_)
  refine wl_of hX hb cL_1619 (rw_iconst (pc' := 1620) rfl ?_)
  refine wl_of hX hb cL_1620 (rw_iadd (pc' := 1621) rfl ?_)
  refine wl_of hX hb cL_1621 (xa_I (so := 0) (pc' := 1622) (a := 0) hW g0 (wsh_s _) (by omega) (wty_s _ _) (by omega) (by omega) rfl (fun b6481 b6482 => ?_))
  refine wl_of hX hb cL_1622 (xc_V (pc' := 1625) (r := x) (as := [vI (H 0 ((i + 1).toNat))]) (st := []) (lm_11_226) rfl rfl (Nat.le_of_ble_eq_true rfl) hW gx sh_1 (by decide) rfl (by decide) (s_164 hW gx ⟨by omega, by omega⟩) (fun R6483 T6484 H6485 p6486 => ?_))
  obtain ⟨e6487, e6489, z6490, e6488, b6491⟩ := p6486
  subst e6487
  subst e6488
  subst e6489
  show WL _ _ _ _ 1625 [(4, vI i), (3, .ref o), (2, .ref m), (1, .ref x), (0, .ref 0)] [vI z6490] _ H
  refine wl_of hX hb cL_1625 (rw_pop (pc' := 1626) rfl rfl ?_)
  refine wl_of hX hb cL_1626 (rw_aload_n (pc' := 1627) (v := .ref m) rfl rfl rfl ?_)
  refine wl_of hX hb cL_1627 (rw_aload_n (pc' := 1628) (v := .ref 0) rfl rfl rfl ?_)
  refine wl_of hX hb cL_1628 (rw_iload (pc' := 1630) (z := i) rfl rfl ?_)
  refine wl_of hX hb cL_1630 (rw_iconst (pc' := 1631) rfl ?_)
  refine wl_of hX hb cL_1631 (rw_iadd (pc' := 1632) rfl ?_)
  refine wl_of hX hb cL_1632 (xa_I (so := 0) (pc' := 1633) (a := 0) hW g0 (wsh_s _) (by omega) (wty_s _ _) (by omega) (by omega) rfl (fun b6492 b6493 => ?_))
  refine wl_of hX hb cL_1633 (xc_V (pc' := 1636) (r := m) (as := [vI (H 0 ((i + 1).toNat))]) (st := []) (lm_11_229) rfl rfl (Nat.le_of_ble_eq_true rfl) hW gm sh_42 (by decide) rfl (by decide) (s_294 hW gm ⟨by omega, by omega⟩ (by omega)) (fun R6494 T6495 H6496 p6497 => ?_))
  obtain ⟨e6498, w6500, f6501, z6503, e6499, b6504, p6502⟩ := p6497
  subst e6498
  subst e6499
  show WL _ _ _ _ 1636 [(4, vI i), (3, .ref o), (2, .ref m), (1, .ref x), (0, .ref 0)] [vI z6503] _ H6496
  refine wl_of hX hb cL_1636 (rw_pop (pc' := 1637) rfl rfl ?_)
  refine wl_of hX hb cL_1637 (rw_goto (p1 := 1653) (by decide) ?_)
  have k6505 : H6496 x 9 = H x 9 := (f6501 x 9 _ gx rfl)
  have k6506 : H6496 m 6 = H m 6 := (f6501 m 6 _ gm rfl)
  have k6507 : H6496 x 11 = H x 11 := (f6501 x 11 _ gx rfl)
  have k6508 : H6496 m 13 = H m 13 := (f6501 m 13 _ gm rfl)
  have k6509 : H6496 x 8 = H x 8 := (f6501 x 8 _ gx rfl)
  have k6510 : H6496 m 3 = H m 3 := (f6501 m 3 _ gm rfl)
  have h6511 : XI T H6496 x m := (XI_fr hW gx f6501 rfl hXI)
  exact WL.loc hX (by simp) (next T H6496 ⟨⟨w6500, g0, gx, gm, go, by omega, by omega⟩, h6511, by omega, by omega⟩ (by omega) (by omega))
set_option maxHeartbeats 4000000 in
theorem wl_c49 {kt : Nat → Option mc_E} {CB SB : Nat} {X : mc_S → Prop} {T : wq_T} {H : wq_H} {Len x m o : Nat} {i : Int} (hX : wlX kt CB SB X) (hb : T.2.1 ≤ CB ∧ T.2.2.1 ≤ SB) (hI : wlJ Len x m o T H) (hL : Len ≤ 3072) (hi : 0 ≤ i ∧ i + 6 ≤ Len) (hb2 : T.2.1 + 20 ≤ CB ∧ T.2.2.1 + 500 ≤ SB)  (next : ∀ T' H', wlJ Len x m o T' H' → T'.2.1 ≤ T.2.1 + 20 → T'.2.2.1 ≤ T.2.2.1 + 500 → WL kt CB SB X 1653 (wlL i x m o) [] T' H') : WL kt CB SB X 1640 (wlL i x m o) [] T H := by
  obtain ⟨⟨hW, g0, gx, gm, go, hK, hr⟩, hXI, hY1, hY2⟩ := hI
  refine wl_of hX hb cL_1640 (rw_aload_n (pc' := 1641) (v := .ref x) rfl rfl rfl ?_)
  refine wl_of hX hb cL_1641 (xc_V (pc' := 1644) (r := x) (as := []) (st := []) (lm_11_230) rfl rfl (Nat.le_of_ble_eq_true rfl) hW gx sh_1 (by decide) rfl (by decide) (s_165 hW gx) (fun R6512 T6513 H6514 p6515 => ?_))
  obtain ⟨e6516, e6518, z6519, e6517, b6520⟩ := p6515
  subst e6516
  subst e6517
  subst e6518
  show WL _ _ _ _ 1644 [(4, vI i), (3, .ref o), (2, .ref m), (1, .ref x), (0, .ref 0)] [vI z6519] _ H
  refine wl_of hX hb cL_1644 (rw_pop (pc' := 1645) rfl rfl ?_)
  refine wl_of hX hb cL_1645 (rw_aload_n (pc' := 1646) (v := .ref m) rfl rfl rfl ?_)
  refine wl_of hX hb cL_1646 (xc_V (pc' := 1649) (r := m) (as := []) (st := []) (lm_11_233) rfl rfl (Nat.le_of_ble_eq_true rfl) hW gm sh_42 (by decide) rfl (by decide) (s_295 hW gm (by omega)) (fun R6521 T6522 H6523 p6524 => ?_))
  obtain ⟨e6525, w6527, f6528, z6530, e6526, b6531, p6529⟩ := p6524
  subst e6525
  subst e6526
  show WL _ _ _ _ 1649 [(4, vI i), (3, .ref o), (2, .ref m), (1, .ref x), (0, .ref 0)] [vI z6530] _ H6523
  refine wl_of hX hb cL_1649 (rw_pop (pc' := 1650) rfl rfl ?_)
  refine wl_of hX hb cL_1650 (rw_goto (p1 := 1653) (by decide) ?_)
  have k6532 : H6523 x 9 = H x 9 := (f6528 x 9 _ gx rfl)
  have k6533 : H6523 m 6 = H m 6 := (f6528 m 6 _ gm rfl)
  have k6534 : H6523 x 11 = H x 11 := (f6528 x 11 _ gx rfl)
  have k6535 : H6523 m 13 = H m 13 := (f6528 m 13 _ gm rfl)
  have k6536 : H6523 x 8 = H x 8 := (f6528 x 8 _ gx rfl)
  have k6537 : H6523 m 3 = H m 3 := (f6528 m 3 _ gm rfl)
  have h6538 : XI T H6523 x m := (XI_fr hW gx f6528 rfl hXI)
  exact WL.loc hX (by simp) (next T H6523 ⟨⟨w6527, g0, gx, gm, go, by omega, by omega⟩, h6538, by omega, by omega⟩ (by omega) (by omega))
set_option maxHeartbeats 4000000 in
theorem wl_head {kt : Nat → Option mc_E} {CB SB : Nat} {X : mc_S → Prop} {T : wq_T} {H : wq_H} {Len x m o : Nat} {i : Int} (hX : wlX kt CB SB X) (hb : T.2.1 ≤ CB ∧ T.2.2.1 ≤ SB) (hI : wlJ Len x m o T H) (hL : Len ≤ 3072) (hi : 0 ≤ i ∧ i ≤ Len) (cases : ∀ t, t ∈ [256, 329, 354, 367, 380, 405, 454, 503, 516, 553, 578, 603, 616, 629, 642, 655, 668, 705, 718, 755, 792, 829, 882, 919, 944, 957, 994, 1019, 1056, 1109, 1162, 1175, 1200, 1225, 1250, 1263, 1316, 1329, 1342, 1367, 1404, 1429, 1454, 1467, 1504, 1517, 1530, 1587, 1615, 1640] → i + 6 ≤ Len → WL kt CB SB X t (wlL i x m o) [] T H) (next : i + 6 ≤ Len → WL kt CB SB X 1653 (wlL i x m o) [] T H) : WL kt CB SB X 23 (wlL i x m o) [] T H := by
  obtain ⟨⟨hW, g0, gx, gm, go, hK, hr⟩, hXI, hY1, hY2⟩ := hI
  refine wl_of hX hb cL_23 (rw_iload (pc' := 25) (z := i) rfl rfl ?_)
  refine wl_of hX hb cL_25 (rw_aload_n (pc' := 26) (v := .ref 0) rfl rfl rfl ?_)
  refine wl_of hX hb cL_26 (xa_N (pc' := 27) (a := 0) (n := Len) hW g0 (wsh_s _) (by decide) rfl ?_)
  refine wl_of hX hb cL_27 (rw_bipush (pc' := 29) (z := 6) rfl (by decide) ?_)
  refine wl_of hX hb cL_29 (rw_isub (pc' := 30) rfl ?_)
  refine wl_of hX hb cL_30 (rw_icmp_gt (p1 := 1659) (p2 := 33) (by decide) rfl ⟨by omega, by omega⟩ ⟨by omega, by omega⟩ (fun c6539 => ?_) (fun c6539 => ?_))
  · refine wl_of hX hb cL_1659 (rw_iconst (pc' := 1660) rfl ?_)
    exact WL.fin hX hb
  · refine wl_of hX hb cL_33 (rw_aload_n (pc' := 34) (v := .ref 0) rfl rfl rfl ?_)
    refine wl_of hX hb cL_34 (rw_iload (pc' := 36) (z := i) rfl rfl ?_)
    refine wl_of hX hb cL_36 (xa_I (so := 0) (pc' := 37) (a := 0) hW g0 (wsh_s _) (by omega) (wty_s _ _) (by omega) (by omega) rfl (fun b6540 b6541 => ?_))
    refine wl_of hX hb cL_37 (rw_bipush (pc' := 39) (z := 63) rfl (by decide) ?_)
    refine wl_of hX hb cL_39 (rw_iand (pc' := 40) rfl ?_)
    obtain ⟨v6542, e6543⟩ : ∃ x : Int, x = wq_and (H 0 (i.toNat)) 63 := ⟨_, rfl⟩
    rw [← e6543]
    have b6544 : 0 ≤ v6542 ∧ v6542 ≤ 63 := by
      rw [e6543]
      exact wq_and_b _ (by omega) (by omega)
    have c6545 : v6542 = 0 ∨ v6542 = 1 ∨ v6542 = 2 ∨ v6542 = 3 ∨ v6542 = 4 ∨ v6542 = 5 ∨ v6542 = 6 ∨ v6542 = 7 ∨ v6542 = 8 ∨ v6542 = 9 ∨ v6542 = 10 ∨ v6542 = 11 ∨ v6542 = 12 ∨ v6542 = 13 ∨ v6542 = 14 ∨ v6542 = 15 ∨ v6542 = 16 ∨ v6542 = 17 ∨ v6542 = 18 ∨ v6542 = 19 ∨ v6542 = 20 ∨ v6542 = 21 ∨ v6542 = 22 ∨ v6542 = 23 ∨ v6542 = 24 ∨ v6542 = 25 ∨ v6542 = 26 ∨ v6542 = 27 ∨ v6542 = 28 ∨ v6542 = 29 ∨ v6542 = 30 ∨ v6542 = 31 ∨ v6542 = 32 ∨ v6542 = 33 ∨ v6542 = 34 ∨ v6542 = 35 ∨ v6542 = 36 ∨ v6542 = 37 ∨ v6542 = 38 ∨ v6542 = 39 ∨ v6542 = 40 ∨ v6542 = 41 ∨ v6542 = 42 ∨ v6542 = 43 ∨ v6542 = 44 ∨ v6542 = 45 ∨ v6542 = 46 ∨ v6542 = 47 ∨ v6542 = 48 ∨ v6542 = 49 ∨ (v6542 < 0 ∨ 49 < v6542) := by omega
    rcases c6545 with c6545 | c6545 | c6545 | c6545 | c6545 | c6545 | c6545 | c6545 | c6545 | c6545 | c6545 | c6545 | c6545 | c6545 | c6545 | c6545 | c6545 | c6545 | c6545 | c6545 | c6545 | c6545 | c6545 | c6545 | c6545 | c6545 | c6545 | c6545 | c6545 | c6545 | c6545 | c6545 | c6545 | c6545 | c6545 | c6545 | c6545 | c6545 | c6545 | c6545 | c6545 | c6545 | c6545 | c6545 | c6545 | c6545 | c6545 | c6545 | c6545 | c6545 | c6545
    · refine wl_of hX hb cL_40 (rw_tsw (p1 := 256) ⟨by omega, by omega⟩ (by rw [c6545]; decide) ?_)
      exact cases 256 (by decide) (by omega)
    · refine wl_of hX hb cL_40 (rw_tsw (p1 := 329) ⟨by omega, by omega⟩ (by rw [c6545]; decide) ?_)
      exact cases 329 (by decide) (by omega)
    · refine wl_of hX hb cL_40 (rw_tsw (p1 := 354) ⟨by omega, by omega⟩ (by rw [c6545]; decide) ?_)
      exact cases 354 (by decide) (by omega)
    · refine wl_of hX hb cL_40 (rw_tsw (p1 := 367) ⟨by omega, by omega⟩ (by rw [c6545]; decide) ?_)
      exact cases 367 (by decide) (by omega)
    · refine wl_of hX hb cL_40 (rw_tsw (p1 := 380) ⟨by omega, by omega⟩ (by rw [c6545]; decide) ?_)
      exact cases 380 (by decide) (by omega)
    · refine wl_of hX hb cL_40 (rw_tsw (p1 := 405) ⟨by omega, by omega⟩ (by rw [c6545]; decide) ?_)
      exact cases 405 (by decide) (by omega)
    · refine wl_of hX hb cL_40 (rw_tsw (p1 := 454) ⟨by omega, by omega⟩ (by rw [c6545]; decide) ?_)
      exact cases 454 (by decide) (by omega)
    · refine wl_of hX hb cL_40 (rw_tsw (p1 := 503) ⟨by omega, by omega⟩ (by rw [c6545]; decide) ?_)
      exact cases 503 (by decide) (by omega)
    · refine wl_of hX hb cL_40 (rw_tsw (p1 := 516) ⟨by omega, by omega⟩ (by rw [c6545]; decide) ?_)
      exact cases 516 (by decide) (by omega)
    · refine wl_of hX hb cL_40 (rw_tsw (p1 := 553) ⟨by omega, by omega⟩ (by rw [c6545]; decide) ?_)
      exact cases 553 (by decide) (by omega)
    · refine wl_of hX hb cL_40 (rw_tsw (p1 := 578) ⟨by omega, by omega⟩ (by rw [c6545]; decide) ?_)
      exact cases 578 (by decide) (by omega)
    · refine wl_of hX hb cL_40 (rw_tsw (p1 := 603) ⟨by omega, by omega⟩ (by rw [c6545]; decide) ?_)
      exact cases 603 (by decide) (by omega)
    · refine wl_of hX hb cL_40 (rw_tsw (p1 := 616) ⟨by omega, by omega⟩ (by rw [c6545]; decide) ?_)
      exact cases 616 (by decide) (by omega)
    · refine wl_of hX hb cL_40 (rw_tsw (p1 := 629) ⟨by omega, by omega⟩ (by rw [c6545]; decide) ?_)
      exact cases 629 (by decide) (by omega)
    · refine wl_of hX hb cL_40 (rw_tsw (p1 := 642) ⟨by omega, by omega⟩ (by rw [c6545]; decide) ?_)
      exact cases 642 (by decide) (by omega)
    · refine wl_of hX hb cL_40 (rw_tsw (p1 := 655) ⟨by omega, by omega⟩ (by rw [c6545]; decide) ?_)
      exact cases 655 (by decide) (by omega)
    · refine wl_of hX hb cL_40 (rw_tsw (p1 := 668) ⟨by omega, by omega⟩ (by rw [c6545]; decide) ?_)
      exact cases 668 (by decide) (by omega)
    · refine wl_of hX hb cL_40 (rw_tsw (p1 := 705) ⟨by omega, by omega⟩ (by rw [c6545]; decide) ?_)
      exact cases 705 (by decide) (by omega)
    · refine wl_of hX hb cL_40 (rw_tsw (p1 := 718) ⟨by omega, by omega⟩ (by rw [c6545]; decide) ?_)
      exact cases 718 (by decide) (by omega)
    · refine wl_of hX hb cL_40 (rw_tsw (p1 := 755) ⟨by omega, by omega⟩ (by rw [c6545]; decide) ?_)
      exact cases 755 (by decide) (by omega)
    · refine wl_of hX hb cL_40 (rw_tsw (p1 := 792) ⟨by omega, by omega⟩ (by rw [c6545]; decide) ?_)
      exact cases 792 (by decide) (by omega)
    · refine wl_of hX hb cL_40 (rw_tsw (p1 := 829) ⟨by omega, by omega⟩ (by rw [c6545]; decide) ?_)
      exact cases 829 (by decide) (by omega)
    · refine wl_of hX hb cL_40 (rw_tsw (p1 := 882) ⟨by omega, by omega⟩ (by rw [c6545]; decide) ?_)
      exact cases 882 (by decide) (by omega)
    · refine wl_of hX hb cL_40 (rw_tsw (p1 := 919) ⟨by omega, by omega⟩ (by rw [c6545]; decide) ?_)
      exact cases 919 (by decide) (by omega)
    · refine wl_of hX hb cL_40 (rw_tsw (p1 := 944) ⟨by omega, by omega⟩ (by rw [c6545]; decide) ?_)
      exact cases 944 (by decide) (by omega)
    · refine wl_of hX hb cL_40 (rw_tsw (p1 := 957) ⟨by omega, by omega⟩ (by rw [c6545]; decide) ?_)
      exact cases 957 (by decide) (by omega)
    · refine wl_of hX hb cL_40 (rw_tsw (p1 := 994) ⟨by omega, by omega⟩ (by rw [c6545]; decide) ?_)
      exact cases 994 (by decide) (by omega)
    · refine wl_of hX hb cL_40 (rw_tsw (p1 := 1019) ⟨by omega, by omega⟩ (by rw [c6545]; decide) ?_)
      exact cases 1019 (by decide) (by omega)
    · refine wl_of hX hb cL_40 (rw_tsw (p1 := 1056) ⟨by omega, by omega⟩ (by rw [c6545]; decide) ?_)
      exact cases 1056 (by decide) (by omega)
    · refine wl_of hX hb cL_40 (rw_tsw (p1 := 1109) ⟨by omega, by omega⟩ (by rw [c6545]; decide) ?_)
      exact cases 1109 (by decide) (by omega)
    · refine wl_of hX hb cL_40 (rw_tsw (p1 := 1162) ⟨by omega, by omega⟩ (by rw [c6545]; decide) ?_)
      exact cases 1162 (by decide) (by omega)
    · refine wl_of hX hb cL_40 (rw_tsw (p1 := 1175) ⟨by omega, by omega⟩ (by rw [c6545]; decide) ?_)
      exact cases 1175 (by decide) (by omega)
    · refine wl_of hX hb cL_40 (rw_tsw (p1 := 1200) ⟨by omega, by omega⟩ (by rw [c6545]; decide) ?_)
      exact cases 1200 (by decide) (by omega)
    · refine wl_of hX hb cL_40 (rw_tsw (p1 := 1225) ⟨by omega, by omega⟩ (by rw [c6545]; decide) ?_)
      exact cases 1225 (by decide) (by omega)
    · refine wl_of hX hb cL_40 (rw_tsw (p1 := 1250) ⟨by omega, by omega⟩ (by rw [c6545]; decide) ?_)
      exact cases 1250 (by decide) (by omega)
    · refine wl_of hX hb cL_40 (rw_tsw (p1 := 1263) ⟨by omega, by omega⟩ (by rw [c6545]; decide) ?_)
      exact cases 1263 (by decide) (by omega)
    · refine wl_of hX hb cL_40 (rw_tsw (p1 := 1316) ⟨by omega, by omega⟩ (by rw [c6545]; decide) ?_)
      exact cases 1316 (by decide) (by omega)
    · refine wl_of hX hb cL_40 (rw_tsw (p1 := 1329) ⟨by omega, by omega⟩ (by rw [c6545]; decide) ?_)
      exact cases 1329 (by decide) (by omega)
    · refine wl_of hX hb cL_40 (rw_tsw (p1 := 1342) ⟨by omega, by omega⟩ (by rw [c6545]; decide) ?_)
      exact cases 1342 (by decide) (by omega)
    · refine wl_of hX hb cL_40 (rw_tsw (p1 := 1367) ⟨by omega, by omega⟩ (by rw [c6545]; decide) ?_)
      exact cases 1367 (by decide) (by omega)
    · refine wl_of hX hb cL_40 (rw_tsw (p1 := 1404) ⟨by omega, by omega⟩ (by rw [c6545]; decide) ?_)
      exact cases 1404 (by decide) (by omega)
    · refine wl_of hX hb cL_40 (rw_tsw (p1 := 1429) ⟨by omega, by omega⟩ (by rw [c6545]; decide) ?_)
      exact cases 1429 (by decide) (by omega)
    · refine wl_of hX hb cL_40 (rw_tsw (p1 := 1454) ⟨by omega, by omega⟩ (by rw [c6545]; decide) ?_)
      exact cases 1454 (by decide) (by omega)
    · refine wl_of hX hb cL_40 (rw_tsw (p1 := 1467) ⟨by omega, by omega⟩ (by rw [c6545]; decide) ?_)
      exact cases 1467 (by decide) (by omega)
    · refine wl_of hX hb cL_40 (rw_tsw (p1 := 1504) ⟨by omega, by omega⟩ (by rw [c6545]; decide) ?_)
      exact cases 1504 (by decide) (by omega)
    · refine wl_of hX hb cL_40 (rw_tsw (p1 := 1517) ⟨by omega, by omega⟩ (by rw [c6545]; decide) ?_)
      exact cases 1517 (by decide) (by omega)
    · refine wl_of hX hb cL_40 (rw_tsw (p1 := 1530) ⟨by omega, by omega⟩ (by rw [c6545]; decide) ?_)
      exact cases 1530 (by decide) (by omega)
    · refine wl_of hX hb cL_40 (rw_tsw (p1 := 1587) ⟨by omega, by omega⟩ (by rw [c6545]; decide) ?_)
      exact cases 1587 (by decide) (by omega)
    · refine wl_of hX hb cL_40 (rw_tsw (p1 := 1615) ⟨by omega, by omega⟩ (by rw [c6545]; decide) ?_)
      exact cases 1615 (by decide) (by omega)
    · refine wl_of hX hb cL_40 (rw_tsw (p1 := 1640) ⟨by omega, by omega⟩ (by rw [c6545]; decide) ?_)
      exact cases 1640 (by decide) (by omega)
    · refine wl_of hX hb cL_40 (rw_tsw (p1 := 1653) ⟨by omega, by omega⟩ (by rw [if_pos c6545]; decide) ?_)
      exact next (by omega)
theorem wl_back {kt : Nat → Option mc_E} {CB SB : Nat} {X : mc_S → Prop} {T : wq_T} {H : wq_H} {Len x m o : Nat} {i : Int} (hX : wlX kt CB SB X) (hb : T.2.1 ≤ CB ∧ T.2.2.1 ≤ SB) (hI : wlJ Len x m o T H) (hL : Len ≤ 3072) (hi : 0 ≤ i ∧ i + 6 ≤ Len) (next : WL kt CB SB X 23 (wlL (i + 6) x m o) [] T H) : WL kt CB SB X 1653 (wlL i x m o) [] T H := by
  obtain ⟨⟨hW, g0, gx, gm, go, hK, hr⟩, hXI, hY1, hY2⟩ := hI
  refine wl_of hX hb cL_1653 (rw_iinc (pc' := 1656) (z := i) (L' := [(4, vI (i + 6)), (3, .ref o), (2, .ref m), (1, .ref x), (0, .ref 0)]) rfl rfl rfl rfl ?_)
  refine wl_of hX hb cL_1656 (rw_goto (p1 := 23) (by decide) ?_)
  exact next
/-- the call that may throw, as the loop wants it -/
def wlLed (kt : Nat → Option mc_E) (CB SB : Nat) (X : mc_S → Prop) (Len x m o : Nat) : Prop := ∀ (T : wq_T) (H : wq_H) (i z : Int), T.2.1 + 20 ≤ CB ∧ T.2.2.1 + 500 ≤ SB → wI z → wlJ Len x m o T H → (∀ (z' : Int), wI z' → ∀ (T' : wq_T) (H' : wq_H), wlJ Len x m o T' H' → T'.2.1 ≤ T.2.1 + 20 → T'.2.2.1 ≤ T.2.2.1 + 500 → WL kt CB SB X 1598 (wlL i x m o) [vI z'] T' H') → WL kt CB SB X 1595 (wlL i x m o) [.ref o, vI z, .ref x] T H
set_option maxRecDepth 40000 in
theorem wl_loopL {kt : Nat → Option mc_E} {CB SB : Nat} {X : mc_S → Prop} {Len x m o : Nat} (hX : wlX kt CB SB X) (hL : Len ≤ 3072) (hled : wlLed kt CB SB X Len x m o) : ∀ (n : Nat) (T : wq_T) (H : wq_H) (i : Int), 0 ≤ i ∧ i ≤ Len → (Len - i).toNat = n → T.2.1 + 4 * (n + 6) ≤ CB → T.2.2.1 + 100 * (n + 6) ≤ SB → wlJ Len x m o T H → WL kt CB SB X 23 (wlL i x m o) [] T H := by
  intro n
  induction n using Nat.strongRecOn with
  | _ n ih =>
    intro T H i hi hn hc hs hI
    have hb : T.2.1 ≤ CB ∧ T.2.2.1 ≤ SB := ⟨by omega, by omega⟩
    have hb2 : T.2.1 + 20 ≤ CB ∧ T.2.2.1 + 500 ≤ SB := ⟨by omega, by omega⟩
    refine wl_head hX hb hI hL hi (fun t ht h6 => ?_) (fun h6 => wl_back hX hb hI hL ⟨hi.1, h6⟩ (ih (Len - (i + 6)).toNat (by omega) T H (i + 6) ⟨by omega, by omega⟩ rfl (by omega) (by omega) hI))
    have next : ∀ T' H', wlJ Len x m o T' H' → T'.2.1 ≤ T.2.1 + 20 → T'.2.2.1 ≤ T.2.2.1 + 500 → WL kt CB SB X 1653 (wlL i x m o) [] T' H' := fun T' H' hI' h1 h2 => wl_back hX ⟨by omega, by omega⟩ hI' hL ⟨hi.1, h6⟩ (ih (Len - (i + 6)).toNat (by omega) T' H' (i + 6) ⟨by omega, by omega⟩ rfl (by omega) (by omega) hI')
    rcases List.mem_cons.mp ht with rfl | ht
    · exact wl_c0 hX hb hI hL ⟨hi.1, h6⟩ hb2 next
    rcases List.mem_cons.mp ht with rfl | ht
    · exact wl_c1 hX hb hI hL ⟨hi.1, h6⟩ hb2 next
    rcases List.mem_cons.mp ht with rfl | ht
    · exact wl_c2 hX hb hI hL ⟨hi.1, h6⟩ hb2 next
    rcases List.mem_cons.mp ht with rfl | ht
    · exact wl_c3 hX hb hI hL ⟨hi.1, h6⟩ hb2 next
    rcases List.mem_cons.mp ht with rfl | ht
    · exact wl_c4 hX hb hI hL ⟨hi.1, h6⟩ hb2 next
    rcases List.mem_cons.mp ht with rfl | ht
    · exact wl_c5 hX hb hI hL ⟨hi.1, h6⟩ hb2 next
    rcases List.mem_cons.mp ht with rfl | ht
    · exact wl_c6 hX hb hI hL ⟨hi.1, h6⟩ hb2 next
    rcases List.mem_cons.mp ht with rfl | ht
    · exact wl_c7 hX hb hI hL ⟨hi.1, h6⟩ hb2 next
    rcases List.mem_cons.mp ht with rfl | ht
    · exact wl_c8 hX hb hI hL ⟨hi.1, h6⟩ hb2 next
    rcases List.mem_cons.mp ht with rfl | ht
    · exact wl_c9 hX hb hI hL ⟨hi.1, h6⟩ hb2 next
    rcases List.mem_cons.mp ht with rfl | ht
    · exact wl_c10 hX hb hI hL ⟨hi.1, h6⟩ hb2 next
    rcases List.mem_cons.mp ht with rfl | ht
    · exact wl_c11 hX hb hI hL ⟨hi.1, h6⟩ hb2 next
    rcases List.mem_cons.mp ht with rfl | ht
    · exact wl_c12 hX hb hI hL ⟨hi.1, h6⟩ hb2 next
    rcases List.mem_cons.mp ht with rfl | ht
    · exact wl_c13 hX hb hI hL ⟨hi.1, h6⟩ hb2 next
    rcases List.mem_cons.mp ht with rfl | ht
    · exact wl_c14 hX hb hI hL ⟨hi.1, h6⟩ hb2 next
    rcases List.mem_cons.mp ht with rfl | ht
    · exact wl_c15 hX hb hI hL ⟨hi.1, h6⟩ hb2 next
    rcases List.mem_cons.mp ht with rfl | ht
    · exact wl_c16 hX hb hI hL ⟨hi.1, h6⟩ hb2 next
    rcases List.mem_cons.mp ht with rfl | ht
    · exact wl_c17 hX hb hI hL ⟨hi.1, h6⟩ hb2 next
    rcases List.mem_cons.mp ht with rfl | ht
    · exact wl_c18 hX hb hI hL ⟨hi.1, h6⟩ hb2 next
    rcases List.mem_cons.mp ht with rfl | ht
    · exact wl_c19 hX hb hI hL ⟨hi.1, h6⟩ hb2 next
    rcases List.mem_cons.mp ht with rfl | ht
    · exact wl_c20 hX hb hI hL ⟨hi.1, h6⟩ hb2 next
    rcases List.mem_cons.mp ht with rfl | ht
    · exact wl_c21 hX hb hI hL ⟨hi.1, h6⟩ hb2 next
    rcases List.mem_cons.mp ht with rfl | ht
    · exact wl_c22 hX hb hI hL ⟨hi.1, h6⟩ hb2 next
    rcases List.mem_cons.mp ht with rfl | ht
    · exact wl_c23 hX hb hI hL ⟨hi.1, h6⟩ hb2 next
    rcases List.mem_cons.mp ht with rfl | ht
    · exact wl_c24 hX hb hI hL ⟨hi.1, h6⟩ hb2 next
    rcases List.mem_cons.mp ht with rfl | ht
    · exact wl_c25 hX hb hI hL ⟨hi.1, h6⟩ hb2 next
    rcases List.mem_cons.mp ht with rfl | ht
    · exact wl_c26 hX hb hI hL ⟨hi.1, h6⟩ hb2 next
    rcases List.mem_cons.mp ht with rfl | ht
    · exact wl_c27 hX hb hI hL ⟨hi.1, h6⟩ hb2 next
    rcases List.mem_cons.mp ht with rfl | ht
    · exact wl_c28 hX hb hI hL ⟨hi.1, h6⟩ hb2 next
    rcases List.mem_cons.mp ht with rfl | ht
    · exact wl_c29 hX hb hI hL ⟨hi.1, h6⟩ hb2 next
    rcases List.mem_cons.mp ht with rfl | ht
    · exact wl_c30 hX hb hI hL ⟨hi.1, h6⟩ hb2 next
    rcases List.mem_cons.mp ht with rfl | ht
    · exact wl_c31 hX hb hI hL ⟨hi.1, h6⟩ hb2 next
    rcases List.mem_cons.mp ht with rfl | ht
    · exact wl_c32 hX hb hI hL ⟨hi.1, h6⟩ hb2 next
    rcases List.mem_cons.mp ht with rfl | ht
    · exact wl_c33 hX hb hI hL ⟨hi.1, h6⟩ hb2 next
    rcases List.mem_cons.mp ht with rfl | ht
    · exact wl_c34 hX hb hI hL ⟨hi.1, h6⟩ hb2 next
    rcases List.mem_cons.mp ht with rfl | ht
    · exact wl_c35 hX hb hI hL ⟨hi.1, h6⟩ hb2 next
    rcases List.mem_cons.mp ht with rfl | ht
    · exact wl_c36 hX hb hI hL ⟨hi.1, h6⟩ hb2 next
    rcases List.mem_cons.mp ht with rfl | ht
    · exact wl_c37 hX hb hI hL ⟨hi.1, h6⟩ hb2 next
    rcases List.mem_cons.mp ht with rfl | ht
    · exact wl_c38 hX hb hI hL ⟨hi.1, h6⟩ hb2 next
    rcases List.mem_cons.mp ht with rfl | ht
    · exact wl_c39 hX hb hI hL ⟨hi.1, h6⟩ hb2 next
    rcases List.mem_cons.mp ht with rfl | ht
    · exact wl_c40 hX hb hI hL ⟨hi.1, h6⟩ hb2 next
    rcases List.mem_cons.mp ht with rfl | ht
    · exact wl_c41 hX hb hI hL ⟨hi.1, h6⟩ hb2 next
    rcases List.mem_cons.mp ht with rfl | ht
    · exact wl_c42 hX hb hI hL ⟨hi.1, h6⟩ hb2 next
    rcases List.mem_cons.mp ht with rfl | ht
    · exact wl_c43 hX hb hI hL ⟨hi.1, h6⟩ hb2 next
    rcases List.mem_cons.mp ht with rfl | ht
    · exact wl_c44 hX hb hI hL ⟨hi.1, h6⟩ hb2 next
    rcases List.mem_cons.mp ht with rfl | ht
    · exact wl_c45 hX hb hI hL ⟨hi.1, h6⟩ hb2 next
    rcases List.mem_cons.mp ht with rfl | ht
    · exact wl_c46 hX hb hI hL ⟨hi.1, h6⟩ hb2 next
    rcases List.mem_cons.mp ht with rfl | ht
    · exact wl_c47 hX hb hI hL ⟨hi.1, h6⟩ hb2 (fun hz _ hI2 k => hled T H i _ hb2 hz hI2 k) next
    rcases List.mem_cons.mp ht with rfl | ht
    · exact wl_c48 hX hb hI hL ⟨hi.1, h6⟩ hb2 next
    rcases List.mem_cons.mp ht with rfl | ht
    · exact wl_c49 hX hb hI hL ⟨hi.1, h6⟩ hb2 next
    cases ht
