/-! THE LAW, GONE ON WITH (own work) -/
set_option maxHeartbeats 4000000 in
theorem wl_c43 {kt : Nat → Option mc_E} {CB SB : Nat} {X : mc_S → Prop} {T : wq_T} {H : wq_H} {Len x m o : Nat} {i : Int} (hX : wlX kt CB SB X) (hb : T.2.1 ≤ CB ∧ T.2.2.1 ≤ SB) (hI : wlJ Len x m o T H) (hL : Len ≤ 3072) (hi : 0 ≤ i ∧ i + 6 ≤ Len) (hb2 : T.2.1 + 20 ≤ CB ∧ T.2.2.1 + 500 ≤ SB)  (next : ∀ T' H', wlJ Len x m o T' H' → T'.2.1 ≤ T.2.1 + 20 → T'.2.2.1 ≤ T.2.2.1 + 500 → WL kt CB SB X 1653 (wlL i x m o) [] T' H') : WL kt CB SB X 1467 (wlL i x m o) [] T H := by
  obtain ⟨⟨hW, g0, gx, gm, go, hK, hr⟩, hXI, hY1, hY2⟩ := hI
  refine wl_of hX hb cL_1467 (rw_aload_n (pc' := 1468) (v := .ref x) rfl rfl rfl ?_)
  refine wl_of hX hb cL_1468 (rw_aload_n (pc' := 1469) (v := .ref 0) rfl rfl rfl ?_)
  refine wl_of hX hb cL_1469 (rw_iload (pc' := 1471) (z := i) rfl rfl ?_)
  refine wl_of hX hb cL_1471 (rw_iconst (pc' := 1472) rfl ?_)
  refine wl_of hX hb cL_1472 (rw_iadd (pc' := 1473) rfl ?_)
  refine wl_of hX hb cL_1473 (xa_I (so := 0) (pc' := 1474) (a := 0) hW g0 (wsh_s _) (by omega) (wty_s _ _) (by omega) (by omega) rfl (fun b5654 b5655 => ?_))
  refine wl_of hX hb cL_1474 (rw_aload_n (pc' := 1475) (v := .ref 0) rfl rfl rfl ?_)
  refine wl_of hX hb cL_1475 (rw_iload (pc' := 1477) (z := i) rfl rfl ?_)
  refine wl_of hX hb cL_1477 (rw_iconst (pc' := 1478) rfl ?_)
  refine wl_of hX hb cL_1478 (rw_iadd (pc' := 1479) rfl ?_)
  refine wl_of hX hb cL_1479 (xa_I (so := 0) (pc' := 1480) (a := 0) hW g0 (wsh_s _) (by omega) (wty_s _ _) (by omega) (by omega) rfl (fun b5656 b5657 => ?_))
  refine wl_of hX hb cL_1480 (xc_V (pc' := 1483) (r := x) (as := [vI (H 0 ((i + 1).toNat)), vI (H 0 ((i + 2).toNat))]) (st := []) (lm_11_200) rfl rfl (Nat.le_of_ble_eq_true rfl) hW gx sh_1 (by decide) rfl (by decide) (s_157 hW gx ⟨by omega, by omega⟩ ⟨by omega, by omega⟩) (fun R5658 T5659 H5660 p5661 => ?_))
  obtain ⟨e5662, w5664, f5665, z5666, e5663, b5667⟩ := p5661
  subst e5662
  subst e5663
  show WL _ _ _ _ 1483 [(4, vI i), (3, .ref o), (2, .ref m), (1, .ref x), (0, .ref 0)] [vI z5666] _ H5660
  refine wl_of hX hb cL_1483 (rw_pop (pc' := 1484) rfl rfl ?_)
  refine wl_of hX hb cL_1484 (rw_aload_n (pc' := 1485) (v := .ref m) rfl rfl rfl ?_)
  refine wl_of hX hb cL_1485 (rw_aload_n (pc' := 1486) (v := .ref 0) rfl rfl rfl ?_)
  refine wl_of hX hb cL_1486 (rw_iload (pc' := 1488) (z := i) rfl rfl ?_)
  refine wl_of hX hb cL_1488 (rw_iconst (pc' := 1489) rfl ?_)
  refine wl_of hX hb cL_1489 (rw_iadd (pc' := 1490) rfl ?_)
  have k5670 : H5660 0 ((i + 1).toNat) = H 0 ((i + 1).toNat) := (f5665 0 ((i + 1).toNat) _ g0 (wmem_s rfl))
  refine wl_of hX hb cL_1490 (xa_I (so := 0) (pc' := 1491) (a := 0) w5664 g0 (wsh_s _) (by omega) (wty_s _ _) (by omega) (by omega) rfl (fun b5668 b5669 => ?_))
  refine wl_of hX hb cL_1491 (rw_aload_n (pc' := 1492) (v := .ref 0) rfl rfl rfl ?_)
  refine wl_of hX hb cL_1492 (rw_iload (pc' := 1494) (z := i) rfl rfl ?_)
  refine wl_of hX hb cL_1494 (rw_iconst (pc' := 1495) rfl ?_)
  refine wl_of hX hb cL_1495 (rw_iadd (pc' := 1496) rfl ?_)
  have k5673 : H5660 0 ((i + 2).toNat) = H 0 ((i + 2).toNat) := (f5665 0 ((i + 2).toNat) _ g0 (wmem_s rfl))
  refine wl_of hX hb cL_1496 (xa_I (so := 0) (pc' := 1497) (a := 0) w5664 g0 (wsh_s _) (by omega) (wty_s _ _) (by omega) (by omega) rfl (fun b5671 b5672 => ?_))
  have k5674 : wKI H5660 m = wKI H m := (wKI_fr hW gm f5665 rfl)
  have k5675 : H5660 x 9 = H x 9 := (f5665 x 9 _ gx rfl)
  have k5676 : H5660 m 6 = H m 6 := (f5665 m 6 _ gm rfl)
  have k5677 : H5660 x 11 = H x 11 := (f5665 x 11 _ gx rfl)
  have k5678 : H5660 m 13 = H m 13 := (f5665 m 13 _ gm rfl)
  have k5679 : H5660 x 8 = H x 8 := (f5665 x 8 _ gx rfl)
  have k5680 : H5660 m 3 = H m 3 := (f5665 m 3 _ gm rfl)
  refine wl_of hX hb cL_1497 (xc_V (pc' := 1500) (r := m) (as := [vI (H5660 0 ((i + 1).toNat)), vI (H5660 0 ((i + 2).toNat))]) (st := []) (lm_11_203) rfl rfl (Nat.le_of_ble_eq_true rfl) w5664 gm sh_42 (by decide) rfl (by decide) (s_289 w5664 gm ⟨by omega, by omega⟩ ⟨by omega, by omega⟩ (by omega)) (fun R5681 T5682 H5683 p5684 => ?_))
  obtain ⟨e5685, w5687, f5688, z5690, e5686, b5691, p5689⟩ := p5684
  subst e5685
  subst e5686
  show WL _ _ _ _ 1500 [(4, vI i), (3, .ref o), (2, .ref m), (1, .ref x), (0, .ref 0)] [vI z5690] _ H5683
  refine wl_of hX hb cL_1500 (rw_pop (pc' := 1501) rfl rfl ?_)
  refine wl_of hX hb cL_1501 (rw_goto (p1 := 1653) (by decide) ?_)
  have k5692 : H5683 x 9 = H5660 x 9 := (f5688 x 9 _ gx rfl)
  have k5693 : H5683 m 6 = H5660 m 6 := (f5688 m 6 _ gm rfl)
  have k5694 : H5683 x 11 = H5660 x 11 := (f5688 x 11 _ gx rfl)
  have k5695 : H5683 m 13 = H5660 m 13 := (f5688 m 13 _ gm rfl)
  have k5696 : H5683 x 8 = H5660 x 8 := (f5688 x 8 _ gx rfl)
  have k5697 : H5683 m 3 = H5660 m 3 := (f5688 m 3 _ gm rfl)
  have h5698 : XI T H5683 x m := (XI_fr w5664 gx f5688 rfl (XI_fr hW gx f5665 rfl hXI))
  exact WL.loc hX (by simp) (next T H5683 ⟨⟨w5687, g0, gx, gm, go, by omega, by omega⟩, h5698, by omega, by omega⟩ (by omega) (by omega))
set_option maxHeartbeats 4000000 in
theorem wl_c44 {kt : Nat → Option mc_E} {CB SB : Nat} {X : mc_S → Prop} {T : wq_T} {H : wq_H} {Len x m o : Nat} {i : Int} (hX : wlX kt CB SB X) (hb : T.2.1 ≤ CB ∧ T.2.2.1 ≤ SB) (hI : wlJ Len x m o T H) (hL : Len ≤ 3072) (hi : 0 ≤ i ∧ i + 6 ≤ Len) (hb2 : T.2.1 + 20 ≤ CB ∧ T.2.2.1 + 500 ≤ SB)  (next : ∀ T' H', wlJ Len x m o T' H' → T'.2.1 ≤ T.2.1 + 20 → T'.2.2.1 ≤ T.2.2.1 + 500 → WL kt CB SB X 1653 (wlL i x m o) [] T' H') : WL kt CB SB X 1504 (wlL i x m o) [] T H := by
  obtain ⟨⟨hW, g0, gx, gm, go, hK, hr⟩, hXI, hY1, hY2⟩ := hI
  refine wl_of hX hb cL_1504 (rw_aload_n (pc' := 1505) (v := .ref x) rfl rfl rfl ?_)
  refine wl_of hX hb cL_1505 (xc_V (pc' := 1508) (r := x) (as := []) (st := []) (lm_11_204) rfl rfl (Nat.le_of_ble_eq_true rfl) hW gx sh_1 (by decide) rfl (by decide) (s_158 hW gx) (fun R5699 T5700 H5701 p5702 => ?_))
  obtain ⟨e5703, w5705, f5706, z5707, e5704, b5708⟩ := p5702
  subst e5703
  subst e5704
  show WL _ _ _ _ 1508 [(4, vI i), (3, .ref o), (2, .ref m), (1, .ref x), (0, .ref 0)] [vI z5707] _ H5701
  refine wl_of hX hb cL_1508 (rw_pop (pc' := 1509) rfl rfl ?_)
  refine wl_of hX hb cL_1509 (rw_aload_n (pc' := 1510) (v := .ref m) rfl rfl rfl ?_)
  have k5709 : wKI H5701 m = wKI H m := (wKI_fr hW gm f5706 rfl)
  have k5710 : H5701 x 9 = H x 9 := (f5706 x 9 _ gx rfl)
  have k5711 : H5701 m 6 = H m 6 := (f5706 m 6 _ gm rfl)
  have k5712 : H5701 x 11 = H x 11 := (f5706 x 11 _ gx rfl)
  have k5713 : H5701 m 13 = H m 13 := (f5706 m 13 _ gm rfl)
  have k5714 : H5701 x 8 = H x 8 := (f5706 x 8 _ gx rfl)
  have k5715 : H5701 m 3 = H m 3 := (f5706 m 3 _ gm rfl)
  refine wl_of hX hb cL_1510 (xc_V (pc' := 1513) (r := m) (as := []) (st := []) (lm_11_208) rfl rfl (Nat.le_of_ble_eq_true rfl) w5705 gm sh_42 (by decide) rfl (by decide) (s_290 w5705 gm (by omega)) (fun R5716 T5717 H5718 p5719 => ?_))
  obtain ⟨e5720, w5722, f5723, z5725, e5721, b5726, p5724⟩ := p5719
  subst e5720
  subst e5721
  show WL _ _ _ _ 1513 [(4, vI i), (3, .ref o), (2, .ref m), (1, .ref x), (0, .ref 0)] [vI z5725] _ H5718
  refine wl_of hX hb cL_1513 (rw_pop (pc' := 1514) rfl rfl ?_)
  refine wl_of hX hb cL_1514 (rw_goto (p1 := 1653) (by decide) ?_)
  have k5727 : H5718 x 9 = H5701 x 9 := (f5723 x 9 _ gx rfl)
  have k5728 : H5718 m 6 = H5701 m 6 := (f5723 m 6 _ gm rfl)
  have k5729 : H5718 x 11 = H5701 x 11 := (f5723 x 11 _ gx rfl)
  have k5730 : H5718 m 13 = H5701 m 13 := (f5723 m 13 _ gm rfl)
  have k5731 : H5718 x 8 = H5701 x 8 := (f5723 x 8 _ gx rfl)
  have k5732 : H5718 m 3 = H5701 m 3 := (f5723 m 3 _ gm rfl)
  have h5733 : XI T H5718 x m := (XI_fr w5705 gx f5723 rfl (XI_fr hW gx f5706 rfl hXI))
  exact WL.loc hX (by simp) (next T H5718 ⟨⟨w5722, g0, gx, gm, go, by omega, by omega⟩, h5733, by omega, by omega⟩ (by omega) (by omega))
set_option maxHeartbeats 4000000 in
theorem wl_c45 {kt : Nat → Option mc_E} {CB SB : Nat} {X : mc_S → Prop} {T : wq_T} {H : wq_H} {Len x m o : Nat} {i : Int} (hX : wlX kt CB SB X) (hb : T.2.1 ≤ CB ∧ T.2.2.1 ≤ SB) (hI : wlJ Len x m o T H) (hL : Len ≤ 3072) (hi : 0 ≤ i ∧ i + 6 ≤ Len) (hb2 : T.2.1 + 20 ≤ CB ∧ T.2.2.1 + 500 ≤ SB)  (next : ∀ T' H', wlJ Len x m o T' H' → T'.2.1 ≤ T.2.1 + 20 → T'.2.2.1 ≤ T.2.2.1 + 500 → WL kt CB SB X 1653 (wlL i x m o) [] T' H') : WL kt CB SB X 1517 (wlL i x m o) [] T H := by
  obtain ⟨⟨hW, g0, gx, gm, go, hK, hr⟩, hXI, hY1, hY2⟩ := hI
  refine wl_of hX hb cL_1517 (rw_aload_n (pc' := 1518) (v := .ref x) rfl rfl rfl ?_)
  refine wl_of hX hb cL_1518 (xc_V (pc' := 1521) (r := x) (as := []) (st := []) (lm_11_209) rfl rfl (Nat.le_of_ble_eq_true rfl) hW gx sh_1 (by decide) rfl (by decide) (s_159 hW gx) (fun R5734 T5735 H5736 p5737 => ?_))
  obtain ⟨e5738, w5740, f5741, z5742, e5739, b5743⟩ := p5737
  subst e5738
  subst e5739
  show WL _ _ _ _ 1521 [(4, vI i), (3, .ref o), (2, .ref m), (1, .ref x), (0, .ref 0)] [vL z5742] _ H5736
  refine wl_of hX hb cL_1521 (rw_pop2 (pc' := 1522) rfl rfl ?_)
  refine wl_of hX hb cL_1522 (rw_aload_n (pc' := 1523) (v := .ref m) rfl rfl rfl ?_)
  have k5744 : wKI H5736 m = wKI H m := (wKI_fr hW gm f5741 rfl)
  have k5745 : H5736 x 9 = H x 9 := (f5741 x 9 _ gx rfl)
  have k5746 : H5736 m 6 = H m 6 := (f5741 m 6 _ gm rfl)
  have k5747 : H5736 x 11 = H x 11 := (f5741 x 11 _ gx rfl)
  have k5748 : H5736 m 13 = H m 13 := (f5741 m 13 _ gm rfl)
  have k5749 : H5736 x 8 = H x 8 := (f5741 x 8 _ gx rfl)
  have k5750 : H5736 m 3 = H m 3 := (f5741 m 3 _ gm rfl)
  refine wl_of hX hb cL_1523 (xc_V (pc' := 1526) (r := m) (as := []) (st := []) (lm_11_212) rfl rfl (Nat.le_of_ble_eq_true rfl) w5740 gm sh_42 (by decide) rfl (by decide) (s_291 w5740 gm (by omega)) (fun R5751 T5752 H5753 p5754 => ?_))
  obtain ⟨e5755, w5757, f5758, z5760, e5756, b5761, p5759⟩ := p5754
  subst e5755
  subst e5756
  show WL _ _ _ _ 1526 [(4, vI i), (3, .ref o), (2, .ref m), (1, .ref x), (0, .ref 0)] [vL z5760] _ H5753
  refine wl_of hX hb cL_1526 (rw_pop2 (pc' := 1527) rfl rfl ?_)
  refine wl_of hX hb cL_1527 (rw_goto (p1 := 1653) (by decide) ?_)
  have k5762 : H5753 x 9 = H5736 x 9 := (f5758 x 9 _ gx rfl)
  have k5763 : H5753 m 6 = H5736 m 6 := (f5758 m 6 _ gm rfl)
  have k5764 : H5753 x 11 = H5736 x 11 := (f5758 x 11 _ gx rfl)
  have k5765 : H5753 m 13 = H5736 m 13 := (f5758 m 13 _ gm rfl)
  have k5766 : H5753 x 8 = H5736 x 8 := (f5758 x 8 _ gx rfl)
  have k5767 : H5753 m 3 = H5736 m 3 := (f5758 m 3 _ gm rfl)
  have h5768 : XI T H5753 x m := (XI_fr w5740 gx f5758 rfl (XI_fr hW gx f5741 rfl hXI))
  exact WL.loc hX (by simp) (next T H5753 ⟨⟨w5757, g0, gx, gm, go, by omega, by omega⟩, h5768, by omega, by omega⟩ (by omega) (by omega))
set_option maxHeartbeats 4000000 in
theorem wl_c46 {kt : Nat → Option mc_E} {CB SB : Nat} {X : mc_S → Prop} {T : wq_T} {H : wq_H} {Len x m o : Nat} {i : Int} (hX : wlX kt CB SB X) (hb : T.2.1 ≤ CB ∧ T.2.2.1 ≤ SB) (hI : wlJ Len x m o T H) (hL : Len ≤ 3072) (hi : 0 ≤ i ∧ i + 6 ≤ Len) (hb2 : T.2.1 + 20 ≤ CB ∧ T.2.2.1 + 500 ≤ SB)  (next : ∀ T' H', wlJ Len x m o T' H' → T'.2.1 ≤ T.2.1 + 20 → T'.2.2.1 ≤ T.2.2.1 + 500 → WL kt CB SB X 1653 (wlL i x m o) [] T' H') : WL kt CB SB X 1530 (wlL i x m o) [] T H := by
  obtain ⟨⟨hW, g0, gx, gm, go, hK, hr⟩, hXI, hY1, hY2⟩ := hI
  refine wl_of hX hb cL_1530 (rw_aload_n (pc' := 1531) (v := .ref x) rfl rfl rfl ?_)
  refine wl_of hX hb cL_1531 (rw_aload_n (pc' := 1532) (v := .ref 0) rfl rfl rfl ?_)
  refine wl_of hX hb cL_1532 (rw_iload (pc' := 1534) (z := i) rfl rfl ?_)
  refine wl_of hX hb cL_1534 (rw_iconst (pc' := 1535) rfl ?_)
  refine wl_of hX hb cL_1535 (rw_iadd (pc' := 1536) rfl ?_)
  refine wl_of hX hb cL_1536 (xa_I (so := 0) (pc' := 1537) (a := 0) hW g0 (wsh_s _) (by omega) (wty_s _ _) (by omega) (by omega) rfl (fun b5769 b5770 => ?_))
  refine wl_of hX hb cL_1537 (rw_i2l (pc' := 1538) rfl ⟨by omega, by omega⟩ ?_)
  refine wl_of hX hb cL_1538 (rw_bipush (pc' := 1540) (z := 32) rfl (by decide) ?_)
  refine wl_of hX hb cL_1540 (rw_lshl (pc' := 1541) rfl ?_)
  obtain ⟨v5771, e5772⟩ : ∃ x : Int, x = wl_shl (H 0 ((i + 1).toNat)) 32 := ⟨_, rfl⟩
  rw [← e5772]
  have b5773 : -9223372036854775808 ≤ v5771 ∧ v5771 ≤ 9223372036854775807 := by
    rw [e5772]
    exact wL_shl _ _
  refine wl_of hX hb cL_1541 (rw_aload_n (pc' := 1542) (v := .ref 0) rfl rfl rfl ?_)
  refine wl_of hX hb cL_1542 (rw_iload (pc' := 1544) (z := i) rfl rfl ?_)
  refine wl_of hX hb cL_1544 (rw_iconst (pc' := 1545) rfl ?_)
  refine wl_of hX hb cL_1545 (rw_iadd (pc' := 1546) rfl ?_)
  refine wl_of hX hb cL_1546 (xa_I (so := 0) (pc' := 1547) (a := 0) hW g0 (wsh_s _) (by omega) (wty_s _ _) (by omega) (by omega) rfl (fun b5774 b5775 => ?_))
  refine wl_of hX hb cL_1547 (rw_i2l (pc' := 1548) rfl ⟨by omega, by omega⟩ ?_)
  refine wl_of hX hb cL_1548 (rw_ldc2 (pc' := 1551) (z := 4294967295) rfl rfl rfl ?_)
  refine wl_of hX hb cL_1551 (rw_land (pc' := 1552) rfl ?_)
  obtain ⟨v5776, e5777⟩ : ∃ x : Int, x = wl_and (H 0 ((i + 2).toNat)) 4294967295 := ⟨_, rfl⟩
  rw [← e5777]
  have b5778 : -9223372036854775808 ≤ v5776 ∧ v5776 ≤ 9223372036854775807 := by
    rw [e5777]
    exact wL_and _ _
  refine wl_of hX hb cL_1552 (rw_lor (pc' := 1553) rfl ?_)
  obtain ⟨v5779, e5780⟩ : ∃ x : Int, x = wl_or v5771 v5776 := ⟨_, rfl⟩
  rw [← e5780]
  have b5781 : -9223372036854775808 ≤ v5779 ∧ v5779 ≤ 9223372036854775807 := by
    rw [e5780]
    exact wL_or _ _
  obtain ⟨B, tc, tm, cu, dr, C8, e8, d8, n8, g8, ce8, e0, gtc, htc, em, gtm, htm, ecu, gcu, edr, gdr, hcu, hdr, hdec, hded, hsp, hC1, hC2, hcu8, hrb8, hcg8, hmn8, hE, hZ, hn8, hXA, hV8, hSG, ece8, gce8, hcen8, hhdr8, hknn8, -⟩ := hXI
  have hN3 := RB_n3 hrb8
  have hE13 : ∀ h : Nat, h < 24 → 0 ≤ e8 13 h ∧ e8 13 h ≤ 100 := fun k hk => by
    obtain ⟨s, h1, h2, h3⟩ := hcu8.1.2.2.1
    exact ⟨(h3 k hk).1, (h3 k hk).2.1⟩
  have hXW := hXA.1
  have hXN := hXA.2
  have hE0 : e8 0 3 = d8 0 3 ∧ e8 0 0 = d8 0 0 := by
    have h := hE 0 (by decide)
    exact ⟨congrFun h 3, congrFun h 0⟩
  have u5782 := CU_k hcu8
  have h5783 : CY T H cu (d8 0 3) g8 (H cu 17) := ⟨hcg8, rfl⟩
  have h5784 : RY T H m (d8 0 3) g8 (H m 32) := ⟨hmn8, rfl⟩
  obtain ⟨t9, ht9⟩ : ∃ t : Int, t = H x 9 := ⟨_, rfl⟩
  refine wl_of hX hb cL_1553 (xc_V (pc' := 1556) (r := x) (as := [vL v5779]) (st := []) (lm_11_215) rfl rfl (Nat.le_of_ble_eq_true rfl) hW gx sh_1 (by decide) rfl (by decide) (u_161 (e := e8) (d := d8) (n := n8) (nY := ((d8 0 3))) (gY := g8) (cY := ((H cu 17))) hW gx ⟨b5781.1, b5781.2⟩ ecu gcu (by omega) (by omega) (by omega) hcu8 h5783 hcu) (fun R5785 T5786 H5787 p5788 => ?_))
  obtain ⟨e5789, w5791, f5792, z5793, e5790, b5794, p5795⟩ := p5788
  subst e5789
  subst e5790
  rcases p5795 with ⟨a5796, a5797, a5798, a5799, a5800⟩ | ⟨a5801, a5802, a5803⟩
  · show WL _ _ _ _ 1556 [(4, vI i), (3, .ref o), (2, .ref m), (1, .ref x), (0, .ref 0)] [vI z5793] _ H5787
    refine wl_of hX hb cL_1556 (rw_pop (pc' := 1557) rfl rfl ?_)
    refine wl_of hX hb cL_1557 (rw_aload_n (pc' := 1558) (v := .ref m) rfl rfl rfl ?_)
    refine wl_of hX hb cL_1558 (rw_aload_n (pc' := 1559) (v := .ref 0) rfl rfl rfl ?_)
    refine wl_of hX hb cL_1559 (rw_iload (pc' := 1561) (z := i) rfl rfl ?_)
    refine wl_of hX hb cL_1561 (rw_iconst (pc' := 1562) rfl ?_)
    refine wl_of hX hb cL_1562 (rw_iadd (pc' := 1563) rfl ?_)
    have k5806 : H5787 0 ((i + 1).toNat) = H 0 ((i + 1).toNat) := (f5792 0 ((i + 1).toNat) _ g0 (wmem_s rfl))
    refine wl_of hX hb cL_1563 (xa_I (so := 0) (pc' := 1564) (a := 0) w5791 g0 (wsh_s _) (by omega) (wty_s _ _) (by omega) (by omega) rfl (fun b5804 b5805 => ?_))
    refine wl_of hX hb cL_1564 (rw_i2l (pc' := 1565) rfl ⟨by omega, by omega⟩ ?_)
    refine wl_of hX hb cL_1565 (rw_bipush (pc' := 1567) (z := 32) rfl (by decide) ?_)
    refine wl_of hX hb cL_1567 (rw_lshl (pc' := 1568) rfl ?_)
    obtain ⟨v5807, e5808⟩ : ∃ x : Int, x = wl_shl (H5787 0 ((i + 1).toNat)) 32 := ⟨_, rfl⟩
    rw [← e5808]
    have b5809 : -9223372036854775808 ≤ v5807 ∧ v5807 ≤ 9223372036854775807 := by
      rw [e5808]
      exact wL_shl _ _
    refine wl_of hX hb cL_1568 (rw_aload_n (pc' := 1569) (v := .ref 0) rfl rfl rfl ?_)
    refine wl_of hX hb cL_1569 (rw_iload (pc' := 1571) (z := i) rfl rfl ?_)
    refine wl_of hX hb cL_1571 (rw_iconst (pc' := 1572) rfl ?_)
    refine wl_of hX hb cL_1572 (rw_iadd (pc' := 1573) rfl ?_)
    have k5812 : H5787 0 ((i + 2).toNat) = H 0 ((i + 2).toNat) := (f5792 0 ((i + 2).toNat) _ g0 (wmem_s rfl))
    refine wl_of hX hb cL_1573 (xa_I (so := 0) (pc' := 1574) (a := 0) w5791 g0 (wsh_s _) (by omega) (wty_s _ _) (by omega) (by omega) rfl (fun b5810 b5811 => ?_))
    refine wl_of hX hb cL_1574 (rw_i2l (pc' := 1575) rfl ⟨by omega, by omega⟩ ?_)
    refine wl_of hX hb cL_1575 (rw_ldc2 (pc' := 1578) (z := 4294967295) rfl rfl rfl ?_)
    refine wl_of hX hb cL_1578 (rw_land (pc' := 1579) rfl ?_)
    obtain ⟨v5813, e5814⟩ : ∃ x : Int, x = wl_and (H5787 0 ((i + 2).toNat)) 4294967295 := ⟨_, rfl⟩
    rw [← e5814]
    have b5815 : -9223372036854775808 ≤ v5813 ∧ v5813 ≤ 9223372036854775807 := by
      rw [e5814]
      exact wL_and _ _
    refine wl_of hX hb cL_1579 (rw_lor (pc' := 1580) rfl ?_)
    obtain ⟨v5816, e5817⟩ : ∃ x : Int, x = wl_or v5807 v5813 := ⟨_, rfl⟩
    rw [← e5817]
    have b5818 : -9223372036854775808 ≤ v5816 ∧ v5816 ≤ 9223372036854775807 := by
      rw [e5817]
      exact wL_or _ _
    have k5819 : wKI H5787 m = wKI H m := (wKI_fr hW gm f5792 rfl)
    have k5820 : H5787 x 9 = H x 9 := (f5792 x 9 _ gx rfl)
    have k5821 : H5787 m 6 = H m 6 := (f5792 m 6 _ gm rfl)
    have k5822 : H5787 x 11 = H x 11 := (f5792 x 11 _ gx rfl)
    have k5823 : H5787 m 13 = H m 13 := (f5792 m 13 _ gm rfl)
    have k5824 : H5787 x 8 = H x 8 := (f5792 x 8 _ gx rfl)
    have k5825 : H5787 m 3 = H m 3 := (f5792 m 3 _ gm rfl)
    have rs9 : v5816 = v5779 := by
      rw [e5817, e5808, e5814, e5780, e5772, e5777, show H5787 0 ((i + 1).toNat) = H 0 ((i + 1).toNat) by omega, show H5787 0 ((i + 2).toNat) = H 0 ((i + 2).toNat) by omega]
    rw [rs9]
    have h5826 : RB T H5787 m e8 d8 := (RB_fr hW gm f5792 rfl hrb8)
    have h5827 : RY T H5787 m (d8 0 3) g8 (H m 32) := (RY_fr hW gm f5792 rfl h5784)
    refine wl_of hX hb cL_1580 (xc_V (pc' := 1583) (r := m) (as := [vL v5779]) (st := []) (lm_11_219) rfl rfl (Nat.le_of_ble_eq_true rfl) w5791 gm sh_42 (by decide) rfl (by decide) (u_292 (e := e8) (d := d8) (nY := ((d8 0 3))) (gY := g8) (cY := ((H m 32))) w5791 gm ⟨b5781.1, b5781.2⟩ (by omega) h5826 h5827) (fun R5828 T5829 H5830 p5831 => ?_))
    obtain ⟨e5832, w5834, f5835, z5836, e5833, b5837, p5838⟩ := p5831
    subst e5832
    subst e5833
    rcases p5838 with ⟨a5839, a5840, a5841, a5842⟩ | ⟨a5843, a5844, a5845⟩
    · show WL _ _ _ _ 1583 [(4, vI i), (3, .ref o), (2, .ref m), (1, .ref x), (0, .ref 0)] [vI z5836] _ H5830
      refine wl_of hX hb cL_1583 (rw_pop (pc' := 1584) rfl rfl ?_)
      refine wl_of hX hb cL_1584 (rw_goto (p1 := 1653) (by decide) ?_)
      have k5846 : wKI H5830 m = wKI H5787 m := (wKI_fr w5791 gm f5835 rfl)
      have k5847 : H5830 x 9 = H5787 x 9 := (f5835 x 9 _ gx rfl)
      have k5848 : H5830 m 6 = H5787 m 6 := (f5835 m 6 _ gm rfl)
      have k5849 : H5830 x 11 = H5787 x 11 := (f5835 x 11 _ gx rfl)
      have k5850 : H5830 m 13 = H5787 m 13 := (f5835 m 13 _ gm rfl)
      have k5851 : H5830 x 8 = H5787 x 8 := (f5835 x 8 _ gx rfl)
      have k5852 : H5830 m 3 = H5787 m 3 := (f5835 m 3 _ gm rfl)
      have k5853 : H5830 x 0 = H x 0 := ((f5835 x 0 _ gx rfl).trans (f5792 x 0 _ gx rfl))
      have q5854 : H5830 x 0 = (tc : Int) := k5853.trans e0
      have k5855 : H5830 m 5 = H m 5 := ((f5835 m 5 _ gm rfl).trans (f5792 m 5 _ gm rfl))
      have q5856 : H5830 m 5 = (tm : Int) := k5855.trans em
      have k5857 : H5830 x 6 = H x 6 := ((f5835 x 6 _ gx rfl).trans (f5792 x 6 _ gx rfl))
      have q5858 : H5830 x 6 = (cu : Int) := k5857.trans ecu
      have k5859 : H5830 x 7 = H x 7 := ((f5835 x 7 _ gx rfl).trans (f5792 x 7 _ gx rfl))
      have q5860 : H5830 x 7 = (dr : Int) := k5859.trans edr
      have h5861 : CEN T H5830 ce8 e8 d8 := (CEN_fr w5791 gce8 f5835 rfl (CEN_fr hW gce8 f5792 rfl hcen8))
      have h5862 : TP T H5830 tc B := (TP_fr w5791 gtc f5835 rfl (TP_fr hW gtc f5792 rfl htc))
      have h5863 : TM T H5830 tm B := (TM_fr w5791 gtm f5835 rfl (TM_fr hW gtm f5792 rfl htm))
      have h5864 : DD T H5830 cu  := (DD_fr w5791 gcu f5835 rfl (DD_fr hW gcu f5792 rfl hcu))
      have h5865 : DD T H5830 dr  := (DD_fr w5791 gdr f5835 rfl (DD_fr hW gdr f5792 rfl hdr))
      have h5866 : DE T H5830 cu  := (DE_fr w5791 gcu f5835 rfl (DE_fr hW gcu f5792 rfl hdec))
      have h5867 : DE T H5830 dr  := (DE_fr w5791 gdr f5835 rfl (DE_fr hW gdr f5792 rfl hded))
      have h5868 : SP T H5830 x C8 := (SP_fr w5791 gx f5835 rfl (SP_fr hW gx f5792 rfl hsp))
      have h5869 : CU T H5830 cu e8 d8 n8 := (CU_fr w5791 gcu f5835 rfl (CU_fr hW gcu f5792 rfl hcu8))
      have h5870 : CY T H5830 cu ((d8 0 3)) (xdg d8 v5779) (wdv (d8 0 3).toNat v5779) := (CY_fr w5791 gcu f5835 rfl a5800)
      have k5871 : H5830 x 3 = H x 3 := ((f5835 x 3 _ gx rfl).trans (f5792 x 3 _ gx rfl))
      have q5872 : H5830 x 3 = (ce8 : Int) := k5871.trans ece8
      have h5873 : HDR T H5830 ce8  := (HDR_fr w5791 gce8 f5835 rfl (HDR_fr hW gce8 f5792 rfl hhdr8))
      have h5874 : KNN T H5830 m e8 d8 := (KNN_fr w5791 gm f5835 rfl (KNN_fr hW gm f5792 rfl hknn8))
      have h5875 : RB T H5830 m e8 d8 := (RB_fr w5791 gm f5835 rfl h5826)
      exact WL.loc hX (by simp) (next T H5830 ⟨⟨w5834, g0, gx, gm, go, by omega, by omega⟩, ⟨_, tc, tm, cu, dr, _, _, _, _, _, ce8, q5854, gtc, h5862, q5856, gtm, h5863, q5858, gcu, q5860, gdr, h5864, h5865, h5866, h5867, h5868, hC1, hC2, h5869, h5875, (h5870).1, (a5842).1, hE, hZ, (by omega), (by assumption), (by omega), (by first | assumption | exact SG_0), q5872, gce8, h5861, h5873, h5874, gm⟩, by omega, by omega⟩ (by omega) (by omega))
    · show WL _ _ _ _ 1583 [(4, vI i), (3, .ref o), (2, .ref m), (1, .ref x), (0, .ref 0)] [vI z5836] _ H5830
      refine wl_of hX hb cL_1583 (rw_pop (pc' := 1584) rfl rfl ?_)
      refine wl_of hX hb cL_1584 (rw_goto (p1 := 1653) (by decide) ?_)
      have k5876 : wKI H5830 m = wKI H5787 m := (wKI_fr w5791 gm f5835 rfl)
      have k5877 : H5830 x 9 = H5787 x 9 := (f5835 x 9 _ gx rfl)
      have k5878 : H5830 m 6 = H5787 m 6 := (f5835 m 6 _ gm rfl)
      have k5879 : H5830 x 11 = H5787 x 11 := (f5835 x 11 _ gx rfl)
      have k5880 : H5830 m 13 = H5787 m 13 := (f5835 m 13 _ gm rfl)
      have k5881 : H5830 x 8 = H5787 x 8 := (f5835 x 8 _ gx rfl)
      have k5882 : H5830 m 3 = H5787 m 3 := (f5835 m 3 _ gm rfl)
      have k5883 : H5830 x 0 = H x 0 := ((f5835 x 0 _ gx rfl).trans (f5792 x 0 _ gx rfl))
      have q5884 : H5830 x 0 = (tc : Int) := k5883.trans e0
      have k5885 : H5830 m 5 = H m 5 := ((f5835 m 5 _ gm rfl).trans (f5792 m 5 _ gm rfl))
      have q5886 : H5830 m 5 = (tm : Int) := k5885.trans em
      have k5887 : H5830 x 6 = H x 6 := ((f5835 x 6 _ gx rfl).trans (f5792 x 6 _ gx rfl))
      have q5888 : H5830 x 6 = (cu : Int) := k5887.trans ecu
      have k5889 : H5830 x 7 = H x 7 := ((f5835 x 7 _ gx rfl).trans (f5792 x 7 _ gx rfl))
      have q5890 : H5830 x 7 = (dr : Int) := k5889.trans edr
      have h5891 : CEN T H5830 ce8 e8 d8 := (CEN_fr w5791 gce8 f5835 rfl (CEN_fr hW gce8 f5792 rfl hcen8))
      have h5892 : TP T H5830 tc B := (TP_fr w5791 gtc f5835 rfl (TP_fr hW gtc f5792 rfl htc))
      have h5893 : TM T H5830 tm B := (TM_fr w5791 gtm f5835 rfl (TM_fr hW gtm f5792 rfl htm))
      have h5894 : DD T H5830 cu  := (DD_fr w5791 gcu f5835 rfl (DD_fr hW gcu f5792 rfl hcu))
      have h5895 : DD T H5830 dr  := (DD_fr w5791 gdr f5835 rfl (DD_fr hW gdr f5792 rfl hdr))
      have h5896 : DE T H5830 cu  := (DE_fr w5791 gcu f5835 rfl (DE_fr hW gcu f5792 rfl hdec))
      have h5897 : DE T H5830 dr  := (DE_fr w5791 gdr f5835 rfl (DE_fr hW gdr f5792 rfl hded))
      have h5898 : SP T H5830 x C8 := (SP_fr w5791 gx f5835 rfl (SP_fr hW gx f5792 rfl hsp))
      have h5899 : CU T H5830 cu e8 d8 n8 := (CU_fr w5791 gcu f5835 rfl (CU_fr hW gcu f5792 rfl hcu8))
      have h5900 : CY T H5830 cu ((d8 0 3)) (xdg d8 v5779) (wdv (d8 0 3).toNat v5779) := (CY_fr w5791 gcu f5835 rfl a5800)
      have k5901 : H5830 x 3 = H x 3 := ((f5835 x 3 _ gx rfl).trans (f5792 x 3 _ gx rfl))
      have q5902 : H5830 x 3 = (ce8 : Int) := k5901.trans ece8
      have h5903 : HDR T H5830 ce8  := (HDR_fr w5791 gce8 f5835 rfl (HDR_fr hW gce8 f5792 rfl hhdr8))
      have h5904 : KNN T H5830 m e8 d8 := (KNN_fr w5791 gm f5835 rfl (KNN_fr hW gm f5792 rfl hknn8))
      exfalso
      omega
  · show WL _ _ _ _ 1556 [(4, vI i), (3, .ref o), (2, .ref m), (1, .ref x), (0, .ref 0)] [vI z5793] _ H5787
    refine wl_of hX hb cL_1556 (rw_pop (pc' := 1557) rfl rfl ?_)
    refine wl_of hX hb cL_1557 (rw_aload_n (pc' := 1558) (v := .ref m) rfl rfl rfl ?_)
    refine wl_of hX hb cL_1558 (rw_aload_n (pc' := 1559) (v := .ref 0) rfl rfl rfl ?_)
    refine wl_of hX hb cL_1559 (rw_iload (pc' := 1561) (z := i) rfl rfl ?_)
    refine wl_of hX hb cL_1561 (rw_iconst (pc' := 1562) rfl ?_)
    refine wl_of hX hb cL_1562 (rw_iadd (pc' := 1563) rfl ?_)
    have k5907 : H5787 0 ((i + 1).toNat) = H 0 ((i + 1).toNat) := (f5792 0 ((i + 1).toNat) _ g0 (wmem_s rfl))
    refine wl_of hX hb cL_1563 (xa_I (so := 0) (pc' := 1564) (a := 0) w5791 g0 (wsh_s _) (by omega) (wty_s _ _) (by omega) (by omega) rfl (fun b5905 b5906 => ?_))
    refine wl_of hX hb cL_1564 (rw_i2l (pc' := 1565) rfl ⟨by omega, by omega⟩ ?_)
    refine wl_of hX hb cL_1565 (rw_bipush (pc' := 1567) (z := 32) rfl (by decide) ?_)
    refine wl_of hX hb cL_1567 (rw_lshl (pc' := 1568) rfl ?_)
    obtain ⟨v5908, e5909⟩ : ∃ x : Int, x = wl_shl (H5787 0 ((i + 1).toNat)) 32 := ⟨_, rfl⟩
    rw [← e5909]
    have b5910 : -9223372036854775808 ≤ v5908 ∧ v5908 ≤ 9223372036854775807 := by
      rw [e5909]
      exact wL_shl _ _
    refine wl_of hX hb cL_1568 (rw_aload_n (pc' := 1569) (v := .ref 0) rfl rfl rfl ?_)
    refine wl_of hX hb cL_1569 (rw_iload (pc' := 1571) (z := i) rfl rfl ?_)
    refine wl_of hX hb cL_1571 (rw_iconst (pc' := 1572) rfl ?_)
    refine wl_of hX hb cL_1572 (rw_iadd (pc' := 1573) rfl ?_)
    have k5913 : H5787 0 ((i + 2).toNat) = H 0 ((i + 2).toNat) := (f5792 0 ((i + 2).toNat) _ g0 (wmem_s rfl))
    refine wl_of hX hb cL_1573 (xa_I (so := 0) (pc' := 1574) (a := 0) w5791 g0 (wsh_s _) (by omega) (wty_s _ _) (by omega) (by omega) rfl (fun b5911 b5912 => ?_))
    refine wl_of hX hb cL_1574 (rw_i2l (pc' := 1575) rfl ⟨by omega, by omega⟩ ?_)
    refine wl_of hX hb cL_1575 (rw_ldc2 (pc' := 1578) (z := 4294967295) rfl rfl rfl ?_)
    refine wl_of hX hb cL_1578 (rw_land (pc' := 1579) rfl ?_)
    obtain ⟨v5914, e5915⟩ : ∃ x : Int, x = wl_and (H5787 0 ((i + 2).toNat)) 4294967295 := ⟨_, rfl⟩
    rw [← e5915]
    have b5916 : -9223372036854775808 ≤ v5914 ∧ v5914 ≤ 9223372036854775807 := by
      rw [e5915]
      exact wL_and _ _
    refine wl_of hX hb cL_1579 (rw_lor (pc' := 1580) rfl ?_)
    obtain ⟨v5917, e5918⟩ : ∃ x : Int, x = wl_or v5908 v5914 := ⟨_, rfl⟩
    rw [← e5918]
    have b5919 : -9223372036854775808 ≤ v5917 ∧ v5917 ≤ 9223372036854775807 := by
      rw [e5918]
      exact wL_or _ _
    have k5920 : wKI H5787 m = wKI H m := (wKI_fr hW gm f5792 rfl)
    have k5921 : H5787 x 9 = H x 9 := (f5792 x 9 _ gx rfl)
    have k5922 : H5787 m 6 = H m 6 := (f5792 m 6 _ gm rfl)
    have k5923 : H5787 x 11 = H x 11 := (f5792 x 11 _ gx rfl)
    have k5924 : H5787 m 13 = H m 13 := (f5792 m 13 _ gm rfl)
    have k5925 : H5787 x 8 = H x 8 := (f5792 x 8 _ gx rfl)
    have k5926 : H5787 m 3 = H m 3 := (f5792 m 3 _ gm rfl)
    have rs9 : v5917 = v5779 := by
      rw [e5918, e5909, e5915, e5780, e5772, e5777, show H5787 0 ((i + 1).toNat) = H 0 ((i + 1).toNat) by omega, show H5787 0 ((i + 2).toNat) = H 0 ((i + 2).toNat) by omega]
    rw [rs9]
    have h5927 : RB T H5787 m e8 d8 := (RB_fr hW gm f5792 rfl hrb8)
    have h5928 : RY T H5787 m (d8 0 3) g8 (H m 32) := (RY_fr hW gm f5792 rfl h5784)
    refine wl_of hX hb cL_1580 (xc_V (pc' := 1583) (r := m) (as := [vL v5779]) (st := []) (lm_11_219) rfl rfl (Nat.le_of_ble_eq_true rfl) w5791 gm sh_42 (by decide) rfl (by decide) (u_292 (e := e8) (d := d8) (nY := ((d8 0 3))) (gY := g8) (cY := ((H m 32))) w5791 gm ⟨b5781.1, b5781.2⟩ (by omega) h5927 h5928) (fun R5929 T5930 H5931 p5932 => ?_))
    obtain ⟨e5933, w5935, f5936, z5937, e5934, b5938, p5939⟩ := p5932
    subst e5933
    subst e5934
    rcases p5939 with ⟨a5940, a5941, a5942, a5943⟩ | ⟨a5944, a5945, a5946⟩
    · show WL _ _ _ _ 1583 [(4, vI i), (3, .ref o), (2, .ref m), (1, .ref x), (0, .ref 0)] [vI z5937] _ H5931
      refine wl_of hX hb cL_1583 (rw_pop (pc' := 1584) rfl rfl ?_)
      refine wl_of hX hb cL_1584 (rw_goto (p1 := 1653) (by decide) ?_)
      have k5947 : wKI H5931 m = wKI H5787 m := (wKI_fr w5791 gm f5936 rfl)
      have k5948 : H5931 x 9 = H5787 x 9 := (f5936 x 9 _ gx rfl)
      have k5949 : H5931 m 6 = H5787 m 6 := (f5936 m 6 _ gm rfl)
      have k5950 : H5931 x 11 = H5787 x 11 := (f5936 x 11 _ gx rfl)
      have k5951 : H5931 m 13 = H5787 m 13 := (f5936 m 13 _ gm rfl)
      have k5952 : H5931 x 8 = H5787 x 8 := (f5936 x 8 _ gx rfl)
      have k5953 : H5931 m 3 = H5787 m 3 := (f5936 m 3 _ gm rfl)
      have k5954 : H5931 x 0 = H x 0 := ((f5936 x 0 _ gx rfl).trans (f5792 x 0 _ gx rfl))
      have q5955 : H5931 x 0 = (tc : Int) := k5954.trans e0
      have k5956 : H5931 m 5 = H m 5 := ((f5936 m 5 _ gm rfl).trans (f5792 m 5 _ gm rfl))
      have q5957 : H5931 m 5 = (tm : Int) := k5956.trans em
      have k5958 : H5931 x 6 = H x 6 := ((f5936 x 6 _ gx rfl).trans (f5792 x 6 _ gx rfl))
      have q5959 : H5931 x 6 = (cu : Int) := k5958.trans ecu
      have k5960 : H5931 x 7 = H x 7 := ((f5936 x 7 _ gx rfl).trans (f5792 x 7 _ gx rfl))
      have q5961 : H5931 x 7 = (dr : Int) := k5960.trans edr
      have h5962 : CEN T H5931 ce8 e8 d8 := (CEN_fr w5791 gce8 f5936 rfl (CEN_fr hW gce8 f5792 rfl hcen8))
      have h5963 : TP T H5931 tc B := (TP_fr w5791 gtc f5936 rfl (TP_fr hW gtc f5792 rfl htc))
      have h5964 : TM T H5931 tm B := (TM_fr w5791 gtm f5936 rfl (TM_fr hW gtm f5792 rfl htm))
      have h5965 : DD T H5931 cu  := (DD_fr w5791 gcu f5936 rfl (DD_fr hW gcu f5792 rfl hcu))
      have h5966 : DD T H5931 dr  := (DD_fr w5791 gdr f5936 rfl (DD_fr hW gdr f5792 rfl hdr))
      have h5967 : DE T H5931 cu  := (DE_fr w5791 gcu f5936 rfl (DE_fr hW gcu f5792 rfl hdec))
      have h5968 : DE T H5931 dr  := (DE_fr w5791 gdr f5936 rfl (DE_fr hW gdr f5792 rfl hded))
      have h5969 : SP T H5931 x C8 := (SP_fr w5791 gx f5936 rfl (SP_fr hW gx f5792 rfl hsp))
      have h5970 : CU T H5931 cu e8 d8 n8 := (CU_fr w5791 gcu f5936 rfl (CU_fr hW gcu f5792 rfl hcu8))
      have h5971 : CY T H5931 cu ((d8 0 3)) g8 ((H cu 17)) := (CY_fr w5791 gcu f5936 rfl a5803)
      have k5972 : H5931 x 3 = H x 3 := ((f5936 x 3 _ gx rfl).trans (f5792 x 3 _ gx rfl))
      have q5973 : H5931 x 3 = (ce8 : Int) := k5972.trans ece8
      have h5974 : HDR T H5931 ce8  := (HDR_fr w5791 gce8 f5936 rfl (HDR_fr hW gce8 f5792 rfl hhdr8))
      have h5975 : KNN T H5931 m e8 d8 := (KNN_fr w5791 gm f5936 rfl (KNN_fr hW gm f5792 rfl hknn8))
      exfalso
      omega
    · show WL _ _ _ _ 1583 [(4, vI i), (3, .ref o), (2, .ref m), (1, .ref x), (0, .ref 0)] [vI z5937] _ H5931
      refine wl_of hX hb cL_1583 (rw_pop (pc' := 1584) rfl rfl ?_)
      refine wl_of hX hb cL_1584 (rw_goto (p1 := 1653) (by decide) ?_)
      have k5976 : wKI H5931 m = wKI H5787 m := (wKI_fr w5791 gm f5936 rfl)
      have k5977 : H5931 x 9 = H5787 x 9 := (f5936 x 9 _ gx rfl)
      have k5978 : H5931 m 6 = H5787 m 6 := (f5936 m 6 _ gm rfl)
      have k5979 : H5931 x 11 = H5787 x 11 := (f5936 x 11 _ gx rfl)
      have k5980 : H5931 m 13 = H5787 m 13 := (f5936 m 13 _ gm rfl)
      have k5981 : H5931 x 8 = H5787 x 8 := (f5936 x 8 _ gx rfl)
      have k5982 : H5931 m 3 = H5787 m 3 := (f5936 m 3 _ gm rfl)
      have k5983 : H5931 x 0 = H x 0 := ((f5936 x 0 _ gx rfl).trans (f5792 x 0 _ gx rfl))
      have q5984 : H5931 x 0 = (tc : Int) := k5983.trans e0
      have k5985 : H5931 m 5 = H m 5 := ((f5936 m 5 _ gm rfl).trans (f5792 m 5 _ gm rfl))
      have q5986 : H5931 m 5 = (tm : Int) := k5985.trans em
      have k5987 : H5931 x 6 = H x 6 := ((f5936 x 6 _ gx rfl).trans (f5792 x 6 _ gx rfl))
      have q5988 : H5931 x 6 = (cu : Int) := k5987.trans ecu
      have k5989 : H5931 x 7 = H x 7 := ((f5936 x 7 _ gx rfl).trans (f5792 x 7 _ gx rfl))
      have q5990 : H5931 x 7 = (dr : Int) := k5989.trans edr
      have h5991 : CEN T H5931 ce8 e8 d8 := (CEN_fr w5791 gce8 f5936 rfl (CEN_fr hW gce8 f5792 rfl hcen8))
      have h5992 : TP T H5931 tc B := (TP_fr w5791 gtc f5936 rfl (TP_fr hW gtc f5792 rfl htc))
      have h5993 : TM T H5931 tm B := (TM_fr w5791 gtm f5936 rfl (TM_fr hW gtm f5792 rfl htm))
      have h5994 : DD T H5931 cu  := (DD_fr w5791 gcu f5936 rfl (DD_fr hW gcu f5792 rfl hcu))
      have h5995 : DD T H5931 dr  := (DD_fr w5791 gdr f5936 rfl (DD_fr hW gdr f5792 rfl hdr))
      have h5996 : DE T H5931 cu  := (DE_fr w5791 gcu f5936 rfl (DE_fr hW gcu f5792 rfl hdec))
      have h5997 : DE T H5931 dr  := (DE_fr w5791 gdr f5936 rfl (DE_fr hW gdr f5792 rfl hded))
      have h5998 : SP T H5931 x C8 := (SP_fr w5791 gx f5936 rfl (SP_fr hW gx f5792 rfl hsp))
      have h5999 : CU T H5931 cu e8 d8 n8 := (CU_fr w5791 gcu f5936 rfl (CU_fr hW gcu f5792 rfl hcu8))
      have h6000 : CY T H5931 cu ((d8 0 3)) g8 ((H cu 17)) := (CY_fr w5791 gcu f5936 rfl a5803)
      have k6001 : H5931 x 3 = H x 3 := ((f5936 x 3 _ gx rfl).trans (f5792 x 3 _ gx rfl))
      have q6002 : H5931 x 3 = (ce8 : Int) := k6001.trans ece8
      have h6003 : HDR T H5931 ce8  := (HDR_fr w5791 gce8 f5936 rfl (HDR_fr hW gce8 f5792 rfl hhdr8))
      have h6004 : KNN T H5931 m e8 d8 := (KNN_fr w5791 gm f5936 rfl (KNN_fr hW gm f5792 rfl hknn8))
      have h6005 : RB T H5931 m e8 d8 := (RB_fr w5791 gm f5936 rfl h5927)
      exact WL.loc hX (by simp) (next T H5931 ⟨⟨w5935, g0, gx, gm, go, by omega, by omega⟩, ⟨_, tc, tm, cu, dr, _, _, _, _, _, ce8, q5984, gtc, h5992, q5986, gtm, h5993, q5988, gcu, q5990, gdr, h5994, h5995, h5996, h5997, h5998, hC1, hC2, h5999, h6005, (h6000).1, (a5946).1, hE, hZ, (by omega), (by assumption), (by omega), (by first | assumption | exact SG_0), q6002, gce8, h5991, h6003, h6004, gm⟩, by omega, by omega⟩ (by omega) (by omega))
set_option maxHeartbeats 4000000 in
theorem wl_c47 {kt : Nat → Option mc_E} {CB SB : Nat} {X : mc_S → Prop} {T : wq_T} {H : wq_H} {Len x m o : Nat} {i : Int} (hX : wlX kt CB SB X) (hb : T.2.1 ≤ CB ∧ T.2.2.1 ≤ SB) (hI : wlJ Len x m o T H) (hL : Len ≤ 3072) (hi : 0 ≤ i ∧ i + 6 ≤ Len) (hb2 : T.2.1 + 20 ≤ CB ∧ T.2.2.1 + 500 ≤ SB) (hled : ∀ {z : Int}, wI z → T.2.1 ≤ CB ∧ T.2.2.1 ≤ SB → wlJ Len x m o T H → (∀ (z' : Int), wI z' → ∀ (T' : wq_T) (H' : wq_H), wlJ Len x m o T' H' → T'.2.1 ≤ T.2.1 + 20 → T'.2.2.1 ≤ T.2.2.1 + 500 → WL kt CB SB X 1598 (wlL i x m o) [vI z'] T' H') → WL kt CB SB X 1595 (wlL i x m o) [.ref o, vI z, .ref x] T H) (next : ∀ T' H', wlJ Len x m o T' H' → T'.2.1 ≤ T.2.1 + 20 → T'.2.2.1 ≤ T.2.2.1 + 500 → WL kt CB SB X 1653 (wlL i x m o) [] T' H') : WL kt CB SB X 1587 (wlL i x m o) [] T H := by
  obtain ⟨⟨hW, g0, gx, gm, go, hK, hr⟩, hXI, hY1, hY2⟩ := hI
  refine wl_of hX hb cL_1587 (rw_aload_n (pc' := 1588) (v := .ref x) rfl rfl rfl ?_)
  refine wl_of hX hb cL_1588 (rw_aload_n (pc' := 1589) (v := .ref 0) rfl rfl rfl ?_)
  refine wl_of hX hb cL_1589 (rw_iload (pc' := 1591) (z := i) rfl rfl ?_)
  refine wl_of hX hb cL_1591 (rw_iconst (pc' := 1592) rfl ?_)
  refine wl_of hX hb cL_1592 (rw_iadd (pc' := 1593) rfl ?_)
  refine wl_of hX hb cL_1593 (xa_I (so := 0) (pc' := 1594) (a := 0) hW g0 (wsh_s _) (by omega) (wty_s _ _) (by omega) (by omega) rfl (fun b6006 b6007 => ?_))
  refine wl_of hX hb cL_1594 (rw_aload_n (pc' := 1595) (v := .ref o) rfl rfl rfl ?_)
  refine hled ⟨by omega, by omega⟩ hb ⟨⟨hW, g0, gx, gm, go, by omega, by omega⟩, hXI, by omega, by omega⟩ (fun z9 b9 T9 H9 hI9 n9 s9 => ?_)
  obtain ⟨⟨w9, g0, gx, gm, go, hK, hr⟩, hXI, hY1, hY2⟩ := hI9
  have hb : T9.2.1 ≤ CB ∧ T9.2.2.1 ≤ SB := ⟨by omega, by omega⟩
  refine wl_of hX hb cL_1598 (rw_istore (pc' := 1600) (z := z9) (L' := [(5, vI z9), (4, vI i), (3, .ref o), (2, .ref m), (1, .ref x), (0, .ref 0)]) rfl rfl rfl ?_)
  refine wl_of hX hb cL_1600 (rw_aload_n (pc' := 1601) (v := .ref m) rfl rfl rfl ?_)
  refine wl_of hX hb cL_1601 (rw_aload_n (pc' := 1602) (v := .ref 0) rfl rfl rfl ?_)
  refine wl_of hX hb cL_1602 (rw_iload (pc' := 1604) (z := i) rfl rfl ?_)
  refine wl_of hX hb cL_1604 (rw_iconst (pc' := 1605) rfl ?_)
  refine wl_of hX hb cL_1605 (rw_iadd (pc' := 1606) rfl ?_)
  refine wl_of hX hb cL_1606 (xa_I (so := 0) (pc' := 1607) (a := 0) w9 g0 (wsh_s _) (by omega) (wty_s _ _) (by omega) (by omega) rfl (fun b6008 b6009 => ?_))
  refine wl_of hX hb cL_1607 (xc_V (pc' := 1610) (r := m) (as := [vI (H9 0 ((i + 1).toNat))]) (st := []) (lm_11_225) rfl rfl (Nat.le_of_ble_eq_true rfl) w9 gm sh_42 (by decide) rfl (by decide) (s_293 w9 gm ⟨by omega, by omega⟩ (by omega)) (fun R6010 T6011 H6012 p6013 => ?_))
  obtain ⟨e6014, w6016, f6017, z6019, e6015, b6020, p6018⟩ := p6013
  subst e6014
  subst e6015
  show WL _ _ _ _ 1610 [(5, vI z9), (4, vI i), (3, .ref o), (2, .ref m), (1, .ref x), (0, .ref 0)] [vI z6019] _ H6012
  refine wl_of hX hb cL_1610 (rw_istore (pc' := 1612) (z := z6019) (L' := [(6, vI z6019), (5, vI z9), (4, vI i), (3, .ref o), (2, .ref m), (1, .ref x), (0, .ref 0)]) rfl rfl rfl ?_)
  refine wl_of hX hb cL_1612 (rw_goto (p1 := 1653) (by decide) ?_)
  have k6021 : H6012 x 9 = H9 x 9 := (f6017 x 9 _ gx rfl)
  have k6022 : H6012 m 6 = H9 m 6 := (f6017 m 6 _ gm rfl)
  have k6023 : H6012 x 11 = H9 x 11 := (f6017 x 11 _ gx rfl)
  have k6024 : H6012 m 13 = H9 m 13 := (f6017 m 13 _ gm rfl)
  have k6025 : H6012 x 8 = H9 x 8 := (f6017 x 8 _ gx rfl)
  have k6026 : H6012 m 3 = H9 m 3 := (f6017 m 3 _ gm rfl)
  have h6027 : XI T9 H6012 x m := (XI_fr w9 gx f6017 rfl hXI)
  exact WL.loc hX (by simp) (next T9 H6012 ⟨⟨w6016, g0, gx, gm, go, by omega, by omega⟩, h6027, by omega, by omega⟩ (by omega) (by omega))
set_option maxHeartbeats 4000000 in
theorem wl_c48 {kt : Nat → Option mc_E} {CB SB : Nat} {X : mc_S → Prop} {T : wq_T} {H : wq_H} {Len x m o : Nat} {i : Int} (hX : wlX kt CB SB X) (hb : T.2.1 ≤ CB ∧ T.2.2.1 ≤ SB) (hI : wlJ Len x m o T H) (hL : Len ≤ 3072) (hi : 0 ≤ i ∧ i + 6 ≤ Len) (hb2 : T.2.1 + 20 ≤ CB ∧ T.2.2.1 + 500 ≤ SB)  (next : ∀ T' H', wlJ Len x m o T' H' → T'.2.1 ≤ T.2.1 + 20 → T'.2.2.1 ≤ T.2.2.1 + 500 → WL kt CB SB X 1653 (wlL i x m o) [] T' H') : WL kt CB SB X 1615 (wlL i x m o) [] T H := by
  obtain ⟨⟨hW, g0, gx, gm, go, hK, hr⟩, hXI, hY1, hY2⟩ := hI
  refine wl_of hX hb cL_1615 (rw_aload_n (pc' := 1616) (v := .ref x) rfl rfl rfl ?_)
  refine wl_of hX hb cL_1616 (rw_aload_n (pc' := 1617) (v := .ref 0) rfl rfl rfl ?_)
  refine wl_of hX hb cL_1617 (rw_iload (pc' := 1619) (z := i) rfl rfl ?_)
  refine wl_of hX hb cL_1619 (rw_iconst (pc' := 1620) rfl ?_)
  refine wl_of hX hb cL_1620 (rw_iadd (pc' := 1621) rfl ?_)
  refine wl_of hX hb cL_1621 (xa_I (so := 0) (pc' := 1622) (a := 0) hW g0 (wsh_s _) (by omega) (wty_s _ _) (by omega) (by omega) rfl (fun b6028 b6029 => ?_))
  refine wl_of hX hb cL_1622 (xc_V (pc' := 1625) (r := x) (as := [vI (H 0 ((i + 1).toNat))]) (st := []) (lm_11_226) rfl rfl (Nat.le_of_ble_eq_true rfl) hW gx sh_1 (by decide) rfl (by decide) (s_164 hW gx ⟨by omega, by omega⟩) (fun R6030 T6031 H6032 p6033 => ?_))
  obtain ⟨e6034, e6036, z6037, e6035, b6038⟩ := p6033
  subst e6034
  subst e6035
  subst e6036
  show WL _ _ _ _ 1625 [(4, vI i), (3, .ref o), (2, .ref m), (1, .ref x), (0, .ref 0)] [vI z6037] _ H
  refine wl_of hX hb cL_1625 (rw_pop (pc' := 1626) rfl rfl ?_)
  refine wl_of hX hb cL_1626 (rw_aload_n (pc' := 1627) (v := .ref m) rfl rfl rfl ?_)
  refine wl_of hX hb cL_1627 (rw_aload_n (pc' := 1628) (v := .ref 0) rfl rfl rfl ?_)
  refine wl_of hX hb cL_1628 (rw_iload (pc' := 1630) (z := i) rfl rfl ?_)
  refine wl_of hX hb cL_1630 (rw_iconst (pc' := 1631) rfl ?_)
  refine wl_of hX hb cL_1631 (rw_iadd (pc' := 1632) rfl ?_)
  refine wl_of hX hb cL_1632 (xa_I (so := 0) (pc' := 1633) (a := 0) hW g0 (wsh_s _) (by omega) (wty_s _ _) (by omega) (by omega) rfl (fun b6039 b6040 => ?_))
  refine wl_of hX hb cL_1633 (xc_V (pc' := 1636) (r := m) (as := [vI (H 0 ((i + 1).toNat))]) (st := []) (lm_11_229) rfl rfl (Nat.le_of_ble_eq_true rfl) hW gm sh_42 (by decide) rfl (by decide) (s_294 hW gm ⟨by omega, by omega⟩ (by omega)) (fun R6041 T6042 H6043 p6044 => ?_))
  obtain ⟨e6045, w6047, f6048, z6050, e6046, b6051, p6049⟩ := p6044
  subst e6045
  subst e6046
  show WL _ _ _ _ 1636 [(4, vI i), (3, .ref o), (2, .ref m), (1, .ref x), (0, .ref 0)] [vI z6050] _ H6043
  refine wl_of hX hb cL_1636 (rw_pop (pc' := 1637) rfl rfl ?_)
  refine wl_of hX hb cL_1637 (rw_goto (p1 := 1653) (by decide) ?_)
  have k6052 : H6043 x 9 = H x 9 := (f6048 x 9 _ gx rfl)
  have k6053 : H6043 m 6 = H m 6 := (f6048 m 6 _ gm rfl)
  have k6054 : H6043 x 11 = H x 11 := (f6048 x 11 _ gx rfl)
  have k6055 : H6043 m 13 = H m 13 := (f6048 m 13 _ gm rfl)
  have k6056 : H6043 x 8 = H x 8 := (f6048 x 8 _ gx rfl)
  have k6057 : H6043 m 3 = H m 3 := (f6048 m 3 _ gm rfl)
  have h6058 : XI T H6043 x m := (XI_fr hW gx f6048 rfl hXI)
  exact WL.loc hX (by simp) (next T H6043 ⟨⟨w6047, g0, gx, gm, go, by omega, by omega⟩, h6058, by omega, by omega⟩ (by omega) (by omega))
set_option maxHeartbeats 4000000 in
theorem wl_c49 {kt : Nat → Option mc_E} {CB SB : Nat} {X : mc_S → Prop} {T : wq_T} {H : wq_H} {Len x m o : Nat} {i : Int} (hX : wlX kt CB SB X) (hb : T.2.1 ≤ CB ∧ T.2.2.1 ≤ SB) (hI : wlJ Len x m o T H) (hL : Len ≤ 3072) (hi : 0 ≤ i ∧ i + 6 ≤ Len) (hb2 : T.2.1 + 20 ≤ CB ∧ T.2.2.1 + 500 ≤ SB)  (next : ∀ T' H', wlJ Len x m o T' H' → T'.2.1 ≤ T.2.1 + 20 → T'.2.2.1 ≤ T.2.2.1 + 500 → WL kt CB SB X 1653 (wlL i x m o) [] T' H') : WL kt CB SB X 1640 (wlL i x m o) [] T H := by
  obtain ⟨⟨hW, g0, gx, gm, go, hK, hr⟩, hXI, hY1, hY2⟩ := hI
  refine wl_of hX hb cL_1640 (rw_aload_n (pc' := 1641) (v := .ref x) rfl rfl rfl ?_)
  refine wl_of hX hb cL_1641 (xc_V (pc' := 1644) (r := x) (as := []) (st := []) (lm_11_230) rfl rfl (Nat.le_of_ble_eq_true rfl) hW gx sh_1 (by decide) rfl (by decide) (s_165 hW gx) (fun R6059 T6060 H6061 p6062 => ?_))
  obtain ⟨e6063, e6065, z6066, e6064, b6067⟩ := p6062
  subst e6063
  subst e6064
  subst e6065
  show WL _ _ _ _ 1644 [(4, vI i), (3, .ref o), (2, .ref m), (1, .ref x), (0, .ref 0)] [vI z6066] _ H
  refine wl_of hX hb cL_1644 (rw_pop (pc' := 1645) rfl rfl ?_)
  refine wl_of hX hb cL_1645 (rw_aload_n (pc' := 1646) (v := .ref m) rfl rfl rfl ?_)
  refine wl_of hX hb cL_1646 (xc_V (pc' := 1649) (r := m) (as := []) (st := []) (lm_11_233) rfl rfl (Nat.le_of_ble_eq_true rfl) hW gm sh_42 (by decide) rfl (by decide) (s_295 hW gm (by omega)) (fun R6068 T6069 H6070 p6071 => ?_))
  obtain ⟨e6072, w6074, f6075, z6077, e6073, b6078, p6076⟩ := p6071
  subst e6072
  subst e6073
  show WL _ _ _ _ 1649 [(4, vI i), (3, .ref o), (2, .ref m), (1, .ref x), (0, .ref 0)] [vI z6077] _ H6070
  refine wl_of hX hb cL_1649 (rw_pop (pc' := 1650) rfl rfl ?_)
  refine wl_of hX hb cL_1650 (rw_goto (p1 := 1653) (by decide) ?_)
  have k6079 : H6070 x 9 = H x 9 := (f6075 x 9 _ gx rfl)
  have k6080 : H6070 m 6 = H m 6 := (f6075 m 6 _ gm rfl)
  have k6081 : H6070 x 11 = H x 11 := (f6075 x 11 _ gx rfl)
  have k6082 : H6070 m 13 = H m 13 := (f6075 m 13 _ gm rfl)
  have k6083 : H6070 x 8 = H x 8 := (f6075 x 8 _ gx rfl)
  have k6084 : H6070 m 3 = H m 3 := (f6075 m 3 _ gm rfl)
  have h6085 : XI T H6070 x m := (XI_fr hW gx f6075 rfl hXI)
  exact WL.loc hX (by simp) (next T H6070 ⟨⟨w6074, g0, gx, gm, go, by omega, by omega⟩, h6085, by omega, by omega⟩ (by omega) (by omega))
set_option maxHeartbeats 4000000 in
theorem wl_head {kt : Nat → Option mc_E} {CB SB : Nat} {X : mc_S → Prop} {T : wq_T} {H : wq_H} {Len x m o : Nat} {i : Int} (hX : wlX kt CB SB X) (hb : T.2.1 ≤ CB ∧ T.2.2.1 ≤ SB) (hI : wlJ Len x m o T H) (hL : Len ≤ 3072) (hi : 0 ≤ i ∧ i ≤ Len) (cases : ∀ t, t ∈ [256, 329, 354, 367, 380, 405, 454, 503, 516, 553, 578, 603, 616, 629, 642, 655, 668, 705, 718, 755, 792, 829, 882, 919, 944, 957, 994, 1019, 1056, 1109, 1162, 1175, 1200, 1225, 1250, 1263, 1316, 1329, 1342, 1367, 1404, 1429, 1454, 1467, 1504, 1517, 1530, 1587, 1615, 1640] → i + 6 ≤ Len → WL kt CB SB X t (wlL i x m o) [] T H) (next : i + 6 ≤ Len → WL kt CB SB X 1653 (wlL i x m o) [] T H) : WL kt CB SB X 23 (wlL i x m o) [] T H := by
  obtain ⟨⟨hW, g0, gx, gm, go, hK, hr⟩, hXI, hY1, hY2⟩ := hI
  refine wl_of hX hb cL_23 (rw_iload (pc' := 25) (z := i) rfl rfl ?_)
  refine wl_of hX hb cL_25 (rw_aload_n (pc' := 26) (v := .ref 0) rfl rfl rfl ?_)
  refine wl_of hX hb cL_26 (xa_N (pc' := 27) (a := 0) (n := Len) hW g0 (wsh_s _) (by decide) rfl ?_)
  refine wl_of hX hb cL_27 (rw_bipush (pc' := 29) (z := 6) rfl (by decide) ?_)
  refine wl_of hX hb cL_29 (rw_isub (pc' := 30) rfl ?_)
  refine wl_of hX hb cL_30 (rw_icmp_gt (p1 := 1659) (p2 := 33) (by decide) rfl ⟨by omega, by omega⟩ ⟨by omega, by omega⟩ (fun c6086 => ?_) (fun c6086 => ?_))
  · refine wl_of hX hb cL_1659 (rw_iconst (pc' := 1660) rfl ?_)
    exact WL.fin hX hb
  · refine wl_of hX hb cL_33 (rw_aload_n (pc' := 34) (v := .ref 0) rfl rfl rfl ?_)
    refine wl_of hX hb cL_34 (rw_iload (pc' := 36) (z := i) rfl rfl ?_)
    refine wl_of hX hb cL_36 (xa_I (so := 0) (pc' := 37) (a := 0) hW g0 (wsh_s _) (by omega) (wty_s _ _) (by omega) (by omega) rfl (fun b6087 b6088 => ?_))
    refine wl_of hX hb cL_37 (rw_bipush (pc' := 39) (z := 63) rfl (by decide) ?_)
    refine wl_of hX hb cL_39 (rw_iand (pc' := 40) rfl ?_)
    obtain ⟨v6089, e6090⟩ : ∃ x : Int, x = wq_and (H 0 (i.toNat)) 63 := ⟨_, rfl⟩
    rw [← e6090]
    have b6091 : 0 ≤ v6089 ∧ v6089 ≤ 63 := by
      rw [e6090]
      exact wq_and_b _ (by omega) (by omega)
    have c6092 : v6089 = 0 ∨ v6089 = 1 ∨ v6089 = 2 ∨ v6089 = 3 ∨ v6089 = 4 ∨ v6089 = 5 ∨ v6089 = 6 ∨ v6089 = 7 ∨ v6089 = 8 ∨ v6089 = 9 ∨ v6089 = 10 ∨ v6089 = 11 ∨ v6089 = 12 ∨ v6089 = 13 ∨ v6089 = 14 ∨ v6089 = 15 ∨ v6089 = 16 ∨ v6089 = 17 ∨ v6089 = 18 ∨ v6089 = 19 ∨ v6089 = 20 ∨ v6089 = 21 ∨ v6089 = 22 ∨ v6089 = 23 ∨ v6089 = 24 ∨ v6089 = 25 ∨ v6089 = 26 ∨ v6089 = 27 ∨ v6089 = 28 ∨ v6089 = 29 ∨ v6089 = 30 ∨ v6089 = 31 ∨ v6089 = 32 ∨ v6089 = 33 ∨ v6089 = 34 ∨ v6089 = 35 ∨ v6089 = 36 ∨ v6089 = 37 ∨ v6089 = 38 ∨ v6089 = 39 ∨ v6089 = 40 ∨ v6089 = 41 ∨ v6089 = 42 ∨ v6089 = 43 ∨ v6089 = 44 ∨ v6089 = 45 ∨ v6089 = 46 ∨ v6089 = 47 ∨ v6089 = 48 ∨ v6089 = 49 ∨ (v6089 < 0 ∨ 49 < v6089) := by omega
    rcases c6092 with c6092 | c6092 | c6092 | c6092 | c6092 | c6092 | c6092 | c6092 | c6092 | c6092 | c6092 | c6092 | c6092 | c6092 | c6092 | c6092 | c6092 | c6092 | c6092 | c6092 | c6092 | c6092 | c6092 | c6092 | c6092 | c6092 | c6092 | c6092 | c6092 | c6092 | c6092 | c6092 | c6092 | c6092 | c6092 | c6092 | c6092 | c6092 | c6092 | c6092 | c6092 | c6092 | c6092 | c6092 | c6092 | c6092 | c6092 | c6092 | c6092 | c6092 | c6092
    · refine wl_of hX hb cL_40 (rw_tsw (p1 := 256) ⟨by omega, by omega⟩ (by rw [c6092]; decide) ?_)
      exact cases 256 (by decide) (by omega)
    · refine wl_of hX hb cL_40 (rw_tsw (p1 := 329) ⟨by omega, by omega⟩ (by rw [c6092]; decide) ?_)
      exact cases 329 (by decide) (by omega)
    · refine wl_of hX hb cL_40 (rw_tsw (p1 := 354) ⟨by omega, by omega⟩ (by rw [c6092]; decide) ?_)
      exact cases 354 (by decide) (by omega)
    · refine wl_of hX hb cL_40 (rw_tsw (p1 := 367) ⟨by omega, by omega⟩ (by rw [c6092]; decide) ?_)
      exact cases 367 (by decide) (by omega)
    · refine wl_of hX hb cL_40 (rw_tsw (p1 := 380) ⟨by omega, by omega⟩ (by rw [c6092]; decide) ?_)
      exact cases 380 (by decide) (by omega)
    · refine wl_of hX hb cL_40 (rw_tsw (p1 := 405) ⟨by omega, by omega⟩ (by rw [c6092]; decide) ?_)
      exact cases 405 (by decide) (by omega)
    · refine wl_of hX hb cL_40 (rw_tsw (p1 := 454) ⟨by omega, by omega⟩ (by rw [c6092]; decide) ?_)
      exact cases 454 (by decide) (by omega)
    · refine wl_of hX hb cL_40 (rw_tsw (p1 := 503) ⟨by omega, by omega⟩ (by rw [c6092]; decide) ?_)
      exact cases 503 (by decide) (by omega)
    · refine wl_of hX hb cL_40 (rw_tsw (p1 := 516) ⟨by omega, by omega⟩ (by rw [c6092]; decide) ?_)
      exact cases 516 (by decide) (by omega)
    · refine wl_of hX hb cL_40 (rw_tsw (p1 := 553) ⟨by omega, by omega⟩ (by rw [c6092]; decide) ?_)
      exact cases 553 (by decide) (by omega)
    · refine wl_of hX hb cL_40 (rw_tsw (p1 := 578) ⟨by omega, by omega⟩ (by rw [c6092]; decide) ?_)
      exact cases 578 (by decide) (by omega)
    · refine wl_of hX hb cL_40 (rw_tsw (p1 := 603) ⟨by omega, by omega⟩ (by rw [c6092]; decide) ?_)
      exact cases 603 (by decide) (by omega)
    · refine wl_of hX hb cL_40 (rw_tsw (p1 := 616) ⟨by omega, by omega⟩ (by rw [c6092]; decide) ?_)
      exact cases 616 (by decide) (by omega)
    · refine wl_of hX hb cL_40 (rw_tsw (p1 := 629) ⟨by omega, by omega⟩ (by rw [c6092]; decide) ?_)
      exact cases 629 (by decide) (by omega)
    · refine wl_of hX hb cL_40 (rw_tsw (p1 := 642) ⟨by omega, by omega⟩ (by rw [c6092]; decide) ?_)
      exact cases 642 (by decide) (by omega)
    · refine wl_of hX hb cL_40 (rw_tsw (p1 := 655) ⟨by omega, by omega⟩ (by rw [c6092]; decide) ?_)
      exact cases 655 (by decide) (by omega)
    · refine wl_of hX hb cL_40 (rw_tsw (p1 := 668) ⟨by omega, by omega⟩ (by rw [c6092]; decide) ?_)
      exact cases 668 (by decide) (by omega)
    · refine wl_of hX hb cL_40 (rw_tsw (p1 := 705) ⟨by omega, by omega⟩ (by rw [c6092]; decide) ?_)
      exact cases 705 (by decide) (by omega)
    · refine wl_of hX hb cL_40 (rw_tsw (p1 := 718) ⟨by omega, by omega⟩ (by rw [c6092]; decide) ?_)
      exact cases 718 (by decide) (by omega)
    · refine wl_of hX hb cL_40 (rw_tsw (p1 := 755) ⟨by omega, by omega⟩ (by rw [c6092]; decide) ?_)
      exact cases 755 (by decide) (by omega)
    · refine wl_of hX hb cL_40 (rw_tsw (p1 := 792) ⟨by omega, by omega⟩ (by rw [c6092]; decide) ?_)
      exact cases 792 (by decide) (by omega)
    · refine wl_of hX hb cL_40 (rw_tsw (p1 := 829) ⟨by omega, by omega⟩ (by rw [c6092]; decide) ?_)
      exact cases 829 (by decide) (by omega)
    · refine wl_of hX hb cL_40 (rw_tsw (p1 := 882) ⟨by omega, by omega⟩ (by rw [c6092]; decide) ?_)
      exact cases 882 (by decide) (by omega)
    · refine wl_of hX hb cL_40 (rw_tsw (p1 := 919) ⟨by omega, by omega⟩ (by rw [c6092]; decide) ?_)
      exact cases 919 (by decide) (by omega)
    · refine wl_of hX hb cL_40 (rw_tsw (p1 := 944) ⟨by omega, by omega⟩ (by rw [c6092]; decide) ?_)
      exact cases 944 (by decide) (by omega)
    · refine wl_of hX hb cL_40 (rw_tsw (p1 := 957) ⟨by omega, by omega⟩ (by rw [c6092]; decide) ?_)
      exact cases 957 (by decide) (by omega)
    · refine wl_of hX hb cL_40 (rw_tsw (p1 := 994) ⟨by omega, by omega⟩ (by rw [c6092]; decide) ?_)
      exact cases 994 (by decide) (by omega)
    · refine wl_of hX hb cL_40 (rw_tsw (p1 := 1019) ⟨by omega, by omega⟩ (by rw [c6092]; decide) ?_)
      exact cases 1019 (by decide) (by omega)
    · refine wl_of hX hb cL_40 (rw_tsw (p1 := 1056) ⟨by omega, by omega⟩ (by rw [c6092]; decide) ?_)
      exact cases 1056 (by decide) (by omega)
    · refine wl_of hX hb cL_40 (rw_tsw (p1 := 1109) ⟨by omega, by omega⟩ (by rw [c6092]; decide) ?_)
      exact cases 1109 (by decide) (by omega)
    · refine wl_of hX hb cL_40 (rw_tsw (p1 := 1162) ⟨by omega, by omega⟩ (by rw [c6092]; decide) ?_)
      exact cases 1162 (by decide) (by omega)
    · refine wl_of hX hb cL_40 (rw_tsw (p1 := 1175) ⟨by omega, by omega⟩ (by rw [c6092]; decide) ?_)
      exact cases 1175 (by decide) (by omega)
    · refine wl_of hX hb cL_40 (rw_tsw (p1 := 1200) ⟨by omega, by omega⟩ (by rw [c6092]; decide) ?_)
      exact cases 1200 (by decide) (by omega)
    · refine wl_of hX hb cL_40 (rw_tsw (p1 := 1225) ⟨by omega, by omega⟩ (by rw [c6092]; decide) ?_)
      exact cases 1225 (by decide) (by omega)
    · refine wl_of hX hb cL_40 (rw_tsw (p1 := 1250) ⟨by omega, by omega⟩ (by rw [c6092]; decide) ?_)
      exact cases 1250 (by decide) (by omega)
    · refine wl_of hX hb cL_40 (rw_tsw (p1 := 1263) ⟨by omega, by omega⟩ (by rw [c6092]; decide) ?_)
      exact cases 1263 (by decide) (by omega)
    · refine wl_of hX hb cL_40 (rw_tsw (p1 := 1316) ⟨by omega, by omega⟩ (by rw [c6092]; decide) ?_)
      exact cases 1316 (by decide) (by omega)
    · refine wl_of hX hb cL_40 (rw_tsw (p1 := 1329) ⟨by omega, by omega⟩ (by rw [c6092]; decide) ?_)
      exact cases 1329 (by decide) (by omega)
    · refine wl_of hX hb cL_40 (rw_tsw (p1 := 1342) ⟨by omega, by omega⟩ (by rw [c6092]; decide) ?_)
      exact cases 1342 (by decide) (by omega)
    · refine wl_of hX hb cL_40 (rw_tsw (p1 := 1367) ⟨by omega, by omega⟩ (by rw [c6092]; decide) ?_)
      exact cases 1367 (by decide) (by omega)
    · refine wl_of hX hb cL_40 (rw_tsw (p1 := 1404) ⟨by omega, by omega⟩ (by rw [c6092]; decide) ?_)
      exact cases 1404 (by decide) (by omega)
    · refine wl_of hX hb cL_40 (rw_tsw (p1 := 1429) ⟨by omega, by omega⟩ (by rw [c6092]; decide) ?_)
      exact cases 1429 (by decide) (by omega)
    · refine wl_of hX hb cL_40 (rw_tsw (p1 := 1454) ⟨by omega, by omega⟩ (by rw [c6092]; decide) ?_)
      exact cases 1454 (by decide) (by omega)
    · refine wl_of hX hb cL_40 (rw_tsw (p1 := 1467) ⟨by omega, by omega⟩ (by rw [c6092]; decide) ?_)
      exact cases 1467 (by decide) (by omega)
    · refine wl_of hX hb cL_40 (rw_tsw (p1 := 1504) ⟨by omega, by omega⟩ (by rw [c6092]; decide) ?_)
      exact cases 1504 (by decide) (by omega)
    · refine wl_of hX hb cL_40 (rw_tsw (p1 := 1517) ⟨by omega, by omega⟩ (by rw [c6092]; decide) ?_)
      exact cases 1517 (by decide) (by omega)
    · refine wl_of hX hb cL_40 (rw_tsw (p1 := 1530) ⟨by omega, by omega⟩ (by rw [c6092]; decide) ?_)
      exact cases 1530 (by decide) (by omega)
    · refine wl_of hX hb cL_40 (rw_tsw (p1 := 1587) ⟨by omega, by omega⟩ (by rw [c6092]; decide) ?_)
      exact cases 1587 (by decide) (by omega)
    · refine wl_of hX hb cL_40 (rw_tsw (p1 := 1615) ⟨by omega, by omega⟩ (by rw [c6092]; decide) ?_)
      exact cases 1615 (by decide) (by omega)
    · refine wl_of hX hb cL_40 (rw_tsw (p1 := 1640) ⟨by omega, by omega⟩ (by rw [c6092]; decide) ?_)
      exact cases 1640 (by decide) (by omega)
    · refine wl_of hX hb cL_40 (rw_tsw (p1 := 1653) ⟨by omega, by omega⟩ (by rw [if_pos c6092]; decide) ?_)
      exact next (by omega)
theorem wl_back {kt : Nat → Option mc_E} {CB SB : Nat} {X : mc_S → Prop} {T : wq_T} {H : wq_H} {Len x m o : Nat} {i : Int} (hX : wlX kt CB SB X) (hb : T.2.1 ≤ CB ∧ T.2.2.1 ≤ SB) (hI : wlJ Len x m o T H) (hL : Len ≤ 3072) (hi : 0 ≤ i ∧ i + 6 ≤ Len) (next : WL kt CB SB X 23 (wlL (i + 6) x m o) [] T H) : WL kt CB SB X 1653 (wlL i x m o) [] T H := by
  obtain ⟨⟨hW, g0, gx, gm, go, hK, hr⟩, hXI, hY1, hY2⟩ := hI
  refine wl_of hX hb cL_1653 (rw_iinc (pc' := 1656) (z := i) (L' := [(4, vI (i + 6)), (3, .ref o), (2, .ref m), (1, .ref x), (0, .ref 0)]) rfl rfl rfl rfl ?_)
  refine wl_of hX hb cL_1656 (rw_goto (p1 := 23) (by decide) ?_)
  exact next
/-- the call that may throw, as the loop wants it -/
def wlLed (kt : Nat → Option mc_E) (CB SB : Nat) (X : mc_S → Prop) (Len x m o : Nat) : Prop := ∀ (T : wq_T) (H : wq_H) (i z : Int), T.2.1 + 20 ≤ CB ∧ T.2.2.1 + 500 ≤ SB → wI z → wlJ Len x m o T H → (∀ (z' : Int), wI z' → ∀ (T' : wq_T) (H' : wq_H), wlJ Len x m o T' H' → T'.2.1 ≤ T.2.1 + 20 → T'.2.2.1 ≤ T.2.2.1 + 500 → WL kt CB SB X 1598 (wlL i x m o) [vI z'] T' H') → WL kt CB SB X 1595 (wlL i x m o) [.ref o, vI z, .ref x] T H
set_option maxRecDepth 40000 in
theorem wl_loopL {kt : Nat → Option mc_E} {CB SB : Nat} {X : mc_S → Prop} {Len x m o : Nat} (hX : wlX kt CB SB X) (hL : Len ≤ 3072) (hled : wlLed kt CB SB X Len x m o) : ∀ (n : Nat) (T : wq_T) (H : wq_H) (i : Int), 0 ≤ i ∧ i ≤ Len → (Len - i).toNat = n → T.2.1 + 4 * (n + 6) ≤ CB → T.2.2.1 + 100 * (n + 6) ≤ SB → wlJ Len x m o T H → WL kt CB SB X 23 (wlL i x m o) [] T H := by
  intro n
  induction n using Nat.strongRecOn with
  | _ n ih =>
    intro T H i hi hn hc hs hI
    have hb : T.2.1 ≤ CB ∧ T.2.2.1 ≤ SB := ⟨by omega, by omega⟩
    have hb2 : T.2.1 + 20 ≤ CB ∧ T.2.2.1 + 500 ≤ SB := ⟨by omega, by omega⟩
    refine wl_head hX hb hI hL hi (fun t ht h6 => ?_) (fun h6 => wl_back hX hb hI hL ⟨hi.1, h6⟩ (ih (Len - (i + 6)).toNat (by omega) T H (i + 6) ⟨by omega, by omega⟩ rfl (by omega) (by omega) hI))
    have next : ∀ T' H', wlJ Len x m o T' H' → T'.2.1 ≤ T.2.1 + 20 → T'.2.2.1 ≤ T.2.2.1 + 500 → WL kt CB SB X 1653 (wlL i x m o) [] T' H' := fun T' H' hI' h1 h2 => wl_back hX ⟨by omega, by omega⟩ hI' hL ⟨hi.1, h6⟩ (ih (Len - (i + 6)).toNat (by omega) T' H' (i + 6) ⟨by omega, by omega⟩ rfl (by omega) (by omega) hI')
    rcases List.mem_cons.mp ht with rfl | ht
    · exact wl_c0 hX hb hI hL ⟨hi.1, h6⟩ hb2 next
    rcases List.mem_cons.mp ht with rfl | ht
    · exact wl_c1 hX hb hI hL ⟨hi.1, h6⟩ hb2 next
    rcases List.mem_cons.mp ht with rfl | ht
    · exact wl_c2 hX hb hI hL ⟨hi.1, h6⟩ hb2 next
    rcases List.mem_cons.mp ht with rfl | ht
    · exact wl_c3 hX hb hI hL ⟨hi.1, h6⟩ hb2 next
    rcases List.mem_cons.mp ht with rfl | ht
    · exact wl_c4 hX hb hI hL ⟨hi.1, h6⟩ hb2 next
    rcases List.mem_cons.mp ht with rfl | ht
    · exact wl_c5 hX hb hI hL ⟨hi.1, h6⟩ hb2 next
    rcases List.mem_cons.mp ht with rfl | ht
    · exact wl_c6 hX hb hI hL ⟨hi.1, h6⟩ hb2 next
    rcases List.mem_cons.mp ht with rfl | ht
    · exact wl_c7 hX hb hI hL ⟨hi.1, h6⟩ hb2 next
    rcases List.mem_cons.mp ht with rfl | ht
    · exact wl_c8 hX hb hI hL ⟨hi.1, h6⟩ hb2 next
    rcases List.mem_cons.mp ht with rfl | ht
    · exact wl_c9 hX hb hI hL ⟨hi.1, h6⟩ hb2 next
    rcases List.mem_cons.mp ht with rfl | ht
    · exact wl_c10 hX hb hI hL ⟨hi.1, h6⟩ hb2 next
    rcases List.mem_cons.mp ht with rfl | ht
    · exact wl_c11 hX hb hI hL ⟨hi.1, h6⟩ hb2 next
    rcases List.mem_cons.mp ht with rfl | ht
    · exact wl_c12 hX hb hI hL ⟨hi.1, h6⟩ hb2 next
    rcases List.mem_cons.mp ht with rfl | ht
    · exact wl_c13 hX hb hI hL ⟨hi.1, h6⟩ hb2 next
    rcases List.mem_cons.mp ht with rfl | ht
    · exact wl_c14 hX hb hI hL ⟨hi.1, h6⟩ hb2 next
    rcases List.mem_cons.mp ht with rfl | ht
    · exact wl_c15 hX hb hI hL ⟨hi.1, h6⟩ hb2 next
    rcases List.mem_cons.mp ht with rfl | ht
    · exact wl_c16 hX hb hI hL ⟨hi.1, h6⟩ hb2 next
    rcases List.mem_cons.mp ht with rfl | ht
    · exact wl_c17 hX hb hI hL ⟨hi.1, h6⟩ hb2 next
    rcases List.mem_cons.mp ht with rfl | ht
    · exact wl_c18 hX hb hI hL ⟨hi.1, h6⟩ hb2 next
    rcases List.mem_cons.mp ht with rfl | ht
    · exact wl_c19 hX hb hI hL ⟨hi.1, h6⟩ hb2 next
    rcases List.mem_cons.mp ht with rfl | ht
    · exact wl_c20 hX hb hI hL ⟨hi.1, h6⟩ hb2 next
    rcases List.mem_cons.mp ht with rfl | ht
    · exact wl_c21 hX hb hI hL ⟨hi.1, h6⟩ hb2 next
    rcases List.mem_cons.mp ht with rfl | ht
    · exact wl_c22 hX hb hI hL ⟨hi.1, h6⟩ hb2 next
    rcases List.mem_cons.mp ht with rfl | ht
    · exact wl_c23 hX hb hI hL ⟨hi.1, h6⟩ hb2 next
    rcases List.mem_cons.mp ht with rfl | ht
    · exact wl_c24 hX hb hI hL ⟨hi.1, h6⟩ hb2 next
    rcases List.mem_cons.mp ht with rfl | ht
    · exact wl_c25 hX hb hI hL ⟨hi.1, h6⟩ hb2 next
    rcases List.mem_cons.mp ht with rfl | ht
    · exact wl_c26 hX hb hI hL ⟨hi.1, h6⟩ hb2 next
    rcases List.mem_cons.mp ht with rfl | ht
    · exact wl_c27 hX hb hI hL ⟨hi.1, h6⟩ hb2 next
    rcases List.mem_cons.mp ht with rfl | ht
    · exact wl_c28 hX hb hI hL ⟨hi.1, h6⟩ hb2 next
    rcases List.mem_cons.mp ht with rfl | ht
    · exact wl_c29 hX hb hI hL ⟨hi.1, h6⟩ hb2 next
    rcases List.mem_cons.mp ht with rfl | ht
    · exact wl_c30 hX hb hI hL ⟨hi.1, h6⟩ hb2 next
    rcases List.mem_cons.mp ht with rfl | ht
    · exact wl_c31 hX hb hI hL ⟨hi.1, h6⟩ hb2 next
    rcases List.mem_cons.mp ht with rfl | ht
    · exact wl_c32 hX hb hI hL ⟨hi.1, h6⟩ hb2 next
    rcases List.mem_cons.mp ht with rfl | ht
    · exact wl_c33 hX hb hI hL ⟨hi.1, h6⟩ hb2 next
    rcases List.mem_cons.mp ht with rfl | ht
    · exact wl_c34 hX hb hI hL ⟨hi.1, h6⟩ hb2 next
    rcases List.mem_cons.mp ht with rfl | ht
    · exact wl_c35 hX hb hI hL ⟨hi.1, h6⟩ hb2 next
    rcases List.mem_cons.mp ht with rfl | ht
    · exact wl_c36 hX hb hI hL ⟨hi.1, h6⟩ hb2 next
    rcases List.mem_cons.mp ht with rfl | ht
    · exact wl_c37 hX hb hI hL ⟨hi.1, h6⟩ hb2 next
    rcases List.mem_cons.mp ht with rfl | ht
    · exact wl_c38 hX hb hI hL ⟨hi.1, h6⟩ hb2 next
    rcases List.mem_cons.mp ht with rfl | ht
    · exact wl_c39 hX hb hI hL ⟨hi.1, h6⟩ hb2 next
    rcases List.mem_cons.mp ht with rfl | ht
    · exact wl_c40 hX hb hI hL ⟨hi.1, h6⟩ hb2 next
    rcases List.mem_cons.mp ht with rfl | ht
    · exact wl_c41 hX hb hI hL ⟨hi.1, h6⟩ hb2 next
    rcases List.mem_cons.mp ht with rfl | ht
    · exact wl_c42 hX hb hI hL ⟨hi.1, h6⟩ hb2 next
    rcases List.mem_cons.mp ht with rfl | ht
    · exact wl_c43 hX hb hI hL ⟨hi.1, h6⟩ hb2 next
    rcases List.mem_cons.mp ht with rfl | ht
    · exact wl_c44 hX hb hI hL ⟨hi.1, h6⟩ hb2 next
    rcases List.mem_cons.mp ht with rfl | ht
    · exact wl_c45 hX hb hI hL ⟨hi.1, h6⟩ hb2 next
    rcases List.mem_cons.mp ht with rfl | ht
    · exact wl_c46 hX hb hI hL ⟨hi.1, h6⟩ hb2 next
    rcases List.mem_cons.mp ht with rfl | ht
    · exact wl_c47 hX hb hI hL ⟨hi.1, h6⟩ hb2 (fun hz _ hI2 k => hled T H i _ hb2 hz hI2 k) next
    rcases List.mem_cons.mp ht with rfl | ht
    · exact wl_c48 hX hb hI hL ⟨hi.1, h6⟩ hb2 next
    rcases List.mem_cons.mp ht with rfl | ht
    · exact wl_c49 hX hb hI hL ⟨hi.1, h6⟩ hb2 next
    cases ht
