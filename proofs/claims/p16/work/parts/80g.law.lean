/-! THE LAW, GONE ON WITH (own work) -/
set_option maxHeartbeats 4000000 in
theorem wl_c43 {kt : Nat → Option mc_E} {CB SB : Nat} {X : mc_S → Prop} {T : wq_T} {H : wq_H} {Len x m o : Nat} {i : Int} (hX : wlX kt CB SB X) (hb : T.2.1 ≤ CB ∧ T.2.2.1 ≤ SB) (hI : wlJ Len x m o T H) (hL : Len ≤ 3072) (hi : 0 ≤ i ∧ i + 6 ≤ Len) (hb2 : T.2.1 + 20 ≤ CB ∧ T.2.2.1 + 500 ≤ SB)  (next : ∀ T' H', wlJ Len x m o T' H' → T'.2.1 ≤ T.2.1 + 20 → T'.2.2.1 ≤ T.2.2.1 + 500 → WL kt CB SB X 1653 (wlL i x m o) [] T' H') : WL kt CB SB X 1467 (wlL i x m o) [] T H := by
  obtain ⟨⟨hW, g0, gx, gm, go, hK, hr⟩, hXI, hY1, hY2⟩ := hI
  refine wl_of hX hb cL_1467 (rw_aload_n (pc' := 1468) (v := .ref x) rfl rfl rfl ?_)
  refine wl_of hX hb cL_1468 (rw_aload_n (pc' := 1469) (v := .ref 0) rfl rfl rfl ?_)
  refine wl_of hX hb cL_1469 (rw_iload (pc' := 1471) (z := i) rfl rfl ?_)
  refine wl_of hX hb cL_1471 (rw_iconst (pc' := 1472) rfl ?_)
  refine wl_of hX hb cL_1472 (rw_iadd (pc' := 1473) rfl ?_)
  refine wl_of hX hb cL_1473 (xa_I (so := 0) (pc' := 1474) (a := 0) hW g0 (wsh_s _) (by omega) (wty_s _ _) (by omega) (by omega) rfl (fun b5712 b5713 => ?_))
  refine wl_of hX hb cL_1474 (rw_aload_n (pc' := 1475) (v := .ref 0) rfl rfl rfl ?_)
  refine wl_of hX hb cL_1475 (rw_iload (pc' := 1477) (z := i) rfl rfl ?_)
  refine wl_of hX hb cL_1477 (rw_iconst (pc' := 1478) rfl ?_)
  refine wl_of hX hb cL_1478 (rw_iadd (pc' := 1479) rfl ?_)
  refine wl_of hX hb cL_1479 (xa_I (so := 0) (pc' := 1480) (a := 0) hW g0 (wsh_s _) (by omega) (wty_s _ _) (by omega) (by omega) rfl (fun b5714 b5715 => ?_))
  refine wl_of hX hb cL_1480 (xc_V (pc' := 1483) (r := x) (as := [vI (H 0 ((i + 1).toNat)), vI (H 0 ((i + 2).toNat))]) (st := []) (lm_11_200) rfl rfl (Nat.le_of_ble_eq_true rfl) hW gx sh_1 (by decide) rfl (by decide) (s_157 hW gx ⟨by omega, by omega⟩ ⟨by omega, by omega⟩) (fun R5716 T5717 H5718 p5719 => ?_))
  obtain ⟨e5720, w5722, f5723, z5724, e5721, b5725⟩ := p5719
  subst e5720
  subst e5721
  show WL _ _ _ _ 1483 [(4, vI i), (3, .ref o), (2, .ref m), (1, .ref x), (0, .ref 0)] [vI z5724] _ H5718
  refine wl_of hX hb cL_1483 (rw_pop (pc' := 1484) rfl rfl ?_)
  refine wl_of hX hb cL_1484 (rw_aload_n (pc' := 1485) (v := .ref m) rfl rfl rfl ?_)
  refine wl_of hX hb cL_1485 (rw_aload_n (pc' := 1486) (v := .ref 0) rfl rfl rfl ?_)
  refine wl_of hX hb cL_1486 (rw_iload (pc' := 1488) (z := i) rfl rfl ?_)
  refine wl_of hX hb cL_1488 (rw_iconst (pc' := 1489) rfl ?_)
  refine wl_of hX hb cL_1489 (rw_iadd (pc' := 1490) rfl ?_)
  have k5728 : H5718 0 ((i + 1).toNat) = H 0 ((i + 1).toNat) := (f5723 0 ((i + 1).toNat) _ g0 (wmem_s rfl))
  refine wl_of hX hb cL_1490 (xa_I (so := 0) (pc' := 1491) (a := 0) w5722 g0 (wsh_s _) (by omega) (wty_s _ _) (by omega) (by omega) rfl (fun b5726 b5727 => ?_))
  refine wl_of hX hb cL_1491 (rw_aload_n (pc' := 1492) (v := .ref 0) rfl rfl rfl ?_)
  refine wl_of hX hb cL_1492 (rw_iload (pc' := 1494) (z := i) rfl rfl ?_)
  refine wl_of hX hb cL_1494 (rw_iconst (pc' := 1495) rfl ?_)
  refine wl_of hX hb cL_1495 (rw_iadd (pc' := 1496) rfl ?_)
  have k5731 : H5718 0 ((i + 2).toNat) = H 0 ((i + 2).toNat) := (f5723 0 ((i + 2).toNat) _ g0 (wmem_s rfl))
  refine wl_of hX hb cL_1496 (xa_I (so := 0) (pc' := 1497) (a := 0) w5722 g0 (wsh_s _) (by omega) (wty_s _ _) (by omega) (by omega) rfl (fun b5729 b5730 => ?_))
  have k5732 : wKI H5718 m = wKI H m := (wKI_fr hW gm f5723 rfl)
  have k5733 : H5718 x 9 = H x 9 := (f5723 x 9 _ gx rfl)
  have k5734 : H5718 m 6 = H m 6 := (f5723 m 6 _ gm rfl)
  have k5735 : H5718 x 11 = H x 11 := (f5723 x 11 _ gx rfl)
  have k5736 : H5718 m 13 = H m 13 := (f5723 m 13 _ gm rfl)
  have k5737 : H5718 x 8 = H x 8 := (f5723 x 8 _ gx rfl)
  have k5738 : H5718 m 3 = H m 3 := (f5723 m 3 _ gm rfl)
  refine wl_of hX hb cL_1497 (xc_V (pc' := 1500) (r := m) (as := [vI (H5718 0 ((i + 1).toNat)), vI (H5718 0 ((i + 2).toNat))]) (st := []) (lm_11_203) rfl rfl (Nat.le_of_ble_eq_true rfl) w5722 gm sh_42 (by decide) rfl (by decide) (s_289 w5722 gm ⟨by omega, by omega⟩ ⟨by omega, by omega⟩ (by omega)) (fun R5739 T5740 H5741 p5742 => ?_))
  obtain ⟨e5743, w5745, f5746, z5748, e5744, b5749, p5747⟩ := p5742
  subst e5743
  subst e5744
  show WL _ _ _ _ 1500 [(4, vI i), (3, .ref o), (2, .ref m), (1, .ref x), (0, .ref 0)] [vI z5748] _ H5741
  refine wl_of hX hb cL_1500 (rw_pop (pc' := 1501) rfl rfl ?_)
  refine wl_of hX hb cL_1501 (rw_goto (p1 := 1653) (by decide) ?_)
  have k5750 : H5741 x 9 = H5718 x 9 := (f5746 x 9 _ gx rfl)
  have k5751 : H5741 m 6 = H5718 m 6 := (f5746 m 6 _ gm rfl)
  have k5752 : H5741 x 11 = H5718 x 11 := (f5746 x 11 _ gx rfl)
  have k5753 : H5741 m 13 = H5718 m 13 := (f5746 m 13 _ gm rfl)
  have k5754 : H5741 x 8 = H5718 x 8 := (f5746 x 8 _ gx rfl)
  have k5755 : H5741 m 3 = H5718 m 3 := (f5746 m 3 _ gm rfl)
  have h5756 : XI T H5741 x m := (XI_fr w5722 gx f5746 rfl (XI_fr hW gx f5723 rfl hXI))
  exact WL.loc hX (by simp) (next T H5741 ⟨⟨w5745, g0, gx, gm, go, by omega, by omega⟩, h5756, by omega, by omega⟩ (by omega) (by omega))
set_option maxHeartbeats 4000000 in
theorem wl_c44 {kt : Nat → Option mc_E} {CB SB : Nat} {X : mc_S → Prop} {T : wq_T} {H : wq_H} {Len x m o : Nat} {i : Int} (hX : wlX kt CB SB X) (hb : T.2.1 ≤ CB ∧ T.2.2.1 ≤ SB) (hI : wlJ Len x m o T H) (hL : Len ≤ 3072) (hi : 0 ≤ i ∧ i + 6 ≤ Len) (hb2 : T.2.1 + 20 ≤ CB ∧ T.2.2.1 + 500 ≤ SB)  (next : ∀ T' H', wlJ Len x m o T' H' → T'.2.1 ≤ T.2.1 + 20 → T'.2.2.1 ≤ T.2.2.1 + 500 → WL kt CB SB X 1653 (wlL i x m o) [] T' H') : WL kt CB SB X 1504 (wlL i x m o) [] T H := by
  obtain ⟨⟨hW, g0, gx, gm, go, hK, hr⟩, hXI, hY1, hY2⟩ := hI
  refine wl_of hX hb cL_1504 (rw_aload_n (pc' := 1505) (v := .ref x) rfl rfl rfl ?_)
  refine wl_of hX hb cL_1505 (xc_V (pc' := 1508) (r := x) (as := []) (st := []) (lm_11_204) rfl rfl (Nat.le_of_ble_eq_true rfl) hW gx sh_1 (by decide) rfl (by decide) (s_158 hW gx) (fun R5757 T5758 H5759 p5760 => ?_))
  obtain ⟨e5761, w5763, f5764, z5765, e5762, b5766⟩ := p5760
  subst e5761
  subst e5762
  show WL _ _ _ _ 1508 [(4, vI i), (3, .ref o), (2, .ref m), (1, .ref x), (0, .ref 0)] [vI z5765] _ H5759
  refine wl_of hX hb cL_1508 (rw_pop (pc' := 1509) rfl rfl ?_)
  refine wl_of hX hb cL_1509 (rw_aload_n (pc' := 1510) (v := .ref m) rfl rfl rfl ?_)
  have k5767 : wKI H5759 m = wKI H m := (wKI_fr hW gm f5764 rfl)
  have k5768 : H5759 x 9 = H x 9 := (f5764 x 9 _ gx rfl)
  have k5769 : H5759 m 6 = H m 6 := (f5764 m 6 _ gm rfl)
  have k5770 : H5759 x 11 = H x 11 := (f5764 x 11 _ gx rfl)
  have k5771 : H5759 m 13 = H m 13 := (f5764 m 13 _ gm rfl)
  have k5772 : H5759 x 8 = H x 8 := (f5764 x 8 _ gx rfl)
  have k5773 : H5759 m 3 = H m 3 := (f5764 m 3 _ gm rfl)
  refine wl_of hX hb cL_1510 (xc_V (pc' := 1513) (r := m) (as := []) (st := []) (lm_11_208) rfl rfl (Nat.le_of_ble_eq_true rfl) w5763 gm sh_42 (by decide) rfl (by decide) (s_290 w5763 gm (by omega)) (fun R5774 T5775 H5776 p5777 => ?_))
  obtain ⟨e5778, w5780, f5781, z5783, e5779, b5784, p5782⟩ := p5777
  subst e5778
  subst e5779
  show WL _ _ _ _ 1513 [(4, vI i), (3, .ref o), (2, .ref m), (1, .ref x), (0, .ref 0)] [vI z5783] _ H5776
  refine wl_of hX hb cL_1513 (rw_pop (pc' := 1514) rfl rfl ?_)
  refine wl_of hX hb cL_1514 (rw_goto (p1 := 1653) (by decide) ?_)
  have k5785 : H5776 x 9 = H5759 x 9 := (f5781 x 9 _ gx rfl)
  have k5786 : H5776 m 6 = H5759 m 6 := (f5781 m 6 _ gm rfl)
  have k5787 : H5776 x 11 = H5759 x 11 := (f5781 x 11 _ gx rfl)
  have k5788 : H5776 m 13 = H5759 m 13 := (f5781 m 13 _ gm rfl)
  have k5789 : H5776 x 8 = H5759 x 8 := (f5781 x 8 _ gx rfl)
  have k5790 : H5776 m 3 = H5759 m 3 := (f5781 m 3 _ gm rfl)
  have h5791 : XI T H5776 x m := (XI_fr w5763 gx f5781 rfl (XI_fr hW gx f5764 rfl hXI))
  exact WL.loc hX (by simp) (next T H5776 ⟨⟨w5780, g0, gx, gm, go, by omega, by omega⟩, h5791, by omega, by omega⟩ (by omega) (by omega))
set_option maxHeartbeats 4000000 in
theorem wl_c45 {kt : Nat → Option mc_E} {CB SB : Nat} {X : mc_S → Prop} {T : wq_T} {H : wq_H} {Len x m o : Nat} {i : Int} (hX : wlX kt CB SB X) (hb : T.2.1 ≤ CB ∧ T.2.2.1 ≤ SB) (hI : wlJ Len x m o T H) (hL : Len ≤ 3072) (hi : 0 ≤ i ∧ i + 6 ≤ Len) (hb2 : T.2.1 + 20 ≤ CB ∧ T.2.2.1 + 500 ≤ SB)  (next : ∀ T' H', wlJ Len x m o T' H' → T'.2.1 ≤ T.2.1 + 20 → T'.2.2.1 ≤ T.2.2.1 + 500 → WL kt CB SB X 1653 (wlL i x m o) [] T' H') : WL kt CB SB X 1517 (wlL i x m o) [] T H := by
  obtain ⟨⟨hW, g0, gx, gm, go, hK, hr⟩, hXI, hY1, hY2⟩ := hI
  refine wl_of hX hb cL_1517 (rw_aload_n (pc' := 1518) (v := .ref x) rfl rfl rfl ?_)
  refine wl_of hX hb cL_1518 (xc_V (pc' := 1521) (r := x) (as := []) (st := []) (lm_11_209) rfl rfl (Nat.le_of_ble_eq_true rfl) hW gx sh_1 (by decide) rfl (by decide) (s_159 hW gx) (fun R5792 T5793 H5794 p5795 => ?_))
  obtain ⟨e5796, w5798, f5799, z5800, e5797, b5801⟩ := p5795
  subst e5796
  subst e5797
  show WL _ _ _ _ 1521 [(4, vI i), (3, .ref o), (2, .ref m), (1, .ref x), (0, .ref 0)] [vL z5800] _ H5794
  refine wl_of hX hb cL_1521 (rw_pop2 (pc' := 1522) rfl rfl ?_)
  refine wl_of hX hb cL_1522 (rw_aload_n (pc' := 1523) (v := .ref m) rfl rfl rfl ?_)
  have k5802 : wKI H5794 m = wKI H m := (wKI_fr hW gm f5799 rfl)
  have k5803 : H5794 x 9 = H x 9 := (f5799 x 9 _ gx rfl)
  have k5804 : H5794 m 6 = H m 6 := (f5799 m 6 _ gm rfl)
  have k5805 : H5794 x 11 = H x 11 := (f5799 x 11 _ gx rfl)
  have k5806 : H5794 m 13 = H m 13 := (f5799 m 13 _ gm rfl)
  have k5807 : H5794 x 8 = H x 8 := (f5799 x 8 _ gx rfl)
  have k5808 : H5794 m 3 = H m 3 := (f5799 m 3 _ gm rfl)
  refine wl_of hX hb cL_1523 (xc_V (pc' := 1526) (r := m) (as := []) (st := []) (lm_11_212) rfl rfl (Nat.le_of_ble_eq_true rfl) w5798 gm sh_42 (by decide) rfl (by decide) (s_291 w5798 gm (by omega)) (fun R5809 T5810 H5811 p5812 => ?_))
  obtain ⟨e5813, w5815, f5816, z5818, e5814, b5819, p5817⟩ := p5812
  subst e5813
  subst e5814
  show WL _ _ _ _ 1526 [(4, vI i), (3, .ref o), (2, .ref m), (1, .ref x), (0, .ref 0)] [vL z5818] _ H5811
  refine wl_of hX hb cL_1526 (rw_pop2 (pc' := 1527) rfl rfl ?_)
  refine wl_of hX hb cL_1527 (rw_goto (p1 := 1653) (by decide) ?_)
  have k5820 : H5811 x 9 = H5794 x 9 := (f5816 x 9 _ gx rfl)
  have k5821 : H5811 m 6 = H5794 m 6 := (f5816 m 6 _ gm rfl)
  have k5822 : H5811 x 11 = H5794 x 11 := (f5816 x 11 _ gx rfl)
  have k5823 : H5811 m 13 = H5794 m 13 := (f5816 m 13 _ gm rfl)
  have k5824 : H5811 x 8 = H5794 x 8 := (f5816 x 8 _ gx rfl)
  have k5825 : H5811 m 3 = H5794 m 3 := (f5816 m 3 _ gm rfl)
  have h5826 : XI T H5811 x m := (XI_fr w5798 gx f5816 rfl (XI_fr hW gx f5799 rfl hXI))
  exact WL.loc hX (by simp) (next T H5811 ⟨⟨w5815, g0, gx, gm, go, by omega, by omega⟩, h5826, by omega, by omega⟩ (by omega) (by omega))
set_option maxHeartbeats 4000000 in
theorem wl_c46 {kt : Nat → Option mc_E} {CB SB : Nat} {X : mc_S → Prop} {T : wq_T} {H : wq_H} {Len x m o : Nat} {i : Int} (hX : wlX kt CB SB X) (hb : T.2.1 ≤ CB ∧ T.2.2.1 ≤ SB) (hI : wlJ Len x m o T H) (hL : Len ≤ 3072) (hi : 0 ≤ i ∧ i + 6 ≤ Len) (hb2 : T.2.1 + 20 ≤ CB ∧ T.2.2.1 + 500 ≤ SB)  (next : ∀ T' H', wlJ Len x m o T' H' → T'.2.1 ≤ T.2.1 + 20 → T'.2.2.1 ≤ T.2.2.1 + 500 → WL kt CB SB X 1653 (wlL i x m o) [] T' H') : WL kt CB SB X 1530 (wlL i x m o) [] T H := by
  obtain ⟨⟨hW, g0, gx, gm, go, hK, hr⟩, hXI, hY1, hY2⟩ := hI
  refine wl_of hX hb cL_1530 (rw_aload_n (pc' := 1531) (v := .ref x) rfl rfl rfl ?_)
  refine wl_of hX hb cL_1531 (rw_aload_n (pc' := 1532) (v := .ref 0) rfl rfl rfl ?_)
  refine wl_of hX hb cL_1532 (rw_iload (pc' := 1534) (z := i) rfl rfl ?_)
  refine wl_of hX hb cL_1534 (rw_iconst (pc' := 1535) rfl ?_)
  refine wl_of hX hb cL_1535 (rw_iadd (pc' := 1536) rfl ?_)
  refine wl_of hX hb cL_1536 (xa_I (so := 0) (pc' := 1537) (a := 0) hW g0 (wsh_s _) (by omega) (wty_s _ _) (by omega) (by omega) rfl (fun b5827 b5828 => ?_))
  refine wl_of hX hb cL_1537 (rw_i2l (pc' := 1538) rfl ⟨by omega, by omega⟩ ?_)
  refine wl_of hX hb cL_1538 (rw_bipush (pc' := 1540) (z := 32) rfl (by decide) ?_)
  refine wl_of hX hb cL_1540 (rw_lshl (pc' := 1541) rfl ?_)
  obtain ⟨v5829, e5830⟩ : ∃ x : Int, x = wl_shl (H 0 ((i + 1).toNat)) 32 := ⟨_, rfl⟩
  rw [← e5830]
  have b5831 : -9223372036854775808 ≤ v5829 ∧ v5829 ≤ 9223372036854775807 := by
    rw [e5830]
    exact wL_shl _ _
  refine wl_of hX hb cL_1541 (rw_aload_n (pc' := 1542) (v := .ref 0) rfl rfl rfl ?_)
  refine wl_of hX hb cL_1542 (rw_iload (pc' := 1544) (z := i) rfl rfl ?_)
  refine wl_of hX hb cL_1544 (rw_iconst (pc' := 1545) rfl ?_)
  refine wl_of hX hb cL_1545 (rw_iadd (pc' := 1546) rfl ?_)
  refine wl_of hX hb cL_1546 (xa_I (so := 0) (pc' := 1547) (a := 0) hW g0 (wsh_s _) (by omega) (wty_s _ _) (by omega) (by omega) rfl (fun b5832 b5833 => ?_))
  refine wl_of hX hb cL_1547 (rw_i2l (pc' := 1548) rfl ⟨by omega, by omega⟩ ?_)
  refine wl_of hX hb cL_1548 (rw_ldc2 (pc' := 1551) (z := 4294967295) rfl rfl rfl ?_)
  refine wl_of hX hb cL_1551 (rw_land (pc' := 1552) rfl ?_)
  obtain ⟨v5834, e5835⟩ : ∃ x : Int, x = wl_and (H 0 ((i + 2).toNat)) 4294967295 := ⟨_, rfl⟩
  rw [← e5835]
  have b5836 : -9223372036854775808 ≤ v5834 ∧ v5834 ≤ 9223372036854775807 := by
    rw [e5835]
    exact wL_and _ _
  refine wl_of hX hb cL_1552 (rw_lor (pc' := 1553) rfl ?_)
  obtain ⟨v5837, e5838⟩ : ∃ x : Int, x = wl_or v5829 v5834 := ⟨_, rfl⟩
  rw [← e5838]
  have b5839 : -9223372036854775808 ≤ v5837 ∧ v5837 ≤ 9223372036854775807 := by
    rw [e5838]
    exact wL_or _ _
  obtain ⟨B, tc, tm, cu, dr, C8, e8, d8, n8, g8, ce8, e0, gtc, htc, em, gtm, htm, ecu, gcu, edr, gdr, hcu, hdr, hdec, hded, hsp, hC1, hC2, hcu8, hrb8, hcg8, hmn8, hE, hZ, hn8, hXA, hV8, hSG, ece8, gce8, hcen8, hhdr8, hknn8, -⟩ := hXI
  have hN3 := RB_n3 hrb8
  have hE13 : ∀ h : Nat, h < 24 → 0 ≤ e8 13 h ∧ e8 13 h ≤ 100 := fun k hk => by
    obtain ⟨s, h1, h2, h3⟩ := hcu8.1.2.2.1
    exact ⟨(h3 k hk).1, (h3 k hk).2.1⟩
  have hXW := hXA.1
  have hXN := hXA.2
  have hE0 : e8 0 3 = d8 0 3 ∧ e8 0 0 = d8 0 0 := by
    have h := hE 0 (by decide)
    exact ⟨congrFun h 3, congrFun h 0⟩
  have u5840 := CU_k hcu8
  have h5841 : CY T H cu (d8 0 3) g8 (H cu 17) := ⟨hcg8, rfl⟩
  have h5842 : RY T H m (d8 0 3) g8 (H m 32) := ⟨hmn8, rfl⟩
  obtain ⟨t9, ht9⟩ : ∃ t : Int, t = H x 9 := ⟨_, rfl⟩
  refine wl_of hX hb cL_1553 (xc_V (pc' := 1556) (r := x) (as := [vL v5837]) (st := []) (lm_11_215) rfl rfl (Nat.le_of_ble_eq_true rfl) hW gx sh_1 (by decide) rfl (by decide) (u_161 (e := e8) (d := d8) (n := n8) (nY := ((d8 0 3))) (gY := g8) (cY := ((H cu 17))) hW gx ⟨b5839.1, b5839.2⟩ ecu gcu (by omega) (by omega) (by omega) hcu8 h5841 hcu) (fun R5843 T5844 H5845 p5846 => ?_))
  obtain ⟨e5847, w5849, f5850, z5851, e5848, b5852, p5853⟩ := p5846
  subst e5847
  subst e5848
  rcases p5853 with ⟨a5854, a5855, a5856, a5857, a5858⟩ | ⟨a5859, a5860, a5861⟩
  · show WL _ _ _ _ 1556 [(4, vI i), (3, .ref o), (2, .ref m), (1, .ref x), (0, .ref 0)] [vI z5851] _ H5845
    refine wl_of hX hb cL_1556 (rw_pop (pc' := 1557) rfl rfl ?_)
    refine wl_of hX hb cL_1557 (rw_aload_n (pc' := 1558) (v := .ref m) rfl rfl rfl ?_)
    refine wl_of hX hb cL_1558 (rw_aload_n (pc' := 1559) (v := .ref 0) rfl rfl rfl ?_)
    refine wl_of hX hb cL_1559 (rw_iload (pc' := 1561) (z := i) rfl rfl ?_)
    refine wl_of hX hb cL_1561 (rw_iconst (pc' := 1562) rfl ?_)
    refine wl_of hX hb cL_1562 (rw_iadd (pc' := 1563) rfl ?_)
    have k5864 : H5845 0 ((i + 1).toNat) = H 0 ((i + 1).toNat) := (f5850 0 ((i + 1).toNat) _ g0 (wmem_s rfl))
    refine wl_of hX hb cL_1563 (xa_I (so := 0) (pc' := 1564) (a := 0) w5849 g0 (wsh_s _) (by omega) (wty_s _ _) (by omega) (by omega) rfl (fun b5862 b5863 => ?_))
    refine wl_of hX hb cL_1564 (rw_i2l (pc' := 1565) rfl ⟨by omega, by omega⟩ ?_)
    refine wl_of hX hb cL_1565 (rw_bipush (pc' := 1567) (z := 32) rfl (by decide) ?_)
    refine wl_of hX hb cL_1567 (rw_lshl (pc' := 1568) rfl ?_)
    obtain ⟨v5865, e5866⟩ : ∃ x : Int, x = wl_shl (H5845 0 ((i + 1).toNat)) 32 := ⟨_, rfl⟩
    rw [← e5866]
    have b5867 : -9223372036854775808 ≤ v5865 ∧ v5865 ≤ 9223372036854775807 := by
      rw [e5866]
      exact wL_shl _ _
    refine wl_of hX hb cL_1568 (rw_aload_n (pc' := 1569) (v := .ref 0) rfl rfl rfl ?_)
    refine wl_of hX hb cL_1569 (rw_iload (pc' := 1571) (z := i) rfl rfl ?_)
    refine wl_of hX hb cL_1571 (rw_iconst (pc' := 1572) rfl ?_)
    refine wl_of hX hb cL_1572 (rw_iadd (pc' := 1573) rfl ?_)
    have k5870 : H5845 0 ((i + 2).toNat) = H 0 ((i + 2).toNat) := (f5850 0 ((i + 2).toNat) _ g0 (wmem_s rfl))
    refine wl_of hX hb cL_1573 (xa_I (so := 0) (pc' := 1574) (a := 0) w5849 g0 (wsh_s _) (by omega) (wty_s _ _) (by omega) (by omega) rfl (fun b5868 b5869 => ?_))
    refine wl_of hX hb cL_1574 (rw_i2l (pc' := 1575) rfl ⟨by omega, by omega⟩ ?_)
    refine wl_of hX hb cL_1575 (rw_ldc2 (pc' := 1578) (z := 4294967295) rfl rfl rfl ?_)
    refine wl_of hX hb cL_1578 (rw_land (pc' := 1579) rfl ?_)
    obtain ⟨v5871, e5872⟩ : ∃ x : Int, x = wl_and (H5845 0 ((i + 2).toNat)) 4294967295 := ⟨_, rfl⟩
    rw [← e5872]
    have b5873 : -9223372036854775808 ≤ v5871 ∧ v5871 ≤ 9223372036854775807 := by
      rw [e5872]
      exact wL_and _ _
    refine wl_of hX hb cL_1579 (rw_lor (pc' := 1580) rfl ?_)
    obtain ⟨v5874, e5875⟩ : ∃ x : Int, x = wl_or v5865 v5871 := ⟨_, rfl⟩
    rw [← e5875]
    have b5876 : -9223372036854775808 ≤ v5874 ∧ v5874 ≤ 9223372036854775807 := by
      rw [e5875]
      exact wL_or _ _
    have k5877 : wKI H5845 m = wKI H m := (wKI_fr hW gm f5850 rfl)
    have k5878 : H5845 x 9 = H x 9 := (f5850 x 9 _ gx rfl)
    have k5879 : H5845 m 6 = H m 6 := (f5850 m 6 _ gm rfl)
    have k5880 : H5845 x 11 = H x 11 := (f5850 x 11 _ gx rfl)
    have k5881 : H5845 m 13 = H m 13 := (f5850 m 13 _ gm rfl)
    have k5882 : H5845 x 8 = H x 8 := (f5850 x 8 _ gx rfl)
    have k5883 : H5845 m 3 = H m 3 := (f5850 m 3 _ gm rfl)
    have rs9 : v5874 = v5837 := by
      rw [e5875, e5866, e5872, e5838, e5830, e5835, show H5845 0 ((i + 1).toNat) = H 0 ((i + 1).toNat) by omega, show H5845 0 ((i + 2).toNat) = H 0 ((i + 2).toNat) by omega]
    rw [rs9]
    have h5884 : RB T H5845 m e8 d8 := (RB_fr hW gm f5850 rfl hrb8)
    have h5885 : RY T H5845 m (d8 0 3) g8 (H m 32) := (RY_fr hW gm f5850 rfl h5842)
    refine wl_of hX hb cL_1580 (xc_V (pc' := 1583) (r := m) (as := [vL v5837]) (st := []) (lm_11_219) rfl rfl (Nat.le_of_ble_eq_true rfl) w5849 gm sh_42 (by decide) rfl (by decide) (u_292 (e := e8) (d := d8) (nY := ((d8 0 3))) (gY := g8) (cY := ((H m 32))) w5849 gm ⟨b5839.1, b5839.2⟩ (by omega) h5884 h5885) (fun R5886 T5887 H5888 p5889 => ?_))
    obtain ⟨e5890, w5892, f5893, z5894, e5891, b5895, p5896⟩ := p5889
    subst e5890
    subst e5891
    rcases p5896 with ⟨a5897, a5898, a5899, a5900⟩ | ⟨a5901, a5902, a5903⟩
    · show WL _ _ _ _ 1583 [(4, vI i), (3, .ref o), (2, .ref m), (1, .ref x), (0, .ref 0)] [vI z5894] _ H5888
      refine wl_of hX hb cL_1583 (rw_pop (pc' := 1584) rfl rfl ?_)
      refine wl_of hX hb cL_1584 (rw_goto (p1 := 1653) (by decide) ?_)
      have k5904 : wKI H5888 m = wKI H5845 m := (wKI_fr w5849 gm f5893 rfl)
      have k5905 : H5888 x 9 = H5845 x 9 := (f5893 x 9 _ gx rfl)
      have k5906 : H5888 m 6 = H5845 m 6 := (f5893 m 6 _ gm rfl)
      have k5907 : H5888 x 11 = H5845 x 11 := (f5893 x 11 _ gx rfl)
      have k5908 : H5888 m 13 = H5845 m 13 := (f5893 m 13 _ gm rfl)
      have k5909 : H5888 x 8 = H5845 x 8 := (f5893 x 8 _ gx rfl)
      have k5910 : H5888 m 3 = H5845 m 3 := (f5893 m 3 _ gm rfl)
      have k5911 : H5888 x 0 = H x 0 := ((f5893 x 0 _ gx rfl).trans (f5850 x 0 _ gx rfl))
      have q5912 : H5888 x 0 = (tc : Int) := k5911.trans e0
      have k5913 : H5888 m 5 = H m 5 := ((f5893 m 5 _ gm rfl).trans (f5850 m 5 _ gm rfl))
      have q5914 : H5888 m 5 = (tm : Int) := k5913.trans em
      have k5915 : H5888 x 6 = H x 6 := ((f5893 x 6 _ gx rfl).trans (f5850 x 6 _ gx rfl))
      have q5916 : H5888 x 6 = (cu : Int) := k5915.trans ecu
      have k5917 : H5888 x 7 = H x 7 := ((f5893 x 7 _ gx rfl).trans (f5850 x 7 _ gx rfl))
      have q5918 : H5888 x 7 = (dr : Int) := k5917.trans edr
      have h5919 : CEN T H5888 ce8 e8 d8 := (CEN_fr w5849 gce8 f5893 rfl (CEN_fr hW gce8 f5850 rfl hcen8))
      have h5920 : TP T H5888 tc B := (TP_fr w5849 gtc f5893 rfl (TP_fr hW gtc f5850 rfl htc))
      have h5921 : TM T H5888 tm B := (TM_fr w5849 gtm f5893 rfl (TM_fr hW gtm f5850 rfl htm))
      have h5922 : DD T H5888 cu  := (DD_fr w5849 gcu f5893 rfl (DD_fr hW gcu f5850 rfl hcu))
      have h5923 : DD T H5888 dr  := (DD_fr w5849 gdr f5893 rfl (DD_fr hW gdr f5850 rfl hdr))
      have h5924 : DE T H5888 cu  := (DE_fr w5849 gcu f5893 rfl (DE_fr hW gcu f5850 rfl hdec))
      have h5925 : DE T H5888 dr  := (DE_fr w5849 gdr f5893 rfl (DE_fr hW gdr f5850 rfl hded))
      have h5926 : SP T H5888 x C8 := (SP_fr w5849 gx f5893 rfl (SP_fr hW gx f5850 rfl hsp))
      have h5927 : CU T H5888 cu e8 d8 n8 := (CU_fr w5849 gcu f5893 rfl (CU_fr hW gcu f5850 rfl hcu8))
      have h5928 : CY T H5888 cu ((d8 0 3)) (xdg d8 v5837) (wdv (d8 0 3).toNat v5837) := (CY_fr w5849 gcu f5893 rfl a5858)
      have k5929 : H5888 x 3 = H x 3 := ((f5893 x 3 _ gx rfl).trans (f5850 x 3 _ gx rfl))
      have q5930 : H5888 x 3 = (ce8 : Int) := k5929.trans ece8
      have h5931 : HDR T H5888 ce8  := (HDR_fr w5849 gce8 f5893 rfl (HDR_fr hW gce8 f5850 rfl hhdr8))
      have h5932 : KNN T H5888 m e8 d8 := (KNN_fr w5849 gm f5893 rfl (KNN_fr hW gm f5850 rfl hknn8))
      have h5933 : RB T H5888 m e8 d8 := (RB_fr w5849 gm f5893 rfl h5884)
      exact WL.loc hX (by simp) (next T H5888 ⟨⟨w5892, g0, gx, gm, go, by omega, by omega⟩, ⟨_, tc, tm, cu, dr, _, _, _, _, _, ce8, q5912, gtc, h5920, q5914, gtm, h5921, q5916, gcu, q5918, gdr, h5922, h5923, h5924, h5925, h5926, hC1, hC2, h5927, h5933, (h5928).1, (a5900).1, hE, hZ, (by omega), (by assumption), (by omega), (by first | assumption | exact SG_0), q5930, gce8, h5919, h5931, h5932, gm⟩, by omega, by omega⟩ (by omega) (by omega))
    · show WL _ _ _ _ 1583 [(4, vI i), (3, .ref o), (2, .ref m), (1, .ref x), (0, .ref 0)] [vI z5894] _ H5888
      refine wl_of hX hb cL_1583 (rw_pop (pc' := 1584) rfl rfl ?_)
      refine wl_of hX hb cL_1584 (rw_goto (p1 := 1653) (by decide) ?_)
      have k5934 : wKI H5888 m = wKI H5845 m := (wKI_fr w5849 gm f5893 rfl)
      have k5935 : H5888 x 9 = H5845 x 9 := (f5893 x 9 _ gx rfl)
      have k5936 : H5888 m 6 = H5845 m 6 := (f5893 m 6 _ gm rfl)
      have k5937 : H5888 x 11 = H5845 x 11 := (f5893 x 11 _ gx rfl)
      have k5938 : H5888 m 13 = H5845 m 13 := (f5893 m 13 _ gm rfl)
      have k5939 : H5888 x 8 = H5845 x 8 := (f5893 x 8 _ gx rfl)
      have k5940 : H5888 m 3 = H5845 m 3 := (f5893 m 3 _ gm rfl)
      have k5941 : H5888 x 0 = H x 0 := ((f5893 x 0 _ gx rfl).trans (f5850 x 0 _ gx rfl))
      have q5942 : H5888 x 0 = (tc : Int) := k5941.trans e0
      have k5943 : H5888 m 5 = H m 5 := ((f5893 m 5 _ gm rfl).trans (f5850 m 5 _ gm rfl))
      have q5944 : H5888 m 5 = (tm : Int) := k5943.trans em
      have k5945 : H5888 x 6 = H x 6 := ((f5893 x 6 _ gx rfl).trans (f5850 x 6 _ gx rfl))
      have q5946 : H5888 x 6 = (cu : Int) := k5945.trans ecu
      have k5947 : H5888 x 7 = H x 7 := ((f5893 x 7 _ gx rfl).trans (f5850 x 7 _ gx rfl))
      have q5948 : H5888 x 7 = (dr : Int) := k5947.trans edr
      have h5949 : CEN T H5888 ce8 e8 d8 := (CEN_fr w5849 gce8 f5893 rfl (CEN_fr hW gce8 f5850 rfl hcen8))
      have h5950 : TP T H5888 tc B := (TP_fr w5849 gtc f5893 rfl (TP_fr hW gtc f5850 rfl htc))
      have h5951 : TM T H5888 tm B := (TM_fr w5849 gtm f5893 rfl (TM_fr hW gtm f5850 rfl htm))
      have h5952 : DD T H5888 cu  := (DD_fr w5849 gcu f5893 rfl (DD_fr hW gcu f5850 rfl hcu))
      have h5953 : DD T H5888 dr  := (DD_fr w5849 gdr f5893 rfl (DD_fr hW gdr f5850 rfl hdr))
      have h5954 : DE T H5888 cu  := (DE_fr w5849 gcu f5893 rfl (DE_fr hW gcu f5850 rfl hdec))
      have h5955 : DE T H5888 dr  := (DE_fr w5849 gdr f5893 rfl (DE_fr hW gdr f5850 rfl hded))
      have h5956 : SP T H5888 x C8 := (SP_fr w5849 gx f5893 rfl (SP_fr hW gx f5850 rfl hsp))
      have h5957 : CU T H5888 cu e8 d8 n8 := (CU_fr w5849 gcu f5893 rfl (CU_fr hW gcu f5850 rfl hcu8))
      have h5958 : CY T H5888 cu ((d8 0 3)) (xdg d8 v5837) (wdv (d8 0 3).toNat v5837) := (CY_fr w5849 gcu f5893 rfl a5858)
      have k5959 : H5888 x 3 = H x 3 := ((f5893 x 3 _ gx rfl).trans (f5850 x 3 _ gx rfl))
      have q5960 : H5888 x 3 = (ce8 : Int) := k5959.trans ece8
      have h5961 : HDR T H5888 ce8  := (HDR_fr w5849 gce8 f5893 rfl (HDR_fr hW gce8 f5850 rfl hhdr8))
      have h5962 : KNN T H5888 m e8 d8 := (KNN_fr w5849 gm f5893 rfl (KNN_fr hW gm f5850 rfl hknn8))
      exfalso
      omega
  · show WL _ _ _ _ 1556 [(4, vI i), (3, .ref o), (2, .ref m), (1, .ref x), (0, .ref 0)] [vI z5851] _ H5845
    refine wl_of hX hb cL_1556 (rw_pop (pc' := 1557) rfl rfl ?_)
    refine wl_of hX hb cL_1557 (rw_aload_n (pc' := 1558) (v := .ref m) rfl rfl rfl ?_)
    refine wl_of hX hb cL_1558 (rw_aload_n (pc' := 1559) (v := .ref 0) rfl rfl rfl ?_)
    refine wl_of hX hb cL_1559 (rw_iload (pc' := 1561) (z := i) rfl rfl ?_)
    refine wl_of hX hb cL_1561 (rw_iconst (pc' := 1562) rfl ?_)
    refine wl_of hX hb cL_1562 (rw_iadd (pc' := 1563) rfl ?_)
    have k5965 : H5845 0 ((i + 1).toNat) = H 0 ((i + 1).toNat) := (f5850 0 ((i + 1).toNat) _ g0 (wmem_s rfl))
    refine wl_of hX hb cL_1563 (xa_I (so := 0) (pc' := 1564) (a := 0) w5849 g0 (wsh_s _) (by omega) (wty_s _ _) (by omega) (by omega) rfl (fun b5963 b5964 => ?_))
    refine wl_of hX hb cL_1564 (rw_i2l (pc' := 1565) rfl ⟨by omega, by omega⟩ ?_)
    refine wl_of hX hb cL_1565 (rw_bipush (pc' := 1567) (z := 32) rfl (by decide) ?_)
    refine wl_of hX hb cL_1567 (rw_lshl (pc' := 1568) rfl ?_)
    obtain ⟨v5966, e5967⟩ : ∃ x : Int, x = wl_shl (H5845 0 ((i + 1).toNat)) 32 := ⟨_, rfl⟩
    rw [← e5967]
    have b5968 : -9223372036854775808 ≤ v5966 ∧ v5966 ≤ 9223372036854775807 := by
      rw [e5967]
      exact wL_shl _ _
    refine wl_of hX hb cL_1568 (rw_aload_n (pc' := 1569) (v := .ref 0) rfl rfl rfl ?_)
    refine wl_of hX hb cL_1569 (rw_iload (pc' := 1571) (z := i) rfl rfl ?_)
    refine wl_of hX hb cL_1571 (rw_iconst (pc' := 1572) rfl ?_)
    refine wl_of hX hb cL_1572 (rw_iadd (pc' := 1573) rfl ?_)
    have k5971 : H5845 0 ((i + 2).toNat) = H 0 ((i + 2).toNat) := (f5850 0 ((i + 2).toNat) _ g0 (wmem_s rfl))
    refine wl_of hX hb cL_1573 (xa_I (so := 0) (pc' := 1574) (a := 0) w5849 g0 (wsh_s _) (by omega) (wty_s _ _) (by omega) (by omega) rfl (fun b5969 b5970 => ?_))
    refine wl_of hX hb cL_1574 (rw_i2l (pc' := 1575) rfl ⟨by omega, by omega⟩ ?_)
    refine wl_of hX hb cL_1575 (rw_ldc2 (pc' := 1578) (z := 4294967295) rfl rfl rfl ?_)
    refine wl_of hX hb cL_1578 (rw_land (pc' := 1579) rfl ?_)
    obtain ⟨v5972, e5973⟩ : ∃ x : Int, x = wl_and (H5845 0 ((i + 2).toNat)) 4294967295 := ⟨_, rfl⟩
    rw [← e5973]
    have b5974 : -9223372036854775808 ≤ v5972 ∧ v5972 ≤ 9223372036854775807 := by
      rw [e5973]
      exact wL_and _ _
    refine wl_of hX hb cL_1579 (rw_lor (pc' := 1580) rfl ?_)
    obtain ⟨v5975, e5976⟩ : ∃ x : Int, x = wl_or v5966 v5972 := ⟨_, rfl⟩
    rw [← e5976]
    have b5977 : -9223372036854775808 ≤ v5975 ∧ v5975 ≤ 9223372036854775807 := by
      rw [e5976]
      exact wL_or _ _
    have k5978 : wKI H5845 m = wKI H m := (wKI_fr hW gm f5850 rfl)
    have k5979 : H5845 x 9 = H x 9 := (f5850 x 9 _ gx rfl)
    have k5980 : H5845 m 6 = H m 6 := (f5850 m 6 _ gm rfl)
    have k5981 : H5845 x 11 = H x 11 := (f5850 x 11 _ gx rfl)
    have k5982 : H5845 m 13 = H m 13 := (f5850 m 13 _ gm rfl)
    have k5983 : H5845 x 8 = H x 8 := (f5850 x 8 _ gx rfl)
    have k5984 : H5845 m 3 = H m 3 := (f5850 m 3 _ gm rfl)
    have rs9 : v5975 = v5837 := by
      rw [e5976, e5967, e5973, e5838, e5830, e5835, show H5845 0 ((i + 1).toNat) = H 0 ((i + 1).toNat) by omega, show H5845 0 ((i + 2).toNat) = H 0 ((i + 2).toNat) by omega]
    rw [rs9]
    have h5985 : RB T H5845 m e8 d8 := (RB_fr hW gm f5850 rfl hrb8)
    have h5986 : RY T H5845 m (d8 0 3) g8 (H m 32) := (RY_fr hW gm f5850 rfl h5842)
    refine wl_of hX hb cL_1580 (xc_V (pc' := 1583) (r := m) (as := [vL v5837]) (st := []) (lm_11_219) rfl rfl (Nat.le_of_ble_eq_true rfl) w5849 gm sh_42 (by decide) rfl (by decide) (u_292 (e := e8) (d := d8) (nY := ((d8 0 3))) (gY := g8) (cY := ((H m 32))) w5849 gm ⟨b5839.1, b5839.2⟩ (by omega) h5985 h5986) (fun R5987 T5988 H5989 p5990 => ?_))
    obtain ⟨e5991, w5993, f5994, z5995, e5992, b5996, p5997⟩ := p5990
    subst e5991
    subst e5992
    rcases p5997 with ⟨a5998, a5999, a6000, a6001⟩ | ⟨a6002, a6003, a6004⟩
    · show WL _ _ _ _ 1583 [(4, vI i), (3, .ref o), (2, .ref m), (1, .ref x), (0, .ref 0)] [vI z5995] _ H5989
      refine wl_of hX hb cL_1583 (rw_pop (pc' := 1584) rfl rfl ?_)
      refine wl_of hX hb cL_1584 (rw_goto (p1 := 1653) (by decide) ?_)
      have k6005 : wKI H5989 m = wKI H5845 m := (wKI_fr w5849 gm f5994 rfl)
      have k6006 : H5989 x 9 = H5845 x 9 := (f5994 x 9 _ gx rfl)
      have k6007 : H5989 m 6 = H5845 m 6 := (f5994 m 6 _ gm rfl)
      have k6008 : H5989 x 11 = H5845 x 11 := (f5994 x 11 _ gx rfl)
      have k6009 : H5989 m 13 = H5845 m 13 := (f5994 m 13 _ gm rfl)
      have k6010 : H5989 x 8 = H5845 x 8 := (f5994 x 8 _ gx rfl)
      have k6011 : H5989 m 3 = H5845 m 3 := (f5994 m 3 _ gm rfl)
      have k6012 : H5989 x 0 = H x 0 := ((f5994 x 0 _ gx rfl).trans (f5850 x 0 _ gx rfl))
      have q6013 : H5989 x 0 = (tc : Int) := k6012.trans e0
      have k6014 : H5989 m 5 = H m 5 := ((f5994 m 5 _ gm rfl).trans (f5850 m 5 _ gm rfl))
      have q6015 : H5989 m 5 = (tm : Int) := k6014.trans em
      have k6016 : H5989 x 6 = H x 6 := ((f5994 x 6 _ gx rfl).trans (f5850 x 6 _ gx rfl))
      have q6017 : H5989 x 6 = (cu : Int) := k6016.trans ecu
      have k6018 : H5989 x 7 = H x 7 := ((f5994 x 7 _ gx rfl).trans (f5850 x 7 _ gx rfl))
      have q6019 : H5989 x 7 = (dr : Int) := k6018.trans edr
      have h6020 : CEN T H5989 ce8 e8 d8 := (CEN_fr w5849 gce8 f5994 rfl (CEN_fr hW gce8 f5850 rfl hcen8))
      have h6021 : TP T H5989 tc B := (TP_fr w5849 gtc f5994 rfl (TP_fr hW gtc f5850 rfl htc))
      have h6022 : TM T H5989 tm B := (TM_fr w5849 gtm f5994 rfl (TM_fr hW gtm f5850 rfl htm))
      have h6023 : DD T H5989 cu  := (DD_fr w5849 gcu f5994 rfl (DD_fr hW gcu f5850 rfl hcu))
      have h6024 : DD T H5989 dr  := (DD_fr w5849 gdr f5994 rfl (DD_fr hW gdr f5850 rfl hdr))
      have h6025 : DE T H5989 cu  := (DE_fr w5849 gcu f5994 rfl (DE_fr hW gcu f5850 rfl hdec))
      have h6026 : DE T H5989 dr  := (DE_fr w5849 gdr f5994 rfl (DE_fr hW gdr f5850 rfl hded))
      have h6027 : SP T H5989 x C8 := (SP_fr w5849 gx f5994 rfl (SP_fr hW gx f5850 rfl hsp))
      have h6028 : CU T H5989 cu e8 d8 n8 := (CU_fr w5849 gcu f5994 rfl (CU_fr hW gcu f5850 rfl hcu8))
      have h6029 : CY T H5989 cu ((d8 0 3)) g8 ((H cu 17)) := (CY_fr w5849 gcu f5994 rfl a5861)
      have k6030 : H5989 x 3 = H x 3 := ((f5994 x 3 _ gx rfl).trans (f5850 x 3 _ gx rfl))
      have q6031 : H5989 x 3 = (ce8 : Int) := k6030.trans ece8
      have h6032 : HDR T H5989 ce8  := (HDR_fr w5849 gce8 f5994 rfl (HDR_fr hW gce8 f5850 rfl hhdr8))
      have h6033 : KNN T H5989 m e8 d8 := (KNN_fr w5849 gm f5994 rfl (KNN_fr hW gm f5850 rfl hknn8))
      exfalso
      omega
    · show WL _ _ _ _ 1583 [(4, vI i), (3, .ref o), (2, .ref m), (1, .ref x), (0, .ref 0)] [vI z5995] _ H5989
      refine wl_of hX hb cL_1583 (rw_pop (pc' := 1584) rfl rfl ?_)
      refine wl_of hX hb cL_1584 (rw_goto (p1 := 1653) (by decide) ?_)
      have k6034 : wKI H5989 m = wKI H5845 m := (wKI_fr w5849 gm f5994 rfl)
      have k6035 : H5989 x 9 = H5845 x 9 := (f5994 x 9 _ gx rfl)
      have k6036 : H5989 m 6 = H5845 m 6 := (f5994 m 6 _ gm rfl)
      have k6037 : H5989 x 11 = H5845 x 11 := (f5994 x 11 _ gx rfl)
      have k6038 : H5989 m 13 = H5845 m 13 := (f5994 m 13 _ gm rfl)
      have k6039 : H5989 x 8 = H5845 x 8 := (f5994 x 8 _ gx rfl)
      have k6040 : H5989 m 3 = H5845 m 3 := (f5994 m 3 _ gm rfl)
      have k6041 : H5989 x 0 = H x 0 := ((f5994 x 0 _ gx rfl).trans (f5850 x 0 _ gx rfl))
      have q6042 : H5989 x 0 = (tc : Int) := k6041.trans e0
      have k6043 : H5989 m 5 = H m 5 := ((f5994 m 5 _ gm rfl).trans (f5850 m 5 _ gm rfl))
      have q6044 : H5989 m 5 = (tm : Int) := k6043.trans em
      have k6045 : H5989 x 6 = H x 6 := ((f5994 x 6 _ gx rfl).trans (f5850 x 6 _ gx rfl))
      have q6046 : H5989 x 6 = (cu : Int) := k6045.trans ecu
      have k6047 : H5989 x 7 = H x 7 := ((f5994 x 7 _ gx rfl).trans (f5850 x 7 _ gx rfl))
      have q6048 : H5989 x 7 = (dr : Int) := k6047.trans edr
      have h6049 : CEN T H5989 ce8 e8 d8 := (CEN_fr w5849 gce8 f5994 rfl (CEN_fr hW gce8 f5850 rfl hcen8))
      have h6050 : TP T H5989 tc B := (TP_fr w5849 gtc f5994 rfl (TP_fr hW gtc f5850 rfl htc))
      have h6051 : TM T H5989 tm B := (TM_fr w5849 gtm f5994 rfl (TM_fr hW gtm f5850 rfl htm))
      have h6052 : DD T H5989 cu  := (DD_fr w5849 gcu f5994 rfl (DD_fr hW gcu f5850 rfl hcu))
      have h6053 : DD T H5989 dr  := (DD_fr w5849 gdr f5994 rfl (DD_fr hW gdr f5850 rfl hdr))
      have h6054 : DE T H5989 cu  := (DE_fr w5849 gcu f5994 rfl (DE_fr hW gcu f5850 rfl hdec))
      have h6055 : DE T H5989 dr  := (DE_fr w5849 gdr f5994 rfl (DE_fr hW gdr f5850 rfl hded))
      have h6056 : SP T H5989 x C8 := (SP_fr w5849 gx f5994 rfl (SP_fr hW gx f5850 rfl hsp))
      have h6057 : CU T H5989 cu e8 d8 n8 := (CU_fr w5849 gcu f5994 rfl (CU_fr hW gcu f5850 rfl hcu8))
      have h6058 : CY T H5989 cu ((d8 0 3)) g8 ((H cu 17)) := (CY_fr w5849 gcu f5994 rfl a5861)
      have k6059 : H5989 x 3 = H x 3 := ((f5994 x 3 _ gx rfl).trans (f5850 x 3 _ gx rfl))
      have q6060 : H5989 x 3 = (ce8 : Int) := k6059.trans ece8
      have h6061 : HDR T H5989 ce8  := (HDR_fr w5849 gce8 f5994 rfl (HDR_fr hW gce8 f5850 rfl hhdr8))
      have h6062 : KNN T H5989 m e8 d8 := (KNN_fr w5849 gm f5994 rfl (KNN_fr hW gm f5850 rfl hknn8))
      have h6063 : RB T H5989 m e8 d8 := (RB_fr w5849 gm f5994 rfl h5985)
      exact WL.loc hX (by simp) (next T H5989 ⟨⟨w5993, g0, gx, gm, go, by omega, by omega⟩, ⟨_, tc, tm, cu, dr, _, _, _, _, _, ce8, q6042, gtc, h6050, q6044, gtm, h6051, q6046, gcu, q6048, gdr, h6052, h6053, h6054, h6055, h6056, hC1, hC2, h6057, h6063, (h6058).1, (a6004).1, hE, hZ, (by omega), (by assumption), (by omega), (by first | assumption | exact SG_0), q6060, gce8, h6049, h6061, h6062, gm⟩, by omega, by omega⟩ (by omega) (by omega))
set_option maxHeartbeats 4000000 in
theorem wl_c47 {kt : Nat → Option mc_E} {CB SB : Nat} {X : mc_S → Prop} {T : wq_T} {H : wq_H} {Len x m o : Nat} {i : Int} (hX : wlX kt CB SB X) (hb : T.2.1 ≤ CB ∧ T.2.2.1 ≤ SB) (hI : wlJ Len x m o T H) (hL : Len ≤ 3072) (hi : 0 ≤ i ∧ i + 6 ≤ Len) (hb2 : T.2.1 + 20 ≤ CB ∧ T.2.2.1 + 500 ≤ SB) (hled : ∀ {z : Int}, wI z → T.2.1 ≤ CB ∧ T.2.2.1 ≤ SB → wlJ Len x m o T H → (∀ (z' : Int), wI z' → ∀ (T' : wq_T) (H' : wq_H), wlJ Len x m o T' H' → T'.2.1 ≤ T.2.1 + 20 → T'.2.2.1 ≤ T.2.2.1 + 500 → WL kt CB SB X 1598 (wlL i x m o) [vI z'] T' H') → WL kt CB SB X 1595 (wlL i x m o) [.ref o, vI z, .ref x] T H) (next : ∀ T' H', wlJ Len x m o T' H' → T'.2.1 ≤ T.2.1 + 20 → T'.2.2.1 ≤ T.2.2.1 + 500 → WL kt CB SB X 1653 (wlL i x m o) [] T' H') : WL kt CB SB X 1587 (wlL i x m o) [] T H := by
  obtain ⟨⟨hW, g0, gx, gm, go, hK, hr⟩, hXI, hY1, hY2⟩ := hI
  refine wl_of hX hb cL_1587 (rw_aload_n (pc' := 1588) (v := .ref x) rfl rfl rfl ?_)
  refine wl_of hX hb cL_1588 (rw_aload_n (pc' := 1589) (v := .ref 0) rfl rfl rfl ?_)
  refine wl_of hX hb cL_1589 (rw_iload (pc' := 1591) (z := i) rfl rfl ?_)
  refine wl_of hX hb cL_1591 (rw_iconst (pc' := 1592) rfl ?_)
  refine wl_of hX hb cL_1592 (rw_iadd (pc' := 1593) rfl ?_)
  refine wl_of hX hb cL_1593 (xa_I (so := 0) (pc' := 1594) (a := 0) hW g0 (wsh_s _) (by omega) (wty_s _ _) (by omega) (by omega) rfl (fun b6064 b6065 => ?_))
  refine wl_of hX hb cL_1594 (rw_aload_n (pc' := 1595) (v := .ref o) rfl rfl rfl ?_)
  refine hled ⟨by omega, by omega⟩ hb ⟨⟨hW, g0, gx, gm, go, by omega, by omega⟩, hXI, by omega, by omega⟩ (fun z9 b9 T9 H9 hI9 n9 s9 => ?_)
  obtain ⟨⟨w9, g0, gx, gm, go, hK, hr⟩, hXI, hY1, hY2⟩ := hI9
  have hb : T9.2.1 ≤ CB ∧ T9.2.2.1 ≤ SB := ⟨by omega, by omega⟩
  refine wl_of hX hb cL_1598 (rw_istore (pc' := 1600) (z := z9) (L' := [(5, vI z9), (4, vI i), (3, .ref o), (2, .ref m), (1, .ref x), (0, .ref 0)]) rfl rfl rfl ?_)
  refine wl_of hX hb cL_1600 (rw_aload_n (pc' := 1601) (v := .ref m) rfl rfl rfl ?_)
  refine wl_of hX hb cL_1601 (rw_aload_n (pc' := 1602) (v := .ref 0) rfl rfl rfl ?_)
  refine wl_of hX hb cL_1602 (rw_iload (pc' := 1604) (z := i) rfl rfl ?_)
  refine wl_of hX hb cL_1604 (rw_iconst (pc' := 1605) rfl ?_)
  refine wl_of hX hb cL_1605 (rw_iadd (pc' := 1606) rfl ?_)
  refine wl_of hX hb cL_1606 (xa_I (so := 0) (pc' := 1607) (a := 0) w9 g0 (wsh_s _) (by omega) (wty_s _ _) (by omega) (by omega) rfl (fun b6066 b6067 => ?_))
  refine wl_of hX hb cL_1607 (xc_V (pc' := 1610) (r := m) (as := [vI (H9 0 ((i + 1).toNat))]) (st := []) (lm_11_225) rfl rfl (Nat.le_of_ble_eq_true rfl) w9 gm sh_42 (by decide) rfl (by decide) (s_293 w9 gm ⟨by omega, by omega⟩ (by omega)) (fun R6068 T6069 H6070 p6071 => ?_))
  obtain ⟨e6072, w6074, f6075, z6077, e6073, b6078, p6076⟩ := p6071
  subst e6072
  subst e6073
  show WL _ _ _ _ 1610 [(5, vI z9), (4, vI i), (3, .ref o), (2, .ref m), (1, .ref x), (0, .ref 0)] [vI z6077] _ H6070
  refine wl_of hX hb cL_1610 (rw_istore (pc' := 1612) (z := z6077) (L' := [(6, vI z6077), (5, vI z9), (4, vI i), (3, .ref o), (2, .ref m), (1, .ref x), (0, .ref 0)]) rfl rfl rfl ?_)
  refine wl_of hX hb cL_1612 (rw_goto (p1 := 1653) (by decide) ?_)
  have k6079 : H6070 x 9 = H9 x 9 := (f6075 x 9 _ gx rfl)
  have k6080 : H6070 m 6 = H9 m 6 := (f6075 m 6 _ gm rfl)
  have k6081 : H6070 x 11 = H9 x 11 := (f6075 x 11 _ gx rfl)
  have k6082 : H6070 m 13 = H9 m 13 := (f6075 m 13 _ gm rfl)
  have k6083 : H6070 x 8 = H9 x 8 := (f6075 x 8 _ gx rfl)
  have k6084 : H6070 m 3 = H9 m 3 := (f6075 m 3 _ gm rfl)
  have h6085 : XI T9 H6070 x m := (XI_fr w9 gx f6075 rfl hXI)
  exact WL.loc hX (by simp) (next T9 H6070 ⟨⟨w6074, g0, gx, gm, go, by omega, by omega⟩, h6085, by omega, by omega⟩ (by omega) (by omega))
set_option maxHeartbeats 4000000 in
theorem wl_c48 {kt : Nat → Option mc_E} {CB SB : Nat} {X : mc_S → Prop} {T : wq_T} {H : wq_H} {Len x m o : Nat} {i : Int} (hX : wlX kt CB SB X) (hb : T.2.1 ≤ CB ∧ T.2.2.1 ≤ SB) (hI : wlJ Len x m o T H) (hL : Len ≤ 3072) (hi : 0 ≤ i ∧ i + 6 ≤ Len) (hb2 : T.2.1 + 20 ≤ CB ∧ T.2.2.1 + 500 ≤ SB)  (next : ∀ T' H', wlJ Len x m o T' H' → T'.2.1 ≤ T.2.1 + 20 → T'.2.2.1 ≤ T.2.2.1 + 500 → WL kt CB SB X 1653 (wlL i x m o) [] T' H') : WL kt CB SB X 1615 (wlL i x m o) [] T H := by
  obtain ⟨⟨hW, g0, gx, gm, go, hK, hr⟩, hXI, hY1, hY2⟩ := hI
  refine wl_of hX hb cL_1615 (rw_aload_n (pc' := 1616) (v := .ref x) rfl rfl rfl ?_)
  refine wl_of hX hb cL_1616 (rw_aload_n (pc' := 1617) (v := .ref 0) rfl rfl rfl ?_)
  refine wl_of hX hb cL_1617 (rw_iload (pc' := 1619) (z := i) rfl rfl ?_)
  refine wl_of hX hb cL_1619 (rw_iconst (pc' := 1620) rfl ?_)
  refine wl_of hX hb cL_1620 (rw_iadd (pc' := 1621) rfl ?_)
  refine wl_of hX hb cL_1621 (xa_I (so := 0) (pc' := 1622) (a := 0) hW g0 (wsh_s _) (by omega) (wty_s _ _) (by omega) (by omega) rfl (fun b6086 b6087 => ?_))
  refine wl_of hX hb cL_1622 (xc_V (pc' := 1625) (r := x) (as := [vI (H 0 ((i + 1).toNat))]) (st := []) (lm_11_226) rfl rfl (Nat.le_of_ble_eq_true rfl) hW gx sh_1 (by decide) rfl (by decide) (s_164 hW gx ⟨by omega, by omega⟩) (fun R6088 T6089 H6090 p6091 => ?_))
  obtain ⟨e6092, e6094, z6095, e6093, b6096⟩ := p6091
  subst e6092
  subst e6093
  subst e6094
  show WL _ _ _ _ 1625 [(4, vI i), (3, .ref o), (2, .ref m), (1, .ref x), (0, .ref 0)] [vI z6095] _ H
  refine wl_of hX hb cL_1625 (rw_pop (pc' := 1626) rfl rfl ?_)
  refine wl_of hX hb cL_1626 (rw_aload_n (pc' := 1627) (v := .ref m) rfl rfl rfl ?_)
  refine wl_of hX hb cL_1627 (rw_aload_n (pc' := 1628) (v := .ref 0) rfl rfl rfl ?_)
  refine wl_of hX hb cL_1628 (rw_iload (pc' := 1630) (z := i) rfl rfl ?_)
  refine wl_of hX hb cL_1630 (rw_iconst (pc' := 1631) rfl ?_)
  refine wl_of hX hb cL_1631 (rw_iadd (pc' := 1632) rfl ?_)
  refine wl_of hX hb cL_1632 (xa_I (so := 0) (pc' := 1633) (a := 0) hW g0 (wsh_s _) (by omega) (wty_s _ _) (by omega) (by omega) rfl (fun b6097 b6098 => ?_))
  refine wl_of hX hb cL_1633 (xc_V (pc' := 1636) (r := m) (as := [vI (H 0 ((i + 1).toNat))]) (st := []) (lm_11_229) rfl rfl (Nat.le_of_ble_eq_true rfl) hW gm sh_42 (by decide) rfl (by decide) (s_294 hW gm ⟨by omega, by omega⟩ (by omega)) (fun R6099 T6100 H6101 p6102 => ?_))
  obtain ⟨e6103, w6105, f6106, z6108, e6104, b6109, p6107⟩ := p6102
  subst e6103
  subst e6104
  show WL _ _ _ _ 1636 [(4, vI i), (3, .ref o), (2, .ref m), (1, .ref x), (0, .ref 0)] [vI z6108] _ H6101
  refine wl_of hX hb cL_1636 (rw_pop (pc' := 1637) rfl rfl ?_)
  refine wl_of hX hb cL_1637 (rw_goto (p1 := 1653) (by decide) ?_)
  have k6110 : H6101 x 9 = H x 9 := (f6106 x 9 _ gx rfl)
  have k6111 : H6101 m 6 = H m 6 := (f6106 m 6 _ gm rfl)
  have k6112 : H6101 x 11 = H x 11 := (f6106 x 11 _ gx rfl)
  have k6113 : H6101 m 13 = H m 13 := (f6106 m 13 _ gm rfl)
  have k6114 : H6101 x 8 = H x 8 := (f6106 x 8 _ gx rfl)
  have k6115 : H6101 m 3 = H m 3 := (f6106 m 3 _ gm rfl)
  have h6116 : XI T H6101 x m := (XI_fr hW gx f6106 rfl hXI)
  exact WL.loc hX (by simp) (next T H6101 ⟨⟨w6105, g0, gx, gm, go, by omega, by omega⟩, h6116, by omega, by omega⟩ (by omega) (by omega))
set_option maxHeartbeats 4000000 in
theorem wl_c49 {kt : Nat → Option mc_E} {CB SB : Nat} {X : mc_S → Prop} {T : wq_T} {H : wq_H} {Len x m o : Nat} {i : Int} (hX : wlX kt CB SB X) (hb : T.2.1 ≤ CB ∧ T.2.2.1 ≤ SB) (hI : wlJ Len x m o T H) (hL : Len ≤ 3072) (hi : 0 ≤ i ∧ i + 6 ≤ Len) (hb2 : T.2.1 + 20 ≤ CB ∧ T.2.2.1 + 500 ≤ SB)  (next : ∀ T' H', wlJ Len x m o T' H' → T'.2.1 ≤ T.2.1 + 20 → T'.2.2.1 ≤ T.2.2.1 + 500 → WL kt CB SB X 1653 (wlL i x m o) [] T' H') : WL kt CB SB X 1640 (wlL i x m o) [] T H := by
  obtain ⟨⟨hW, g0, gx, gm, go, hK, hr⟩, hXI, hY1, hY2⟩ := hI
  refine wl_of hX hb cL_1640 (rw_aload_n (pc' := 1641) (v := .ref x) rfl rfl rfl ?_)
  refine wl_of hX hb cL_1641 (xc_V (pc' := 1644) (r := x) (as := []) (st := []) (lm_11_230) rfl rfl (Nat.le_of_ble_eq_true rfl) hW gx sh_1 (by decide) rfl (by decide) (s_165 hW gx) (fun R6117 T6118 H6119 p6120 => ?_))
  obtain ⟨e6121, e6123, z6124, e6122, b6125⟩ := p6120
  subst e6121
  subst e6122
  subst e6123
  show WL _ _ _ _ 1644 [(4, vI i), (3, .ref o), (2, .ref m), (1, .ref x), (0, .ref 0)] [vI z6124] _ H
  refine wl_of hX hb cL_1644 (rw_pop (pc' := 1645) rfl rfl ?_)
  refine wl_of hX hb cL_1645 (rw_aload_n (pc' := 1646) (v := .ref m) rfl rfl rfl ?_)
  refine wl_of hX hb cL_1646 (xc_V (pc' := 1649) (r := m) (as := []) (st := []) (lm_11_233) rfl rfl (Nat.le_of_ble_eq_true rfl) hW gm sh_42 (by decide) rfl (by decide) (s_295 hW gm (by omega)) (fun R6126 T6127 H6128 p6129 => ?_))
  obtain ⟨e6130, w6132, f6133, z6135, e6131, b6136, p6134⟩ := p6129
  subst e6130
  subst e6131
  show WL _ _ _ _ 1649 [(4, vI i), (3, .ref o), (2, .ref m), (1, .ref x), (0, .ref 0)] [vI z6135] _ H6128
  refine wl_of hX hb cL_1649 (rw_pop (pc' := 1650) rfl rfl ?_)
  refine wl_of hX hb cL_1650 (rw_goto (p1 := 1653) (by decide) ?_)
  have k6137 : H6128 x 9 = H x 9 := (f6133 x 9 _ gx rfl)
  have k6138 : H6128 m 6 = H m 6 := (f6133 m 6 _ gm rfl)
  have k6139 : H6128 x 11 = H x 11 := (f6133 x 11 _ gx rfl)
  have k6140 : H6128 m 13 = H m 13 := (f6133 m 13 _ gm rfl)
  have k6141 : H6128 x 8 = H x 8 := (f6133 x 8 _ gx rfl)
  have k6142 : H6128 m 3 = H m 3 := (f6133 m 3 _ gm rfl)
  have h6143 : XI T H6128 x m := (XI_fr hW gx f6133 rfl hXI)
  exact WL.loc hX (by simp) (next T H6128 ⟨⟨w6132, g0, gx, gm, go, by omega, by omega⟩, h6143, by omega, by omega⟩ (by omega) (by omega))
set_option maxHeartbeats 4000000 in
theorem wl_head {kt : Nat → Option mc_E} {CB SB : Nat} {X : mc_S → Prop} {T : wq_T} {H : wq_H} {Len x m o : Nat} {i : Int} (hX : wlX kt CB SB X) (hb : T.2.1 ≤ CB ∧ T.2.2.1 ≤ SB) (hI : wlJ Len x m o T H) (hL : Len ≤ 3072) (hi : 0 ≤ i ∧ i ≤ Len) (cases : ∀ t, t ∈ [256, 329, 354, 367, 380, 405, 454, 503, 516, 553, 578, 603, 616, 629, 642, 655, 668, 705, 718, 755, 792, 829, 882, 919, 944, 957, 994, 1019, 1056, 1109, 1162, 1175, 1200, 1225, 1250, 1263, 1316, 1329, 1342, 1367, 1404, 1429, 1454, 1467, 1504, 1517, 1530, 1587, 1615, 1640] → i + 6 ≤ Len → WL kt CB SB X t (wlL i x m o) [] T H) (next : i + 6 ≤ Len → WL kt CB SB X 1653 (wlL i x m o) [] T H) : WL kt CB SB X 23 (wlL i x m o) [] T H := by
  obtain ⟨⟨hW, g0, gx, gm, go, hK, hr⟩, hXI, hY1, hY2⟩ := hI
  refine wl_of hX hb cL_23 (rw_iload (pc' := 25) (z := i) rfl rfl ?_)
  refine wl_of hX hb cL_25 (rw_aload_n (pc' := 26) (v := .ref 0) rfl rfl rfl ?_)
  refine wl_of hX hb cL_26 (xa_N (pc' := 27) (a := 0) (n := Len) hW g0 (wsh_s _) (by decide) rfl ?_)
  refine wl_of hX hb cL_27 (rw_bipush (pc' := 29) (z := 6) rfl (by decide) ?_)
  refine wl_of hX hb cL_29 (rw_isub (pc' := 30) rfl ?_)
  refine wl_of hX hb cL_30 (rw_icmp_gt (p1 := 1659) (p2 := 33) (by decide) rfl ⟨by omega, by omega⟩ ⟨by omega, by omega⟩ (fun c6144 => ?_) (fun c6144 => ?_))
  · refine wl_of hX hb cL_1659 (rw_iconst (pc' := 1660) rfl ?_)
    exact WL.fin hX hb
  · refine wl_of hX hb cL_33 (rw_aload_n (pc' := 34) (v := .ref 0) rfl rfl rfl ?_)
    refine wl_of hX hb cL_34 (rw_iload (pc' := 36) (z := i) rfl rfl ?_)
    refine wl_of hX hb cL_36 (xa_I (so := 0) (pc' := 37) (a := 0) hW g0 (wsh_s _) (by omega) (wty_s _ _) (by omega) (by omega) rfl (fun b6145 b6146 => ?_))
    refine wl_of hX hb cL_37 (rw_bipush (pc' := 39) (z := 63) rfl (by decide) ?_)
    refine wl_of hX hb cL_39 (rw_iand (pc' := 40) rfl ?_)
    obtain ⟨v6147, e6148⟩ : ∃ x : Int, x = wq_and (H 0 (i.toNat)) 63 := ⟨_, rfl⟩
    rw [← e6148]
    have b6149 : 0 ≤ v6147 ∧ v6147 ≤ 63 := by
      rw [e6148]
      exact wq_and_b _ (by omega) (by omega)
    have c6150 : v6147 = 0 ∨ v6147 = 1 ∨ v6147 = 2 ∨ v6147 = 3 ∨ v6147 = 4 ∨ v6147 = 5 ∨ v6147 = 6 ∨ v6147 = 7 ∨ v6147 = 8 ∨ v6147 = 9 ∨ v6147 = 10 ∨ v6147 = 11 ∨ v6147 = 12 ∨ v6147 = 13 ∨ v6147 = 14 ∨ v6147 = 15 ∨ v6147 = 16 ∨ v6147 = 17 ∨ v6147 = 18 ∨ v6147 = 19 ∨ v6147 = 20 ∨ v6147 = 21 ∨ v6147 = 22 ∨ v6147 = 23 ∨ v6147 = 24 ∨ v6147 = 25 ∨ v6147 = 26 ∨ v6147 = 27 ∨ v6147 = 28 ∨ v6147 = 29 ∨ v6147 = 30 ∨ v6147 = 31 ∨ v6147 = 32 ∨ v6147 = 33 ∨ v6147 = 34 ∨ v6147 = 35 ∨ v6147 = 36 ∨ v6147 = 37 ∨ v6147 = 38 ∨ v6147 = 39 ∨ v6147 = 40 ∨ v6147 = 41 ∨ v6147 = 42 ∨ v6147 = 43 ∨ v6147 = 44 ∨ v6147 = 45 ∨ v6147 = 46 ∨ v6147 = 47 ∨ v6147 = 48 ∨ v6147 = 49 ∨ (v6147 < 0 ∨ 49 < v6147) := by omega
    rcases c6150 with c6150 | c6150 | c6150 | c6150 | c6150 | c6150 | c6150 | c6150 | c6150 | c6150 | c6150 | c6150 | c6150 | c6150 | c6150 | c6150 | c6150 | c6150 | c6150 | c6150 | c6150 | c6150 | c6150 | c6150 | c6150 | c6150 | c6150 | c6150 | c6150 | c6150 | c6150 | c6150 | c6150 | c6150 | c6150 | c6150 | c6150 | c6150 | c6150 | c6150 | c6150 | c6150 | c6150 | c6150 | c6150 | c6150 | c6150 | c6150 | c6150 | c6150 | c6150
    · refine wl_of hX hb cL_40 (rw_tsw (p1 := 256) ⟨by omega, by omega⟩ (by rw [c6150]; decide) ?_)
      exact cases 256 (by decide) (by omega)
    · refine wl_of hX hb cL_40 (rw_tsw (p1 := 329) ⟨by omega, by omega⟩ (by rw [c6150]; decide) ?_)
      exact cases 329 (by decide) (by omega)
    · refine wl_of hX hb cL_40 (rw_tsw (p1 := 354) ⟨by omega, by omega⟩ (by rw [c6150]; decide) ?_)
      exact cases 354 (by decide) (by omega)
    · refine wl_of hX hb cL_40 (rw_tsw (p1 := 367) ⟨by omega, by omega⟩ (by rw [c6150]; decide) ?_)
      exact cases 367 (by decide) (by omega)
    · refine wl_of hX hb cL_40 (rw_tsw (p1 := 380) ⟨by omega, by omega⟩ (by rw [c6150]; decide) ?_)
      exact cases 380 (by decide) (by omega)
    · refine wl_of hX hb cL_40 (rw_tsw (p1 := 405) ⟨by omega, by omega⟩ (by rw [c6150]; decide) ?_)
      exact cases 405 (by decide) (by omega)
    · refine wl_of hX hb cL_40 (rw_tsw (p1 := 454) ⟨by omega, by omega⟩ (by rw [c6150]; decide) ?_)
      exact cases 454 (by decide) (by omega)
    · refine wl_of hX hb cL_40 (rw_tsw (p1 := 503) ⟨by omega, by omega⟩ (by rw [c6150]; decide) ?_)
      exact cases 503 (by decide) (by omega)
    · refine wl_of hX hb cL_40 (rw_tsw (p1 := 516) ⟨by omega, by omega⟩ (by rw [c6150]; decide) ?_)
      exact cases 516 (by decide) (by omega)
    · refine wl_of hX hb cL_40 (rw_tsw (p1 := 553) ⟨by omega, by omega⟩ (by rw [c6150]; decide) ?_)
      exact cases 553 (by decide) (by omega)
    · refine wl_of hX hb cL_40 (rw_tsw (p1 := 578) ⟨by omega, by omega⟩ (by rw [c6150]; decide) ?_)
      exact cases 578 (by decide) (by omega)
    · refine wl_of hX hb cL_40 (rw_tsw (p1 := 603) ⟨by omega, by omega⟩ (by rw [c6150]; decide) ?_)
      exact cases 603 (by decide) (by omega)
    · refine wl_of hX hb cL_40 (rw_tsw (p1 := 616) ⟨by omega, by omega⟩ (by rw [c6150]; decide) ?_)
      exact cases 616 (by decide) (by omega)
    · refine wl_of hX hb cL_40 (rw_tsw (p1 := 629) ⟨by omega, by omega⟩ (by rw [c6150]; decide) ?_)
      exact cases 629 (by decide) (by omega)
    · refine wl_of hX hb cL_40 (rw_tsw (p1 := 642) ⟨by omega, by omega⟩ (by rw [c6150]; decide) ?_)
      exact cases 642 (by decide) (by omega)
    · refine wl_of hX hb cL_40 (rw_tsw (p1 := 655) ⟨by omega, by omega⟩ (by rw [c6150]; decide) ?_)
      exact cases 655 (by decide) (by omega)
    · refine wl_of hX hb cL_40 (rw_tsw (p1 := 668) ⟨by omega, by omega⟩ (by rw [c6150]; decide) ?_)
      exact cases 668 (by decide) (by omega)
    · refine wl_of hX hb cL_40 (rw_tsw (p1 := 705) ⟨by omega, by omega⟩ (by rw [c6150]; decide) ?_)
      exact cases 705 (by decide) (by omega)
    · refine wl_of hX hb cL_40 (rw_tsw (p1 := 718) ⟨by omega, by omega⟩ (by rw [c6150]; decide) ?_)
      exact cases 718 (by decide) (by omega)
    · refine wl_of hX hb cL_40 (rw_tsw (p1 := 755) ⟨by omega, by omega⟩ (by rw [c6150]; decide) ?_)
      exact cases 755 (by decide) (by omega)
    · refine wl_of hX hb cL_40 (rw_tsw (p1 := 792) ⟨by omega, by omega⟩ (by rw [c6150]; decide) ?_)
      exact cases 792 (by decide) (by omega)
    · refine wl_of hX hb cL_40 (rw_tsw (p1 := 829) ⟨by omega, by omega⟩ (by rw [c6150]; decide) ?_)
      exact cases 829 (by decide) (by omega)
    · refine wl_of hX hb cL_40 (rw_tsw (p1 := 882) ⟨by omega, by omega⟩ (by rw [c6150]; decide) ?_)
      exact cases 882 (by decide) (by omega)
    · refine wl_of hX hb cL_40 (rw_tsw (p1 := 919) ⟨by omega, by omega⟩ (by rw [c6150]; decide) ?_)
      exact cases 919 (by decide) (by omega)
    · refine wl_of hX hb cL_40 (rw_tsw (p1 := 944) ⟨by omega, by omega⟩ (by rw [c6150]; decide) ?_)
      exact cases 944 (by decide) (by omega)
    · refine wl_of hX hb cL_40 (rw_tsw (p1 := 957) ⟨by omega, by omega⟩ (by rw [c6150]; decide) ?_)
      exact cases 957 (by decide) (by omega)
    · refine wl_of hX hb cL_40 (rw_tsw (p1 := 994) ⟨by omega, by omega⟩ (by rw [c6150]; decide) ?_)
      exact cases 994 (by decide) (by omega)
    · refine wl_of hX hb cL_40 (rw_tsw (p1 := 1019) ⟨by omega, by omega⟩ (by rw [c6150]; decide) ?_)
      exact cases 1019 (by decide) (by omega)
    · refine wl_of hX hb cL_40 (rw_tsw (p1 := 1056) ⟨by omega, by omega⟩ (by rw [c6150]; decide) ?_)
      exact cases 1056 (by decide) (by omega)
    · refine wl_of hX hb cL_40 (rw_tsw (p1 := 1109) ⟨by omega, by omega⟩ (by rw [c6150]; decide) ?_)
      exact cases 1109 (by decide) (by omega)
    · refine wl_of hX hb cL_40 (rw_tsw (p1 := 1162) ⟨by omega, by omega⟩ (by rw [c6150]; decide) ?_)
      exact cases 1162 (by decide) (by omega)
    · refine wl_of hX hb cL_40 (rw_tsw (p1 := 1175) ⟨by omega, by omega⟩ (by rw [c6150]; decide) ?_)
      exact cases 1175 (by decide) (by omega)
    · refine wl_of hX hb cL_40 (rw_tsw (p1 := 1200) ⟨by omega, by omega⟩ (by rw [c6150]; decide) ?_)
      exact cases 1200 (by decide) (by omega)
    · refine wl_of hX hb cL_40 (rw_tsw (p1 := 1225) ⟨by omega, by omega⟩ (by rw [c6150]; decide) ?_)
      exact cases 1225 (by decide) (by omega)
    · refine wl_of hX hb cL_40 (rw_tsw (p1 := 1250) ⟨by omega, by omega⟩ (by rw [c6150]; decide) ?_)
      exact cases 1250 (by decide) (by omega)
    · refine wl_of hX hb cL_40 (rw_tsw (p1 := 1263) ⟨by omega, by omega⟩ (by rw [c6150]; decide) ?_)
      exact cases 1263 (by decide) (by omega)
    · refine wl_of hX hb cL_40 (rw_tsw (p1 := 1316) ⟨by omega, by omega⟩ (by rw [c6150]; decide) ?_)
      exact cases 1316 (by decide) (by omega)
    · refine wl_of hX hb cL_40 (rw_tsw (p1 := 1329) ⟨by omega, by omega⟩ (by rw [c6150]; decide) ?_)
      exact cases 1329 (by decide) (by omega)
    · refine wl_of hX hb cL_40 (rw_tsw (p1 := 1342) ⟨by omega, by omega⟩ (by rw [c6150]; decide) ?_)
      exact cases 1342 (by decide) (by omega)
    · refine wl_of hX hb cL_40 (rw_tsw (p1 := 1367) ⟨by omega, by omega⟩ (by rw [c6150]; decide) ?_)
      exact cases 1367 (by decide) (by omega)
    · refine wl_of hX hb cL_40 (rw_tsw (p1 := 1404) ⟨by omega, by omega⟩ (by rw [c6150]; decide) ?_)
      exact cases 1404 (by decide) (by omega)
    · refine wl_of hX hb cL_40 (rw_tsw (p1 := 1429) ⟨by omega, by omega⟩ (by rw [c6150]; decide) ?_)
      exact cases 1429 (by decide) (by omega)
    · refine wl_of hX hb cL_40 (rw_tsw (p1 := 1454) ⟨by omega, by omega⟩ (by rw [c6150]; decide) ?_)
      exact cases 1454 (by decide) (by omega)
    · refine wl_of hX hb cL_40 (rw_tsw (p1 := 1467) ⟨by omega, by omega⟩ (by rw [c6150]; decide) ?_)
      exact cases 1467 (by decide) (by omega)
    · refine wl_of hX hb cL_40 (rw_tsw (p1 := 1504) ⟨by omega, by omega⟩ (by rw [c6150]; decide) ?_)
      exact cases 1504 (by decide) (by omega)
    · refine wl_of hX hb cL_40 (rw_tsw (p1 := 1517) ⟨by omega, by omega⟩ (by rw [c6150]; decide) ?_)
      exact cases 1517 (by decide) (by omega)
    · refine wl_of hX hb cL_40 (rw_tsw (p1 := 1530) ⟨by omega, by omega⟩ (by rw [c6150]; decide) ?_)
      exact cases 1530 (by decide) (by omega)
    · refine wl_of hX hb cL_40 (rw_tsw (p1 := 1587) ⟨by omega, by omega⟩ (by rw [c6150]; decide) ?_)
      exact cases 1587 (by decide) (by omega)
    · refine wl_of hX hb cL_40 (rw_tsw (p1 := 1615) ⟨by omega, by omega⟩ (by rw [c6150]; decide) ?_)
      exact cases 1615 (by decide) (by omega)
    · refine wl_of hX hb cL_40 (rw_tsw (p1 := 1640) ⟨by omega, by omega⟩ (by rw [c6150]; decide) ?_)
      exact cases 1640 (by decide) (by omega)
    · refine wl_of hX hb cL_40 (rw_tsw (p1 := 1653) ⟨by omega, by omega⟩ (by rw [if_pos c6150]; decide) ?_)
      exact next (by omega)
theorem wl_back {kt : Nat → Option mc_E} {CB SB : Nat} {X : mc_S → Prop} {T : wq_T} {H : wq_H} {Len x m o : Nat} {i : Int} (hX : wlX kt CB SB X) (hb : T.2.1 ≤ CB ∧ T.2.2.1 ≤ SB) (hI : wlJ Len x m o T H) (hL : Len ≤ 3072) (hi : 0 ≤ i ∧ i + 6 ≤ Len) (next : WL kt CB SB X 23 (wlL (i + 6) x m o) [] T H) : WL kt CB SB X 1653 (wlL i x m o) [] T H := by
  obtain ⟨⟨hW, g0, gx, gm, go, hK, hr⟩, hXI, hY1, hY2⟩ := hI
  refine wl_of hX hb cL_1653 (rw_iinc (pc' := 1656) (z := i) (L' := [(4, vI (i + 6)), (3, .ref o), (2, .ref m), (1, .ref x), (0, .ref 0)]) rfl rfl rfl rfl ?_)
  refine wl_of hX hb cL_1656 (rw_goto (p1 := 23) (by decide) ?_)
  exact next
/-- the call that may throw, as the loop wants it -/
def wlLed (kt : Nat → Option mc_E) (CB SB : Nat) (X : mc_S → Prop) (Len x m o : Nat) : Prop := ∀ (T : wq_T) (H : wq_H) (i z : Int), T.2.1 + 20 ≤ CB ∧ T.2.2.1 + 500 ≤ SB → wI z → wlJ Len x m o T H → (∀ (z' : Int), wI z' → ∀ (T' : wq_T) (H' : wq_H), wlJ Len x m o T' H' → T'.2.1 ≤ T.2.1 + 20 → T'.2.2.1 ≤ T.2.2.1 + 500 → WL kt CB SB X 1598 (wlL i x m o) [vI z'] T' H') → WL kt CB SB X 1595 (wlL i x m o) [.ref o, vI z, .ref x] T H
set_option maxRecDepth 40000 in
theorem wl_loopL {kt : Nat → Option mc_E} {CB SB : Nat} {X : mc_S → Prop} {Len x m o : Nat} (hX : wlX kt CB SB X) (hL : Len ≤ 3072) (hled : wlLed kt CB SB X Len x m o) : ∀ (n : Nat) (T : wq_T) (H : wq_H) (i : Int), 0 ≤ i ∧ i ≤ Len → (Len - i).toNat = n → T.2.1 + 4 * (n + 6) ≤ CB → T.2.2.1 + 100 * (n + 6) ≤ SB → wlJ Len x m o T H → WL kt CB SB X 23 (wlL i x m o) [] T H := by
  intro n
  induction n using Nat.strongRecOn with
  | _ n ih =>
    intro T H i hi hn hc hs hI
    have hb : T.2.1 ≤ CB ∧ T.2.2.1 ≤ SB := ⟨by omega, by omega⟩
    have hb2 : T.2.1 + 20 ≤ CB ∧ T.2.2.1 + 500 ≤ SB := ⟨by omega, by omega⟩
    refine wl_head hX hb hI hL hi (fun t ht h6 => ?_) (fun h6 => wl_back hX hb hI hL ⟨hi.1, h6⟩ (ih (Len - (i + 6)).toNat (by omega) T H (i + 6) ⟨by omega, by omega⟩ rfl (by omega) (by omega) hI))
    have next : ∀ T' H', wlJ Len x m o T' H' → T'.2.1 ≤ T.2.1 + 20 → T'.2.2.1 ≤ T.2.2.1 + 500 → WL kt CB SB X 1653 (wlL i x m o) [] T' H' := fun T' H' hI' h1 h2 => wl_back hX ⟨by omega, by omega⟩ hI' hL ⟨hi.1, h6⟩ (ih (Len - (i + 6)).toNat (by omega) T' H' (i + 6) ⟨by omega, by omega⟩ rfl (by omega) (by omega) hI')
    rcases List.mem_cons.mp ht with rfl | ht
    · exact wl_c0 hX hb hI hL ⟨hi.1, h6⟩ hb2 next
    rcases List.mem_cons.mp ht with rfl | ht
    · exact wl_c1 hX hb hI hL ⟨hi.1, h6⟩ hb2 next
    rcases List.mem_cons.mp ht with rfl | ht
    · exact wl_c2 hX hb hI hL ⟨hi.1, h6⟩ hb2 next
    rcases List.mem_cons.mp ht with rfl | ht
    · exact wl_c3 hX hb hI hL ⟨hi.1, h6⟩ hb2 next
    rcases List.mem_cons.mp ht with rfl | ht
    · exact wl_c4 hX hb hI hL ⟨hi.1, h6⟩ hb2 next
    rcases List.mem_cons.mp ht with rfl | ht
    · exact wl_c5 hX hb hI hL ⟨hi.1, h6⟩ hb2 next
    rcases List.mem_cons.mp ht with rfl | ht
    · exact wl_c6 hX hb hI hL ⟨hi.1, h6⟩ hb2 next
    rcases List.mem_cons.mp ht with rfl | ht
    · exact wl_c7 hX hb hI hL ⟨hi.1, h6⟩ hb2 next
    rcases List.mem_cons.mp ht with rfl | ht
    · exact wl_c8 hX hb hI hL ⟨hi.1, h6⟩ hb2 next
    rcases List.mem_cons.mp ht with rfl | ht
    · exact wl_c9 hX hb hI hL ⟨hi.1, h6⟩ hb2 next
    rcases List.mem_cons.mp ht with rfl | ht
    · exact wl_c10 hX hb hI hL ⟨hi.1, h6⟩ hb2 next
    rcases List.mem_cons.mp ht with rfl | ht
    · exact wl_c11 hX hb hI hL ⟨hi.1, h6⟩ hb2 next
    rcases List.mem_cons.mp ht with rfl | ht
    · exact wl_c12 hX hb hI hL ⟨hi.1, h6⟩ hb2 next
    rcases List.mem_cons.mp ht with rfl | ht
    · exact wl_c13 hX hb hI hL ⟨hi.1, h6⟩ hb2 next
    rcases List.mem_cons.mp ht with rfl | ht
    · exact wl_c14 hX hb hI hL ⟨hi.1, h6⟩ hb2 next
    rcases List.mem_cons.mp ht with rfl | ht
    · exact wl_c15 hX hb hI hL ⟨hi.1, h6⟩ hb2 next
    rcases List.mem_cons.mp ht with rfl | ht
    · exact wl_c16 hX hb hI hL ⟨hi.1, h6⟩ hb2 next
    rcases List.mem_cons.mp ht with rfl | ht
    · exact wl_c17 hX hb hI hL ⟨hi.1, h6⟩ hb2 next
    rcases List.mem_cons.mp ht with rfl | ht
    · exact wl_c18 hX hb hI hL ⟨hi.1, h6⟩ hb2 next
    rcases List.mem_cons.mp ht with rfl | ht
    · exact wl_c19 hX hb hI hL ⟨hi.1, h6⟩ hb2 next
    rcases List.mem_cons.mp ht with rfl | ht
    · exact wl_c20 hX hb hI hL ⟨hi.1, h6⟩ hb2 next
    rcases List.mem_cons.mp ht with rfl | ht
    · exact wl_c21 hX hb hI hL ⟨hi.1, h6⟩ hb2 next
    rcases List.mem_cons.mp ht with rfl | ht
    · exact wl_c22 hX hb hI hL ⟨hi.1, h6⟩ hb2 next
    rcases List.mem_cons.mp ht with rfl | ht
    · exact wl_c23 hX hb hI hL ⟨hi.1, h6⟩ hb2 next
    rcases List.mem_cons.mp ht with rfl | ht
    · exact wl_c24 hX hb hI hL ⟨hi.1, h6⟩ hb2 next
    rcases List.mem_cons.mp ht with rfl | ht
    · exact wl_c25 hX hb hI hL ⟨hi.1, h6⟩ hb2 next
    rcases List.mem_cons.mp ht with rfl | ht
    · exact wl_c26 hX hb hI hL ⟨hi.1, h6⟩ hb2 next
    rcases List.mem_cons.mp ht with rfl | ht
    · exact wl_c27 hX hb hI hL ⟨hi.1, h6⟩ hb2 next
    rcases List.mem_cons.mp ht with rfl | ht
    · exact wl_c28 hX hb hI hL ⟨hi.1, h6⟩ hb2 next
    rcases List.mem_cons.mp ht with rfl | ht
    · exact wl_c29 hX hb hI hL ⟨hi.1, h6⟩ hb2 next
    rcases List.mem_cons.mp ht with rfl | ht
    · exact wl_c30 hX hb hI hL ⟨hi.1, h6⟩ hb2 next
    rcases List.mem_cons.mp ht with rfl | ht
    · exact wl_c31 hX hb hI hL ⟨hi.1, h6⟩ hb2 next
    rcases List.mem_cons.mp ht with rfl | ht
    · exact wl_c32 hX hb hI hL ⟨hi.1, h6⟩ hb2 next
    rcases List.mem_cons.mp ht with rfl | ht
    · exact wl_c33 hX hb hI hL ⟨hi.1, h6⟩ hb2 next
    rcases List.mem_cons.mp ht with rfl | ht
    · exact wl_c34 hX hb hI hL ⟨hi.1, h6⟩ hb2 next
    rcases List.mem_cons.mp ht with rfl | ht
    · exact wl_c35 hX hb hI hL ⟨hi.1, h6⟩ hb2 next
    rcases List.mem_cons.mp ht with rfl | ht
    · exact wl_c36 hX hb hI hL ⟨hi.1, h6⟩ hb2 next
    rcases List.mem_cons.mp ht with rfl | ht
    · exact wl_c37 hX hb hI hL ⟨hi.1, h6⟩ hb2 next
    rcases List.mem_cons.mp ht with rfl | ht
    · exact wl_c38 hX hb hI hL ⟨hi.1, h6⟩ hb2 next
    rcases List.mem_cons.mp ht with rfl | ht
    · exact wl_c39 hX hb hI hL ⟨hi.1, h6⟩ hb2 next
    rcases List.mem_cons.mp ht with rfl | ht
    · exact wl_c40 hX hb hI hL ⟨hi.1, h6⟩ hb2 next
    rcases List.mem_cons.mp ht with rfl | ht
    · exact wl_c41 hX hb hI hL ⟨hi.1, h6⟩ hb2 next
    rcases List.mem_cons.mp ht with rfl | ht
    · exact wl_c42 hX hb hI hL ⟨hi.1, h6⟩ hb2 next
    rcases List.mem_cons.mp ht with rfl | ht
    · exact wl_c43 hX hb hI hL ⟨hi.1, h6⟩ hb2 next
    rcases List.mem_cons.mp ht with rfl | ht
    · exact wl_c44 hX hb hI hL ⟨hi.1, h6⟩ hb2 next
    rcases List.mem_cons.mp ht with rfl | ht
    · exact wl_c45 hX hb hI hL ⟨hi.1, h6⟩ hb2 next
    rcases List.mem_cons.mp ht with rfl | ht
    · exact wl_c46 hX hb hI hL ⟨hi.1, h6⟩ hb2 next
    rcases List.mem_cons.mp ht with rfl | ht
    · exact wl_c47 hX hb hI hL ⟨hi.1, h6⟩ hb2 (fun hz _ hI2 k => hled T H i _ hb2 hz hI2 k) next
    rcases List.mem_cons.mp ht with rfl | ht
    · exact wl_c48 hX hb hI hL ⟨hi.1, h6⟩ hb2 next
    rcases List.mem_cons.mp ht with rfl | ht
    · exact wl_c49 hX hb hI hL ⟨hi.1, h6⟩ hb2 next
    cases ht
