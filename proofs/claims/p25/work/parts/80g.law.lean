/-! THE LAW, GONE ON WITH (own work) -/
set_option maxHeartbeats 4000000 in
theorem wl_c43 {kt : Nat → Option mc_E} {CB SB : Nat} {X : mc_S → Prop} {T : wq_T} {H : wq_H} {Len x m o : Nat} {i : Int} (hX : wlX kt CB SB X) (hb : T.2.1 ≤ CB ∧ T.2.2.1 ≤ SB) (hI : wlJ Len x m o T H) (hL : Len ≤ 3072) (hi : 0 ≤ i ∧ i + 6 ≤ Len) (hb2 : T.2.1 + 20 ≤ CB ∧ T.2.2.1 + 500 ≤ SB)  (next : ∀ T' H', wlJ Len x m o T' H' → T'.2.1 ≤ T.2.1 + 20 → T'.2.2.1 ≤ T.2.2.1 + 500 → WL kt CB SB X 1653 (wlL i x m o) [] T' H') : WL kt CB SB X 1467 (wlL i x m o) [] T H := by
  obtain ⟨⟨hW, g0, gx, gm, go, hK, hr⟩, hXI, hY1, hY2⟩ := hI
  refine wl_of hX hb cL_1467 (rw_aload_n (pc' := 1468) (v := .ref x) rfl rfl rfl ?_)
  refine wl_of hX hb cL_1468 (rw_aload_n (pc' := 1469) (v := .ref 0) rfl rfl rfl ?_)
  refine wl_of hX hb cL_1469 (rw_iload (pc' := 1471) (z := i) rfl rfl ?_)
  refine wl_of hX hb cL_1471 (rw_iconst (pc' := 1472) rfl ?_)
  refine wl_of hX hb cL_1472 (rw_iadd (pc' := 1473) rfl ?_)
  refine wl_of hX hb cL_1473 (xa_I (so := 0) (pc' := 1474) (a := 0) hW g0 (wsh_s _) (by omega) (wty_s _ _) (by omega) (by omega) rfl (fun b5841 b5842 => ?_))
  refine wl_of hX hb cL_1474 (rw_aload_n (pc' := 1475) (v := .ref 0) rfl rfl rfl ?_)
  refine wl_of hX hb cL_1475 (rw_iload (pc' := 1477) (z := i) rfl rfl ?_)
  refine wl_of hX hb cL_1477 (rw_iconst (pc' := 1478) rfl ?_)
  refine wl_of hX hb cL_1478 (rw_iadd (pc' := 1479) rfl ?_)
  refine wl_of hX hb cL_1479 (xa_I (so := 0) (pc' := 1480) (a := 0) hW g0 (wsh_s _) (by omega) (wty_s _ _) (by omega) (by omega) rfl (fun b5843 b5844 => ?_))
  refine wl_of hX hb cL_1480 (xc_V (pc' := 1483) (r := x) (as := [vI (H 0 ((i + 1).toNat)), vI (H 0 ((i + 2).toNat))]) (st := []) (lm_11_200) rfl rfl (Nat.le_of_ble_eq_true rfl) hW gx sh_1 (by decide) rfl (by decide) (s_157 hW gx ⟨by omega, by omega⟩ ⟨by omega, by omega⟩) (fun R5845 T5846 H5847 p5848 => ?_))
  obtain ⟨e5849, w5851, f5852, z5853, e5850, b5854⟩ := p5848
  subst e5849
  subst e5850
  show WL _ _ _ _ 1483 [(4, vI i), (3, .ref o), (2, .ref m), (1, .ref x), (0, .ref 0)] [vI z5853] _ H5847
  refine wl_of hX hb cL_1483 (rw_pop (pc' := 1484) rfl rfl ?_)
  refine wl_of hX hb cL_1484 (rw_aload_n (pc' := 1485) (v := .ref m) rfl rfl rfl ?_)
  refine wl_of hX hb cL_1485 (rw_aload_n (pc' := 1486) (v := .ref 0) rfl rfl rfl ?_)
  refine wl_of hX hb cL_1486 (rw_iload (pc' := 1488) (z := i) rfl rfl ?_)
  refine wl_of hX hb cL_1488 (rw_iconst (pc' := 1489) rfl ?_)
  refine wl_of hX hb cL_1489 (rw_iadd (pc' := 1490) rfl ?_)
  have k5857 : H5847 0 ((i + 1).toNat) = H 0 ((i + 1).toNat) := (f5852 0 ((i + 1).toNat) _ g0 (wmem_s rfl))
  refine wl_of hX hb cL_1490 (xa_I (so := 0) (pc' := 1491) (a := 0) w5851 g0 (wsh_s _) (by omega) (wty_s _ _) (by omega) (by omega) rfl (fun b5855 b5856 => ?_))
  refine wl_of hX hb cL_1491 (rw_aload_n (pc' := 1492) (v := .ref 0) rfl rfl rfl ?_)
  refine wl_of hX hb cL_1492 (rw_iload (pc' := 1494) (z := i) rfl rfl ?_)
  refine wl_of hX hb cL_1494 (rw_iconst (pc' := 1495) rfl ?_)
  refine wl_of hX hb cL_1495 (rw_iadd (pc' := 1496) rfl ?_)
  have k5860 : H5847 0 ((i + 2).toNat) = H 0 ((i + 2).toNat) := (f5852 0 ((i + 2).toNat) _ g0 (wmem_s rfl))
  refine wl_of hX hb cL_1496 (xa_I (so := 0) (pc' := 1497) (a := 0) w5851 g0 (wsh_s _) (by omega) (wty_s _ _) (by omega) (by omega) rfl (fun b5858 b5859 => ?_))
  have k5861 : wKI H5847 m = wKI H m := (wKI_fr hW gm f5852 rfl)
  have k5862 : H5847 x 9 = H x 9 := (f5852 x 9 _ gx rfl)
  have k5863 : H5847 m 6 = H m 6 := (f5852 m 6 _ gm rfl)
  have k5864 : H5847 x 11 = H x 11 := (f5852 x 11 _ gx rfl)
  have k5865 : H5847 m 13 = H m 13 := (f5852 m 13 _ gm rfl)
  have k5866 : H5847 x 8 = H x 8 := (f5852 x 8 _ gx rfl)
  have k5867 : H5847 m 3 = H m 3 := (f5852 m 3 _ gm rfl)
  refine wl_of hX hb cL_1497 (xc_V (pc' := 1500) (r := m) (as := [vI (H5847 0 ((i + 1).toNat)), vI (H5847 0 ((i + 2).toNat))]) (st := []) (lm_11_203) rfl rfl (Nat.le_of_ble_eq_true rfl) w5851 gm sh_42 (by decide) rfl (by decide) (s_289 w5851 gm ⟨by omega, by omega⟩ ⟨by omega, by omega⟩ (by omega)) (fun R5868 T5869 H5870 p5871 => ?_))
  obtain ⟨e5872, w5874, f5875, z5877, e5873, b5878, p5876⟩ := p5871
  subst e5872
  subst e5873
  show WL _ _ _ _ 1500 [(4, vI i), (3, .ref o), (2, .ref m), (1, .ref x), (0, .ref 0)] [vI z5877] _ H5870
  refine wl_of hX hb cL_1500 (rw_pop (pc' := 1501) rfl rfl ?_)
  refine wl_of hX hb cL_1501 (rw_goto (p1 := 1653) (by decide) ?_)
  have k5879 : H5870 x 9 = H5847 x 9 := (f5875 x 9 _ gx rfl)
  have k5880 : H5870 m 6 = H5847 m 6 := (f5875 m 6 _ gm rfl)
  have k5881 : H5870 x 11 = H5847 x 11 := (f5875 x 11 _ gx rfl)
  have k5882 : H5870 m 13 = H5847 m 13 := (f5875 m 13 _ gm rfl)
  have k5883 : H5870 x 8 = H5847 x 8 := (f5875 x 8 _ gx rfl)
  have k5884 : H5870 m 3 = H5847 m 3 := (f5875 m 3 _ gm rfl)
  have h5885 : XI T H5870 x m := (XI_fr w5851 gx f5875 rfl (XI_fr hW gx f5852 rfl hXI))
  exact WL.loc hX (by simp) (next T H5870 ⟨⟨w5874, g0, gx, gm, go, by omega, by omega⟩, h5885, by omega, by omega⟩ (by omega) (by omega))
set_option maxHeartbeats 4000000 in
theorem wl_c44 {kt : Nat → Option mc_E} {CB SB : Nat} {X : mc_S → Prop} {T : wq_T} {H : wq_H} {Len x m o : Nat} {i : Int} (hX : wlX kt CB SB X) (hb : T.2.1 ≤ CB ∧ T.2.2.1 ≤ SB) (hI : wlJ Len x m o T H) (hL : Len ≤ 3072) (hi : 0 ≤ i ∧ i + 6 ≤ Len) (hb2 : T.2.1 + 20 ≤ CB ∧ T.2.2.1 + 500 ≤ SB)  (next : ∀ T' H', wlJ Len x m o T' H' → T'.2.1 ≤ T.2.1 + 20 → T'.2.2.1 ≤ T.2.2.1 + 500 → WL kt CB SB X 1653 (wlL i x m o) [] T' H') : WL kt CB SB X 1504 (wlL i x m o) [] T H := by
  obtain ⟨⟨hW, g0, gx, gm, go, hK, hr⟩, hXI, hY1, hY2⟩ := hI
  refine wl_of hX hb cL_1504 (rw_aload_n (pc' := 1505) (v := .ref x) rfl rfl rfl ?_)
  refine wl_of hX hb cL_1505 (xc_V (pc' := 1508) (r := x) (as := []) (st := []) (lm_11_204) rfl rfl (Nat.le_of_ble_eq_true rfl) hW gx sh_1 (by decide) rfl (by decide) (s_158 hW gx) (fun R5886 T5887 H5888 p5889 => ?_))
  obtain ⟨e5890, w5892, f5893, z5894, e5891, b5895⟩ := p5889
  subst e5890
  subst e5891
  show WL _ _ _ _ 1508 [(4, vI i), (3, .ref o), (2, .ref m), (1, .ref x), (0, .ref 0)] [vI z5894] _ H5888
  refine wl_of hX hb cL_1508 (rw_pop (pc' := 1509) rfl rfl ?_)
  refine wl_of hX hb cL_1509 (rw_aload_n (pc' := 1510) (v := .ref m) rfl rfl rfl ?_)
  have k5896 : wKI H5888 m = wKI H m := (wKI_fr hW gm f5893 rfl)
  have k5897 : H5888 x 9 = H x 9 := (f5893 x 9 _ gx rfl)
  have k5898 : H5888 m 6 = H m 6 := (f5893 m 6 _ gm rfl)
  have k5899 : H5888 x 11 = H x 11 := (f5893 x 11 _ gx rfl)
  have k5900 : H5888 m 13 = H m 13 := (f5893 m 13 _ gm rfl)
  have k5901 : H5888 x 8 = H x 8 := (f5893 x 8 _ gx rfl)
  have k5902 : H5888 m 3 = H m 3 := (f5893 m 3 _ gm rfl)
  refine wl_of hX hb cL_1510 (xc_V (pc' := 1513) (r := m) (as := []) (st := []) (lm_11_208) rfl rfl (Nat.le_of_ble_eq_true rfl) w5892 gm sh_42 (by decide) rfl (by decide) (s_290 w5892 gm (by omega)) (fun R5903 T5904 H5905 p5906 => ?_))
  obtain ⟨e5907, w5909, f5910, z5912, e5908, b5913, p5911⟩ := p5906
  subst e5907
  subst e5908
  show WL _ _ _ _ 1513 [(4, vI i), (3, .ref o), (2, .ref m), (1, .ref x), (0, .ref 0)] [vI z5912] _ H5905
  refine wl_of hX hb cL_1513 (rw_pop (pc' := 1514) rfl rfl ?_)
  refine wl_of hX hb cL_1514 (rw_goto (p1 := 1653) (by decide) ?_)
  have k5914 : H5905 x 9 = H5888 x 9 := (f5910 x 9 _ gx rfl)
  have k5915 : H5905 m 6 = H5888 m 6 := (f5910 m 6 _ gm rfl)
  have k5916 : H5905 x 11 = H5888 x 11 := (f5910 x 11 _ gx rfl)
  have k5917 : H5905 m 13 = H5888 m 13 := (f5910 m 13 _ gm rfl)
  have k5918 : H5905 x 8 = H5888 x 8 := (f5910 x 8 _ gx rfl)
  have k5919 : H5905 m 3 = H5888 m 3 := (f5910 m 3 _ gm rfl)
  have h5920 : XI T H5905 x m := (XI_fr w5892 gx f5910 rfl (XI_fr hW gx f5893 rfl hXI))
  exact WL.loc hX (by simp) (next T H5905 ⟨⟨w5909, g0, gx, gm, go, by omega, by omega⟩, h5920, by omega, by omega⟩ (by omega) (by omega))
set_option maxHeartbeats 4000000 in
theorem wl_c45 {kt : Nat → Option mc_E} {CB SB : Nat} {X : mc_S → Prop} {T : wq_T} {H : wq_H} {Len x m o : Nat} {i : Int} (hX : wlX kt CB SB X) (hb : T.2.1 ≤ CB ∧ T.2.2.1 ≤ SB) (hI : wlJ Len x m o T H) (hL : Len ≤ 3072) (hi : 0 ≤ i ∧ i + 6 ≤ Len) (hb2 : T.2.1 + 20 ≤ CB ∧ T.2.2.1 + 500 ≤ SB)  (next : ∀ T' H', wlJ Len x m o T' H' → T'.2.1 ≤ T.2.1 + 20 → T'.2.2.1 ≤ T.2.2.1 + 500 → WL kt CB SB X 1653 (wlL i x m o) [] T' H') : WL kt CB SB X 1517 (wlL i x m o) [] T H := by
  obtain ⟨⟨hW, g0, gx, gm, go, hK, hr⟩, hXI, hY1, hY2⟩ := hI
  refine wl_of hX hb cL_1517 (rw_aload_n (pc' := 1518) (v := .ref x) rfl rfl rfl ?_)
  refine wl_of hX hb cL_1518 (xc_V (pc' := 1521) (r := x) (as := []) (st := []) (lm_11_209) rfl rfl (Nat.le_of_ble_eq_true rfl) hW gx sh_1 (by decide) rfl (by decide) (s_159 hW gx) (fun R5921 T5922 H5923 p5924 => ?_))
  obtain ⟨e5925, w5927, f5928, z5929, e5926, b5930⟩ := p5924
  subst e5925
  subst e5926
  show WL _ _ _ _ 1521 [(4, vI i), (3, .ref o), (2, .ref m), (1, .ref x), (0, .ref 0)] [vL z5929] _ H5923
  refine wl_of hX hb cL_1521 (rw_pop2 (pc' := 1522) rfl rfl ?_)
  refine wl_of hX hb cL_1522 (rw_aload_n (pc' := 1523) (v := .ref m) rfl rfl rfl ?_)
  have k5931 : wKI H5923 m = wKI H m := (wKI_fr hW gm f5928 rfl)
  have k5932 : H5923 x 9 = H x 9 := (f5928 x 9 _ gx rfl)
  have k5933 : H5923 m 6 = H m 6 := (f5928 m 6 _ gm rfl)
  have k5934 : H5923 x 11 = H x 11 := (f5928 x 11 _ gx rfl)
  have k5935 : H5923 m 13 = H m 13 := (f5928 m 13 _ gm rfl)
  have k5936 : H5923 x 8 = H x 8 := (f5928 x 8 _ gx rfl)
  have k5937 : H5923 m 3 = H m 3 := (f5928 m 3 _ gm rfl)
  refine wl_of hX hb cL_1523 (xc_V (pc' := 1526) (r := m) (as := []) (st := []) (lm_11_212) rfl rfl (Nat.le_of_ble_eq_true rfl) w5927 gm sh_42 (by decide) rfl (by decide) (s_291 w5927 gm (by omega)) (fun R5938 T5939 H5940 p5941 => ?_))
  obtain ⟨e5942, w5944, f5945, z5947, e5943, b5948, p5946⟩ := p5941
  subst e5942
  subst e5943
  show WL _ _ _ _ 1526 [(4, vI i), (3, .ref o), (2, .ref m), (1, .ref x), (0, .ref 0)] [vL z5947] _ H5940
  refine wl_of hX hb cL_1526 (rw_pop2 (pc' := 1527) rfl rfl ?_)
  refine wl_of hX hb cL_1527 (rw_goto (p1 := 1653) (by decide) ?_)
  have k5949 : H5940 x 9 = H5923 x 9 := (f5945 x 9 _ gx rfl)
  have k5950 : H5940 m 6 = H5923 m 6 := (f5945 m 6 _ gm rfl)
  have k5951 : H5940 x 11 = H5923 x 11 := (f5945 x 11 _ gx rfl)
  have k5952 : H5940 m 13 = H5923 m 13 := (f5945 m 13 _ gm rfl)
  have k5953 : H5940 x 8 = H5923 x 8 := (f5945 x 8 _ gx rfl)
  have k5954 : H5940 m 3 = H5923 m 3 := (f5945 m 3 _ gm rfl)
  have h5955 : XI T H5940 x m := (XI_fr w5927 gx f5945 rfl (XI_fr hW gx f5928 rfl hXI))
  exact WL.loc hX (by simp) (next T H5940 ⟨⟨w5944, g0, gx, gm, go, by omega, by omega⟩, h5955, by omega, by omega⟩ (by omega) (by omega))
set_option maxHeartbeats 4000000 in
theorem wl_c46 {kt : Nat → Option mc_E} {CB SB : Nat} {X : mc_S → Prop} {T : wq_T} {H : wq_H} {Len x m o : Nat} {i : Int} (hX : wlX kt CB SB X) (hb : T.2.1 ≤ CB ∧ T.2.2.1 ≤ SB) (hI : wlJ Len x m o T H) (hL : Len ≤ 3072) (hi : 0 ≤ i ∧ i + 6 ≤ Len) (hb2 : T.2.1 + 20 ≤ CB ∧ T.2.2.1 + 500 ≤ SB)  (next : ∀ T' H', wlJ Len x m o T' H' → T'.2.1 ≤ T.2.1 + 20 → T'.2.2.1 ≤ T.2.2.1 + 500 → WL kt CB SB X 1653 (wlL i x m o) [] T' H') : WL kt CB SB X 1530 (wlL i x m o) [] T H := by
  obtain ⟨⟨hW, g0, gx, gm, go, hK, hr⟩, hXI, hY1, hY2⟩ := hI
  refine wl_of hX hb cL_1530 (rw_aload_n (pc' := 1531) (v := .ref x) rfl rfl rfl ?_)
  refine wl_of hX hb cL_1531 (rw_aload_n (pc' := 1532) (v := .ref 0) rfl rfl rfl ?_)
  refine wl_of hX hb cL_1532 (rw_iload (pc' := 1534) (z := i) rfl rfl ?_)
  refine wl_of hX hb cL_1534 (rw_iconst (pc' := 1535) rfl ?_)
  refine wl_of hX hb cL_1535 (rw_iadd (pc' := 1536) rfl ?_)
  refine wl_of hX hb cL_1536 (xa_I (so := 0) (pc' := 1537) (a := 0) hW g0 (wsh_s _) (by omega) (wty_s _ _) (by omega) (by omega) rfl (fun b5956 b5957 => ?_))
  refine wl_of hX hb cL_1537 (rw_i2l (pc' := 1538) rfl ⟨by omega, by omega⟩ ?_)
  refine wl_of hX hb cL_1538 (rw_bipush (pc' := 1540) (z := 32) rfl (by decide) ?_)
  refine wl_of hX hb cL_1540 (rw_lshl (pc' := 1541) rfl ?_)
  obtain ⟨v5958, e5959⟩ : ∃ x : Int, x = wl_shl (H 0 ((i + 1).toNat)) 32 := ⟨_, rfl⟩
  rw [← e5959]
  have b5960 : -9223372036854775808 ≤ v5958 ∧ v5958 ≤ 9223372036854775807 := by
    rw [e5959]
    exact wL_shl _ _
  refine wl_of hX hb cL_1541 (rw_aload_n (pc' := 1542) (v := .ref 0) rfl rfl rfl ?_)
  refine wl_of hX hb cL_1542 (rw_iload (pc' := 1544) (z := i) rfl rfl ?_)
  refine wl_of hX hb cL_1544 (rw_iconst (pc' := 1545) rfl ?_)
  refine wl_of hX hb cL_1545 (rw_iadd (pc' := 1546) rfl ?_)
  refine wl_of hX hb cL_1546 (xa_I (so := 0) (pc' := 1547) (a := 0) hW g0 (wsh_s _) (by omega) (wty_s _ _) (by omega) (by omega) rfl (fun b5961 b5962 => ?_))
  refine wl_of hX hb cL_1547 (rw_i2l (pc' := 1548) rfl ⟨by omega, by omega⟩ ?_)
  refine wl_of hX hb cL_1548 (rw_ldc2 (pc' := 1551) (z := 4294967295) rfl rfl rfl ?_)
  refine wl_of hX hb cL_1551 (rw_land (pc' := 1552) rfl ?_)
  obtain ⟨v5963, e5964⟩ : ∃ x : Int, x = wl_and (H 0 ((i + 2).toNat)) 4294967295 := ⟨_, rfl⟩
  rw [← e5964]
  have b5965 : -9223372036854775808 ≤ v5963 ∧ v5963 ≤ 9223372036854775807 := by
    rw [e5964]
    exact wL_and _ _
  refine wl_of hX hb cL_1552 (rw_lor (pc' := 1553) rfl ?_)
  obtain ⟨v5966, e5967⟩ : ∃ x : Int, x = wl_or v5958 v5963 := ⟨_, rfl⟩
  rw [← e5967]
  have b5968 : -9223372036854775808 ≤ v5966 ∧ v5966 ≤ 9223372036854775807 := by
    rw [e5967]
    exact wL_or _ _
  obtain ⟨B, tc, tm, cu, dr, C8, e8, d8, n8, g8, ce8, e0, gtc, htc, em, gtm, htm, ecu, gcu, edr, gdr, hcu, hdr, hdec, hded, hsp, hC1, hC2, hcu8, hrb8, hcg8, hmn8, hE, hZ, hn8, hXA, hV8, hSG, ece8, gce8, hcen8, hhdr8, hknn8, -⟩ := hXI
  have hN3 := RB_n3 hrb8
  have hE13 : ∀ h : Nat, h < 24 → 0 ≤ e8 13 h ∧ e8 13 h ≤ 100 := fun k hk => by
    obtain ⟨s, h1, h2, h3⟩ := hcu8.1.2.2.1
    exact ⟨(h3 k hk).1, (h3 k hk).2.1⟩
  have hXW := hXA.1
  have hXN := hXA.2
  have hE0 : e8 0 3 = d8 0 3 ∧ e8 0 0 = d8 0 0 := by
    have h := hE 0 (by decide)
    exact ⟨congrFun h 3, congrFun h 0⟩
  have u5969 := CU_k hcu8
  have h5970 : CY T H cu (d8 0 3) g8 (H cu 17) := ⟨hcg8, rfl⟩
  have h5971 : RY T H m (d8 0 3) g8 (H m 32) := ⟨hmn8, rfl⟩
  obtain ⟨t9, ht9⟩ : ∃ t : Int, t = H x 9 := ⟨_, rfl⟩
  refine wl_of hX hb cL_1553 (xc_V (pc' := 1556) (r := x) (as := [vL v5966]) (st := []) (lm_11_215) rfl rfl (Nat.le_of_ble_eq_true rfl) hW gx sh_1 (by decide) rfl (by decide) (u_161 (e := e8) (d := d8) (n := n8) (nY := ((d8 0 3))) (gY := g8) (cY := ((H cu 17))) hW gx ⟨b5968.1, b5968.2⟩ ecu gcu (by omega) (by omega) (by omega) hcu8 h5970 hcu) (fun R5972 T5973 H5974 p5975 => ?_))
  obtain ⟨e5976, w5978, f5979, z5980, e5977, b5981, p5982⟩ := p5975
  subst e5976
  subst e5977
  rcases p5982 with ⟨a5983, a5984, a5985, a5986, a5987⟩ | ⟨a5988, a5989, a5990⟩
  · show WL _ _ _ _ 1556 [(4, vI i), (3, .ref o), (2, .ref m), (1, .ref x), (0, .ref 0)] [vI z5980] _ H5974
    refine wl_of hX hb cL_1556 (rw_pop (pc' := 1557) rfl rfl ?_)
    refine wl_of hX hb cL_1557 (rw_aload_n (pc' := 1558) (v := .ref m) rfl rfl rfl ?_)
    refine wl_of hX hb cL_1558 (rw_aload_n (pc' := 1559) (v := .ref 0) rfl rfl rfl ?_)
    refine wl_of hX hb cL_1559 (rw_iload (pc' := 1561) (z := i) rfl rfl ?_)
    refine wl_of hX hb cL_1561 (rw_iconst (pc' := 1562) rfl ?_)
    refine wl_of hX hb cL_1562 (rw_iadd (pc' := 1563) rfl ?_)
    have k5993 : H5974 0 ((i + 1).toNat) = H 0 ((i + 1).toNat) := (f5979 0 ((i + 1).toNat) _ g0 (wmem_s rfl))
    refine wl_of hX hb cL_1563 (xa_I (so := 0) (pc' := 1564) (a := 0) w5978 g0 (wsh_s _) (by omega) (wty_s _ _) (by omega) (by omega) rfl (fun b5991 b5992 => ?_))
    refine wl_of hX hb cL_1564 (rw_i2l (pc' := 1565) rfl ⟨by omega, by omega⟩ ?_)
    refine wl_of hX hb cL_1565 (rw_bipush (pc' := 1567) (z := 32) rfl (by decide) ?_)
    refine wl_of hX hb cL_1567 (rw_lshl (pc' := 1568) rfl ?_)
    obtain ⟨v5994, e5995⟩ : ∃ x : Int, x = wl_shl (H5974 0 ((i + 1).toNat)) 32 := ⟨_, rfl⟩
    rw [← e5995]
    have b5996 : -9223372036854775808 ≤ v5994 ∧ v5994 ≤ 9223372036854775807 := by
      rw [e5995]
      exact wL_shl _ _
    refine wl_of hX hb cL_1568 (rw_aload_n (pc' := 1569) (v := .ref 0) rfl rfl rfl ?_)
    refine wl_of hX hb cL_1569 (rw_iload (pc' := 1571) (z := i) rfl rfl ?_)
    refine wl_of hX hb cL_1571 (rw_iconst (pc' := 1572) rfl ?_)
    refine wl_of hX hb cL_1572 (rw_iadd (pc' := 1573) rfl ?_)
    have k5999 : H5974 0 ((i + 2).toNat) = H 0 ((i + 2).toNat) := (f5979 0 ((i + 2).toNat) _ g0 (wmem_s rfl))
    refine wl_of hX hb cL_1573 (xa_I (so := 0) (pc' := 1574) (a := 0) w5978 g0 (wsh_s _) (by omega) (wty_s _ _) (by omega) (by omega) rfl (fun b5997 b5998 => ?_))
    refine wl_of hX hb cL_1574 (rw_i2l (pc' := 1575) rfl ⟨by omega, by omega⟩ ?_)
    refine wl_of hX hb cL_1575 (rw_ldc2 (pc' := 1578) (z := 4294967295) rfl rfl rfl ?_)
    refine wl_of hX hb cL_1578 (rw_land (pc' := 1579) rfl ?_)
    obtain ⟨v6000, e6001⟩ : ∃ x : Int, x = wl_and (H5974 0 ((i + 2).toNat)) 4294967295 := ⟨_, rfl⟩
    rw [← e6001]
    have b6002 : -9223372036854775808 ≤ v6000 ∧ v6000 ≤ 9223372036854775807 := by
      rw [e6001]
      exact wL_and _ _
    refine wl_of hX hb cL_1579 (rw_lor (pc' := 1580) rfl ?_)
    obtain ⟨v6003, e6004⟩ : ∃ x : Int, x = wl_or v5994 v6000 := ⟨_, rfl⟩
    rw [← e6004]
    have b6005 : -9223372036854775808 ≤ v6003 ∧ v6003 ≤ 9223372036854775807 := by
      rw [e6004]
      exact wL_or _ _
    have k6006 : wKI H5974 m = wKI H m := (wKI_fr hW gm f5979 rfl)
    have k6007 : H5974 x 9 = H x 9 := (f5979 x 9 _ gx rfl)
    have k6008 : H5974 m 6 = H m 6 := (f5979 m 6 _ gm rfl)
    have k6009 : H5974 x 11 = H x 11 := (f5979 x 11 _ gx rfl)
    have k6010 : H5974 m 13 = H m 13 := (f5979 m 13 _ gm rfl)
    have k6011 : H5974 x 8 = H x 8 := (f5979 x 8 _ gx rfl)
    have k6012 : H5974 m 3 = H m 3 := (f5979 m 3 _ gm rfl)
    have rs9 : v6003 = v5966 := by
      rw [e6004, e5995, e6001, e5967, e5959, e5964, show H5974 0 ((i + 1).toNat) = H 0 ((i + 1).toNat) by omega, show H5974 0 ((i + 2).toNat) = H 0 ((i + 2).toNat) by omega]
    rw [rs9]
    have h6013 : RB T H5974 m e8 d8 := (RB_fr hW gm f5979 rfl hrb8)
    have h6014 : RY T H5974 m (d8 0 3) g8 (H m 32) := (RY_fr hW gm f5979 rfl h5971)
    refine wl_of hX hb cL_1580 (xc_V (pc' := 1583) (r := m) (as := [vL v5966]) (st := []) (lm_11_219) rfl rfl (Nat.le_of_ble_eq_true rfl) w5978 gm sh_42 (by decide) rfl (by decide) (u_292 (e := e8) (d := d8) (nY := ((d8 0 3))) (gY := g8) (cY := ((H m 32))) w5978 gm ⟨b5968.1, b5968.2⟩ (by omega) h6013 h6014) (fun R6015 T6016 H6017 p6018 => ?_))
    obtain ⟨e6019, w6021, f6022, z6023, e6020, b6024, p6025⟩ := p6018
    subst e6019
    subst e6020
    rcases p6025 with ⟨a6026, a6027, a6028, a6029⟩ | ⟨a6030, a6031, a6032⟩
    · show WL _ _ _ _ 1583 [(4, vI i), (3, .ref o), (2, .ref m), (1, .ref x), (0, .ref 0)] [vI z6023] _ H6017
      refine wl_of hX hb cL_1583 (rw_pop (pc' := 1584) rfl rfl ?_)
      refine wl_of hX hb cL_1584 (rw_goto (p1 := 1653) (by decide) ?_)
      have k6033 : wKI H6017 m = wKI H5974 m := (wKI_fr w5978 gm f6022 rfl)
      have k6034 : H6017 x 9 = H5974 x 9 := (f6022 x 9 _ gx rfl)
      have k6035 : H6017 m 6 = H5974 m 6 := (f6022 m 6 _ gm rfl)
      have k6036 : H6017 x 11 = H5974 x 11 := (f6022 x 11 _ gx rfl)
      have k6037 : H6017 m 13 = H5974 m 13 := (f6022 m 13 _ gm rfl)
      have k6038 : H6017 x 8 = H5974 x 8 := (f6022 x 8 _ gx rfl)
      have k6039 : H6017 m 3 = H5974 m 3 := (f6022 m 3 _ gm rfl)
      have k6040 : H6017 x 0 = H x 0 := ((f6022 x 0 _ gx rfl).trans (f5979 x 0 _ gx rfl))
      have q6041 : H6017 x 0 = (tc : Int) := k6040.trans e0
      have k6042 : H6017 m 5 = H m 5 := ((f6022 m 5 _ gm rfl).trans (f5979 m 5 _ gm rfl))
      have q6043 : H6017 m 5 = (tm : Int) := k6042.trans em
      have k6044 : H6017 x 6 = H x 6 := ((f6022 x 6 _ gx rfl).trans (f5979 x 6 _ gx rfl))
      have q6045 : H6017 x 6 = (cu : Int) := k6044.trans ecu
      have k6046 : H6017 x 7 = H x 7 := ((f6022 x 7 _ gx rfl).trans (f5979 x 7 _ gx rfl))
      have q6047 : H6017 x 7 = (dr : Int) := k6046.trans edr
      have h6048 : CEN T H6017 ce8 e8 d8 := (CEN_fr w5978 gce8 f6022 rfl (CEN_fr hW gce8 f5979 rfl hcen8))
      have h6049 : TP T H6017 tc B := (TP_fr w5978 gtc f6022 rfl (TP_fr hW gtc f5979 rfl htc))
      have h6050 : TM T H6017 tm B := (TM_fr w5978 gtm f6022 rfl (TM_fr hW gtm f5979 rfl htm))
      have h6051 : DD T H6017 cu  := (DD_fr w5978 gcu f6022 rfl (DD_fr hW gcu f5979 rfl hcu))
      have h6052 : DD T H6017 dr  := (DD_fr w5978 gdr f6022 rfl (DD_fr hW gdr f5979 rfl hdr))
      have h6053 : DE T H6017 cu  := (DE_fr w5978 gcu f6022 rfl (DE_fr hW gcu f5979 rfl hdec))
      have h6054 : DE T H6017 dr  := (DE_fr w5978 gdr f6022 rfl (DE_fr hW gdr f5979 rfl hded))
      have h6055 : SP T H6017 x C8 := (SP_fr w5978 gx f6022 rfl (SP_fr hW gx f5979 rfl hsp))
      have h6056 : CU T H6017 cu e8 d8 n8 := (CU_fr w5978 gcu f6022 rfl (CU_fr hW gcu f5979 rfl hcu8))
      have h6057 : CY T H6017 cu ((d8 0 3)) (xdg d8 v5966) (wdv (d8 0 3).toNat v5966) := (CY_fr w5978 gcu f6022 rfl a5987)
      have k6058 : H6017 x 3 = H x 3 := ((f6022 x 3 _ gx rfl).trans (f5979 x 3 _ gx rfl))
      have q6059 : H6017 x 3 = (ce8 : Int) := k6058.trans ece8
      have h6060 : HDR T H6017 ce8  := (HDR_fr w5978 gce8 f6022 rfl (HDR_fr hW gce8 f5979 rfl hhdr8))
      have h6061 : KNN T H6017 m e8 d8 := (KNN_fr w5978 gm f6022 rfl (KNN_fr hW gm f5979 rfl hknn8))
      have h6062 : RB T H6017 m e8 d8 := (RB_fr w5978 gm f6022 rfl h6013)
      exact WL.loc hX (by simp) (next T H6017 ⟨⟨w6021, g0, gx, gm, go, by omega, by omega⟩, ⟨_, tc, tm, cu, dr, _, _, _, _, _, ce8, q6041, gtc, h6049, q6043, gtm, h6050, q6045, gcu, q6047, gdr, h6051, h6052, h6053, h6054, h6055, hC1, hC2, h6056, h6062, (h6057).1, (a6029).1, hE, hZ, (by omega), (by assumption), (by omega), (by first | assumption | exact SG_0), q6059, gce8, h6048, h6060, h6061, gm⟩, by omega, by omega⟩ (by omega) (by omega))
    · show WL _ _ _ _ 1583 [(4, vI i), (3, .ref o), (2, .ref m), (1, .ref x), (0, .ref 0)] [vI z6023] _ H6017
      refine wl_of hX hb cL_1583 (rw_pop (pc' := 1584) rfl rfl ?_)
      refine wl_of hX hb cL_1584 (rw_goto (p1 := 1653) (by decide) ?_)
      have k6063 : wKI H6017 m = wKI H5974 m := (wKI_fr w5978 gm f6022 rfl)
      have k6064 : H6017 x 9 = H5974 x 9 := (f6022 x 9 _ gx rfl)
      have k6065 : H6017 m 6 = H5974 m 6 := (f6022 m 6 _ gm rfl)
      have k6066 : H6017 x 11 = H5974 x 11 := (f6022 x 11 _ gx rfl)
      have k6067 : H6017 m 13 = H5974 m 13 := (f6022 m 13 _ gm rfl)
      have k6068 : H6017 x 8 = H5974 x 8 := (f6022 x 8 _ gx rfl)
      have k6069 : H6017 m 3 = H5974 m 3 := (f6022 m 3 _ gm rfl)
      have k6070 : H6017 x 0 = H x 0 := ((f6022 x 0 _ gx rfl).trans (f5979 x 0 _ gx rfl))
      have q6071 : H6017 x 0 = (tc : Int) := k6070.trans e0
      have k6072 : H6017 m 5 = H m 5 := ((f6022 m 5 _ gm rfl).trans (f5979 m 5 _ gm rfl))
      have q6073 : H6017 m 5 = (tm : Int) := k6072.trans em
      have k6074 : H6017 x 6 = H x 6 := ((f6022 x 6 _ gx rfl).trans (f5979 x 6 _ gx rfl))
      have q6075 : H6017 x 6 = (cu : Int) := k6074.trans ecu
      have k6076 : H6017 x 7 = H x 7 := ((f6022 x 7 _ gx rfl).trans (f5979 x 7 _ gx rfl))
      have q6077 : H6017 x 7 = (dr : Int) := k6076.trans edr
      have h6078 : CEN T H6017 ce8 e8 d8 := (CEN_fr w5978 gce8 f6022 rfl (CEN_fr hW gce8 f5979 rfl hcen8))
      have h6079 : TP T H6017 tc B := (TP_fr w5978 gtc f6022 rfl (TP_fr hW gtc f5979 rfl htc))
      have h6080 : TM T H6017 tm B := (TM_fr w5978 gtm f6022 rfl (TM_fr hW gtm f5979 rfl htm))
      have h6081 : DD T H6017 cu  := (DD_fr w5978 gcu f6022 rfl (DD_fr hW gcu f5979 rfl hcu))
      have h6082 : DD T H6017 dr  := (DD_fr w5978 gdr f6022 rfl (DD_fr hW gdr f5979 rfl hdr))
      have h6083 : DE T H6017 cu  := (DE_fr w5978 gcu f6022 rfl (DE_fr hW gcu f5979 rfl hdec))
      have h6084 : DE T H6017 dr  := (DE_fr w5978 gdr f6022 rfl (DE_fr hW gdr f5979 rfl hded))
      have h6085 : SP T H6017 x C8 := (SP_fr w5978 gx f6022 rfl (SP_fr hW gx f5979 rfl hsp))
      have h6086 : CU T H6017 cu e8 d8 n8 := (CU_fr w5978 gcu f6022 rfl (CU_fr hW gcu f5979 rfl hcu8))
      have h6087 : CY T H6017 cu ((d8 0 3)) (xdg d8 v5966) (wdv (d8 0 3).toNat v5966) := (CY_fr w5978 gcu f6022 rfl a5987)
      have k6088 : H6017 x 3 = H x 3 := ((f6022 x 3 _ gx rfl).trans (f5979 x 3 _ gx rfl))
      have q6089 : H6017 x 3 = (ce8 : Int) := k6088.trans ece8
      have h6090 : HDR T H6017 ce8  := (HDR_fr w5978 gce8 f6022 rfl (HDR_fr hW gce8 f5979 rfl hhdr8))
      have h6091 : KNN T H6017 m e8 d8 := (KNN_fr w5978 gm f6022 rfl (KNN_fr hW gm f5979 rfl hknn8))
      exfalso
      omega
  · show WL _ _ _ _ 1556 [(4, vI i), (3, .ref o), (2, .ref m), (1, .ref x), (0, .ref 0)] [vI z5980] _ H5974
    refine wl_of hX hb cL_1556 (rw_pop (pc' := 1557) rfl rfl ?_)
    refine wl_of hX hb cL_1557 (rw_aload_n (pc' := 1558) (v := .ref m) rfl rfl rfl ?_)
    refine wl_of hX hb cL_1558 (rw_aload_n (pc' := 1559) (v := .ref 0) rfl rfl rfl ?_)
    refine wl_of hX hb cL_1559 (rw_iload (pc' := 1561) (z := i) rfl rfl ?_)
    refine wl_of hX hb cL_1561 (rw_iconst (pc' := 1562) rfl ?_)
    refine wl_of hX hb cL_1562 (rw_iadd (pc' := 1563) rfl ?_)
    have k6094 : H5974 0 ((i + 1).toNat) = H 0 ((i + 1).toNat) := (f5979 0 ((i + 1).toNat) _ g0 (wmem_s rfl))
    refine wl_of hX hb cL_1563 (xa_I (so := 0) (pc' := 1564) (a := 0) w5978 g0 (wsh_s _) (by omega) (wty_s _ _) (by omega) (by omega) rfl (fun b6092 b6093 => ?_))
    refine wl_of hX hb cL_1564 (rw_i2l (pc' := 1565) rfl ⟨by omega, by omega⟩ ?_)
    refine wl_of hX hb cL_1565 (rw_bipush (pc' := 1567) (z := 32) rfl (by decide) ?_)
    refine wl_of hX hb cL_1567 (rw_lshl (pc' := 1568) rfl ?_)
    obtain ⟨v6095, e6096⟩ : ∃ x : Int, x = wl_shl (H5974 0 ((i + 1).toNat)) 32 := ⟨_, rfl⟩
    rw [← e6096]
    have b6097 : -9223372036854775808 ≤ v6095 ∧ v6095 ≤ 9223372036854775807 := by
      rw [e6096]
      exact wL_shl _ _
    refine wl_of hX hb cL_1568 (rw_aload_n (pc' := 1569) (v := .ref 0) rfl rfl rfl ?_)
    refine wl_of hX hb cL_1569 (rw_iload (pc' := 1571) (z := i) rfl rfl ?_)
    refine wl_of hX hb cL_1571 (rw_iconst (pc' := 1572) rfl ?_)
    refine wl_of hX hb cL_1572 (rw_iadd (pc' := 1573) rfl ?_)
    have k6100 : H5974 0 ((i + 2).toNat) = H 0 ((i + 2).toNat) := (f5979 0 ((i + 2).toNat) _ g0 (wmem_s rfl))
    refine wl_of hX hb cL_1573 (xa_I (so := 0) (pc' := 1574) (a := 0) w5978 g0 (wsh_s _) (by omega) (wty_s _ _) (by omega) (by omega) rfl (fun b6098 b6099 => ?_))
    refine wl_of hX hb cL_1574 (rw_i2l (pc' := 1575) rfl ⟨by omega, by omega⟩ ?_)
    refine wl_of hX hb cL_1575 (rw_ldc2 (pc' := 1578) (z := 4294967295) rfl rfl rfl ?_)
    refine wl_of hX hb cL_1578 (rw_land (pc' := 1579) rfl ?_)
    obtain ⟨v6101, e6102⟩ : ∃ x : Int, x = wl_and (H5974 0 ((i + 2).toNat)) 4294967295 := ⟨_, rfl⟩
    rw [← e6102]
    have b6103 : -9223372036854775808 ≤ v6101 ∧ v6101 ≤ 9223372036854775807 := by
      rw [e6102]
      exact wL_and _ _
    refine wl_of hX hb cL_1579 (rw_lor (pc' := 1580) rfl ?_)
    obtain ⟨v6104, e6105⟩ : ∃ x : Int, x = wl_or v6095 v6101 := ⟨_, rfl⟩
    rw [← e6105]
    have b6106 : -9223372036854775808 ≤ v6104 ∧ v6104 ≤ 9223372036854775807 := by
      rw [e6105]
      exact wL_or _ _
    have k6107 : wKI H5974 m = wKI H m := (wKI_fr hW gm f5979 rfl)
    have k6108 : H5974 x 9 = H x 9 := (f5979 x 9 _ gx rfl)
    have k6109 : H5974 m 6 = H m 6 := (f5979 m 6 _ gm rfl)
    have k6110 : H5974 x 11 = H x 11 := (f5979 x 11 _ gx rfl)
    have k6111 : H5974 m 13 = H m 13 := (f5979 m 13 _ gm rfl)
    have k6112 : H5974 x 8 = H x 8 := (f5979 x 8 _ gx rfl)
    have k6113 : H5974 m 3 = H m 3 := (f5979 m 3 _ gm rfl)
    have rs9 : v6104 = v5966 := by
      rw [e6105, e6096, e6102, e5967, e5959, e5964, show H5974 0 ((i + 1).toNat) = H 0 ((i + 1).toNat) by omega, show H5974 0 ((i + 2).toNat) = H 0 ((i + 2).toNat) by omega]
    rw [rs9]
    have h6114 : RB T H5974 m e8 d8 := (RB_fr hW gm f5979 rfl hrb8)
    have h6115 : RY T H5974 m (d8 0 3) g8 (H m 32) := (RY_fr hW gm f5979 rfl h5971)
    refine wl_of hX hb cL_1580 (xc_V (pc' := 1583) (r := m) (as := [vL v5966]) (st := []) (lm_11_219) rfl rfl (Nat.le_of_ble_eq_true rfl) w5978 gm sh_42 (by decide) rfl (by decide) (u_292 (e := e8) (d := d8) (nY := ((d8 0 3))) (gY := g8) (cY := ((H m 32))) w5978 gm ⟨b5968.1, b5968.2⟩ (by omega) h6114 h6115) (fun R6116 T6117 H6118 p6119 => ?_))
    obtain ⟨e6120, w6122, f6123, z6124, e6121, b6125, p6126⟩ := p6119
    subst e6120
    subst e6121
    rcases p6126 with ⟨a6127, a6128, a6129, a6130⟩ | ⟨a6131, a6132, a6133⟩
    · show WL _ _ _ _ 1583 [(4, vI i), (3, .ref o), (2, .ref m), (1, .ref x), (0, .ref 0)] [vI z6124] _ H6118
      refine wl_of hX hb cL_1583 (rw_pop (pc' := 1584) rfl rfl ?_)
      refine wl_of hX hb cL_1584 (rw_goto (p1 := 1653) (by decide) ?_)
      have k6134 : wKI H6118 m = wKI H5974 m := (wKI_fr w5978 gm f6123 rfl)
      have k6135 : H6118 x 9 = H5974 x 9 := (f6123 x 9 _ gx rfl)
      have k6136 : H6118 m 6 = H5974 m 6 := (f6123 m 6 _ gm rfl)
      have k6137 : H6118 x 11 = H5974 x 11 := (f6123 x 11 _ gx rfl)
      have k6138 : H6118 m 13 = H5974 m 13 := (f6123 m 13 _ gm rfl)
      have k6139 : H6118 x 8 = H5974 x 8 := (f6123 x 8 _ gx rfl)
      have k6140 : H6118 m 3 = H5974 m 3 := (f6123 m 3 _ gm rfl)
      have k6141 : H6118 x 0 = H x 0 := ((f6123 x 0 _ gx rfl).trans (f5979 x 0 _ gx rfl))
      have q6142 : H6118 x 0 = (tc : Int) := k6141.trans e0
      have k6143 : H6118 m 5 = H m 5 := ((f6123 m 5 _ gm rfl).trans (f5979 m 5 _ gm rfl))
      have q6144 : H6118 m 5 = (tm : Int) := k6143.trans em
      have k6145 : H6118 x 6 = H x 6 := ((f6123 x 6 _ gx rfl).trans (f5979 x 6 _ gx rfl))
      have q6146 : H6118 x 6 = (cu : Int) := k6145.trans ecu
      have k6147 : H6118 x 7 = H x 7 := ((f6123 x 7 _ gx rfl).trans (f5979 x 7 _ gx rfl))
      have q6148 : H6118 x 7 = (dr : Int) := k6147.trans edr
      have h6149 : CEN T H6118 ce8 e8 d8 := (CEN_fr w5978 gce8 f6123 rfl (CEN_fr hW gce8 f5979 rfl hcen8))
      have h6150 : TP T H6118 tc B := (TP_fr w5978 gtc f6123 rfl (TP_fr hW gtc f5979 rfl htc))
      have h6151 : TM T H6118 tm B := (TM_fr w5978 gtm f6123 rfl (TM_fr hW gtm f5979 rfl htm))
      have h6152 : DD T H6118 cu  := (DD_fr w5978 gcu f6123 rfl (DD_fr hW gcu f5979 rfl hcu))
      have h6153 : DD T H6118 dr  := (DD_fr w5978 gdr f6123 rfl (DD_fr hW gdr f5979 rfl hdr))
      have h6154 : DE T H6118 cu  := (DE_fr w5978 gcu f6123 rfl (DE_fr hW gcu f5979 rfl hdec))
      have h6155 : DE T H6118 dr  := (DE_fr w5978 gdr f6123 rfl (DE_fr hW gdr f5979 rfl hded))
      have h6156 : SP T H6118 x C8 := (SP_fr w5978 gx f6123 rfl (SP_fr hW gx f5979 rfl hsp))
      have h6157 : CU T H6118 cu e8 d8 n8 := (CU_fr w5978 gcu f6123 rfl (CU_fr hW gcu f5979 rfl hcu8))
      have h6158 : CY T H6118 cu ((d8 0 3)) g8 ((H cu 17)) := (CY_fr w5978 gcu f6123 rfl a5990)
      have k6159 : H6118 x 3 = H x 3 := ((f6123 x 3 _ gx rfl).trans (f5979 x 3 _ gx rfl))
      have q6160 : H6118 x 3 = (ce8 : Int) := k6159.trans ece8
      have h6161 : HDR T H6118 ce8  := (HDR_fr w5978 gce8 f6123 rfl (HDR_fr hW gce8 f5979 rfl hhdr8))
      have h6162 : KNN T H6118 m e8 d8 := (KNN_fr w5978 gm f6123 rfl (KNN_fr hW gm f5979 rfl hknn8))
      exfalso
      omega
    · show WL _ _ _ _ 1583 [(4, vI i), (3, .ref o), (2, .ref m), (1, .ref x), (0, .ref 0)] [vI z6124] _ H6118
      refine wl_of hX hb cL_1583 (rw_pop (pc' := 1584) rfl rfl ?_)
      refine wl_of hX hb cL_1584 (rw_goto (p1 := 1653) (by decide) ?_)
      have k6163 : wKI H6118 m = wKI H5974 m := (wKI_fr w5978 gm f6123 rfl)
      have k6164 : H6118 x 9 = H5974 x 9 := (f6123 x 9 _ gx rfl)
      have k6165 : H6118 m 6 = H5974 m 6 := (f6123 m 6 _ gm rfl)
      have k6166 : H6118 x 11 = H5974 x 11 := (f6123 x 11 _ gx rfl)
      have k6167 : H6118 m 13 = H5974 m 13 := (f6123 m 13 _ gm rfl)
      have k6168 : H6118 x 8 = H5974 x 8 := (f6123 x 8 _ gx rfl)
      have k6169 : H6118 m 3 = H5974 m 3 := (f6123 m 3 _ gm rfl)
      have k6170 : H6118 x 0 = H x 0 := ((f6123 x 0 _ gx rfl).trans (f5979 x 0 _ gx rfl))
      have q6171 : H6118 x 0 = (tc : Int) := k6170.trans e0
      have k6172 : H6118 m 5 = H m 5 := ((f6123 m 5 _ gm rfl).trans (f5979 m 5 _ gm rfl))
      have q6173 : H6118 m 5 = (tm : Int) := k6172.trans em
      have k6174 : H6118 x 6 = H x 6 := ((f6123 x 6 _ gx rfl).trans (f5979 x 6 _ gx rfl))
      have q6175 : H6118 x 6 = (cu : Int) := k6174.trans ecu
      have k6176 : H6118 x 7 = H x 7 := ((f6123 x 7 _ gx rfl).trans (f5979 x 7 _ gx rfl))
      have q6177 : H6118 x 7 = (dr : Int) := k6176.trans edr
      have h6178 : CEN T H6118 ce8 e8 d8 := (CEN_fr w5978 gce8 f6123 rfl (CEN_fr hW gce8 f5979 rfl hcen8))
      have h6179 : TP T H6118 tc B := (TP_fr w5978 gtc f6123 rfl (TP_fr hW gtc f5979 rfl htc))
      have h6180 : TM T H6118 tm B := (TM_fr w5978 gtm f6123 rfl (TM_fr hW gtm f5979 rfl htm))
      have h6181 : DD T H6118 cu  := (DD_fr w5978 gcu f6123 rfl (DD_fr hW gcu f5979 rfl hcu))
      have h6182 : DD T H6118 dr  := (DD_fr w5978 gdr f6123 rfl (DD_fr hW gdr f5979 rfl hdr))
      have h6183 : DE T H6118 cu  := (DE_fr w5978 gcu f6123 rfl (DE_fr hW gcu f5979 rfl hdec))
      have h6184 : DE T H6118 dr  := (DE_fr w5978 gdr f6123 rfl (DE_fr hW gdr f5979 rfl hded))
      have h6185 : SP T H6118 x C8 := (SP_fr w5978 gx f6123 rfl (SP_fr hW gx f5979 rfl hsp))
      have h6186 : CU T H6118 cu e8 d8 n8 := (CU_fr w5978 gcu f6123 rfl (CU_fr hW gcu f5979 rfl hcu8))
      have h6187 : CY T H6118 cu ((d8 0 3)) g8 ((H cu 17)) := (CY_fr w5978 gcu f6123 rfl a5990)
      have k6188 : H6118 x 3 = H x 3 := ((f6123 x 3 _ gx rfl).trans (f5979 x 3 _ gx rfl))
      have q6189 : H6118 x 3 = (ce8 : Int) := k6188.trans ece8
      have h6190 : HDR T H6118 ce8  := (HDR_fr w5978 gce8 f6123 rfl (HDR_fr hW gce8 f5979 rfl hhdr8))
      have h6191 : KNN T H6118 m e8 d8 := (KNN_fr w5978 gm f6123 rfl (KNN_fr hW gm f5979 rfl hknn8))
      have h6192 : RB T H6118 m e8 d8 := (RB_fr w5978 gm f6123 rfl h6114)
      exact WL.loc hX (by simp) (next T H6118 ⟨⟨w6122, g0, gx, gm, go, by omega, by omega⟩, ⟨_, tc, tm, cu, dr, _, _, _, _, _, ce8, q6171, gtc, h6179, q6173, gtm, h6180, q6175, gcu, q6177, gdr, h6181, h6182, h6183, h6184, h6185, hC1, hC2, h6186, h6192, (h6187).1, (a6133).1, hE, hZ, (by omega), (by assumption), (by omega), (by first | assumption | exact SG_0), q6189, gce8, h6178, h6190, h6191, gm⟩, by omega, by omega⟩ (by omega) (by omega))
set_option maxHeartbeats 4000000 in
theorem wl_c47 {kt : Nat → Option mc_E} {CB SB : Nat} {X : mc_S → Prop} {T : wq_T} {H : wq_H} {Len x m o : Nat} {i : Int} (hX : wlX kt CB SB X) (hb : T.2.1 ≤ CB ∧ T.2.2.1 ≤ SB) (hI : wlJ Len x m o T H) (hL : Len ≤ 3072) (hi : 0 ≤ i ∧ i + 6 ≤ Len) (hb2 : T.2.1 + 20 ≤ CB ∧ T.2.2.1 + 500 ≤ SB) (hled : ∀ {z : Int}, wI z → T.2.1 ≤ CB ∧ T.2.2.1 ≤ SB → wlJ Len x m o T H → (∀ (z' : Int), wI z' → ∀ (T' : wq_T) (H' : wq_H), wlJ Len x m o T' H' → T'.2.1 ≤ T.2.1 + 20 → T'.2.2.1 ≤ T.2.2.1 + 500 → WL kt CB SB X 1598 (wlL i x m o) [vI z'] T' H') → WL kt CB SB X 1595 (wlL i x m o) [.ref o, vI z, .ref x] T H) (next : ∀ T' H', wlJ Len x m o T' H' → T'.2.1 ≤ T.2.1 + 20 → T'.2.2.1 ≤ T.2.2.1 + 500 → WL kt CB SB X 1653 (wlL i x m o) [] T' H') : WL kt CB SB X 1587 (wlL i x m o) [] T H := by
  obtain ⟨⟨hW, g0, gx, gm, go, hK, hr⟩, hXI, hY1, hY2⟩ := hI
  refine wl_of hX hb cL_1587 (rw_aload_n (pc' := 1588) (v := .ref x) rfl rfl rfl ?_)
  refine wl_of hX hb cL_1588 (rw_aload_n (pc' := 1589) (v := .ref 0) rfl rfl rfl ?_)
  refine wl_of hX hb cL_1589 (rw_iload (pc' := 1591) (z := i) rfl rfl ?_)
  refine wl_of hX hb cL_1591 (rw_iconst (pc' := 1592) rfl ?_)
  refine wl_of hX hb cL_1592 (rw_iadd (pc' := 1593) rfl ?_)
  refine wl_of hX hb cL_1593 (xa_I (so := 0) (pc' := 1594) (a := 0) hW g0 (wsh_s _) (by omega) (wty_s _ _) (by omega) (by omega) rfl (fun b6193 b6194 => ?_))
  refine wl_of hX hb cL_1594 (rw_aload_n (pc' := 1595) (v := .ref o) rfl rfl rfl ?_)
  refine hled ⟨by omega, by omega⟩ hb ⟨⟨hW, g0, gx, gm, go, by omega, by omega⟩, hXI, by omega, by omega⟩ (fun z9 b9 T9 H9 hI9 n9 s9 => ?_)
  obtain ⟨⟨w9, g0, gx, gm, go, hK, hr⟩, hXI, hY1, hY2⟩ := hI9
  have hb : T9.2.1 ≤ CB ∧ T9.2.2.1 ≤ SB := ⟨by omega, by omega⟩
  refine wl_of hX hb cL_1598 (rw_istore (pc' := 1600) (z := z9) (L' := [(5, vI z9), (4, vI i), (3, .ref o), (2, .ref m), (1, .ref x), (0, .ref 0)]) rfl rfl rfl ?_)
  refine wl_of hX hb cL_1600 (rw_aload_n (pc' := 1601) (v := .ref m) rfl rfl rfl ?_)
  refine wl_of hX hb cL_1601 (rw_aload_n (pc' := 1602) (v := .ref 0) rfl rfl rfl ?_)
  refine wl_of hX hb cL_1602 (rw_iload (pc' := 1604) (z := i) rfl rfl ?_)
  refine wl_of hX hb cL_1604 (rw_iconst (pc' := 1605) rfl ?_)
  refine wl_of hX hb cL_1605 (rw_iadd (pc' := 1606) rfl ?_)
  refine wl_of hX hb cL_1606 (xa_I (so := 0) (pc' := 1607) (a := 0) w9 g0 (wsh_s _) (by omega) (wty_s _ _) (by omega) (by omega) rfl (fun b6195 b6196 => ?_))
  refine wl_of hX hb cL_1607 (xc_V (pc' := 1610) (r := m) (as := [vI (H9 0 ((i + 1).toNat))]) (st := []) (lm_11_225) rfl rfl (Nat.le_of_ble_eq_true rfl) w9 gm sh_42 (by decide) rfl (by decide) (s_293 w9 gm ⟨by omega, by omega⟩ (by omega)) (fun R6197 T6198 H6199 p6200 => ?_))
  obtain ⟨e6201, w6203, f6204, z6206, e6202, b6207, p6205⟩ := p6200
  subst e6201
  subst e6202
  show WL _ _ _ _ 1610 [(5, vI z9), (4, vI i), (3, .ref o), (2, .ref m), (1, .ref x), (0, .ref 0)] [vI z6206] _ H6199
  refine wl_of hX hb cL_1610 (rw_istore (pc' := 1612) (z := z6206) (L' := [(6, vI z6206), (5, vI z9), (4, vI i), (3, .ref o), (2, .ref m), (1, .ref x), (0, .ref 0)]) rfl rfl rfl ?_)
  refine wl_of hX hb cL_1612 (rw_goto (p1 := 1653) (by decide) ?_)
  have k6208 : H6199 x 9 = H9 x 9 := (f6204 x 9 _ gx rfl)
  have k6209 : H6199 m 6 = H9 m 6 := (f6204 m 6 _ gm rfl)
  have k6210 : H6199 x 11 = H9 x 11 := (f6204 x 11 _ gx rfl)
  have k6211 : H6199 m 13 = H9 m 13 := (f6204 m 13 _ gm rfl)
  have k6212 : H6199 x 8 = H9 x 8 := (f6204 x 8 _ gx rfl)
  have k6213 : H6199 m 3 = H9 m 3 := (f6204 m 3 _ gm rfl)
  have h6214 : XI T9 H6199 x m := (XI_fr w9 gx f6204 rfl hXI)
  exact WL.loc hX (by simp) (next T9 H6199 ⟨⟨w6203, g0, gx, gm, go, by omega, by omega⟩, h6214, by omega, by omega⟩ (by omega) (by omega))
set_option maxHeartbeats 4000000 in
theorem wl_c48 {kt : Nat → Option mc_E} {CB SB : Nat} {X : mc_S → Prop} {T : wq_T} {H : wq_H} {Len x m o : Nat} {i : Int} (hX : wlX kt CB SB X) (hb : T.2.1 ≤ CB ∧ T.2.2.1 ≤ SB) (hI : wlJ Len x m o T H) (hL : Len ≤ 3072) (hi : 0 ≤ i ∧ i + 6 ≤ Len) (hb2 : T.2.1 + 20 ≤ CB ∧ T.2.2.1 + 500 ≤ SB)  (next : ∀ T' H', wlJ Len x m o T' H' → T'.2.1 ≤ T.2.1 + 20 → T'.2.2.1 ≤ T.2.2.1 + 500 → WL kt CB SB X 1653 (wlL i x m o) [] T' H') : WL kt CB SB X 1615 (wlL i x m o) [] T H := by
  obtain ⟨⟨hW, g0, gx, gm, go, hK, hr⟩, hXI, hY1, hY2⟩ := hI
  refine wl_of hX hb cL_1615 (rw_aload_n (pc' := 1616) (v := .ref x) rfl rfl rfl ?_)
  refine wl_of hX hb cL_1616 (rw_aload_n (pc' := 1617) (v := .ref 0) rfl rfl rfl ?_)
  refine wl_of hX hb cL_1617 (rw_iload (pc' := 1619) (z := i) rfl rfl ?_)
  refine wl_of hX hb cL_1619 (rw_iconst (pc' := 1620) rfl ?_)
  refine wl_of hX hb cL_1620 (rw_iadd (pc' := 1621) rfl ?_)
  refine wl_of hX hb cL_1621 (xa_I (so := 0) (pc' := 1622) (a := 0) hW g0 (wsh_s _) (by omega) (wty_s _ _) (by omega) (by omega) rfl (fun b6215 b6216 => ?_))
  refine wl_of hX hb cL_1622 (xc_V (pc' := 1625) (r := x) (as := [vI (H 0 ((i + 1).toNat))]) (st := []) (lm_11_226) rfl rfl (Nat.le_of_ble_eq_true rfl) hW gx sh_1 (by decide) rfl (by decide) (s_164 hW gx ⟨by omega, by omega⟩) (fun R6217 T6218 H6219 p6220 => ?_))
  obtain ⟨e6221, e6223, z6224, e6222, b6225⟩ := p6220
  subst e6221
  subst e6222
  subst e6223
  show WL _ _ _ _ 1625 [(4, vI i), (3, .ref o), (2, .ref m), (1, .ref x), (0, .ref 0)] [vI z6224] _ H
  refine wl_of hX hb cL_1625 (rw_pop (pc' := 1626) rfl rfl ?_)
  refine wl_of hX hb cL_1626 (rw_aload_n (pc' := 1627) (v := .ref m) rfl rfl rfl ?_)
  refine wl_of hX hb cL_1627 (rw_aload_n (pc' := 1628) (v := .ref 0) rfl rfl rfl ?_)
  refine wl_of hX hb cL_1628 (rw_iload (pc' := 1630) (z := i) rfl rfl ?_)
  refine wl_of hX hb cL_1630 (rw_iconst (pc' := 1631) rfl ?_)
  refine wl_of hX hb cL_1631 (rw_iadd (pc' := 1632) rfl ?_)
  refine wl_of hX hb cL_1632 (xa_I (so := 0) (pc' := 1633) (a := 0) hW g0 (wsh_s _) (by omega) (wty_s _ _) (by omega) (by omega) rfl (fun b6226 b6227 => ?_))
  refine wl_of hX hb cL_1633 (xc_V (pc' := 1636) (r := m) (as := [vI (H 0 ((i + 1).toNat))]) (st := []) (lm_11_229) rfl rfl (Nat.le_of_ble_eq_true rfl) hW gm sh_42 (by decide) rfl (by decide) (s_294 hW gm ⟨by omega, by omega⟩ (by omega)) (fun R6228 T6229 H6230 p6231 => ?_))
  obtain ⟨e6232, w6234, f6235, z6237, e6233, b6238, p6236⟩ := p6231
  subst e6232
  subst e6233
  show WL _ _ _ _ 1636 [(4, vI i), (3, .ref o), (2, .ref m), (1, .ref x), (0, .ref 0)] [vI z6237] _ H6230
  refine wl_of hX hb cL_1636 (rw_pop (pc' := 1637) rfl rfl ?_)
  refine wl_of hX hb cL_1637 (rw_goto (p1 := 1653) (by decide) ?_)
  have k6239 : H6230 x 9 = H x 9 := (f6235 x 9 _ gx rfl)
  have k6240 : H6230 m 6 = H m 6 := (f6235 m 6 _ gm rfl)
  have k6241 : H6230 x 11 = H x 11 := (f6235 x 11 _ gx rfl)
  have k6242 : H6230 m 13 = H m 13 := (f6235 m 13 _ gm rfl)
  have k6243 : H6230 x 8 = H x 8 := (f6235 x 8 _ gx rfl)
  have k6244 : H6230 m 3 = H m 3 := (f6235 m 3 _ gm rfl)
  have h6245 : XI T H6230 x m := (XI_fr hW gx f6235 rfl hXI)
  exact WL.loc hX (by simp) (next T H6230 ⟨⟨w6234, g0, gx, gm, go, by omega, by omega⟩, h6245, by omega, by omega⟩ (by omega) (by omega))
set_option maxHeartbeats 4000000 in
theorem wl_c49 {kt : Nat → Option mc_E} {CB SB : Nat} {X : mc_S → Prop} {T : wq_T} {H : wq_H} {Len x m o : Nat} {i : Int} (hX : wlX kt CB SB X) (hb : T.2.1 ≤ CB ∧ T.2.2.1 ≤ SB) (hI : wlJ Len x m o T H) (hL : Len ≤ 3072) (hi : 0 ≤ i ∧ i + 6 ≤ Len) (hb2 : T.2.1 + 20 ≤ CB ∧ T.2.2.1 + 500 ≤ SB)  (next : ∀ T' H', wlJ Len x m o T' H' → T'.2.1 ≤ T.2.1 + 20 → T'.2.2.1 ≤ T.2.2.1 + 500 → WL kt CB SB X 1653 (wlL i x m o) [] T' H') : WL kt CB SB X 1640 (wlL i x m o) [] T H := by
  obtain ⟨⟨hW, g0, gx, gm, go, hK, hr⟩, hXI, hY1, hY2⟩ := hI
  refine wl_of hX hb cL_1640 (rw_aload_n (pc' := 1641) (v := .ref x) rfl rfl rfl ?_)
  refine wl_of hX hb cL_1641 (xc_V (pc' := 1644) (r := x) (as := []) (st := []) (lm_11_230) rfl rfl (Nat.le_of_ble_eq_true rfl) hW gx sh_1 (by decide) rfl (by decide) (s_165 hW gx) (fun R6246 T6247 H6248 p6249 => ?_))
  obtain ⟨e6250, e6252, z6253, e6251, b6254⟩ := p6249
  subst e6250
  subst e6251
  subst e6252
  show WL _ _ _ _ 1644 [(4, vI i), (3, .ref o), (2, .ref m), (1, .ref x), (0, .ref 0)] [vI z6253] _ H
  refine wl_of hX hb cL_1644 (rw_pop (pc' := 1645) rfl rfl ?_)
  refine wl_of hX hb cL_1645 (rw_aload_n (pc' := 1646) (v := .ref m) rfl rfl rfl ?_)
  refine wl_of hX hb cL_1646 (xc_V (pc' := 1649) (r := m) (as := []) (st := []) (lm_11_233) rfl rfl (Nat.le_of_ble_eq_true rfl) hW gm sh_42 (by decide) rfl (by decide) (s_295 hW gm (by omega)) (fun R6255 T6256 H6257 p6258 => ?_))
  obtain ⟨e6259, w6261, f6262, z6264, e6260, b6265, p6263⟩ := p6258
  subst e6259
  subst e6260
  show WL _ _ _ _ 1649 [(4, vI i), (3, .ref o), (2, .ref m), (1, .ref x), (0, .ref 0)] [vI z6264] _ H6257
  refine wl_of hX hb cL_1649 (rw_pop (pc' := 1650) rfl rfl ?_)
  refine wl_of hX hb cL_1650 (rw_goto (p1 := 1653) (by decide) ?_)
  have k6266 : H6257 x 9 = H x 9 := (f6262 x 9 _ gx rfl)
  have k6267 : H6257 m 6 = H m 6 := (f6262 m 6 _ gm rfl)
  have k6268 : H6257 x 11 = H x 11 := (f6262 x 11 _ gx rfl)
  have k6269 : H6257 m 13 = H m 13 := (f6262 m 13 _ gm rfl)
  have k6270 : H6257 x 8 = H x 8 := (f6262 x 8 _ gx rfl)
  have k6271 : H6257 m 3 = H m 3 := (f6262 m 3 _ gm rfl)
  have h6272 : XI T H6257 x m := (XI_fr hW gx f6262 rfl hXI)
  exact WL.loc hX (by simp) (next T H6257 ⟨⟨w6261, g0, gx, gm, go, by omega, by omega⟩, h6272, by omega, by omega⟩ (by omega) (by omega))
set_option maxHeartbeats 4000000 in
theorem wl_head {kt : Nat → Option mc_E} {CB SB : Nat} {X : mc_S → Prop} {T : wq_T} {H : wq_H} {Len x m o : Nat} {i : Int} (hX : wlX kt CB SB X) (hb : T.2.1 ≤ CB ∧ T.2.2.1 ≤ SB) (hI : wlJ Len x m o T H) (hL : Len ≤ 3072) (hi : 0 ≤ i ∧ i ≤ Len) (cases : ∀ t, t ∈ [256, 329, 354, 367, 380, 405, 454, 503, 516, 553, 578, 603, 616, 629, 642, 655, 668, 705, 718, 755, 792, 829, 882, 919, 944, 957, 994, 1019, 1056, 1109, 1162, 1175, 1200, 1225, 1250, 1263, 1316, 1329, 1342, 1367, 1404, 1429, 1454, 1467, 1504, 1517, 1530, 1587, 1615, 1640] → i + 6 ≤ Len → WL kt CB SB X t (wlL i x m o) [] T H) (next : i + 6 ≤ Len → WL kt CB SB X 1653 (wlL i x m o) [] T H) : WL kt CB SB X 23 (wlL i x m o) [] T H := by
  obtain ⟨⟨hW, g0, gx, gm, go, hK, hr⟩, hXI, hY1, hY2⟩ := hI
  refine wl_of hX hb cL_23 (rw_iload (pc' := 25) (z := i) rfl rfl ?_)
  refine wl_of hX hb cL_25 (rw_aload_n (pc' := 26) (v := .ref 0) rfl rfl rfl ?_)
  refine wl_of hX hb cL_26 (xa_N (pc' := 27) (a := 0) (n := Len) hW g0 (wsh_s _) (by decide) rfl ?_)
  refine wl_of hX hb cL_27 (rw_bipush (pc' := 29) (z := 6) rfl (by decide) ?_)
  refine wl_of hX hb cL_29 (rw_isub (pc' := 30) rfl ?_)
  refine wl_of hX hb cL_30 (rw_icmp_gt (p1 := 1659) (p2 := 33) (by decide) rfl ⟨by omega, by omega⟩ ⟨by omega, by omega⟩ (fun c6273 => ?_) (fun c6273 => ?_))
  · refine wl_of hX hb cL_1659 (rw_iconst (pc' := 1660) rfl ?_)
    exact WL.fin hX hb
  · refine wl_of hX hb cL_33 (rw_aload_n (pc' := 34) (v := .ref 0) rfl rfl rfl ?_)
    refine wl_of hX hb cL_34 (rw_iload (pc' := 36) (z := i) rfl rfl ?_)
    refine wl_of hX hb cL_36 (xa_I (so := 0) (pc' := 37) (a := 0) hW g0 (wsh_s _) (by omega) (wty_s _ _) (by omega) (by omega) rfl (fun b6274 b6275 => ?_))
    refine wl_of hX hb cL_37 (rw_bipush (pc' := 39) (z := 63) rfl (by decide) ?_)
    refine wl_of hX hb cL_39 (rw_iand (pc' := 40) rfl ?_)
    obtain ⟨v6276, e6277⟩ : ∃ x : Int, x = wq_and (H 0 (i.toNat)) 63 := ⟨_, rfl⟩
    rw [← e6277]
    have b6278 : 0 ≤ v6276 ∧ v6276 ≤ 63 := by
      rw [e6277]
      exact wq_and_b _ (by omega) (by omega)
    have c6279 : v6276 = 0 ∨ v6276 = 1 ∨ v6276 = 2 ∨ v6276 = 3 ∨ v6276 = 4 ∨ v6276 = 5 ∨ v6276 = 6 ∨ v6276 = 7 ∨ v6276 = 8 ∨ v6276 = 9 ∨ v6276 = 10 ∨ v6276 = 11 ∨ v6276 = 12 ∨ v6276 = 13 ∨ v6276 = 14 ∨ v6276 = 15 ∨ v6276 = 16 ∨ v6276 = 17 ∨ v6276 = 18 ∨ v6276 = 19 ∨ v6276 = 20 ∨ v6276 = 21 ∨ v6276 = 22 ∨ v6276 = 23 ∨ v6276 = 24 ∨ v6276 = 25 ∨ v6276 = 26 ∨ v6276 = 27 ∨ v6276 = 28 ∨ v6276 = 29 ∨ v6276 = 30 ∨ v6276 = 31 ∨ v6276 = 32 ∨ v6276 = 33 ∨ v6276 = 34 ∨ v6276 = 35 ∨ v6276 = 36 ∨ v6276 = 37 ∨ v6276 = 38 ∨ v6276 = 39 ∨ v6276 = 40 ∨ v6276 = 41 ∨ v6276 = 42 ∨ v6276 = 43 ∨ v6276 = 44 ∨ v6276 = 45 ∨ v6276 = 46 ∨ v6276 = 47 ∨ v6276 = 48 ∨ v6276 = 49 ∨ (v6276 < 0 ∨ 49 < v6276) := by omega
    rcases c6279 with c6279 | c6279 | c6279 | c6279 | c6279 | c6279 | c6279 | c6279 | c6279 | c6279 | c6279 | c6279 | c6279 | c6279 | c6279 | c6279 | c6279 | c6279 | c6279 | c6279 | c6279 | c6279 | c6279 | c6279 | c6279 | c6279 | c6279 | c6279 | c6279 | c6279 | c6279 | c6279 | c6279 | c6279 | c6279 | c6279 | c6279 | c6279 | c6279 | c6279 | c6279 | c6279 | c6279 | c6279 | c6279 | c6279 | c6279 | c6279 | c6279 | c6279 | c6279
    · refine wl_of hX hb cL_40 (rw_tsw (p1 := 256) ⟨by omega, by omega⟩ (by rw [c6279]; decide) ?_)
      exact cases 256 (by decide) (by omega)
    · refine wl_of hX hb cL_40 (rw_tsw (p1 := 329) ⟨by omega, by omega⟩ (by rw [c6279]; decide) ?_)
      exact cases 329 (by decide) (by omega)
    · refine wl_of hX hb cL_40 (rw_tsw (p1 := 354) ⟨by omega, by omega⟩ (by rw [c6279]; decide) ?_)
      exact cases 354 (by decide) (by omega)
    · refine wl_of hX hb cL_40 (rw_tsw (p1 := 367) ⟨by omega, by omega⟩ (by rw [c6279]; decide) ?_)
      exact cases 367 (by decide) (by omega)
    · refine wl_of hX hb cL_40 (rw_tsw (p1 := 380) ⟨by omega, by omega⟩ (by rw [c6279]; decide) ?_)
      exact cases 380 (by decide) (by omega)
    · refine wl_of hX hb cL_40 (rw_tsw (p1 := 405) ⟨by omega, by omega⟩ (by rw [c6279]; decide) ?_)
      exact cases 405 (by decide) (by omega)
    · refine wl_of hX hb cL_40 (rw_tsw (p1 := 454) ⟨by omega, by omega⟩ (by rw [c6279]; decide) ?_)
      exact cases 454 (by decide) (by omega)
    · refine wl_of hX hb cL_40 (rw_tsw (p1 := 503) ⟨by omega, by omega⟩ (by rw [c6279]; decide) ?_)
      exact cases 503 (by decide) (by omega)
    · refine wl_of hX hb cL_40 (rw_tsw (p1 := 516) ⟨by omega, by omega⟩ (by rw [c6279]; decide) ?_)
      exact cases 516 (by decide) (by omega)
    · refine wl_of hX hb cL_40 (rw_tsw (p1 := 553) ⟨by omega, by omega⟩ (by rw [c6279]; decide) ?_)
      exact cases 553 (by decide) (by omega)
    · refine wl_of hX hb cL_40 (rw_tsw (p1 := 578) ⟨by omega, by omega⟩ (by rw [c6279]; decide) ?_)
      exact cases 578 (by decide) (by omega)
    · refine wl_of hX hb cL_40 (rw_tsw (p1 := 603) ⟨by omega, by omega⟩ (by rw [c6279]; decide) ?_)
      exact cases 603 (by decide) (by omega)
    · refine wl_of hX hb cL_40 (rw_tsw (p1 := 616) ⟨by omega, by omega⟩ (by rw [c6279]; decide) ?_)
      exact cases 616 (by decide) (by omega)
    · refine wl_of hX hb cL_40 (rw_tsw (p1 := 629) ⟨by omega, by omega⟩ (by rw [c6279]; decide) ?_)
      exact cases 629 (by decide) (by omega)
    · refine wl_of hX hb cL_40 (rw_tsw (p1 := 642) ⟨by omega, by omega⟩ (by rw [c6279]; decide) ?_)
      exact cases 642 (by decide) (by omega)
    · refine wl_of hX hb cL_40 (rw_tsw (p1 := 655) ⟨by omega, by omega⟩ (by rw [c6279]; decide) ?_)
      exact cases 655 (by decide) (by omega)
    · refine wl_of hX hb cL_40 (rw_tsw (p1 := 668) ⟨by omega, by omega⟩ (by rw [c6279]; decide) ?_)
      exact cases 668 (by decide) (by omega)
    · refine wl_of hX hb cL_40 (rw_tsw (p1 := 705) ⟨by omega, by omega⟩ (by rw [c6279]; decide) ?_)
      exact cases 705 (by decide) (by omega)
    · refine wl_of hX hb cL_40 (rw_tsw (p1 := 718) ⟨by omega, by omega⟩ (by rw [c6279]; decide) ?_)
      exact cases 718 (by decide) (by omega)
    · refine wl_of hX hb cL_40 (rw_tsw (p1 := 755) ⟨by omega, by omega⟩ (by rw [c6279]; decide) ?_)
      exact cases 755 (by decide) (by omega)
    · refine wl_of hX hb cL_40 (rw_tsw (p1 := 792) ⟨by omega, by omega⟩ (by rw [c6279]; decide) ?_)
      exact cases 792 (by decide) (by omega)
    · refine wl_of hX hb cL_40 (rw_tsw (p1 := 829) ⟨by omega, by omega⟩ (by rw [c6279]; decide) ?_)
      exact cases 829 (by decide) (by omega)
    · refine wl_of hX hb cL_40 (rw_tsw (p1 := 882) ⟨by omega, by omega⟩ (by rw [c6279]; decide) ?_)
      exact cases 882 (by decide) (by omega)
    · refine wl_of hX hb cL_40 (rw_tsw (p1 := 919) ⟨by omega, by omega⟩ (by rw [c6279]; decide) ?_)
      exact cases 919 (by decide) (by omega)
    · refine wl_of hX hb cL_40 (rw_tsw (p1 := 944) ⟨by omega, by omega⟩ (by rw [c6279]; decide) ?_)
      exact cases 944 (by decide) (by omega)
    · refine wl_of hX hb cL_40 (rw_tsw (p1 := 957) ⟨by omega, by omega⟩ (by rw [c6279]; decide) ?_)
      exact cases 957 (by decide) (by omega)
    · refine wl_of hX hb cL_40 (rw_tsw (p1 := 994) ⟨by omega, by omega⟩ (by rw [c6279]; decide) ?_)
      exact cases 994 (by decide) (by omega)
    · refine wl_of hX hb cL_40 (rw_tsw (p1 := 1019) ⟨by omega, by omega⟩ (by rw [c6279]; decide) ?_)
      exact cases 1019 (by decide) (by omega)
    · refine wl_of hX hb cL_40 (rw_tsw (p1 := 1056) ⟨by omega, by omega⟩ (by rw [c6279]; decide) ?_)
      exact cases 1056 (by decide) (by omega)
    · refine wl_of hX hb cL_40 (rw_tsw (p1 := 1109) ⟨by omega, by omega⟩ (by rw [c6279]; decide) ?_)
      exact cases 1109 (by decide) (by omega)
    · refine wl_of hX hb cL_40 (rw_tsw (p1 := 1162) ⟨by omega, by omega⟩ (by rw [c6279]; decide) ?_)
      exact cases 1162 (by decide) (by omega)
    · refine wl_of hX hb cL_40 (rw_tsw (p1 := 1175) ⟨by omega, by omega⟩ (by rw [c6279]; decide) ?_)
      exact cases 1175 (by decide) (by omega)
    · refine wl_of hX hb cL_40 (rw_tsw (p1 := 1200) ⟨by omega, by omega⟩ (by rw [c6279]; decide) ?_)
      exact cases 1200 (by decide) (by omega)
    · refine wl_of hX hb cL_40 (rw_tsw (p1 := 1225) ⟨by omega, by omega⟩ (by rw [c6279]; decide) ?_)
      exact cases 1225 (by decide) (by omega)
    · refine wl_of hX hb cL_40 (rw_tsw (p1 := 1250) ⟨by omega, by omega⟩ (by rw [c6279]; decide) ?_)
      exact cases 1250 (by decide) (by omega)
    · refine wl_of hX hb cL_40 (rw_tsw (p1 := 1263) ⟨by omega, by omega⟩ (by rw [c6279]; decide) ?_)
      exact cases 1263 (by decide) (by omega)
    · refine wl_of hX hb cL_40 (rw_tsw (p1 := 1316) ⟨by omega, by omega⟩ (by rw [c6279]; decide) ?_)
      exact cases 1316 (by decide) (by omega)
    · refine wl_of hX hb cL_40 (rw_tsw (p1 := 1329) ⟨by omega, by omega⟩ (by rw [c6279]; decide) ?_)
      exact cases 1329 (by decide) (by omega)
    · refine wl_of hX hb cL_40 (rw_tsw (p1 := 1342) ⟨by omega, by omega⟩ (by rw [c6279]; decide) ?_)
      exact cases 1342 (by decide) (by omega)
    · refine wl_of hX hb cL_40 (rw_tsw (p1 := 1367) ⟨by omega, by omega⟩ (by rw [c6279]; decide) ?_)
      exact cases 1367 (by decide) (by omega)
    · refine wl_of hX hb cL_40 (rw_tsw (p1 := 1404) ⟨by omega, by omega⟩ (by rw [c6279]; decide) ?_)
      exact cases 1404 (by decide) (by omega)
    · refine wl_of hX hb cL_40 (rw_tsw (p1 := 1429) ⟨by omega, by omega⟩ (by rw [c6279]; decide) ?_)
      exact cases 1429 (by decide) (by omega)
    · refine wl_of hX hb cL_40 (rw_tsw (p1 := 1454) ⟨by omega, by omega⟩ (by rw [c6279]; decide) ?_)
      exact cases 1454 (by decide) (by omega)
    · refine wl_of hX hb cL_40 (rw_tsw (p1 := 1467) ⟨by omega, by omega⟩ (by rw [c6279]; decide) ?_)
      exact cases 1467 (by decide) (by omega)
    · refine wl_of hX hb cL_40 (rw_tsw (p1 := 1504) ⟨by omega, by omega⟩ (by rw [c6279]; decide) ?_)
      exact cases 1504 (by decide) (by omega)
    · refine wl_of hX hb cL_40 (rw_tsw (p1 := 1517) ⟨by omega, by omega⟩ (by rw [c6279]; decide) ?_)
      exact cases 1517 (by decide) (by omega)
    · refine wl_of hX hb cL_40 (rw_tsw (p1 := 1530) ⟨by omega, by omega⟩ (by rw [c6279]; decide) ?_)
      exact cases 1530 (by decide) (by omega)
    · refine wl_of hX hb cL_40 (rw_tsw (p1 := 1587) ⟨by omega, by omega⟩ (by rw [c6279]; decide) ?_)
      exact cases 1587 (by decide) (by omega)
    · refine wl_of hX hb cL_40 (rw_tsw (p1 := 1615) ⟨by omega, by omega⟩ (by rw [c6279]; decide) ?_)
      exact cases 1615 (by decide) (by omega)
    · refine wl_of hX hb cL_40 (rw_tsw (p1 := 1640) ⟨by omega, by omega⟩ (by rw [c6279]; decide) ?_)
      exact cases 1640 (by decide) (by omega)
    · refine wl_of hX hb cL_40 (rw_tsw (p1 := 1653) ⟨by omega, by omega⟩ (by rw [if_pos c6279]; decide) ?_)
      exact next (by omega)
theorem wl_back {kt : Nat → Option mc_E} {CB SB : Nat} {X : mc_S → Prop} {T : wq_T} {H : wq_H} {Len x m o : Nat} {i : Int} (hX : wlX kt CB SB X) (hb : T.2.1 ≤ CB ∧ T.2.2.1 ≤ SB) (hI : wlJ Len x m o T H) (hL : Len ≤ 3072) (hi : 0 ≤ i ∧ i + 6 ≤ Len) (next : WL kt CB SB X 23 (wlL (i + 6) x m o) [] T H) : WL kt CB SB X 1653 (wlL i x m o) [] T H := by
  obtain ⟨⟨hW, g0, gx, gm, go, hK, hr⟩, hXI, hY1, hY2⟩ := hI
  refine wl_of hX hb cL_1653 (rw_iinc (pc' := 1656) (z := i) (L' := [(4, vI (i + 6)), (3, .ref o), (2, .ref m), (1, .ref x), (0, .ref 0)]) rfl rfl rfl rfl ?_)
  refine wl_of hX hb cL_1656 (rw_goto (p1 := 23) (by decide) ?_)
  exact next
/-- the call that may throw, as the loop wants it -/
def wlLed (kt : Nat → Option mc_E) (CB SB : Nat) (X : mc_S → Prop) (Len x m o : Nat) : Prop := ∀ (T : wq_T) (H : wq_H) (i z : Int), T.2.1 + 20 ≤ CB ∧ T.2.2.1 + 500 ≤ SB → wI z → wlJ Len x m o T H → (∀ (z' : Int), wI z' → ∀ (T' : wq_T) (H' : wq_H), wlJ Len x m o T' H' → T'.2.1 ≤ T.2.1 + 20 → T'.2.2.1 ≤ T.2.2.1 + 500 → WL kt CB SB X 1598 (wlL i x m o) [vI z'] T' H') → WL kt CB SB X 1595 (wlL i x m o) [.ref o, vI z, .ref x] T H
set_option maxRecDepth 40000 in
theorem wl_loopL {kt : Nat → Option mc_E} {CB SB : Nat} {X : mc_S → Prop} {Len x m o : Nat} (hX : wlX kt CB SB X) (hL : Len ≤ 3072) (hled : wlLed kt CB SB X Len x m o) : ∀ (n : Nat) (T : wq_T) (H : wq_H) (i : Int), 0 ≤ i ∧ i ≤ Len → (Len - i).toNat = n → T.2.1 + 4 * (n + 6) ≤ CB → T.2.2.1 + 100 * (n + 6) ≤ SB → wlJ Len x m o T H → WL kt CB SB X 23 (wlL i x m o) [] T H := by
  intro n
  induction n using Nat.strongRecOn with
  | _ n ih =>
    intro T H i hi hn hc hs hI
    have hb : T.2.1 ≤ CB ∧ T.2.2.1 ≤ SB := ⟨by omega, by omega⟩
    have hb2 : T.2.1 + 20 ≤ CB ∧ T.2.2.1 + 500 ≤ SB := ⟨by omega, by omega⟩
    refine wl_head hX hb hI hL hi (fun t ht h6 => ?_) (fun h6 => wl_back hX hb hI hL ⟨hi.1, h6⟩ (ih (Len - (i + 6)).toNat (by omega) T H (i + 6) ⟨by omega, by omega⟩ rfl (by omega) (by omega) hI))
    have next : ∀ T' H', wlJ Len x m o T' H' → T'.2.1 ≤ T.2.1 + 20 → T'.2.2.1 ≤ T.2.2.1 + 500 → WL kt CB SB X 1653 (wlL i x m o) [] T' H' := fun T' H' hI' h1 h2 => wl_back hX ⟨by omega, by omega⟩ hI' hL ⟨hi.1, h6⟩ (ih (Len - (i + 6)).toNat (by omega) T' H' (i + 6) ⟨by omega, by omega⟩ rfl (by omega) (by omega) hI')
    rcases List.mem_cons.mp ht with rfl | ht
    · exact wl_c0 hX hb hI hL ⟨hi.1, h6⟩ hb2 next
    rcases List.mem_cons.mp ht with rfl | ht
    · exact wl_c1 hX hb hI hL ⟨hi.1, h6⟩ hb2 next
    rcases List.mem_cons.mp ht with rfl | ht
    · exact wl_c2 hX hb hI hL ⟨hi.1, h6⟩ hb2 next
    rcases List.mem_cons.mp ht with rfl | ht
    · exact wl_c3 hX hb hI hL ⟨hi.1, h6⟩ hb2 next
    rcases List.mem_cons.mp ht with rfl | ht
    · exact wl_c4 hX hb hI hL ⟨hi.1, h6⟩ hb2 next
    rcases List.mem_cons.mp ht with rfl | ht
    · exact wl_c5 hX hb hI hL ⟨hi.1, h6⟩ hb2 next
    rcases List.mem_cons.mp ht with rfl | ht
    · exact wl_c6 hX hb hI hL ⟨hi.1, h6⟩ hb2 next
    rcases List.mem_cons.mp ht with rfl | ht
    · exact wl_c7 hX hb hI hL ⟨hi.1, h6⟩ hb2 next
    rcases List.mem_cons.mp ht with rfl | ht
    · exact wl_c8 hX hb hI hL ⟨hi.1, h6⟩ hb2 next
    rcases List.mem_cons.mp ht with rfl | ht
    · exact wl_c9 hX hb hI hL ⟨hi.1, h6⟩ hb2 next
    rcases List.mem_cons.mp ht with rfl | ht
    · exact wl_c10 hX hb hI hL ⟨hi.1, h6⟩ hb2 next
    rcases List.mem_cons.mp ht with rfl | ht
    · exact wl_c11 hX hb hI hL ⟨hi.1, h6⟩ hb2 next
    rcases List.mem_cons.mp ht with rfl | ht
    · exact wl_c12 hX hb hI hL ⟨hi.1, h6⟩ hb2 next
    rcases List.mem_cons.mp ht with rfl | ht
    · exact wl_c13 hX hb hI hL ⟨hi.1, h6⟩ hb2 next
    rcases List.mem_cons.mp ht with rfl | ht
    · exact wl_c14 hX hb hI hL ⟨hi.1, h6⟩ hb2 next
    rcases List.mem_cons.mp ht with rfl | ht
    · exact wl_c15 hX hb hI hL ⟨hi.1, h6⟩ hb2 next
    rcases List.mem_cons.mp ht with rfl | ht
    · exact wl_c16 hX hb hI hL ⟨hi.1, h6⟩ hb2 next
    rcases List.mem_cons.mp ht with rfl | ht
    · exact wl_c17 hX hb hI hL ⟨hi.1, h6⟩ hb2 next
    rcases List.mem_cons.mp ht with rfl | ht
    · exact wl_c18 hX hb hI hL ⟨hi.1, h6⟩ hb2 next
    rcases List.mem_cons.mp ht with rfl | ht
    · exact wl_c19 hX hb hI hL ⟨hi.1, h6⟩ hb2 next
    rcases List.mem_cons.mp ht with rfl | ht
    · exact wl_c20 hX hb hI hL ⟨hi.1, h6⟩ hb2 next
    rcases List.mem_cons.mp ht with rfl | ht
    · exact wl_c21 hX hb hI hL ⟨hi.1, h6⟩ hb2 next
    rcases List.mem_cons.mp ht with rfl | ht
    · exact wl_c22 hX hb hI hL ⟨hi.1, h6⟩ hb2 next
    rcases List.mem_cons.mp ht with rfl | ht
    · exact wl_c23 hX hb hI hL ⟨hi.1, h6⟩ hb2 next
    rcases List.mem_cons.mp ht with rfl | ht
    · exact wl_c24 hX hb hI hL ⟨hi.1, h6⟩ hb2 next
    rcases List.mem_cons.mp ht with rfl | ht
    · exact wl_c25 hX hb hI hL ⟨hi.1, h6⟩ hb2 next
    rcases List.mem_cons.mp ht with rfl | ht
    · exact wl_c26 hX hb hI hL ⟨hi.1, h6⟩ hb2 next
    rcases List.mem_cons.mp ht with rfl | ht
    · exact wl_c27 hX hb hI hL ⟨hi.1, h6⟩ hb2 next
    rcases List.mem_cons.mp ht with rfl | ht
    · exact wl_c28 hX hb hI hL ⟨hi.1, h6⟩ hb2 next
    rcases List.mem_cons.mp ht with rfl | ht
    · exact wl_c29 hX hb hI hL ⟨hi.1, h6⟩ hb2 next
    rcases List.mem_cons.mp ht with rfl | ht
    · exact wl_c30 hX hb hI hL ⟨hi.1, h6⟩ hb2 next
    rcases List.mem_cons.mp ht with rfl | ht
    · exact wl_c31 hX hb hI hL ⟨hi.1, h6⟩ hb2 next
    rcases List.mem_cons.mp ht with rfl | ht
    · exact wl_c32 hX hb hI hL ⟨hi.1, h6⟩ hb2 next
    rcases List.mem_cons.mp ht with rfl | ht
    · exact wl_c33 hX hb hI hL ⟨hi.1, h6⟩ hb2 next
    rcases List.mem_cons.mp ht with rfl | ht
    · exact wl_c34 hX hb hI hL ⟨hi.1, h6⟩ hb2 next
    rcases List.mem_cons.mp ht with rfl | ht
    · exact wl_c35 hX hb hI hL ⟨hi.1, h6⟩ hb2 next
    rcases List.mem_cons.mp ht with rfl | ht
    · exact wl_c36 hX hb hI hL ⟨hi.1, h6⟩ hb2 next
    rcases List.mem_cons.mp ht with rfl | ht
    · exact wl_c37 hX hb hI hL ⟨hi.1, h6⟩ hb2 next
    rcases List.mem_cons.mp ht with rfl | ht
    · exact wl_c38 hX hb hI hL ⟨hi.1, h6⟩ hb2 next
    rcases List.mem_cons.mp ht with rfl | ht
    · exact wl_c39 hX hb hI hL ⟨hi.1, h6⟩ hb2 next
    rcases List.mem_cons.mp ht with rfl | ht
    · exact wl_c40 hX hb hI hL ⟨hi.1, h6⟩ hb2 next
    rcases List.mem_cons.mp ht with rfl | ht
    · exact wl_c41 hX hb hI hL ⟨hi.1, h6⟩ hb2 next
    rcases List.mem_cons.mp ht with rfl | ht
    · exact wl_c42 hX hb hI hL ⟨hi.1, h6⟩ hb2 next
    rcases List.mem_cons.mp ht with rfl | ht
    · exact wl_c43 hX hb hI hL ⟨hi.1, h6⟩ hb2 next
    rcases List.mem_cons.mp ht with rfl | ht
    · exact wl_c44 hX hb hI hL ⟨hi.1, h6⟩ hb2 next
    rcases List.mem_cons.mp ht with rfl | ht
    · exact wl_c45 hX hb hI hL ⟨hi.1, h6⟩ hb2 next
    rcases List.mem_cons.mp ht with rfl | ht
    · exact wl_c46 hX hb hI hL ⟨hi.1, h6⟩ hb2 next
    rcases List.mem_cons.mp ht with rfl | ht
    · exact wl_c47 hX hb hI hL ⟨hi.1, h6⟩ hb2 (fun hz _ hI2 k => hled T H i _ hb2 hz hI2 k) next
    rcases List.mem_cons.mp ht with rfl | ht
    · exact wl_c48 hX hb hI hL ⟨hi.1, h6⟩ hb2 next
    rcases List.mem_cons.mp ht with rfl | ht
    · exact wl_c49 hX hb hI hL ⟨hi.1, h6⟩ hb2 next
    cases ht
