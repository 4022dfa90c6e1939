/-! THE LAW, GONE ON WITH (own work) -/
set_option maxHeartbeats 4000000 in
theorem wl_c43 {kt : Nat → Option mc_E} {CB SB : Nat} {X : mc_S → Prop} {T : wq_T} {H : wq_H} {Len x m o : Nat} {i : Int} (hX : wlX kt CB SB X) (hb : T.2.1 ≤ CB ∧ T.2.2.1 ≤ SB) (hI : wlJ Len x m o T H) (hL : Len ≤ 3072) (hi : 0 ≤ i ∧ i + 6 ≤ Len) (hb2 : T.2.1 + 20 ≤ CB ∧ T.2.2.1 + 500 ≤ SB)  (next : ∀ T' H', wlJ Len x m o T' H' → T'.2.1 ≤ T.2.1 + 20 → T'.2.2.1 ≤ T.2.2.1 + 500 → WL kt CB SB X 1653 (wlL i x m o) [] T' H') : WL kt CB SB X 1467 (wlL i x m o) [] T H := by
  obtain ⟨⟨hW, g0, gx, gm, go, hK, hr⟩, hXI, hY1, hY2⟩ := hI
  refine wl_of hX hb cL_1467 (rw_aload_n (pc' := 1468) (v := .ref x) rfl rfl rfl ?_)
  refine wl_of hX hb cL_1468 (rw_aload_n (pc' := 1469) (v := .ref 0) rfl rfl rfl ?_)
  refine wl_of hX hb cL_1469 (rw_iload (pc' := 1471) (z := i) rfl rfl ?_)
  refine wl_of hX hb cL_1471 (rw_iconst (pc' := 1472) rfl ?_)
  refine wl_of hX hb cL_1472 (rw_iadd (pc' := 1473) rfl ?_)
  refine wl_of hX hb cL_1473 (xa_I (so := 0) (pc' := 1474) (a := 0) hW g0 (wsh_s _) (by omega) (wty_s _ _) (by omega) (by omega) rfl (fun b5844 b5845 => ?_))
  refine wl_of hX hb cL_1474 (rw_aload_n (pc' := 1475) (v := .ref 0) rfl rfl rfl ?_)
  refine wl_of hX hb cL_1475 (rw_iload (pc' := 1477) (z := i) rfl rfl ?_)
  refine wl_of hX hb cL_1477 (rw_iconst (pc' := 1478) rfl ?_)
  refine wl_of hX hb cL_1478 (rw_iadd (pc' := 1479) rfl ?_)
  refine wl_of hX hb cL_1479 (xa_I (so := 0) (pc' := 1480) (a := 0) hW g0 (wsh_s _) (by omega) (wty_s _ _) (by omega) (by omega) rfl (fun b5846 b5847 => ?_))
  refine wl_of hX hb cL_1480 (xc_V (pc' := 1483) (r := x) (as := [vI (H 0 ((i + 1).toNat)), vI (H 0 ((i + 2).toNat))]) (st := []) (lm_11_200) rfl rfl (Nat.le_of_ble_eq_true rfl) hW gx sh_1 (by decide) rfl (by decide) (s_157 hW gx ⟨by omega, by omega⟩ ⟨by omega, by omega⟩) (fun R5848 T5849 H5850 p5851 => ?_))
  obtain ⟨e5852, w5854, f5855, z5856, e5853, b5857⟩ := p5851
  subst e5852
  subst e5853
  show WL _ _ _ _ 1483 [(4, vI i), (3, .ref o), (2, .ref m), (1, .ref x), (0, .ref 0)] [vI z5856] _ H5850
  refine wl_of hX hb cL_1483 (rw_pop (pc' := 1484) rfl rfl ?_)
  refine wl_of hX hb cL_1484 (rw_aload_n (pc' := 1485) (v := .ref m) rfl rfl rfl ?_)
  refine wl_of hX hb cL_1485 (rw_aload_n (pc' := 1486) (v := .ref 0) rfl rfl rfl ?_)
  refine wl_of hX hb cL_1486 (rw_iload (pc' := 1488) (z := i) rfl rfl ?_)
  refine wl_of hX hb cL_1488 (rw_iconst (pc' := 1489) rfl ?_)
  refine wl_of hX hb cL_1489 (rw_iadd (pc' := 1490) rfl ?_)
  have k5860 : H5850 0 ((i + 1).toNat) = H 0 ((i + 1).toNat) := (f5855 0 ((i + 1).toNat) _ g0 (wmem_s rfl))
  refine wl_of hX hb cL_1490 (xa_I (so := 0) (pc' := 1491) (a := 0) w5854 g0 (wsh_s _) (by omega) (wty_s _ _) (by omega) (by omega) rfl (fun b5858 b5859 => ?_))
  refine wl_of hX hb cL_1491 (rw_aload_n (pc' := 1492) (v := .ref 0) rfl rfl rfl ?_)
  refine wl_of hX hb cL_1492 (rw_iload (pc' := 1494) (z := i) rfl rfl ?_)
  refine wl_of hX hb cL_1494 (rw_iconst (pc' := 1495) rfl ?_)
  refine wl_of hX hb cL_1495 (rw_iadd (pc' := 1496) rfl ?_)
  have k5863 : H5850 0 ((i + 2).toNat) = H 0 ((i + 2).toNat) := (f5855 0 ((i + 2).toNat) _ g0 (wmem_s rfl))
  refine wl_of hX hb cL_1496 (xa_I (so := 0) (pc' := 1497) (a := 0) w5854 g0 (wsh_s _) (by omega) (wty_s _ _) (by omega) (by omega) rfl (fun b5861 b5862 => ?_))
  have k5864 : wKI H5850 m = wKI H m := (wKI_fr hW gm f5855 rfl)
  have k5865 : H5850 x 9 = H x 9 := (f5855 x 9 _ gx rfl)
  have k5866 : H5850 m 6 = H m 6 := (f5855 m 6 _ gm rfl)
  have k5867 : H5850 x 11 = H x 11 := (f5855 x 11 _ gx rfl)
  have k5868 : H5850 m 13 = H m 13 := (f5855 m 13 _ gm rfl)
  have k5869 : H5850 x 8 = H x 8 := (f5855 x 8 _ gx rfl)
  have k5870 : H5850 m 3 = H m 3 := (f5855 m 3 _ gm rfl)
  refine wl_of hX hb cL_1497 (xc_V (pc' := 1500) (r := m) (as := [vI (H5850 0 ((i + 1).toNat)), vI (H5850 0 ((i + 2).toNat))]) (st := []) (lm_11_203) rfl rfl (Nat.le_of_ble_eq_true rfl) w5854 gm sh_42 (by decide) rfl (by decide) (s_289 w5854 gm ⟨by omega, by omega⟩ ⟨by omega, by omega⟩ (by omega)) (fun R5871 T5872 H5873 p5874 => ?_))
  obtain ⟨e5875, w5877, f5878, z5880, e5876, b5881, p5879⟩ := p5874
  subst e5875
  subst e5876
  show WL _ _ _ _ 1500 [(4, vI i), (3, .ref o), (2, .ref m), (1, .ref x), (0, .ref 0)] [vI z5880] _ H5873
  refine wl_of hX hb cL_1500 (rw_pop (pc' := 1501) rfl rfl ?_)
  refine wl_of hX hb cL_1501 (rw_goto (p1 := 1653) (by decide) ?_)
  have k5882 : H5873 x 9 = H5850 x 9 := (f5878 x 9 _ gx rfl)
  have k5883 : H5873 m 6 = H5850 m 6 := (f5878 m 6 _ gm rfl)
  have k5884 : H5873 x 11 = H5850 x 11 := (f5878 x 11 _ gx rfl)
  have k5885 : H5873 m 13 = H5850 m 13 := (f5878 m 13 _ gm rfl)
  have k5886 : H5873 x 8 = H5850 x 8 := (f5878 x 8 _ gx rfl)
  have k5887 : H5873 m 3 = H5850 m 3 := (f5878 m 3 _ gm rfl)
  have h5888 : XI T H5873 x m := (XI_fr w5854 gx f5878 rfl (XI_fr hW gx f5855 rfl hXI))
  exact WL.loc hX (by simp) (next T H5873 ⟨⟨w5877, g0, gx, gm, go, by omega, by omega⟩, h5888, by omega, by omega⟩ (by omega) (by omega))
set_option maxHeartbeats 4000000 in
theorem wl_c44 {kt : Nat → Option mc_E} {CB SB : Nat} {X : mc_S → Prop} {T : wq_T} {H : wq_H} {Len x m o : Nat} {i : Int} (hX : wlX kt CB SB X) (hb : T.2.1 ≤ CB ∧ T.2.2.1 ≤ SB) (hI : wlJ Len x m o T H) (hL : Len ≤ 3072) (hi : 0 ≤ i ∧ i + 6 ≤ Len) (hb2 : T.2.1 + 20 ≤ CB ∧ T.2.2.1 + 500 ≤ SB)  (next : ∀ T' H', wlJ Len x m o T' H' → T'.2.1 ≤ T.2.1 + 20 → T'.2.2.1 ≤ T.2.2.1 + 500 → WL kt CB SB X 1653 (wlL i x m o) [] T' H') : WL kt CB SB X 1504 (wlL i x m o) [] T H := by
  obtain ⟨⟨hW, g0, gx, gm, go, hK, hr⟩, hXI, hY1, hY2⟩ := hI
  refine wl_of hX hb cL_1504 (rw_aload_n (pc' := 1505) (v := .ref x) rfl rfl rfl ?_)
  refine wl_of hX hb cL_1505 (xc_V (pc' := 1508) (r := x) (as := []) (st := []) (lm_11_204) rfl rfl (Nat.le_of_ble_eq_true rfl) hW gx sh_1 (by decide) rfl (by decide) (s_158 hW gx) (fun R5889 T5890 H5891 p5892 => ?_))
  obtain ⟨e5893, w5895, f5896, z5897, e5894, b5898⟩ := p5892
  subst e5893
  subst e5894
  show WL _ _ _ _ 1508 [(4, vI i), (3, .ref o), (2, .ref m), (1, .ref x), (0, .ref 0)] [vI z5897] _ H5891
  refine wl_of hX hb cL_1508 (rw_pop (pc' := 1509) rfl rfl ?_)
  refine wl_of hX hb cL_1509 (rw_aload_n (pc' := 1510) (v := .ref m) rfl rfl rfl ?_)
  have k5899 : wKI H5891 m = wKI H m := (wKI_fr hW gm f5896 rfl)
  have k5900 : H5891 x 9 = H x 9 := (f5896 x 9 _ gx rfl)
  have k5901 : H5891 m 6 = H m 6 := (f5896 m 6 _ gm rfl)
  have k5902 : H5891 x 11 = H x 11 := (f5896 x 11 _ gx rfl)
  have k5903 : H5891 m 13 = H m 13 := (f5896 m 13 _ gm rfl)
  have k5904 : H5891 x 8 = H x 8 := (f5896 x 8 _ gx rfl)
  have k5905 : H5891 m 3 = H m 3 := (f5896 m 3 _ gm rfl)
  refine wl_of hX hb cL_1510 (xc_V (pc' := 1513) (r := m) (as := []) (st := []) (lm_11_208) rfl rfl (Nat.le_of_ble_eq_true rfl) w5895 gm sh_42 (by decide) rfl (by decide) (s_290 w5895 gm (by omega)) (fun R5906 T5907 H5908 p5909 => ?_))
  obtain ⟨e5910, w5912, f5913, z5915, e5911, b5916, p5914⟩ := p5909
  subst e5910
  subst e5911
  show WL _ _ _ _ 1513 [(4, vI i), (3, .ref o), (2, .ref m), (1, .ref x), (0, .ref 0)] [vI z5915] _ H5908
  refine wl_of hX hb cL_1513 (rw_pop (pc' := 1514) rfl rfl ?_)
  refine wl_of hX hb cL_1514 (rw_goto (p1 := 1653) (by decide) ?_)
  have k5917 : H5908 x 9 = H5891 x 9 := (f5913 x 9 _ gx rfl)
  have k5918 : H5908 m 6 = H5891 m 6 := (f5913 m 6 _ gm rfl)
  have k5919 : H5908 x 11 = H5891 x 11 := (f5913 x 11 _ gx rfl)
  have k5920 : H5908 m 13 = H5891 m 13 := (f5913 m 13 _ gm rfl)
  have k5921 : H5908 x 8 = H5891 x 8 := (f5913 x 8 _ gx rfl)
  have k5922 : H5908 m 3 = H5891 m 3 := (f5913 m 3 _ gm rfl)
  have h5923 : XI T H5908 x m := (XI_fr w5895 gx f5913 rfl (XI_fr hW gx f5896 rfl hXI))
  exact WL.loc hX (by simp) (next T H5908 ⟨⟨w5912, g0, gx, gm, go, by omega, by omega⟩, h5923, by omega, by omega⟩ (by omega) (by omega))
set_option maxHeartbeats 4000000 in
theorem wl_c45 {kt : Nat → Option mc_E} {CB SB : Nat} {X : mc_S → Prop} {T : wq_T} {H : wq_H} {Len x m o : Nat} {i : Int} (hX : wlX kt CB SB X) (hb : T.2.1 ≤ CB ∧ T.2.2.1 ≤ SB) (hI : wlJ Len x m o T H) (hL : Len ≤ 3072) (hi : 0 ≤ i ∧ i + 6 ≤ Len) (hb2 : T.2.1 + 20 ≤ CB ∧ T.2.2.1 + 500 ≤ SB)  (next : ∀ T' H', wlJ Len x m o T' H' → T'.2.1 ≤ T.2.1 + 20 → T'.2.2.1 ≤ T.2.2.1 + 500 → WL kt CB SB X 1653 (wlL i x m o) [] T' H') : WL kt CB SB X 1517 (wlL i x m o) [] T H := by
  obtain ⟨⟨hW, g0, gx, gm, go, hK, hr⟩, hXI, hY1, hY2⟩ := hI
  refine wl_of hX hb cL_1517 (rw_aload_n (pc' := 1518) (v := .ref x) rfl rfl rfl ?_)
  refine wl_of hX hb cL_1518 (xc_V (pc' := 1521) (r := x) (as := []) (st := []) (lm_11_209) rfl rfl (Nat.le_of_ble_eq_true rfl) hW gx sh_1 (by decide) rfl (by decide) (s_159 hW gx) (fun R5924 T5925 H5926 p5927 => ?_))
  obtain ⟨e5928, w5930, f5931, z5932, e5929, b5933⟩ := p5927
  subst e5928
  subst e5929
  show WL _ _ _ _ 1521 [(4, vI i), (3, .ref o), (2, .ref m), (1, .ref x), (0, .ref 0)] [vL z5932] _ H5926
  refine wl_of hX hb cL_1521 (rw_pop2 (pc' := 1522) rfl rfl ?_)
  refine wl_of hX hb cL_1522 (rw_aload_n (pc' := 1523) (v := .ref m) rfl rfl rfl ?_)
  have k5934 : wKI H5926 m = wKI H m := (wKI_fr hW gm f5931 rfl)
  have k5935 : H5926 x 9 = H x 9 := (f5931 x 9 _ gx rfl)
  have k5936 : H5926 m 6 = H m 6 := (f5931 m 6 _ gm rfl)
  have k5937 : H5926 x 11 = H x 11 := (f5931 x 11 _ gx rfl)
  have k5938 : H5926 m 13 = H m 13 := (f5931 m 13 _ gm rfl)
  have k5939 : H5926 x 8 = H x 8 := (f5931 x 8 _ gx rfl)
  have k5940 : H5926 m 3 = H m 3 := (f5931 m 3 _ gm rfl)
  refine wl_of hX hb cL_1523 (xc_V (pc' := 1526) (r := m) (as := []) (st := []) (lm_11_212) rfl rfl (Nat.le_of_ble_eq_true rfl) w5930 gm sh_42 (by decide) rfl (by decide) (s_291 w5930 gm (by omega)) (fun R5941 T5942 H5943 p5944 => ?_))
  obtain ⟨e5945, w5947, f5948, z5950, e5946, b5951, p5949⟩ := p5944
  subst e5945
  subst e5946
  show WL _ _ _ _ 1526 [(4, vI i), (3, .ref o), (2, .ref m), (1, .ref x), (0, .ref 0)] [vL z5950] _ H5943
  refine wl_of hX hb cL_1526 (rw_pop2 (pc' := 1527) rfl rfl ?_)
  refine wl_of hX hb cL_1527 (rw_goto (p1 := 1653) (by decide) ?_)
  have k5952 : H5943 x 9 = H5926 x 9 := (f5948 x 9 _ gx rfl)
  have k5953 : H5943 m 6 = H5926 m 6 := (f5948 m 6 _ gm rfl)
  have k5954 : H5943 x 11 = H5926 x 11 := (f5948 x 11 _ gx rfl)
  have k5955 : H5943 m 13 = H5926 m 13 := (f5948 m 13 _ gm rfl)
  have k5956 : H5943 x 8 = H5926 x 8 := (f5948 x 8 _ gx rfl)
  have k5957 : H5943 m 3 = H5926 m 3 := (f5948 m 3 _ gm rfl)
  have h5958 : XI T H5943 x m := (XI_fr w5930 gx f5948 rfl (XI_fr hW gx f5931 rfl hXI))
  exact WL.loc hX (by simp) (next T H5943 ⟨⟨w5947, g0, gx, gm, go, by omega, by omega⟩, h5958, by omega, by omega⟩ (by omega) (by omega))
set_option maxHeartbeats 4000000 in
theorem wl_c46 {kt : Nat → Option mc_E} {CB SB : Nat} {X : mc_S → Prop} {T : wq_T} {H : wq_H} {Len x m o : Nat} {i : Int} (hX : wlX kt CB SB X) (hb : T.2.1 ≤ CB ∧ T.2.2.1 ≤ SB) (hI : wlJ Len x m o T H) (hL : Len ≤ 3072) (hi : 0 ≤ i ∧ i + 6 ≤ Len) (hb2 : T.2.1 + 20 ≤ CB ∧ T.2.2.1 + 500 ≤ SB)  (next : ∀ T' H', wlJ Len x m o T' H' → T'.2.1 ≤ T.2.1 + 20 → T'.2.2.1 ≤ T.2.2.1 + 500 → WL kt CB SB X 1653 (wlL i x m o) [] T' H') : WL kt CB SB X 1530 (wlL i x m o) [] T H := by
  obtain ⟨⟨hW, g0, gx, gm, go, hK, hr⟩, hXI, hY1, hY2⟩ := hI
  refine wl_of hX hb cL_1530 (rw_aload_n (pc' := 1531) (v := .ref x) rfl rfl rfl ?_)
  refine wl_of hX hb cL_1531 (rw_aload_n (pc' := 1532) (v := .ref 0) rfl rfl rfl ?_)
  refine wl_of hX hb cL_1532 (rw_iload (pc' := 1534) (z := i) rfl rfl ?_)
  refine wl_of hX hb cL_1534 (rw_iconst (pc' := 1535) rfl ?_)
  refine wl_of hX hb cL_1535 (rw_iadd (pc' := 1536) rfl ?_)
  refine wl_of hX hb cL_1536 (xa_I (so := 0) (pc' := 1537) (a := 0) hW g0 (wsh_s _) (by omega) (wty_s _ _) (by omega) (by omega) rfl (fun b5959 b5960 => ?_))
  refine wl_of hX hb cL_1537 (rw_i2l (pc' := 1538) rfl ⟨by omega, by omega⟩ ?_)
  refine wl_of hX hb cL_1538 (rw_bipush (pc' := 1540) (z := 32) rfl (by decide) ?_)
  refine wl_of hX hb cL_1540 (rw_lshl (pc' := 1541) rfl ?_)
  obtain ⟨v5961, e5962⟩ : ∃ x : Int, x = wl_shl (H 0 ((i + 1).toNat)) 32 := ⟨_, rfl⟩
  rw [← e5962]
  have b5963 : -9223372036854775808 ≤ v5961 ∧ v5961 ≤ 9223372036854775807 := by
    rw [e5962]
    exact wL_shl _ _
  refine wl_of hX hb cL_1541 (rw_aload_n (pc' := 1542) (v := .ref 0) rfl rfl rfl ?_)
  refine wl_of hX hb cL_1542 (rw_iload (pc' := 1544) (z := i) rfl rfl ?_)
  refine wl_of hX hb cL_1544 (rw_iconst (pc' := 1545) rfl ?_)
  refine wl_of hX hb cL_1545 (rw_iadd (pc' := 1546) rfl ?_)
  refine wl_of hX hb cL_1546 (xa_I (so := 0) (pc' := 1547) (a := 0) hW g0 (wsh_s _) (by omega) (wty_s _ _) (by omega) (by omega) rfl (fun b5964 b5965 => ?_))
  refine wl_of hX hb cL_1547 (rw_i2l (pc' := 1548) rfl ⟨by omega, by omega⟩ ?_)
  refine wl_of hX hb cL_1548 (rw_ldc2 (pc' := 1551) (z := 4294967295) rfl rfl rfl ?_)
  refine wl_of hX hb cL_1551 (rw_land (pc' := 1552) rfl ?_)
  obtain ⟨v5966, e5967⟩ : ∃ x : Int, x = wl_and (H 0 ((i + 2).toNat)) 4294967295 := ⟨_, rfl⟩
  rw [← e5967]
  have b5968 : -9223372036854775808 ≤ v5966 ∧ v5966 ≤ 9223372036854775807 := by
    rw [e5967]
    exact wL_and _ _
  refine wl_of hX hb cL_1552 (rw_lor (pc' := 1553) rfl ?_)
  obtain ⟨v5969, e5970⟩ : ∃ x : Int, x = wl_or v5961 v5966 := ⟨_, rfl⟩
  rw [← e5970]
  have b5971 : -9223372036854775808 ≤ v5969 ∧ v5969 ≤ 9223372036854775807 := by
    rw [e5970]
    exact wL_or _ _
  obtain ⟨B, tc, tm, cu, dr, C8, e8, d8, n8, g8, ce8, e0, gtc, htc, em, gtm, htm, ecu, gcu, edr, gdr, hcu, hdr, hdec, hded, hsp, hC1, hC2, hcu8, hrb8, hcg8, hmn8, hE, hZ, hn8, hXA, hV8, hSG, ece8, gce8, hcen8, hhdr8, hknn8, -⟩ := hXI
  have hN3 := RB_n3 hrb8
  have hE13 : ∀ h : Nat, h < 24 → 0 ≤ e8 13 h ∧ e8 13 h ≤ 100 := fun k hk => by
    obtain ⟨s, h1, h2, h3⟩ := hcu8.1.2.2.1
    exact ⟨(h3 k hk).1, (h3 k hk).2.1⟩
  have hXW := hXA.1
  have hXN := hXA.2
  have hE0 : e8 0 3 = d8 0 3 ∧ e8 0 0 = d8 0 0 := by
    have h := hE 0 (by decide)
    exact ⟨congrFun h 3, congrFun h 0⟩
  have u5972 := CU_k hcu8
  have h5973 : CY T H cu (d8 0 3) g8 (H cu 17) := ⟨hcg8, rfl⟩
  have h5974 : RY T H m (d8 0 3) g8 (H m 32) := ⟨hmn8, rfl⟩
  obtain ⟨t9, ht9⟩ : ∃ t : Int, t = H x 9 := ⟨_, rfl⟩
  refine wl_of hX hb cL_1553 (xc_V (pc' := 1556) (r := x) (as := [vL v5969]) (st := []) (lm_11_215) rfl rfl (Nat.le_of_ble_eq_true rfl) hW gx sh_1 (by decide) rfl (by decide) (u_161 (e := e8) (d := d8) (n := n8) (nY := ((d8 0 3))) (gY := g8) (cY := ((H cu 17))) hW gx ⟨b5971.1, b5971.2⟩ ecu gcu (by omega) (by omega) (by omega) hcu8 h5973 hcu) (fun R5975 T5976 H5977 p5978 => ?_))
  obtain ⟨e5979, w5981, f5982, z5983, e5980, b5984, p5985⟩ := p5978
  subst e5979
  subst e5980
  rcases p5985 with ⟨a5986, a5987, a5988, a5989, a5990⟩ | ⟨a5991, a5992, a5993⟩
  · show WL _ _ _ _ 1556 [(4, vI i), (3, .ref o), (2, .ref m), (1, .ref x), (0, .ref 0)] [vI z5983] _ H5977
    refine wl_of hX hb cL_1556 (rw_pop (pc' := 1557) rfl rfl ?_)
    refine wl_of hX hb cL_1557 (rw_aload_n (pc' := 1558) (v := .ref m) rfl rfl rfl ?_)
    refine wl_of hX hb cL_1558 (rw_aload_n (pc' := 1559) (v := .ref 0) rfl rfl rfl ?_)
    refine wl_of hX hb cL_1559 (rw_iload (pc' := 1561) (z := i) rfl rfl ?_)
    refine wl_of hX hb cL_1561 (rw_iconst (pc' := 1562) rfl ?_)
    refine wl_of hX hb cL_1562 (rw_iadd (pc' := 1563) rfl ?_)
    have k5996 : H5977 0 ((i + 1).toNat) = H 0 ((i + 1).toNat) := (f5982 0 ((i + 1).toNat) _ g0 (wmem_s rfl))
    refine wl_of hX hb cL_1563 (xa_I (so := 0) (pc' := 1564) (a := 0) w5981 g0 (wsh_s _) (by omega) (wty_s _ _) (by omega) (by omega) rfl (fun b5994 b5995 => ?_))
    refine wl_of hX hb cL_1564 (rw_i2l (pc' := 1565) rfl ⟨by omega, by omega⟩ ?_)
    refine wl_of hX hb cL_1565 (rw_bipush (pc' := 1567) (z := 32) rfl (by decide) ?_)
    refine wl_of hX hb cL_1567 (rw_lshl (pc' := 1568) rfl ?_)
    obtain ⟨v5997, e5998⟩ : ∃ x : Int, x = wl_shl (H5977 0 ((i + 1).toNat)) 32 := ⟨_, rfl⟩
    rw [← e5998]
    have b5999 : -9223372036854775808 ≤ v5997 ∧ v5997 ≤ 9223372036854775807 := by
      rw [e5998]
      exact wL_shl _ _
    refine wl_of hX hb cL_1568 (rw_aload_n (pc' := 1569) (v := .ref 0) rfl rfl rfl ?_)
    refine wl_of hX hb cL_1569 (rw_iload (pc' := 1571) (z := i) rfl rfl ?_)
    refine wl_of hX hb cL_1571 (rw_iconst (pc' := 1572) rfl ?_)
    refine wl_of hX hb cL_1572 (rw_iadd (pc' := 1573) rfl ?_)
    have k6002 : H5977 0 ((i + 2).toNat) = H 0 ((i + 2).toNat) := (f5982 0 ((i + 2).toNat) _ g0 (wmem_s rfl))
    refine wl_of hX hb cL_1573 (xa_I (so := 0) (pc' := 1574) (a := 0) w5981 g0 (wsh_s _) (by omega) (wty_s _ _) (by omega) (by omega) rfl (fun b6000 b6001 => ?_))
    refine wl_of hX hb cL_1574 (rw_i2l (pc' := 1575) rfl ⟨by omega, by omega⟩ ?_)
    refine wl_of hX hb cL_1575 (rw_ldc2 (pc' := 1578) (z := 4294967295) rfl rfl rfl ?_)
    refine wl_of hX hb cL_1578 (rw_land (pc' := 1579) rfl ?_)
    obtain ⟨v6003, e6004⟩ : ∃ x : Int, x = wl_and (H5977 0 ((i + 2).toNat)) 4294967295 := ⟨_, rfl⟩
    rw [← e6004]
    have b6005 : -9223372036854775808 ≤ v6003 ∧ v6003 ≤ 9223372036854775807 := by
      rw [e6004]
      exact wL_and _ _
    refine wl_of hX hb cL_1579 (rw_lor (pc' := 1580) rfl ?_)
    obtain ⟨v6006, e6007⟩ : ∃ x : Int, x = wl_or v5997 v6003 := ⟨_, rfl⟩
    rw [← e6007]
    have b6008 : -9223372036854775808 ≤ v6006 ∧ v6006 ≤ 9223372036854775807 := by
      rw [e6007]
      exact wL_or _ _
    have k6009 : wKI H5977 m = wKI H m := (wKI_fr hW gm f5982 rfl)
    have k6010 : H5977 x 9 = H x 9 := (f5982 x 9 _ gx rfl)
    have k6011 : H5977 m 6 = H m 6 := (f5982 m 6 _ gm rfl)
    have k6012 : H5977 x 11 = H x 11 := (f5982 x 11 _ gx rfl)
    have k6013 : H5977 m 13 = H m 13 := (f5982 m 13 _ gm rfl)
    have k6014 : H5977 x 8 = H x 8 := (f5982 x 8 _ gx rfl)
    have k6015 : H5977 m 3 = H m 3 := (f5982 m 3 _ gm rfl)
    have rs9 : v6006 = v5969 := by
      rw [e6007, e5998, e6004, e5970, e5962, e5967, show H5977 0 ((i + 1).toNat) = H 0 ((i + 1).toNat) by omega, show H5977 0 ((i + 2).toNat) = H 0 ((i + 2).toNat) by omega]
    rw [rs9]
    have h6016 : RB T H5977 m e8 d8 := (RB_fr hW gm f5982 rfl hrb8)
    have h6017 : RY T H5977 m (d8 0 3) g8 (H m 32) := (RY_fr hW gm f5982 rfl h5974)
    refine wl_of hX hb cL_1580 (xc_V (pc' := 1583) (r := m) (as := [vL v5969]) (st := []) (lm_11_219) rfl rfl (Nat.le_of_ble_eq_true rfl) w5981 gm sh_42 (by decide) rfl (by decide) (u_292 (e := e8) (d := d8) (nY := ((d8 0 3))) (gY := g8) (cY := ((H m 32))) w5981 gm ⟨b5971.1, b5971.2⟩ (by omega) h6016 h6017) (fun R6018 T6019 H6020 p6021 => ?_))
    obtain ⟨e6022, w6024, f6025, z6026, e6023, b6027, p6028⟩ := p6021
    subst e6022
    subst e6023
    rcases p6028 with ⟨a6029, a6030, a6031, a6032⟩ | ⟨a6033, a6034, a6035⟩
    · show WL _ _ _ _ 1583 [(4, vI i), (3, .ref o), (2, .ref m), (1, .ref x), (0, .ref 0)] [vI z6026] _ H6020
      refine wl_of hX hb cL_1583 (rw_pop (pc' := 1584) rfl rfl ?_)
      refine wl_of hX hb cL_1584 (rw_goto (p1 := 1653) (by decide) ?_)
      have k6036 : wKI H6020 m = wKI H5977 m := (wKI_fr w5981 gm f6025 rfl)
      have k6037 : H6020 x 9 = H5977 x 9 := (f6025 x 9 _ gx rfl)
      have k6038 : H6020 m 6 = H5977 m 6 := (f6025 m 6 _ gm rfl)
      have k6039 : H6020 x 11 = H5977 x 11 := (f6025 x 11 _ gx rfl)
      have k6040 : H6020 m 13 = H5977 m 13 := (f6025 m 13 _ gm rfl)
      have k6041 : H6020 x 8 = H5977 x 8 := (f6025 x 8 _ gx rfl)
      have k6042 : H6020 m 3 = H5977 m 3 := (f6025 m 3 _ gm rfl)
      have k6043 : H6020 x 0 = H x 0 := ((f6025 x 0 _ gx rfl).trans (f5982 x 0 _ gx rfl))
      have q6044 : H6020 x 0 = (tc : Int) := k6043.trans e0
      have k6045 : H6020 m 5 = H m 5 := ((f6025 m 5 _ gm rfl).trans (f5982 m 5 _ gm rfl))
      have q6046 : H6020 m 5 = (tm : Int) := k6045.trans em
      have k6047 : H6020 x 6 = H x 6 := ((f6025 x 6 _ gx rfl).trans (f5982 x 6 _ gx rfl))
      have q6048 : H6020 x 6 = (cu : Int) := k6047.trans ecu
      have k6049 : H6020 x 7 = H x 7 := ((f6025 x 7 _ gx rfl).trans (f5982 x 7 _ gx rfl))
      have q6050 : H6020 x 7 = (dr : Int) := k6049.trans edr
      have h6051 : CEN T H6020 ce8 e8 d8 := (CEN_fr w5981 gce8 f6025 rfl (CEN_fr hW gce8 f5982 rfl hcen8))
      have h6052 : TP T H6020 tc B := (TP_fr w5981 gtc f6025 rfl (TP_fr hW gtc f5982 rfl htc))
      have h6053 : TM T H6020 tm B := (TM_fr w5981 gtm f6025 rfl (TM_fr hW gtm f5982 rfl htm))
      have h6054 : DD T H6020 cu  := (DD_fr w5981 gcu f6025 rfl (DD_fr hW gcu f5982 rfl hcu))
      have h6055 : DD T H6020 dr  := (DD_fr w5981 gdr f6025 rfl (DD_fr hW gdr f5982 rfl hdr))
      have h6056 : DE T H6020 cu  := (DE_fr w5981 gcu f6025 rfl (DE_fr hW gcu f5982 rfl hdec))
      have h6057 : DE T H6020 dr  := (DE_fr w5981 gdr f6025 rfl (DE_fr hW gdr f5982 rfl hded))
      have h6058 : SP T H6020 x C8 := (SP_fr w5981 gx f6025 rfl (SP_fr hW gx f5982 rfl hsp))
      have h6059 : CU T H6020 cu e8 d8 n8 := (CU_fr w5981 gcu f6025 rfl (CU_fr hW gcu f5982 rfl hcu8))
      have h6060 : CY T H6020 cu ((d8 0 3)) (xdg d8 v5969) (wdv (d8 0 3).toNat v5969) := (CY_fr w5981 gcu f6025 rfl a5990)
      have k6061 : H6020 x 3 = H x 3 := ((f6025 x 3 _ gx rfl).trans (f5982 x 3 _ gx rfl))
      have q6062 : H6020 x 3 = (ce8 : Int) := k6061.trans ece8
      have h6063 : HDR T H6020 ce8  := (HDR_fr w5981 gce8 f6025 rfl (HDR_fr hW gce8 f5982 rfl hhdr8))
      have h6064 : KNN T H6020 m e8 d8 := (KNN_fr w5981 gm f6025 rfl (KNN_fr hW gm f5982 rfl hknn8))
      have h6065 : RB T H6020 m e8 d8 := (RB_fr w5981 gm f6025 rfl h6016)
      exact WL.loc hX (by simp) (next T H6020 ⟨⟨w6024, g0, gx, gm, go, by omega, by omega⟩, ⟨_, tc, tm, cu, dr, _, _, _, _, _, ce8, q6044, gtc, h6052, q6046, gtm, h6053, q6048, gcu, q6050, gdr, h6054, h6055, h6056, h6057, h6058, hC1, hC2, h6059, h6065, (h6060).1, (a6032).1, hE, hZ, (by omega), (by assumption), (by omega), (by first | assumption | exact SG_0), q6062, gce8, h6051, h6063, h6064, gm⟩, by omega, by omega⟩ (by omega) (by omega))
    · show WL _ _ _ _ 1583 [(4, vI i), (3, .ref o), (2, .ref m), (1, .ref x), (0, .ref 0)] [vI z6026] _ H6020
      refine wl_of hX hb cL_1583 (rw_pop (pc' := 1584) rfl rfl ?_)
      refine wl_of hX hb cL_1584 (rw_goto (p1 := 1653) (by decide) ?_)
      have k6066 : wKI H6020 m = wKI H5977 m := (wKI_fr w5981 gm f6025 rfl)
      have k6067 : H6020 x 9 = H5977 x 9 := (f6025 x 9 _ gx rfl)
      have k6068 : H6020 m 6 = H5977 m 6 := (f6025 m 6 _ gm rfl)
      have k6069 : H6020 x 11 = H5977 x 11 := (f6025 x 11 _ gx rfl)
      have k6070 : H6020 m 13 = H5977 m 13 := (f6025 m 13 _ gm rfl)
      have k6071 : H6020 x 8 = H5977 x 8 := (f6025 x 8 _ gx rfl)
      have k6072 : H6020 m 3 = H5977 m 3 := (f6025 m 3 _ gm rfl)
      have k6073 : H6020 x 0 = H x 0 := ((f6025 x 0 _ gx rfl).trans (f5982 x 0 _ gx rfl))
      have q6074 : H6020 x 0 = (tc : Int) := k6073.trans e0
      have k6075 : H6020 m 5 = H m 5 := ((f6025 m 5 _ gm rfl).trans (f5982 m 5 _ gm rfl))
      have q6076 : H6020 m 5 = (tm : Int) := k6075.trans em
      have k6077 : H6020 x 6 = H x 6 := ((f6025 x 6 _ gx rfl).trans (f5982 x 6 _ gx rfl))
      have q6078 : H6020 x 6 = (cu : Int) := k6077.trans ecu
      have k6079 : H6020 x 7 = H x 7 := ((f6025 x 7 _ gx rfl).trans (f5982 x 7 _ gx rfl))
      have q6080 : H6020 x 7 = (dr : Int) := k6079.trans edr
      have h6081 : CEN T H6020 ce8 e8 d8 := (CEN_fr w5981 gce8 f6025 rfl (CEN_fr hW gce8 f5982 rfl hcen8))
      have h6082 : TP T H6020 tc B := (TP_fr w5981 gtc f6025 rfl (TP_fr hW gtc f5982 rfl htc))
      have h6083 : TM T H6020 tm B := (TM_fr w5981 gtm f6025 rfl (TM_fr hW gtm f5982 rfl htm))
      have h6084 : DD T H6020 cu  := (DD_fr w5981 gcu f6025 rfl (DD_fr hW gcu f5982 rfl hcu))
      have h6085 : DD T H6020 dr  := (DD_fr w5981 gdr f6025 rfl (DD_fr hW gdr f5982 rfl hdr))
      have h6086 : DE T H6020 cu  := (DE_fr w5981 gcu f6025 rfl (DE_fr hW gcu f5982 rfl hdec))
      have h6087 : DE T H6020 dr  := (DE_fr w5981 gdr f6025 rfl (DE_fr hW gdr f5982 rfl hded))
      have h6088 : SP T H6020 x C8 := (SP_fr w5981 gx f6025 rfl (SP_fr hW gx f5982 rfl hsp))
      have h6089 : CU T H6020 cu e8 d8 n8 := (CU_fr w5981 gcu f6025 rfl (CU_fr hW gcu f5982 rfl hcu8))
      have h6090 : CY T H6020 cu ((d8 0 3)) (xdg d8 v5969) (wdv (d8 0 3).toNat v5969) := (CY_fr w5981 gcu f6025 rfl a5990)
      have k6091 : H6020 x 3 = H x 3 := ((f6025 x 3 _ gx rfl).trans (f5982 x 3 _ gx rfl))
      have q6092 : H6020 x 3 = (ce8 : Int) := k6091.trans ece8
      have h6093 : HDR T H6020 ce8  := (HDR_fr w5981 gce8 f6025 rfl (HDR_fr hW gce8 f5982 rfl hhdr8))
      have h6094 : KNN T H6020 m e8 d8 := (KNN_fr w5981 gm f6025 rfl (KNN_fr hW gm f5982 rfl hknn8))
      exfalso
      omega
  · show WL _ _ _ _ 1556 [(4, vI i), (3, .ref o), (2, .ref m), (1, .ref x), (0, .ref 0)] [vI z5983] _ H5977
    refine wl_of hX hb cL_1556 (rw_pop (pc' := 1557) rfl rfl ?_)
    refine wl_of hX hb cL_1557 (rw_aload_n (pc' := 1558) (v := .ref m) rfl rfl rfl ?_)
    refine wl_of hX hb cL_1558 (rw_aload_n (pc' := 1559) (v := .ref 0) rfl rfl rfl ?_)
    refine wl_of hX hb cL_1559 (rw_iload (pc' := 1561) (z := i) rfl rfl ?_)
    refine wl_of hX hb cL_1561 (rw_iconst (pc' := 1562) rfl ?_)
    refine wl_of hX hb cL_1562 (rw_iadd (pc' := 1563) rfl ?_)
    have k6097 : H5977 0 ((i + 1).toNat) = H 0 ((i + 1).toNat) := (f5982 0 ((i + 1).toNat) _ g0 (wmem_s rfl))
    refine wl_of hX hb cL_1563 (xa_I (so := 0) (pc' := 1564) (a := 0) w5981 g0 (wsh_s _) (by omega) (wty_s _ _) (by omega) (by omega) rfl (fun b6095 b6096 => ?_))
    refine wl_of hX hb cL_1564 (rw_i2l (pc' := 1565) rfl ⟨by omega, by omega⟩ ?_)
    refine wl_of hX hb cL_1565 (rw_bipush (pc' := 1567) (z := 32) rfl (by decide) ?_)
    refine wl_of hX hb cL_1567 (rw_lshl (pc' := 1568) rfl ?_)
    obtain ⟨v6098, e6099⟩ : ∃ x : Int, x = wl_shl (H5977 0 ((i + 1).toNat)) 32 := ⟨_, rfl⟩
    rw [← e6099]
    have b6100 : -9223372036854775808 ≤ v6098 ∧ v6098 ≤ 9223372036854775807 := by
      rw [e6099]
      exact wL_shl _ _
    refine wl_of hX hb cL_1568 (rw_aload_n (pc' := 1569) (v := .ref 0) rfl rfl rfl ?_)
    refine wl_of hX hb cL_1569 (rw_iload (pc' := 1571) (z := i) rfl rfl ?_)
    refine wl_of hX hb cL_1571 (rw_iconst (pc' := 1572) rfl ?_)
    refine wl_of hX hb cL_1572 (rw_iadd (pc' := 1573) rfl ?_)
    have k6103 : H5977 0 ((i + 2).toNat) = H 0 ((i + 2).toNat) := (f5982 0 ((i + 2).toNat) _ g0 (wmem_s rfl))
    refine wl_of hX hb cL_1573 (xa_I (so := 0) (pc' := 1574) (a := 0) w5981 g0 (wsh_s _) (by omega) (wty_s _ _) (by omega) (by omega) rfl (fun b6101 b6102 => ?_))
    refine wl_of hX hb cL_1574 (rw_i2l (pc' := 1575) rfl ⟨by omega, by omega⟩ ?_)
    refine wl_of hX hb cL_1575 (rw_ldc2 (pc' := 1578) (z := 4294967295) rfl rfl rfl ?_)
    refine wl_of hX hb cL_1578 (rw_land (pc' := 1579) rfl ?_)
    obtain ⟨v6104, e6105⟩ : ∃ x : Int, x = wl_and (H5977 0 ((i + 2).toNat)) 4294967295 := ⟨_, rfl⟩
    rw [← e6105]
    have b6106 : -9223372036854775808 ≤ v6104 ∧ v6104 ≤ 9223372036854775807 := by
      rw [e6105]
      exact wL_and _ _
    refine wl_of hX hb cL_1579 (rw_lor (pc' := 1580) rfl ?_)
    obtain ⟨v6107, e6108⟩ : ∃ x : Int, x = wl_or v6098 v6104 := ⟨_, rfl⟩
    rw [← e6108]
    have b6109 : -9223372036854775808 ≤ v6107 ∧ v6107 ≤ 9223372036854775807 := by
      rw [e6108]
      exact wL_or _ _
    have k6110 : wKI H5977 m = wKI H m := (wKI_fr hW gm f5982 rfl)
    have k6111 : H5977 x 9 = H x 9 := (f5982 x 9 _ gx rfl)
    have k6112 : H5977 m 6 = H m 6 := (f5982 m 6 _ gm rfl)
    have k6113 : H5977 x 11 = H x 11 := (f5982 x 11 _ gx rfl)
    have k6114 : H5977 m 13 = H m 13 := (f5982 m 13 _ gm rfl)
    have k6115 : H5977 x 8 = H x 8 := (f5982 x 8 _ gx rfl)
    have k6116 : H5977 m 3 = H m 3 := (f5982 m 3 _ gm rfl)
    have rs9 : v6107 = v5969 := by
      rw [e6108, e6099, e6105, e5970, e5962, e5967, show H5977 0 ((i + 1).toNat) = H 0 ((i + 1).toNat) by omega, show H5977 0 ((i + 2).toNat) = H 0 ((i + 2).toNat) by omega]
    rw [rs9]
    have h6117 : RB T H5977 m e8 d8 := (RB_fr hW gm f5982 rfl hrb8)
    have h6118 : RY T H5977 m (d8 0 3) g8 (H m 32) := (RY_fr hW gm f5982 rfl h5974)
    refine wl_of hX hb cL_1580 (xc_V (pc' := 1583) (r := m) (as := [vL v5969]) (st := []) (lm_11_219) rfl rfl (Nat.le_of_ble_eq_true rfl) w5981 gm sh_42 (by decide) rfl (by decide) (u_292 (e := e8) (d := d8) (nY := ((d8 0 3))) (gY := g8) (cY := ((H m 32))) w5981 gm ⟨b5971.1, b5971.2⟩ (by omega) h6117 h6118) (fun R6119 T6120 H6121 p6122 => ?_))
    obtain ⟨e6123, w6125, f6126, z6127, e6124, b6128, p6129⟩ := p6122
    subst e6123
    subst e6124
    rcases p6129 with ⟨a6130, a6131, a6132, a6133⟩ | ⟨a6134, a6135, a6136⟩
    · show WL _ _ _ _ 1583 [(4, vI i), (3, .ref o), (2, .ref m), (1, .ref x), (0, .ref 0)] [vI z6127] _ H6121
      refine wl_of hX hb cL_1583 (rw_pop (pc' := 1584) rfl rfl ?_)
      refine wl_of hX hb cL_1584 (rw_goto (p1 := 1653) (by decide) ?_)
      have k6137 : wKI H6121 m = wKI H5977 m := (wKI_fr w5981 gm f6126 rfl)
      have k6138 : H6121 x 9 = H5977 x 9 := (f6126 x 9 _ gx rfl)
      have k6139 : H6121 m 6 = H5977 m 6 := (f6126 m 6 _ gm rfl)
      have k6140 : H6121 x 11 = H5977 x 11 := (f6126 x 11 _ gx rfl)
      have k6141 : H6121 m 13 = H5977 m 13 := (f6126 m 13 _ gm rfl)
      have k6142 : H6121 x 8 = H5977 x 8 := (f6126 x 8 _ gx rfl)
      have k6143 : H6121 m 3 = H5977 m 3 := (f6126 m 3 _ gm rfl)
      have k6144 : H6121 x 0 = H x 0 := ((f6126 x 0 _ gx rfl).trans (f5982 x 0 _ gx rfl))
      have q6145 : H6121 x 0 = (tc : Int) := k6144.trans e0
      have k6146 : H6121 m 5 = H m 5 := ((f6126 m 5 _ gm rfl).trans (f5982 m 5 _ gm rfl))
      have q6147 : H6121 m 5 = (tm : Int) := k6146.trans em
      have k6148 : H6121 x 6 = H x 6 := ((f6126 x 6 _ gx rfl).trans (f5982 x 6 _ gx rfl))
      have q6149 : H6121 x 6 = (cu : Int) := k6148.trans ecu
      have k6150 : H6121 x 7 = H x 7 := ((f6126 x 7 _ gx rfl).trans (f5982 x 7 _ gx rfl))
      have q6151 : H6121 x 7 = (dr : Int) := k6150.trans edr
      have h6152 : CEN T H6121 ce8 e8 d8 := (CEN_fr w5981 gce8 f6126 rfl (CEN_fr hW gce8 f5982 rfl hcen8))
      have h6153 : TP T H6121 tc B := (TP_fr w5981 gtc f6126 rfl (TP_fr hW gtc f5982 rfl htc))
      have h6154 : TM T H6121 tm B := (TM_fr w5981 gtm f6126 rfl (TM_fr hW gtm f5982 rfl htm))
      have h6155 : DD T H6121 cu  := (DD_fr w5981 gcu f6126 rfl (DD_fr hW gcu f5982 rfl hcu))
      have h6156 : DD T H6121 dr  := (DD_fr w5981 gdr f6126 rfl (DD_fr hW gdr f5982 rfl hdr))
      have h6157 : DE T H6121 cu  := (DE_fr w5981 gcu f6126 rfl (DE_fr hW gcu f5982 rfl hdec))
      have h6158 : DE T H6121 dr  := (DE_fr w5981 gdr f6126 rfl (DE_fr hW gdr f5982 rfl hded))
      have h6159 : SP T H6121 x C8 := (SP_fr w5981 gx f6126 rfl (SP_fr hW gx f5982 rfl hsp))
      have h6160 : CU T H6121 cu e8 d8 n8 := (CU_fr w5981 gcu f6126 rfl (CU_fr hW gcu f5982 rfl hcu8))
      have h6161 : CY T H6121 cu ((d8 0 3)) g8 ((H cu 17)) := (CY_fr w5981 gcu f6126 rfl a5993)
      have k6162 : H6121 x 3 = H x 3 := ((f6126 x 3 _ gx rfl).trans (f5982 x 3 _ gx rfl))
      have q6163 : H6121 x 3 = (ce8 : Int) := k6162.trans ece8
      have h6164 : HDR T H6121 ce8  := (HDR_fr w5981 gce8 f6126 rfl (HDR_fr hW gce8 f5982 rfl hhdr8))
      have h6165 : KNN T H6121 m e8 d8 := (KNN_fr w5981 gm f6126 rfl (KNN_fr hW gm f5982 rfl hknn8))
      exfalso
      omega
    · show WL _ _ _ _ 1583 [(4, vI i), (3, .ref o), (2, .ref m), (1, .ref x), (0, .ref 0)] [vI z6127] _ H6121
      refine wl_of hX hb cL_1583 (rw_pop (pc' := 1584) rfl rfl ?_)
      refine wl_of hX hb cL_1584 (rw_goto (p1 := 1653) (by decide) ?_)
      have k6166 : wKI H6121 m = wKI H5977 m := (wKI_fr w5981 gm f6126 rfl)
      have k6167 : H6121 x 9 = H5977 x 9 := (f6126 x 9 _ gx rfl)
      have k6168 : H6121 m 6 = H5977 m 6 := (f6126 m 6 _ gm rfl)
      have k6169 : H6121 x 11 = H5977 x 11 := (f6126 x 11 _ gx rfl)
      have k6170 : H6121 m 13 = H5977 m 13 := (f6126 m 13 _ gm rfl)
      have k6171 : H6121 x 8 = H5977 x 8 := (f6126 x 8 _ gx rfl)
      have k6172 : H6121 m 3 = H5977 m 3 := (f6126 m 3 _ gm rfl)
      have k6173 : H6121 x 0 = H x 0 := ((f6126 x 0 _ gx rfl).trans (f5982 x 0 _ gx rfl))
      have q6174 : H6121 x 0 = (tc : Int) := k6173.trans e0
      have k6175 : H6121 m 5 = H m 5 := ((f6126 m 5 _ gm rfl).trans (f5982 m 5 _ gm rfl))
      have q6176 : H6121 m 5 = (tm : Int) := k6175.trans em
      have k6177 : H6121 x 6 = H x 6 := ((f6126 x 6 _ gx rfl).trans (f5982 x 6 _ gx rfl))
      have q6178 : H6121 x 6 = (cu : Int) := k6177.trans ecu
      have k6179 : H6121 x 7 = H x 7 := ((f6126 x 7 _ gx rfl).trans (f5982 x 7 _ gx rfl))
      have q6180 : H6121 x 7 = (dr : Int) := k6179.trans edr
      have h6181 : CEN T H6121 ce8 e8 d8 := (CEN_fr w5981 gce8 f6126 rfl (CEN_fr hW gce8 f5982 rfl hcen8))
      have h6182 : TP T H6121 tc B := (TP_fr w5981 gtc f6126 rfl (TP_fr hW gtc f5982 rfl htc))
      have h6183 : TM T H6121 tm B := (TM_fr w5981 gtm f6126 rfl (TM_fr hW gtm f5982 rfl htm))
      have h6184 : DD T H6121 cu  := (DD_fr w5981 gcu f6126 rfl (DD_fr hW gcu f5982 rfl hcu))
      have h6185 : DD T H6121 dr  := (DD_fr w5981 gdr f6126 rfl (DD_fr hW gdr f5982 rfl hdr))
      have h6186 : DE T H6121 cu  := (DE_fr w5981 gcu f6126 rfl (DE_fr hW gcu f5982 rfl hdec))
      have h6187 : DE T H6121 dr  := (DE_fr w5981 gdr f6126 rfl (DE_fr hW gdr f5982 rfl hded))
      have h6188 : SP T H6121 x C8 := (SP_fr w5981 gx f6126 rfl (SP_fr hW gx f5982 rfl hsp))
      have h6189 : CU T H6121 cu e8 d8 n8 := (CU_fr w5981 gcu f6126 rfl (CU_fr hW gcu f5982 rfl hcu8))
      have h6190 : CY T H6121 cu ((d8 0 3)) g8 ((H cu 17)) := (CY_fr w5981 gcu f6126 rfl a5993)
      have k6191 : H6121 x 3 = H x 3 := ((f6126 x 3 _ gx rfl).trans (f5982 x 3 _ gx rfl))
      have q6192 : H6121 x 3 = (ce8 : Int) := k6191.trans ece8
      have h6193 : HDR T H6121 ce8  := (HDR_fr w5981 gce8 f6126 rfl (HDR_fr hW gce8 f5982 rfl hhdr8))
      have h6194 : KNN T H6121 m e8 d8 := (KNN_fr w5981 gm f6126 rfl (KNN_fr hW gm f5982 rfl hknn8))
      have h6195 : RB T H6121 m e8 d8 := (RB_fr w5981 gm f6126 rfl h6117)
      exact WL.loc hX (by simp) (next T H6121 ⟨⟨w6125, g0, gx, gm, go, by omega, by omega⟩, ⟨_, tc, tm, cu, dr, _, _, _, _, _, ce8, q6174, gtc, h6182, q6176, gtm, h6183, q6178, gcu, q6180, gdr, h6184, h6185, h6186, h6187, h6188, hC1, hC2, h6189, h6195, (h6190).1, (a6136).1, hE, hZ, (by omega), (by assumption), (by omega), (by first | assumption | exact SG_0), q6192, gce8, h6181, h6193, h6194, gm⟩, by omega, by omega⟩ (by omega) (by omega))
set_option maxHeartbeats 4000000 in
theorem wl_c47 {kt : Nat → Option mc_E} {CB SB : Nat} {X : mc_S → Prop} {T : wq_T} {H : wq_H} {Len x m o : Nat} {i : Int} (hX : wlX kt CB SB X) (hb : T.2.1 ≤ CB ∧ T.2.2.1 ≤ SB) (hI : wlJ Len x m o T H) (hL : Len ≤ 3072) (hi : 0 ≤ i ∧ i + 6 ≤ Len) (hb2 : T.2.1 + 20 ≤ CB ∧ T.2.2.1 + 500 ≤ SB) (hled : ∀ {z : Int}, wI z → T.2.1 ≤ CB ∧ T.2.2.1 ≤ SB → wlJ Len x m o T H → (∀ (z' : Int), wI z' → ∀ (T' : wq_T) (H' : wq_H), wlJ Len x m o T' H' → T'.2.1 ≤ T.2.1 + 20 → T'.2.2.1 ≤ T.2.2.1 + 500 → WL kt CB SB X 1598 (wlL i x m o) [vI z'] T' H') → WL kt CB SB X 1595 (wlL i x m o) [.ref o, vI z, .ref x] T H) (next : ∀ T' H', wlJ Len x m o T' H' → T'.2.1 ≤ T.2.1 + 20 → T'.2.2.1 ≤ T.2.2.1 + 500 → WL kt CB SB X 1653 (wlL i x m o) [] T' H') : WL kt CB SB X 1587 (wlL i x m o) [] T H := by
  obtain ⟨⟨hW, g0, gx, gm, go, hK, hr⟩, hXI, hY1, hY2⟩ := hI
  refine wl_of hX hb cL_1587 (rw_aload_n (pc' := 1588) (v := .ref x) rfl rfl rfl ?_)
  refine wl_of hX hb cL_1588 (rw_aload_n (pc' := 1589) (v := .ref 0) rfl rfl rfl ?_)
  refine wl_of hX hb cL_1589 (rw_iload (pc' := 1591) (z := i) rfl rfl ?_)
  refine wl_of hX hb cL_1591 (rw_iconst (pc' := 1592) rfl ?_)
  refine wl_of hX hb cL_1592 (rw_iadd (pc' := 1593) rfl ?_)
  refine wl_of hX hb cL_1593 (xa_I (so := 0) (pc' := 1594) (a := 0) hW g0 (wsh_s _) (by omega) (wty_s _ _) (by omega) (by omega) rfl (fun b6196 b6197 => ?_))
  refine wl_of hX hb cL_1594 (rw_aload_n (pc' := 1595) (v := .ref o) rfl rfl rfl ?_)
  refine hled ⟨by omega, by omega⟩ hb ⟨⟨hW, g0, gx, gm, go, by omega, by omega⟩, hXI, by omega, by omega⟩ (fun z9 b9 T9 H9 hI9 n9 s9 => ?_)
  obtain ⟨⟨w9, g0, gx, gm, go, hK, hr⟩, hXI, hY1, hY2⟩ := hI9
  have hb : T9.2.1 ≤ CB ∧ T9.2.2.1 ≤ SB := ⟨by omega, by omega⟩
  refine wl_of hX hb cL_1598 (rw_istore (pc' := 1600) (z := z9) (L' := [(5, vI z9), (4, vI i), (3, .ref o), (2, .ref m), (1, .ref x), (0, .ref 0)]) rfl rfl rfl ?_)
  refine wl_of hX hb cL_1600 (rw_aload_n (pc' := 1601) (v := .ref m) rfl rfl rfl ?_)
  refine wl_of hX hb cL_1601 (rw_aload_n (pc' := 1602) (v := .ref 0) rfl rfl rfl ?_)
  refine wl_of hX hb cL_1602 (rw_iload (pc' := 1604) (z := i) rfl rfl ?_)
  refine wl_of hX hb cL_1604 (rw_iconst (pc' := 1605) rfl ?_)
  refine wl_of hX hb cL_1605 (rw_iadd (pc' := 1606) rfl ?_)
  refine wl_of hX hb cL_1606 (xa_I (so := 0) (pc' := 1607) (a := 0) w9 g0 (wsh_s _) (by omega) (wty_s _ _) (by omega) (by omega) rfl (fun b6198 b6199 => ?_))
  refine wl_of hX hb cL_1607 (xc_V (pc' := 1610) (r := m) (as := [vI (H9 0 ((i + 1).toNat))]) (st := []) (lm_11_225) rfl rfl (Nat.le_of_ble_eq_true rfl) w9 gm sh_42 (by decide) rfl (by decide) (s_293 w9 gm ⟨by omega, by omega⟩ (by omega)) (fun R6200 T6201 H6202 p6203 => ?_))
  obtain ⟨e6204, w6206, f6207, z6209, e6205, b6210, p6208⟩ := p6203
  subst e6204
  subst e6205
  show WL _ _ _ _ 1610 [(5, vI z9), (4, vI i), (3, .ref o), (2, .ref m), (1, .ref x), (0, .ref 0)] [vI z6209] _ H6202
  refine wl_of hX hb cL_1610 (rw_istore (pc' := 1612) (z := z6209) (L' := [(6, vI z6209), (5, vI z9), (4, vI i), (3, .ref o), (2, .ref m), (1, .ref x), (0, .ref 0)]) rfl rfl rfl ?_)
  refine wl_of hX hb cL_1612 (rw_goto (p1 := 1653) (by decide) ?_)
  have k6211 : H6202 x 9 = H9 x 9 := (f6207 x 9 _ gx rfl)
  have k6212 : H6202 m 6 = H9 m 6 := (f6207 m 6 _ gm rfl)
  have k6213 : H6202 x 11 = H9 x 11 := (f6207 x 11 _ gx rfl)
  have k6214 : H6202 m 13 = H9 m 13 := (f6207 m 13 _ gm rfl)
  have k6215 : H6202 x 8 = H9 x 8 := (f6207 x 8 _ gx rfl)
  have k6216 : H6202 m 3 = H9 m 3 := (f6207 m 3 _ gm rfl)
  have h6217 : XI T9 H6202 x m := (XI_fr w9 gx f6207 rfl hXI)
  exact WL.loc hX (by simp) (next T9 H6202 ⟨⟨w6206, g0, gx, gm, go, by omega, by omega⟩, h6217, by omega, by omega⟩ (by omega) (by omega))
set_option maxHeartbeats 4000000 in
theorem wl_c48 {kt : Nat → Option mc_E} {CB SB : Nat} {X : mc_S → Prop} {T : wq_T} {H : wq_H} {Len x m o : Nat} {i : Int} (hX : wlX kt CB SB X) (hb : T.2.1 ≤ CB ∧ T.2.2.1 ≤ SB) (hI : wlJ Len x m o T H) (hL : Len ≤ 3072) (hi : 0 ≤ i ∧ i + 6 ≤ Len) (hb2 : T.2.1 + 20 ≤ CB ∧ T.2.2.1 + 500 ≤ SB)  (next : ∀ T' H', wlJ Len x m o T' H' → T'.2.1 ≤ T.2.1 + 20 → T'.2.2.1 ≤ T.2.2.1 + 500 → WL kt CB SB X 1653 (wlL i x m o) [] T' H') : WL kt CB SB X 1615 (wlL i x m o) [] T H := by
  obtain ⟨⟨hW, g0, gx, gm, go, hK, hr⟩, hXI, hY1, hY2⟩ := hI
  refine wl_of hX hb cL_1615 (rw_aload_n (pc' := 1616) (v := .ref x) rfl rfl rfl ?_)
  refine wl_of hX hb cL_1616 (rw_aload_n (pc' := 1617) (v := .ref 0) rfl rfl rfl ?_)
  refine wl_of hX hb cL_1617 (rw_iload (pc' := 1619) (z := i) rfl rfl ?_)
  refine wl_of hX hb cL_1619 (rw_iconst (pc' := 1620) rfl ?_)
  refine wl_of hX hb cL_1620 (rw_iadd (pc' := 1621) rfl ?_)
  refine wl_of hX hb cL_1621 (xa_I (so := 0) (pc' := 1622) (a := 0) hW g0 (wsh_s _) (by omega) (wty_s _ _) (by omega) (by omega) rfl (fun b6218 b6219 => ?_))
  refine wl_of hX hb cL_1622 (xc_V (pc' := 1625) (r := x) (as := [vI (H 0 ((i + 1).toNat))]) (st := []) (lm_11_226) rfl rfl (Nat.le_of_ble_eq_true rfl) hW gx sh_1 (by decide) rfl (by decide) (s_164 hW gx ⟨by omega, by omega⟩) (fun R6220 T6221 H6222 p6223 => ?_))
  obtain ⟨e6224, e6226, z6227, e6225, b6228⟩ := p6223
  subst e6224
  subst e6225
  subst e6226
  show WL _ _ _ _ 1625 [(4, vI i), (3, .ref o), (2, .ref m), (1, .ref x), (0, .ref 0)] [vI z6227] _ H
  refine wl_of hX hb cL_1625 (rw_pop (pc' := 1626) rfl rfl ?_)
  refine wl_of hX hb cL_1626 (rw_aload_n (pc' := 1627) (v := .ref m) rfl rfl rfl ?_)
  refine wl_of hX hb cL_1627 (rw_aload_n (pc' := 1628) (v := .ref 0) rfl rfl rfl ?_)
  refine wl_of hX hb cL_1628 (rw_iload (pc' := 1630) (z := i) rfl rfl ?_)
  refine wl_of hX hb cL_1630 (rw_iconst (pc' := 1631) rfl ?_)
  refine wl_of hX hb cL_1631 (rw_iadd (pc' := 1632) rfl ?_)
  refine wl_of hX hb cL_1632 (xa_I (so := 0) (pc' := 1633) (a := 0) hW g0 (wsh_s _) (by omega) (wty_s _ _) (by omega) (by omega) rfl (fun b6229 b6230 => ?_))
  refine wl_of hX hb cL_1633 (xc_V (pc' := 1636) (r := m) (as := [vI (H 0 ((i + 1).toNat))]) (st := []) (lm_11_229) rfl rfl (Nat.le_of_ble_eq_true rfl) hW gm sh_42 (by decide) rfl (by decide) (s_294 hW gm ⟨by omega, by omega⟩ (by omega)) (fun R6231 T6232 H6233 p6234 => ?_))
  obtain ⟨e6235, w6237, f6238, z6240, e6236, b6241, p6239⟩ := p6234
  subst e6235
  subst e6236
  show WL _ _ _ _ 1636 [(4, vI i), (3, .ref o), (2, .ref m), (1, .ref x), (0, .ref 0)] [vI z6240] _ H6233
  refine wl_of hX hb cL_1636 (rw_pop (pc' := 1637) rfl rfl ?_)
  refine wl_of hX hb cL_1637 (rw_goto (p1 := 1653) (by decide) ?_)
  have k6242 : H6233 x 9 = H x 9 := (f6238 x 9 _ gx rfl)
  have k6243 : H6233 m 6 = H m 6 := (f6238 m 6 _ gm rfl)
  have k6244 : H6233 x 11 = H x 11 := (f6238 x 11 _ gx rfl)
  have k6245 : H6233 m 13 = H m 13 := (f6238 m 13 _ gm rfl)
  have k6246 : H6233 x 8 = H x 8 := (f6238 x 8 _ gx rfl)
  have k6247 : H6233 m 3 = H m 3 := (f6238 m 3 _ gm rfl)
  have h6248 : XI T H6233 x m := (XI_fr hW gx f6238 rfl hXI)
  exact WL.loc hX (by simp) (next T H6233 ⟨⟨w6237, g0, gx, gm, go, by omega, by omega⟩, h6248, by omega, by omega⟩ (by omega) (by omega))
set_option maxHeartbeats 4000000 in
theorem wl_c49 {kt : Nat → Option mc_E} {CB SB : Nat} {X : mc_S → Prop} {T : wq_T} {H : wq_H} {Len x m o : Nat} {i : Int} (hX : wlX kt CB SB X) (hb : T.2.1 ≤ CB ∧ T.2.2.1 ≤ SB) (hI : wlJ Len x m o T H) (hL : Len ≤ 3072) (hi : 0 ≤ i ∧ i + 6 ≤ Len) (hb2 : T.2.1 + 20 ≤ CB ∧ T.2.2.1 + 500 ≤ SB)  (next : ∀ T' H', wlJ Len x m o T' H' → T'.2.1 ≤ T.2.1 + 20 → T'.2.2.1 ≤ T.2.2.1 + 500 → WL kt CB SB X 1653 (wlL i x m o) [] T' H') : WL kt CB SB X 1640 (wlL i x m o) [] T H := by
  obtain ⟨⟨hW, g0, gx, gm, go, hK, hr⟩, hXI, hY1, hY2⟩ := hI
  refine wl_of hX hb cL_1640 (rw_aload_n (pc' := 1641) (v := .ref x) rfl rfl rfl ?_)
  refine wl_of hX hb cL_1641 (xc_V (pc' := 1644) (r := x) (as := []) (st := []) (lm_11_230) rfl rfl (Nat.le_of_ble_eq_true rfl) hW gx sh_1 (by decide) rfl (by decide) (s_165 hW gx) (fun R6249 T6250 H6251 p6252 => ?_))
  obtain ⟨e6253, e6255, z6256, e6254, b6257⟩ := p6252
  subst e6253
  subst e6254
  subst e6255
  show WL _ _ _ _ 1644 [(4, vI i), (3, .ref o), (2, .ref m), (1, .ref x), (0, .ref 0)] [vI z6256] _ H
  refine wl_of hX hb cL_1644 (rw_pop (pc' := 1645) rfl rfl ?_)
  refine wl_of hX hb cL_1645 (rw_aload_n (pc' := 1646) (v := .ref m) rfl rfl rfl ?_)
  refine wl_of hX hb cL_1646 (xc_V (pc' := 1649) (r := m) (as := []) (st := []) (lm_11_233) rfl rfl (Nat.le_of_ble_eq_true rfl) hW gm sh_42 (by decide) rfl (by decide) (s_295 hW gm (by omega)) (fun R6258 T6259 H6260 p6261 => ?_))
  obtain ⟨e6262, w6264, f6265, z6267, e6263, b6268, p6266⟩ := p6261
  subst e6262
  subst e6263
  show WL _ _ _ _ 1649 [(4, vI i), (3, .ref o), (2, .ref m), (1, .ref x), (0, .ref 0)] [vI z6267] _ H6260
  refine wl_of hX hb cL_1649 (rw_pop (pc' := 1650) rfl rfl ?_)
  refine wl_of hX hb cL_1650 (rw_goto (p1 := 1653) (by decide) ?_)
  have k6269 : H6260 x 9 = H x 9 := (f6265 x 9 _ gx rfl)
  have k6270 : H6260 m 6 = H m 6 := (f6265 m 6 _ gm rfl)
  have k6271 : H6260 x 11 = H x 11 := (f6265 x 11 _ gx rfl)
  have k6272 : H6260 m 13 = H m 13 := (f6265 m 13 _ gm rfl)
  have k6273 : H6260 x 8 = H x 8 := (f6265 x 8 _ gx rfl)
  have k6274 : H6260 m 3 = H m 3 := (f6265 m 3 _ gm rfl)
  have h6275 : XI T H6260 x m := (XI_fr hW gx f6265 rfl hXI)
  exact WL.loc hX (by simp) (next T H6260 ⟨⟨w6264, g0, gx, gm, go, by omega, by omega⟩, h6275, by omega, by omega⟩ (by omega) (by omega))
set_option maxHeartbeats 4000000 in
theorem wl_head {kt : Nat → Option mc_E} {CB SB : Nat} {X : mc_S → Prop} {T : wq_T} {H : wq_H} {Len x m o : Nat} {i : Int} (hX : wlX kt CB SB X) (hb : T.2.1 ≤ CB ∧ T.2.2.1 ≤ SB) (hI : wlJ Len x m o T H) (hL : Len ≤ 3072) (hi : 0 ≤ i ∧ i ≤ Len) (cases : ∀ t, t ∈ [256, 329, 354, 367, 380, 405, 454, 503, 516, 553, 578, 603, 616, 629, 642, 655, 668, 705, 718, 755, 792, 829, 882, 919, 944, 957, 994, 1019, 1056, 1109, 1162, 1175, 1200, 1225, 1250, 1263, 1316, 1329, 1342, 1367, 1404, 1429, 1454, 1467, 1504, 1517, 1530, 1587, 1615, 1640] → i + 6 ≤ Len → WL kt CB SB X t (wlL i x m o) [] T H) (next : i + 6 ≤ Len → WL kt CB SB X 1653 (wlL i x m o) [] T H) : WL kt CB SB X 23 (wlL i x m o) [] T H := by
  obtain ⟨⟨hW, g0, gx, gm, go, hK, hr⟩, hXI, hY1, hY2⟩ := hI
  refine wl_of hX hb cL_23 (rw_iload (pc' := 25) (z := i) rfl rfl ?_)
  refine wl_of hX hb cL_25 (rw_aload_n (pc' := 26) (v := .ref 0) rfl rfl rfl ?_)
  refine wl_of hX hb cL_26 (xa_N (pc' := 27) (a := 0) (n := Len) hW g0 (wsh_s _) (by decide) rfl ?_)
  refine wl_of hX hb cL_27 (rw_bipush (pc' := 29) (z := 6) rfl (by decide) ?_)
  refine wl_of hX hb cL_29 (rw_isub (pc' := 30) rfl ?_)
  refine wl_of hX hb cL_30 (rw_icmp_gt (p1 := 1659) (p2 := 33) (by decide) rfl ⟨by omega, by omega⟩ ⟨by omega, by omega⟩ (fun c6276 => ?_) (fun c6276 => ?_))
  · refine wl_of hX hb cL_1659 (rw_iconst (pc' := 1660) rfl ?_)
    exact WL.fin hX hb
  · refine wl_of hX hb cL_33 (rw_aload_n (pc' := 34) (v := .ref 0) rfl rfl rfl ?_)
    refine wl_of hX hb cL_34 (rw_iload (pc' := 36) (z := i) rfl rfl ?_)
    refine wl_of hX hb cL_36 (xa_I (so := 0) (pc' := 37) (a := 0) hW g0 (wsh_s _) (by omega) (wty_s _ _) (by omega) (by omega) rfl (fun b6277 b6278 => ?_))
    refine wl_of hX hb cL_37 (rw_bipush (pc' := 39) (z := 63) rfl (by decide) ?_)
    refine wl_of hX hb cL_39 (rw_iand (pc' := 40) rfl ?_)
    obtain ⟨v6279, e6280⟩ : ∃ x : Int, x = wq_and (H 0 (i.toNat)) 63 := ⟨_, rfl⟩
    rw [← e6280]
    have b6281 : 0 ≤ v6279 ∧ v6279 ≤ 63 := by
      rw [e6280]
      exact wq_and_b _ (by omega) (by omega)
    have c6282 : v6279 = 0 ∨ v6279 = 1 ∨ v6279 = 2 ∨ v6279 = 3 ∨ v6279 = 4 ∨ v6279 = 5 ∨ v6279 = 6 ∨ v6279 = 7 ∨ v6279 = 8 ∨ v6279 = 9 ∨ v6279 = 10 ∨ v6279 = 11 ∨ v6279 = 12 ∨ v6279 = 13 ∨ v6279 = 14 ∨ v6279 = 15 ∨ v6279 = 16 ∨ v6279 = 17 ∨ v6279 = 18 ∨ v6279 = 19 ∨ v6279 = 20 ∨ v6279 = 21 ∨ v6279 = 22 ∨ v6279 = 23 ∨ v6279 = 24 ∨ v6279 = 25 ∨ v6279 = 26 ∨ v6279 = 27 ∨ v6279 = 28 ∨ v6279 = 29 ∨ v6279 = 30 ∨ v6279 = 31 ∨ v6279 = 32 ∨ v6279 = 33 ∨ v6279 = 34 ∨ v6279 = 35 ∨ v6279 = 36 ∨ v6279 = 37 ∨ v6279 = 38 ∨ v6279 = 39 ∨ v6279 = 40 ∨ v6279 = 41 ∨ v6279 = 42 ∨ v6279 = 43 ∨ v6279 = 44 ∨ v6279 = 45 ∨ v6279 = 46 ∨ v6279 = 47 ∨ v6279 = 48 ∨ v6279 = 49 ∨ (v6279 < 0 ∨ 49 < v6279) := by omega
    rcases c6282 with c6282 | c6282 | c6282 | c6282 | c6282 | c6282 | c6282 | c6282 | c6282 | c6282 | c6282 | c6282 | c6282 | c6282 | c6282 | c6282 | c6282 | c6282 | c6282 | c6282 | c6282 | c6282 | c6282 | c6282 | c6282 | c6282 | c6282 | c6282 | c6282 | c6282 | c6282 | c6282 | c6282 | c6282 | c6282 | c6282 | c6282 | c6282 | c6282 | c6282 | c6282 | c6282 | c6282 | c6282 | c6282 | c6282 | c6282 | c6282 | c6282 | c6282 | c6282
    · refine wl_of hX hb cL_40 (rw_tsw (p1 := 256) ⟨by omega, by omega⟩ (by rw [c6282]; decide) ?_)
      exact cases 256 (by decide) (by omega)
    · refine wl_of hX hb cL_40 (rw_tsw (p1 := 329) ⟨by omega, by omega⟩ (by rw [c6282]; decide) ?_)
      exact cases 329 (by decide) (by omega)
    · refine wl_of hX hb cL_40 (rw_tsw (p1 := 354) ⟨by omega, by omega⟩ (by rw [c6282]; decide) ?_)
      exact cases 354 (by decide) (by omega)
    · refine wl_of hX hb cL_40 (rw_tsw (p1 := 367) ⟨by omega, by omega⟩ (by rw [c6282]; decide) ?_)
      exact cases 367 (by decide) (by omega)
    · refine wl_of hX hb cL_40 (rw_tsw (p1 := 380) ⟨by omega, by omega⟩ (by rw [c6282]; decide) ?_)
      exact cases 380 (by decide) (by omega)
    · refine wl_of hX hb cL_40 (rw_tsw (p1 := 405) ⟨by omega, by omega⟩ (by rw [c6282]; decide) ?_)
      exact cases 405 (by decide) (by omega)
    · refine wl_of hX hb cL_40 (rw_tsw (p1 := 454) ⟨by omega, by omega⟩ (by rw [c6282]; decide) ?_)
      exact cases 454 (by decide) (by omega)
    · refine wl_of hX hb cL_40 (rw_tsw (p1 := 503) ⟨by omega, by omega⟩ (by rw [c6282]; decide) ?_)
      exact cases 503 (by decide) (by omega)
    · refine wl_of hX hb cL_40 (rw_tsw (p1 := 516) ⟨by omega, by omega⟩ (by rw [c6282]; decide) ?_)
      exact cases 516 (by decide) (by omega)
    · refine wl_of hX hb cL_40 (rw_tsw (p1 := 553) ⟨by omega, by omega⟩ (by rw [c6282]; decide) ?_)
      exact cases 553 (by decide) (by omega)
    · refine wl_of hX hb cL_40 (rw_tsw (p1 := 578) ⟨by omega, by omega⟩ (by rw [c6282]; decide) ?_)
      exact cases 578 (by decide) (by omega)
    · refine wl_of hX hb cL_40 (rw_tsw (p1 := 603) ⟨by omega, by omega⟩ (by rw [c6282]; decide) ?_)
      exact cases 603 (by decide) (by omega)
    · refine wl_of hX hb cL_40 (rw_tsw (p1 := 616) ⟨by omega, by omega⟩ (by rw [c6282]; decide) ?_)
      exact cases 616 (by decide) (by omega)
    · refine wl_of hX hb cL_40 (rw_tsw (p1 := 629) ⟨by omega, by omega⟩ (by rw [c6282]; decide) ?_)
      exact cases 629 (by decide) (by omega)
    · refine wl_of hX hb cL_40 (rw_tsw (p1 := 642) ⟨by omega, by omega⟩ (by rw [c6282]; decide) ?_)
      exact cases 642 (by decide) (by omega)
    · refine wl_of hX hb cL_40 (rw_tsw (p1 := 655) ⟨by omega, by omega⟩ (by rw [c6282]; decide) ?_)
      exact cases 655 (by decide) (by omega)
    · refine wl_of hX hb cL_40 (rw_tsw (p1 := 668) ⟨by omega, by omega⟩ (by rw [c6282]; decide) ?_)
      exact cases 668 (by decide) (by omega)
    · refine wl_of hX hb cL_40 (rw_tsw (p1 := 705) ⟨by omega, by omega⟩ (by rw [c6282]; decide) ?_)
      exact cases 705 (by decide) (by omega)
    · refine wl_of hX hb cL_40 (rw_tsw (p1 := 718) ⟨by omega, by omega⟩ (by rw [c6282]; decide) ?_)
      exact cases 718 (by decide) (by omega)
    · refine wl_of hX hb cL_40 (rw_tsw (p1 := 755) ⟨by omega, by omega⟩ (by rw [c6282]; decide) ?_)
      exact cases 755 (by decide) (by omega)
    · refine wl_of hX hb cL_40 (rw_tsw (p1 := 792) ⟨by omega, by omega⟩ (by rw [c6282]; decide) ?_)
      exact cases 792 (by decide) (by omega)
    · refine wl_of hX hb cL_40 (rw_tsw (p1 := 829) ⟨by omega, by omega⟩ (by rw [c6282]; decide) ?_)
      exact cases 829 (by decide) (by omega)
    · refine wl_of hX hb cL_40 (rw_tsw (p1 := 882) ⟨by omega, by omega⟩ (by rw [c6282]; decide) ?_)
      exact cases 882 (by decide) (by omega)
    · refine wl_of hX hb cL_40 (rw_tsw (p1 := 919) ⟨by omega, by omega⟩ (by rw [c6282]; decide) ?_)
      exact cases 919 (by decide) (by omega)
    · refine wl_of hX hb cL_40 (rw_tsw (p1 := 944) ⟨by omega, by omega⟩ (by rw [c6282]; decide) ?_)
      exact cases 944 (by decide) (by omega)
    · refine wl_of hX hb cL_40 (rw_tsw (p1 := 957) ⟨by omega, by omega⟩ (by rw [c6282]; decide) ?_)
      exact cases 957 (by decide) (by omega)
    · refine wl_of hX hb cL_40 (rw_tsw (p1 := 994) ⟨by omega, by omega⟩ (by rw [c6282]; decide) ?_)
      exact cases 994 (by decide) (by omega)
    · refine wl_of hX hb cL_40 (rw_tsw (p1 := 1019) ⟨by omega, by omega⟩ (by rw [c6282]; decide) ?_)
      exact cases 1019 (by decide) (by omega)
    · refine wl_of hX hb cL_40 (rw_tsw (p1 := 1056) ⟨by omega, by omega⟩ (by rw [c6282]; decide) ?_)
      exact cases 1056 (by decide) (by omega)
    · refine wl_of hX hb cL_40 (rw_tsw (p1 := 1109) ⟨by omega, by omega⟩ (by rw [c6282]; decide) ?_)
      exact cases 1109 (by decide) (by omega)
    · refine wl_of hX hb cL_40 (rw_tsw (p1 := 1162) ⟨by omega, by omega⟩ (by rw [c6282]; decide) ?_)
      exact cases 1162 (by decide) (by omega)
    · refine wl_of hX hb cL_40 (rw_tsw (p1 := 1175) ⟨by omega, by omega⟩ (by rw [c6282]; decide) ?_)
      exact cases 1175 (by decide) (by omega)
    · refine wl_of hX hb cL_40 (rw_tsw (p1 := 1200) ⟨by omega, by omega⟩ (by rw [c6282]; decide) ?_)
      exact cases 1200 (by decide) (by omega)
    · refine wl_of hX hb cL_40 (rw_tsw (p1 := 1225) ⟨by omega, by omega⟩ (by rw [c6282]; decide) ?_)
      exact cases 1225 (by decide) (by omega)
    · refine wl_of hX hb cL_40 (rw_tsw (p1 := 1250) ⟨by omega, by omega⟩ (by rw [c6282]; decide) ?_)
      exact cases 1250 (by decide) (by omega)
    · refine wl_of hX hb cL_40 (rw_tsw (p1 := 1263) ⟨by omega, by omega⟩ (by rw [c6282]; decide) ?_)
      exact cases 1263 (by decide) (by omega)
    · refine wl_of hX hb cL_40 (rw_tsw (p1 := 1316) ⟨by omega, by omega⟩ (by rw [c6282]; decide) ?_)
      exact cases 1316 (by decide) (by omega)
    · refine wl_of hX hb cL_40 (rw_tsw (p1 := 1329) ⟨by omega, by omega⟩ (by rw [c6282]; decide) ?_)
      exact cases 1329 (by decide) (by omega)
    · refine wl_of hX hb cL_40 (rw_tsw (p1 := 1342) ⟨by omega, by omega⟩ (by rw [c6282]; decide) ?_)
      exact cases 1342 (by decide) (by omega)
    · refine wl_of hX hb cL_40 (rw_tsw (p1 := 1367) ⟨by omega, by omega⟩ (by rw [c6282]; decide) ?_)
      exact cases 1367 (by decide) (by omega)
    · refine wl_of hX hb cL_40 (rw_tsw (p1 := 1404) ⟨by omega, by omega⟩ (by rw [c6282]; decide) ?_)
      exact cases 1404 (by decide) (by omega)
    · refine wl_of hX hb cL_40 (rw_tsw (p1 := 1429) ⟨by omega, by omega⟩ (by rw [c6282]; decide) ?_)
      exact cases 1429 (by decide) (by omega)
    · refine wl_of hX hb cL_40 (rw_tsw (p1 := 1454) ⟨by omega, by omega⟩ (by rw [c6282]; decide) ?_)
      exact cases 1454 (by decide) (by omega)
    · refine wl_of hX hb cL_40 (rw_tsw (p1 := 1467) ⟨by omega, by omega⟩ (by rw [c6282]; decide) ?_)
      exact cases 1467 (by decide) (by omega)
    · refine wl_of hX hb cL_40 (rw_tsw (p1 := 1504) ⟨by omega, by omega⟩ (by rw [c6282]; decide) ?_)
      exact cases 1504 (by decide) (by omega)
    · refine wl_of hX hb cL_40 (rw_tsw (p1 := 1517) ⟨by omega, by omega⟩ (by rw [c6282]; decide) ?_)
      exact cases 1517 (by decide) (by omega)
    · refine wl_of hX hb cL_40 (rw_tsw (p1 := 1530) ⟨by omega, by omega⟩ (by rw [c6282]; decide) ?_)
      exact cases 1530 (by decide) (by omega)
    · refine wl_of hX hb cL_40 (rw_tsw (p1 := 1587) ⟨by omega, by omega⟩ (by rw [c6282]; decide) ?_)
      exact cases 1587 (by decide) (by omega)
    · refine wl_of hX hb cL_40 (rw_tsw (p1 := 1615) ⟨by omega, by omega⟩ (by rw [c6282]; decide) ?_)
      exact cases 1615 (by decide) (by omega)
    · refine wl_of hX hb cL_40 (rw_tsw (p1 := 1640) ⟨by omega, by omega⟩ (by rw [c6282]; decide) ?_)
      exact cases 1640 (by decide) (by omega)
    · refine wl_of hX hb cL_40 (rw_tsw (p1 := 1653) ⟨by omega, by omega⟩ (by rw [if_pos c6282]; decide) ?_)
      exact next (by omega)
theorem wl_back {kt : Nat → Option mc_E} {CB SB : Nat} {X : mc_S → Prop} {T : wq_T} {H : wq_H} {Len x m o : Nat} {i : Int} (hX : wlX kt CB SB X) (hb : T.2.1 ≤ CB ∧ T.2.2.1 ≤ SB) (hI : wlJ Len x m o T H) (hL : Len ≤ 3072) (hi : 0 ≤ i ∧ i + 6 ≤ Len) (next : WL kt CB SB X 23 (wlL (i + 6) x m o) [] T H) : WL kt CB SB X 1653 (wlL i x m o) [] T H := by
  obtain ⟨⟨hW, g0, gx, gm, go, hK, hr⟩, hXI, hY1, hY2⟩ := hI
  refine wl_of hX hb cL_1653 (rw_iinc (pc' := 1656) (z := i) (L' := [(4, vI (i + 6)), (3, .ref o), (2, .ref m), (1, .ref x), (0, .ref 0)]) rfl rfl rfl rfl ?_)
  refine wl_of hX hb cL_1656 (rw_goto (p1 := 23) (by decide) ?_)
  exact next
/-- the call that may throw, as the loop wants it -/
def wlLed (kt : Nat → Option mc_E) (CB SB : Nat) (X : mc_S → Prop) (Len x m o : Nat) : Prop := ∀ (T : wq_T) (H : wq_H) (i z : Int), T.2.1 + 20 ≤ CB ∧ T.2.2.1 + 500 ≤ SB → wI z → wlJ Len x m o T H → (∀ (z' : Int), wI z' → ∀ (T' : wq_T) (H' : wq_H), wlJ Len x m o T' H' → T'.2.1 ≤ T.2.1 + 20 → T'.2.2.1 ≤ T.2.2.1 + 500 → WL kt CB SB X 1598 (wlL i x m o) [vI z'] T' H') → WL kt CB SB X 1595 (wlL i x m o) [.ref o, vI z, .ref x] T H
set_option maxRecDepth 40000 in
theorem wl_loopL {kt : Nat → Option mc_E} {CB SB : Nat} {X : mc_S → Prop} {Len x m o : Nat} (hX : wlX kt CB SB X) (hL : Len ≤ 3072) (hled : wlLed kt CB SB X Len x m o) : ∀ (n : Nat) (T : wq_T) (H : wq_H) (i : Int), 0 ≤ i ∧ i ≤ Len → (Len - i).toNat = n → T.2.1 + 4 * (n + 6) ≤ CB → T.2.2.1 + 100 * (n + 6) ≤ SB → wlJ Len x m o T H → WL kt CB SB X 23 (wlL i x m o) [] T H := by
  intro n
  induction n using Nat.strongRecOn with
  | _ n ih =>
    intro T H i hi hn hc hs hI
    have hb : T.2.1 ≤ CB ∧ T.2.2.1 ≤ SB := ⟨by omega, by omega⟩
    have hb2 : T.2.1 + 20 ≤ CB ∧ T.2.2.1 + 500 ≤ SB := ⟨by omega, by omega⟩
    refine wl_head hX hb hI hL hi (fun t ht h6 => ?_) (fun h6 => wl_back hX hb hI hL ⟨hi.1, h6⟩ (ih (Len - (i + 6)).toNat (by omega) T H (i + 6) ⟨by omega, by omega⟩ rfl (by omega) (by omega) hI))
    have next : ∀ T' H', wlJ Len x m o T' H' → T'.2.1 ≤ T.2.1 + 20 → T'.2.2.1 ≤ T.2.2.1 + 500 → WL kt CB SB X 1653 (wlL i x m o) [] T' H' := fun T' H' hI' h1 h2 => wl_back hX ⟨by omega, by omega⟩ hI' hL ⟨hi.1, h6⟩ (ih (Len - (i + 6)).toNat (by omega) T' H' (i + 6) ⟨by omega, by omega⟩ rfl (by omega) (by omega) hI')
    rcases List.mem_cons.mp ht with rfl | ht
    · exact wl_c0 hX hb hI hL ⟨hi.1, h6⟩ hb2 next
    rcases List.mem_cons.mp ht with rfl | ht
    · exact wl_c1 hX hb hI hL ⟨hi.1, h6⟩ hb2 next
    rcases List.mem_cons.mp ht with rfl | ht
    · exact wl_c2 hX hb hI hL ⟨hi.1, h6⟩ hb2 next
    rcases List.mem_cons.mp ht with rfl | ht
    · exact wl_c3 hX hb hI hL ⟨hi.1, h6⟩ hb2 next
    rcases List.mem_cons.mp ht with rfl | ht
    · exact wl_c4 hX hb hI hL ⟨hi.1, h6⟩ hb2 next
    rcases List.mem_cons.mp ht with rfl | ht
    · exact wl_c5 hX hb hI hL ⟨hi.1, h6⟩ hb2 next
    rcases List.mem_cons.mp ht with rfl | ht
    · exact wl_c6 hX hb hI hL ⟨hi.1, h6⟩ hb2 next
    rcases List.mem_cons.mp ht with rfl | ht
    · exact wl_c7 hX hb hI hL ⟨hi.1, h6⟩ hb2 next
    rcases List.mem_cons.mp ht with rfl | ht
    · exact wl_c8 hX hb hI hL ⟨hi.1, h6⟩ hb2 next
    rcases List.mem_cons.mp ht with rfl | ht
    · exact wl_c9 hX hb hI hL ⟨hi.1, h6⟩ hb2 next
    rcases List.mem_cons.mp ht with rfl | ht
    · exact wl_c10 hX hb hI hL ⟨hi.1, h6⟩ hb2 next
    rcases List.mem_cons.mp ht with rfl | ht
    · exact wl_c11 hX hb hI hL ⟨hi.1, h6⟩ hb2 next
    rcases List.mem_cons.mp ht with rfl | ht
    · exact wl_c12 hX hb hI hL ⟨hi.1, h6⟩ hb2 next
    rcases List.mem_cons.mp ht with rfl | ht
    · exact wl_c13 hX hb hI hL ⟨hi.1, h6⟩ hb2 next
    rcases List.mem_cons.mp ht with rfl | ht
    · exact wl_c14 hX hb hI hL ⟨hi.1, h6⟩ hb2 next
    rcases List.mem_cons.mp ht with rfl | ht
    · exact wl_c15 hX hb hI hL ⟨hi.1, h6⟩ hb2 next
    rcases List.mem_cons.mp ht with rfl | ht
    · exact wl_c16 hX hb hI hL ⟨hi.1, h6⟩ hb2 next
    rcases List.mem_cons.mp ht with rfl | ht
    · exact wl_c17 hX hb hI hL ⟨hi.1, h6⟩ hb2 next
    rcases List.mem_cons.mp ht with rfl | ht
    · exact wl_c18 hX hb hI hL ⟨hi.1, h6⟩ hb2 next
    rcases List.mem_cons.mp ht with rfl | ht
    · exact wl_c19 hX hb hI hL ⟨hi.1, h6⟩ hb2 next
    rcases List.mem_cons.mp ht with rfl | ht
    · exact wl_c20 hX hb hI hL ⟨hi.1, h6⟩ hb2 next
    rcases List.mem_cons.mp ht with rfl | ht
    · exact wl_c21 hX hb hI hL ⟨hi.1, h6⟩ hb2 next
    rcases List.mem_cons.mp ht with rfl | ht
    · exact wl_c22 hX hb hI hL ⟨hi.1, h6⟩ hb2 next
    rcases List.mem_cons.mp ht with rfl | ht
    · exact wl_c23 hX hb hI hL ⟨hi.1, h6⟩ hb2 next
    rcases List.mem_cons.mp ht with rfl | ht
    · exact wl_c24 hX hb hI hL ⟨hi.1, h6⟩ hb2 next
    rcases List.mem_cons.mp ht with rfl | ht
    · exact wl_c25 hX hb hI hL ⟨hi.1, h6⟩ hb2 next
    rcases List.mem_cons.mp ht with rfl | ht
    · exact wl_c26 hX hb hI hL ⟨hi.1, h6⟩ hb2 next
    rcases List.mem_cons.mp ht with rfl | ht
    · exact wl_c27 hX hb hI hL ⟨hi.1, h6⟩ hb2 next
    rcases List.mem_cons.mp ht with rfl | ht
    · exact wl_c28 hX hb hI hL ⟨hi.1, h6⟩ hb2 next
    rcases List.mem_cons.mp ht with rfl | ht
    · exact wl_c29 hX hb hI hL ⟨hi.1, h6⟩ hb2 next
    rcases List.mem_cons.mp ht with rfl | ht
    · exact wl_c30 hX hb hI hL ⟨hi.1, h6⟩ hb2 next
    rcases List.mem_cons.mp ht with rfl | ht
    · exact wl_c31 hX hb hI hL ⟨hi.1, h6⟩ hb2 next
    rcases List.mem_cons.mp ht with rfl | ht
    · exact wl_c32 hX hb hI hL ⟨hi.1, h6⟩ hb2 next
    rcases List.mem_cons.mp ht with rfl | ht
    · exact wl_c33 hX hb hI hL ⟨hi.1, h6⟩ hb2 next
    rcases List.mem_cons.mp ht with rfl | ht
    · exact wl_c34 hX hb hI hL ⟨hi.1, h6⟩ hb2 next
    rcases List.mem_cons.mp ht with rfl | ht
    · exact wl_c35 hX hb hI hL ⟨hi.1, h6⟩ hb2 next
    rcases List.mem_cons.mp ht with rfl | ht
    · exact wl_c36 hX hb hI hL ⟨hi.1, h6⟩ hb2 next
    rcases List.mem_cons.mp ht with rfl | ht
    · exact wl_c37 hX hb hI hL ⟨hi.1, h6⟩ hb2 next
    rcases List.mem_cons.mp ht with rfl | ht
    · exact wl_c38 hX hb hI hL ⟨hi.1, h6⟩ hb2 next
    rcases List.mem_cons.mp ht with rfl | ht
    · exact wl_c39 hX hb hI hL ⟨hi.1, h6⟩ hb2 next
    rcases List.mem_cons.mp ht with rfl | ht
    · exact wl_c40 hX hb hI hL ⟨hi.1, h6⟩ hb2 next
    rcases List.mem_cons.mp ht with rfl | ht
    · exact wl_c41 hX hb hI hL ⟨hi.1, h6⟩ hb2 next
    rcases List.mem_cons.mp ht with rfl | ht
    · exact wl_c42 hX hb hI hL ⟨hi.1, h6⟩ hb2 next
    rcases List.mem_cons.mp ht with rfl | ht
    · exact wl_c43 hX hb hI hL ⟨hi.1, h6⟩ hb2 next
    rcases List.mem_cons.mp ht with rfl | ht
    · exact wl_c44 hX hb hI hL ⟨hi.1, h6⟩ hb2 next
    rcases List.mem_cons.mp ht with rfl | ht
    · exact wl_c45 hX hb hI hL ⟨hi.1, h6⟩ hb2 next
    rcases List.mem_cons.mp ht with rfl | ht
    · exact wl_c46 hX hb hI hL ⟨hi.1, h6⟩ hb2 next
    rcases List.mem_cons.mp ht with rfl | ht
    · exact wl_c47 hX hb hI hL ⟨hi.1, h6⟩ hb2 (fun hz _ hI2 k => hled T H i _ hb2 hz hI2 k) next
    rcases List.mem_cons.mp ht with rfl | ht
    · exact wl_c48 hX hb hI hL ⟨hi.1, h6⟩ hb2 next
    rcases List.mem_cons.mp ht with rfl | ht
    · exact wl_c49 hX hb hI hL ⟨hi.1, h6⟩ hb2 next
    cases ht
