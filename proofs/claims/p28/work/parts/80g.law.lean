/-! THE LAW, GONE ON WITH (own work) -/
set_option maxHeartbeats 4000000 in
theorem wl_c43 {kt : Nat → Option mc_E} {CB SB : Nat} {X : mc_S → Prop} {T : wq_T} {H : wq_H} {Len x m o : Nat} {i : Int} (hX : wlX kt CB SB X) (hb : T.2.1 ≤ CB ∧ T.2.2.1 ≤ SB) (hI : wlJ Len x m o T H) (hL : Len ≤ 3072) (hi : 0 ≤ i ∧ i + 6 ≤ Len) (hb2 : T.2.1 + 20 ≤ CB ∧ T.2.2.1 + 500 ≤ SB)  (next : ∀ T' H', wlJ Len x m o T' H' → T'.2.1 ≤ T.2.1 + 20 → T'.2.2.1 ≤ T.2.2.1 + 500 → WL kt CB SB X 1654 (wlL i x m o) [] T' H') : WL kt CB SB X 1468 (wlL i x m o) [] T H := by
  obtain ⟨⟨hW, g0, gx, gm, go, hK, hr⟩, hXI, hY1, hY2⟩ := hI
  refine wl_of hX hb cL_1468 (rw_aload_n (pc' := 1469) (v := .ref x) rfl rfl rfl ?_)
  refine wl_of hX hb cL_1469 (rw_aload_n (pc' := 1470) (v := .ref 0) rfl rfl rfl ?_)
  refine wl_of hX hb cL_1470 (rw_iload (pc' := 1472) (z := i) rfl rfl ?_)
  refine wl_of hX hb cL_1472 (rw_iconst (pc' := 1473) rfl ?_)
  refine wl_of hX hb cL_1473 (rw_iadd (pc' := 1474) rfl ?_)
  refine wl_of hX hb cL_1474 (xa_I (so := 0) (pc' := 1475) (a := 0) hW g0 (wsh_s _) (by omega) (wty_s _ _) (by omega) (by omega) rfl (fun b5845 b5846 => ?_))
  refine wl_of hX hb cL_1475 (rw_aload_n (pc' := 1476) (v := .ref 0) rfl rfl rfl ?_)
  refine wl_of hX hb cL_1476 (rw_iload (pc' := 1478) (z := i) rfl rfl ?_)
  refine wl_of hX hb cL_1478 (rw_iconst (pc' := 1479) rfl ?_)
  refine wl_of hX hb cL_1479 (rw_iadd (pc' := 1480) rfl ?_)
  refine wl_of hX hb cL_1480 (xa_I (so := 0) (pc' := 1481) (a := 0) hW g0 (wsh_s _) (by omega) (wty_s _ _) (by omega) (by omega) rfl (fun b5847 b5848 => ?_))
  refine wl_of hX hb cL_1481 (xc_V (pc' := 1484) (r := x) (as := [vI (H 0 ((i + 1).toNat)), vI (H 0 ((i + 2).toNat))]) (st := []) (lm_11_200) rfl rfl (Nat.le_of_ble_eq_true rfl) hW gx sh_1 (by decide) rfl (by decide) (s_157 hW gx ⟨by omega, by omega⟩ ⟨by omega, by omega⟩) (fun R5849 T5850 H5851 p5852 => ?_))
  obtain ⟨e5853, w5855, f5856, z5857, e5854, b5858⟩ := p5852
  subst e5853
  subst e5854
  show WL _ _ _ _ 1484 [(4, vI i), (3, .ref o), (2, .ref m), (1, .ref x), (0, .ref 0)] [vI z5857] _ H5851
  refine wl_of hX hb cL_1484 (rw_pop (pc' := 1485) rfl rfl ?_)
  refine wl_of hX hb cL_1485 (rw_aload_n (pc' := 1486) (v := .ref m) rfl rfl rfl ?_)
  refine wl_of hX hb cL_1486 (rw_aload_n (pc' := 1487) (v := .ref 0) rfl rfl rfl ?_)
  refine wl_of hX hb cL_1487 (rw_iload (pc' := 1489) (z := i) rfl rfl ?_)
  refine wl_of hX hb cL_1489 (rw_iconst (pc' := 1490) rfl ?_)
  refine wl_of hX hb cL_1490 (rw_iadd (pc' := 1491) rfl ?_)
  have k5861 : H5851 0 ((i + 1).toNat) = H 0 ((i + 1).toNat) := (f5856 0 ((i + 1).toNat) _ g0 (wmem_s rfl))
  refine wl_of hX hb cL_1491 (xa_I (so := 0) (pc' := 1492) (a := 0) w5855 g0 (wsh_s _) (by omega) (wty_s _ _) (by omega) (by omega) rfl (fun b5859 b5860 => ?_))
  refine wl_of hX hb cL_1492 (rw_aload_n (pc' := 1493) (v := .ref 0) rfl rfl rfl ?_)
  refine wl_of hX hb cL_1493 (rw_iload (pc' := 1495) (z := i) rfl rfl ?_)
  refine wl_of hX hb cL_1495 (rw_iconst (pc' := 1496) rfl ?_)
  refine wl_of hX hb cL_1496 (rw_iadd (pc' := 1497) rfl ?_)
  have k5864 : H5851 0 ((i + 2).toNat) = H 0 ((i + 2).toNat) := (f5856 0 ((i + 2).toNat) _ g0 (wmem_s rfl))
  refine wl_of hX hb cL_1497 (xa_I (so := 0) (pc' := 1498) (a := 0) w5855 g0 (wsh_s _) (by omega) (wty_s _ _) (by omega) (by omega) rfl (fun b5862 b5863 => ?_))
  have k5865 : wKI H5851 m = wKI H m := (wKI_fr hW gm f5856 rfl)
  have k5866 : H5851 x 9 = H x 9 := (f5856 x 9 _ gx rfl)
  have k5867 : H5851 m 6 = H m 6 := (f5856 m 6 _ gm rfl)
  have k5868 : H5851 x 11 = H x 11 := (f5856 x 11 _ gx rfl)
  have k5869 : H5851 m 13 = H m 13 := (f5856 m 13 _ gm rfl)
  have k5870 : H5851 x 8 = H x 8 := (f5856 x 8 _ gx rfl)
  have k5871 : H5851 m 3 = H m 3 := (f5856 m 3 _ gm rfl)
  refine wl_of hX hb cL_1498 (xc_V (pc' := 1501) (r := m) (as := [vI (H5851 0 ((i + 1).toNat)), vI (H5851 0 ((i + 2).toNat))]) (st := []) (lm_11_203) rfl rfl (Nat.le_of_ble_eq_true rfl) w5855 gm sh_42 (by decide) rfl (by decide) (s_289 w5855 gm ⟨by omega, by omega⟩ ⟨by omega, by omega⟩ (by omega)) (fun R5872 T5873 H5874 p5875 => ?_))
  obtain ⟨e5876, w5878, f5879, z5881, e5877, b5882, p5880⟩ := p5875
  subst e5876
  subst e5877
  show WL _ _ _ _ 1501 [(4, vI i), (3, .ref o), (2, .ref m), (1, .ref x), (0, .ref 0)] [vI z5881] _ H5874
  refine wl_of hX hb cL_1501 (rw_pop (pc' := 1502) rfl rfl ?_)
  refine wl_of hX hb cL_1502 (rw_goto (p1 := 1654) (by decide) ?_)
  have k5883 : H5874 x 9 = H5851 x 9 := (f5879 x 9 _ gx rfl)
  have k5884 : H5874 m 6 = H5851 m 6 := (f5879 m 6 _ gm rfl)
  have k5885 : H5874 x 11 = H5851 x 11 := (f5879 x 11 _ gx rfl)
  have k5886 : H5874 m 13 = H5851 m 13 := (f5879 m 13 _ gm rfl)
  have k5887 : H5874 x 8 = H5851 x 8 := (f5879 x 8 _ gx rfl)
  have k5888 : H5874 m 3 = H5851 m 3 := (f5879 m 3 _ gm rfl)
  have h5889 : XI T H5874 x m := (XI_fr w5855 gx f5879 rfl (XI_fr hW gx f5856 rfl hXI))
  exact WL.loc hX (by simp) (next T H5874 ⟨⟨w5878, g0, gx, gm, go, by omega, by omega⟩, h5889, by omega, by omega⟩ (by omega) (by omega))
set_option maxHeartbeats 4000000 in
theorem wl_c44 {kt : Nat → Option mc_E} {CB SB : Nat} {X : mc_S → Prop} {T : wq_T} {H : wq_H} {Len x m o : Nat} {i : Int} (hX : wlX kt CB SB X) (hb : T.2.1 ≤ CB ∧ T.2.2.1 ≤ SB) (hI : wlJ Len x m o T H) (hL : Len ≤ 3072) (hi : 0 ≤ i ∧ i + 6 ≤ Len) (hb2 : T.2.1 + 20 ≤ CB ∧ T.2.2.1 + 500 ≤ SB)  (next : ∀ T' H', wlJ Len x m o T' H' → T'.2.1 ≤ T.2.1 + 20 → T'.2.2.1 ≤ T.2.2.1 + 500 → WL kt CB SB X 1654 (wlL i x m o) [] T' H') : WL kt CB SB X 1505 (wlL i x m o) [] T H := by
  obtain ⟨⟨hW, g0, gx, gm, go, hK, hr⟩, hXI, hY1, hY2⟩ := hI
  refine wl_of hX hb cL_1505 (rw_aload_n (pc' := 1506) (v := .ref x) rfl rfl rfl ?_)
  refine wl_of hX hb cL_1506 (xc_V (pc' := 1509) (r := x) (as := []) (st := []) (lm_11_204) rfl rfl (Nat.le_of_ble_eq_true rfl) hW gx sh_1 (by decide) rfl (by decide) (s_158 hW gx) (fun R5890 T5891 H5892 p5893 => ?_))
  obtain ⟨e5894, w5896, f5897, z5898, e5895, b5899⟩ := p5893
  subst e5894
  subst e5895
  show WL _ _ _ _ 1509 [(4, vI i), (3, .ref o), (2, .ref m), (1, .ref x), (0, .ref 0)] [vI z5898] _ H5892
  refine wl_of hX hb cL_1509 (rw_pop (pc' := 1510) rfl rfl ?_)
  refine wl_of hX hb cL_1510 (rw_aload_n (pc' := 1511) (v := .ref m) rfl rfl rfl ?_)
  have k5900 : wKI H5892 m = wKI H m := (wKI_fr hW gm f5897 rfl)
  have k5901 : H5892 x 9 = H x 9 := (f5897 x 9 _ gx rfl)
  have k5902 : H5892 m 6 = H m 6 := (f5897 m 6 _ gm rfl)
  have k5903 : H5892 x 11 = H x 11 := (f5897 x 11 _ gx rfl)
  have k5904 : H5892 m 13 = H m 13 := (f5897 m 13 _ gm rfl)
  have k5905 : H5892 x 8 = H x 8 := (f5897 x 8 _ gx rfl)
  have k5906 : H5892 m 3 = H m 3 := (f5897 m 3 _ gm rfl)
  refine wl_of hX hb cL_1511 (xc_V (pc' := 1514) (r := m) (as := []) (st := []) (lm_11_208) rfl rfl (Nat.le_of_ble_eq_true rfl) w5896 gm sh_42 (by decide) rfl (by decide) (s_290 w5896 gm (by omega)) (fun R5907 T5908 H5909 p5910 => ?_))
  obtain ⟨e5911, w5913, f5914, z5916, e5912, b5917, p5915⟩ := p5910
  subst e5911
  subst e5912
  show WL _ _ _ _ 1514 [(4, vI i), (3, .ref o), (2, .ref m), (1, .ref x), (0, .ref 0)] [vI z5916] _ H5909
  refine wl_of hX hb cL_1514 (rw_pop (pc' := 1515) rfl rfl ?_)
  refine wl_of hX hb cL_1515 (rw_goto (p1 := 1654) (by decide) ?_)
  have k5918 : H5909 x 9 = H5892 x 9 := (f5914 x 9 _ gx rfl)
  have k5919 : H5909 m 6 = H5892 m 6 := (f5914 m 6 _ gm rfl)
  have k5920 : H5909 x 11 = H5892 x 11 := (f5914 x 11 _ gx rfl)
  have k5921 : H5909 m 13 = H5892 m 13 := (f5914 m 13 _ gm rfl)
  have k5922 : H5909 x 8 = H5892 x 8 := (f5914 x 8 _ gx rfl)
  have k5923 : H5909 m 3 = H5892 m 3 := (f5914 m 3 _ gm rfl)
  have h5924 : XI T H5909 x m := (XI_fr w5896 gx f5914 rfl (XI_fr hW gx f5897 rfl hXI))
  exact WL.loc hX (by simp) (next T H5909 ⟨⟨w5913, g0, gx, gm, go, by omega, by omega⟩, h5924, by omega, by omega⟩ (by omega) (by omega))
set_option maxHeartbeats 4000000 in
theorem wl_c45 {kt : Nat → Option mc_E} {CB SB : Nat} {X : mc_S → Prop} {T : wq_T} {H : wq_H} {Len x m o : Nat} {i : Int} (hX : wlX kt CB SB X) (hb : T.2.1 ≤ CB ∧ T.2.2.1 ≤ SB) (hI : wlJ Len x m o T H) (hL : Len ≤ 3072) (hi : 0 ≤ i ∧ i + 6 ≤ Len) (hb2 : T.2.1 + 20 ≤ CB ∧ T.2.2.1 + 500 ≤ SB)  (next : ∀ T' H', wlJ Len x m o T' H' → T'.2.1 ≤ T.2.1 + 20 → T'.2.2.1 ≤ T.2.2.1 + 500 → WL kt CB SB X 1654 (wlL i x m o) [] T' H') : WL kt CB SB X 1518 (wlL i x m o) [] T H := by
  obtain ⟨⟨hW, g0, gx, gm, go, hK, hr⟩, hXI, hY1, hY2⟩ := hI
  refine wl_of hX hb cL_1518 (rw_aload_n (pc' := 1519) (v := .ref x) rfl rfl rfl ?_)
  refine wl_of hX hb cL_1519 (xc_V (pc' := 1522) (r := x) (as := []) (st := []) (lm_11_209) rfl rfl (Nat.le_of_ble_eq_true rfl) hW gx sh_1 (by decide) rfl (by decide) (s_159 hW gx) (fun R5925 T5926 H5927 p5928 => ?_))
  obtain ⟨e5929, w5931, f5932, z5933, e5930, b5934⟩ := p5928
  subst e5929
  subst e5930
  show WL _ _ _ _ 1522 [(4, vI i), (3, .ref o), (2, .ref m), (1, .ref x), (0, .ref 0)] [vL z5933] _ H5927
  refine wl_of hX hb cL_1522 (rw_pop2 (pc' := 1523) rfl rfl ?_)
  refine wl_of hX hb cL_1523 (rw_aload_n (pc' := 1524) (v := .ref m) rfl rfl rfl ?_)
  have k5935 : wKI H5927 m = wKI H m := (wKI_fr hW gm f5932 rfl)
  have k5936 : H5927 x 9 = H x 9 := (f5932 x 9 _ gx rfl)
  have k5937 : H5927 m 6 = H m 6 := (f5932 m 6 _ gm rfl)
  have k5938 : H5927 x 11 = H x 11 := (f5932 x 11 _ gx rfl)
  have k5939 : H5927 m 13 = H m 13 := (f5932 m 13 _ gm rfl)
  have k5940 : H5927 x 8 = H x 8 := (f5932 x 8 _ gx rfl)
  have k5941 : H5927 m 3 = H m 3 := (f5932 m 3 _ gm rfl)
  refine wl_of hX hb cL_1524 (xc_V (pc' := 1527) (r := m) (as := []) (st := []) (lm_11_212) rfl rfl (Nat.le_of_ble_eq_true rfl) w5931 gm sh_42 (by decide) rfl (by decide) (s_291 w5931 gm (by omega)) (fun R5942 T5943 H5944 p5945 => ?_))
  obtain ⟨e5946, w5948, f5949, z5951, e5947, b5952, p5950⟩ := p5945
  subst e5946
  subst e5947
  show WL _ _ _ _ 1527 [(4, vI i), (3, .ref o), (2, .ref m), (1, .ref x), (0, .ref 0)] [vL z5951] _ H5944
  refine wl_of hX hb cL_1527 (rw_pop2 (pc' := 1528) rfl rfl ?_)
  refine wl_of hX hb cL_1528 (rw_goto (p1 := 1654) (by decide) ?_)
  have k5953 : H5944 x 9 = H5927 x 9 := (f5949 x 9 _ gx rfl)
  have k5954 : H5944 m 6 = H5927 m 6 := (f5949 m 6 _ gm rfl)
  have k5955 : H5944 x 11 = H5927 x 11 := (f5949 x 11 _ gx rfl)
  have k5956 : H5944 m 13 = H5927 m 13 := (f5949 m 13 _ gm rfl)
  have k5957 : H5944 x 8 = H5927 x 8 := (f5949 x 8 _ gx rfl)
  have k5958 : H5944 m 3 = H5927 m 3 := (f5949 m 3 _ gm rfl)
  have h5959 : XI T H5944 x m := (XI_fr w5931 gx f5949 rfl (XI_fr hW gx f5932 rfl hXI))
  exact WL.loc hX (by simp) (next T H5944 ⟨⟨w5948, g0, gx, gm, go, by omega, by omega⟩, h5959, by omega, by omega⟩ (by omega) (by omega))
set_option maxHeartbeats 4000000 in
theorem wl_c46 {kt : Nat → Option mc_E} {CB SB : Nat} {X : mc_S → Prop} {T : wq_T} {H : wq_H} {Len x m o : Nat} {i : Int} (hX : wlX kt CB SB X) (hb : T.2.1 ≤ CB ∧ T.2.2.1 ≤ SB) (hI : wlJ Len x m o T H) (hL : Len ≤ 3072) (hi : 0 ≤ i ∧ i + 6 ≤ Len) (hb2 : T.2.1 + 20 ≤ CB ∧ T.2.2.1 + 500 ≤ SB)  (next : ∀ T' H', wlJ Len x m o T' H' → T'.2.1 ≤ T.2.1 + 20 → T'.2.2.1 ≤ T.2.2.1 + 500 → WL kt CB SB X 1654 (wlL i x m o) [] T' H') : WL kt CB SB X 1531 (wlL i x m o) [] T H := by
  obtain ⟨⟨hW, g0, gx, gm, go, hK, hr⟩, hXI, hY1, hY2⟩ := hI
  refine wl_of hX hb cL_1531 (rw_aload_n (pc' := 1532) (v := .ref x) rfl rfl rfl ?_)
  refine wl_of hX hb cL_1532 (rw_aload_n (pc' := 1533) (v := .ref 0) rfl rfl rfl ?_)
  refine wl_of hX hb cL_1533 (rw_iload (pc' := 1535) (z := i) rfl rfl ?_)
  refine wl_of hX hb cL_1535 (rw_iconst (pc' := 1536) rfl ?_)
  refine wl_of hX hb cL_1536 (rw_iadd (pc' := 1537) rfl ?_)
  refine wl_of hX hb cL_1537 (xa_I (so := 0) (pc' := 1538) (a := 0) hW g0 (wsh_s _) (by omega) (wty_s _ _) (by omega) (by omega) rfl (fun b5960 b5961 => ?_))
  refine wl_of hX hb cL_1538 (rw_i2l (pc' := 1539) rfl ⟨by omega, by omega⟩ ?_)
  refine wl_of hX hb cL_1539 (rw_bipush (pc' := 1541) (z := 32) rfl (by decide) ?_)
  refine wl_of hX hb cL_1541 (rw_lshl (pc' := 1542) rfl ?_)
  obtain ⟨v5962, e5963⟩ : ∃ x : Int, x = wl_shl (H 0 ((i + 1).toNat)) 32 := ⟨_, rfl⟩
  rw [← e5963]
  have b5964 : -9223372036854775808 ≤ v5962 ∧ v5962 ≤ 9223372036854775807 := by
    rw [e5963]
    exact wL_shl _ _
  refine wl_of hX hb cL_1542 (rw_aload_n (pc' := 1543) (v := .ref 0) rfl rfl rfl ?_)
  refine wl_of hX hb cL_1543 (rw_iload (pc' := 1545) (z := i) rfl rfl ?_)
  refine wl_of hX hb cL_1545 (rw_iconst (pc' := 1546) rfl ?_)
  refine wl_of hX hb cL_1546 (rw_iadd (pc' := 1547) rfl ?_)
  refine wl_of hX hb cL_1547 (xa_I (so := 0) (pc' := 1548) (a := 0) hW g0 (wsh_s _) (by omega) (wty_s _ _) (by omega) (by omega) rfl (fun b5965 b5966 => ?_))
  refine wl_of hX hb cL_1548 (rw_i2l (pc' := 1549) rfl ⟨by omega, by omega⟩ ?_)
  refine wl_of hX hb cL_1549 (rw_ldc2 (pc' := 1552) (z := 4294967295) rfl rfl rfl ?_)
  refine wl_of hX hb cL_1552 (rw_land (pc' := 1553) rfl ?_)
  obtain ⟨v5967, e5968⟩ : ∃ x : Int, x = wl_and (H 0 ((i + 2).toNat)) 4294967295 := ⟨_, rfl⟩
  rw [← e5968]
  have b5969 : -9223372036854775808 ≤ v5967 ∧ v5967 ≤ 9223372036854775807 := by
    rw [e5968]
    exact wL_and _ _
  refine wl_of hX hb cL_1553 (rw_lor (pc' := 1554) rfl ?_)
  obtain ⟨v5970, e5971⟩ : ∃ x : Int, x = wl_or v5962 v5967 := ⟨_, rfl⟩
  rw [← e5971]
  have b5972 : -9223372036854775808 ≤ v5970 ∧ v5970 ≤ 9223372036854775807 := by
    rw [e5971]
    exact wL_or _ _
  obtain ⟨B, tc, tm, cu, dr, C8, e8, d8, n8, g8, ce8, e0, gtc, htc, em, gtm, htm, ecu, gcu, edr, gdr, hcu, hdr, hdec, hded, hsp, hC1, hC2, hcu8, hrb8, hcg8, hmn8, hE, hZ, hn8, hXA, hV8, hSG, ece8, gce8, hcen8, hhdr8, hknn8, -⟩ := hXI
  have hN3 := RB_n3 hrb8
  have hE13 : ∀ h : Nat, h < 24 → 0 ≤ e8 13 h ∧ e8 13 h ≤ 100 := fun k hk => by
    obtain ⟨s, h1, h2, h3⟩ := hcu8.1.2.2.1
    exact ⟨(h3 k hk).1, (h3 k hk).2.1⟩
  have hXW := hXA.1
  have hXN := hXA.2
  have hE0 : e8 0 3 = d8 0 3 ∧ e8 0 0 = d8 0 0 := by
    have h := hE 0 (by decide)
    exact ⟨congrFun h 3, congrFun h 0⟩
  have u5973 := CU_k hcu8
  have h5974 : CY T H cu (d8 0 3) g8 (H cu 17) := ⟨hcg8, rfl⟩
  have h5975 : RY T H m (d8 0 3) g8 (H m 32) := ⟨hmn8, rfl⟩
  obtain ⟨t9, ht9⟩ : ∃ t : Int, t = H x 9 := ⟨_, rfl⟩
  refine wl_of hX hb cL_1554 (xc_V (pc' := 1557) (r := x) (as := [vL v5970]) (st := []) (lm_11_215) rfl rfl (Nat.le_of_ble_eq_true rfl) hW gx sh_1 (by decide) rfl (by decide) (u_161 (e := e8) (d := d8) (n := n8) (nY := ((d8 0 3))) (gY := g8) (cY := ((H cu 17))) hW gx ⟨b5972.1, b5972.2⟩ ecu gcu (by omega) (by omega) (by omega) hcu8 h5974 hcu) (fun R5976 T5977 H5978 p5979 => ?_))
  obtain ⟨e5980, w5982, f5983, z5984, e5981, b5985, p5986⟩ := p5979
  subst e5980
  subst e5981
  rcases p5986 with ⟨a5987, a5988, a5989, a5990, a5991⟩ | ⟨a5992, a5993, a5994⟩
  · show WL _ _ _ _ 1557 [(4, vI i), (3, .ref o), (2, .ref m), (1, .ref x), (0, .ref 0)] [vI z5984] _ H5978
    refine wl_of hX hb cL_1557 (rw_pop (pc' := 1558) rfl rfl ?_)
    refine wl_of hX hb cL_1558 (rw_aload_n (pc' := 1559) (v := .ref m) rfl rfl rfl ?_)
    refine wl_of hX hb cL_1559 (rw_aload_n (pc' := 1560) (v := .ref 0) rfl rfl rfl ?_)
    refine wl_of hX hb cL_1560 (rw_iload (pc' := 1562) (z := i) rfl rfl ?_)
    refine wl_of hX hb cL_1562 (rw_iconst (pc' := 1563) rfl ?_)
    refine wl_of hX hb cL_1563 (rw_iadd (pc' := 1564) rfl ?_)
    have k5997 : H5978 0 ((i + 1).toNat) = H 0 ((i + 1).toNat) := (f5983 0 ((i + 1).toNat) _ g0 (wmem_s rfl))
    refine wl_of hX hb cL_1564 (xa_I (so := 0) (pc' := 1565) (a := 0) w5982 g0 (wsh_s _) (by omega) (wty_s _ _) (by omega) (by omega) rfl (fun b5995 b5996 => ?_))
    refine wl_of hX hb cL_1565 (rw_i2l (pc' := 1566) rfl ⟨by omega, by omega⟩ ?_)
    refine wl_of hX hb cL_1566 (rw_bipush (pc' := 1568) (z := 32) rfl (by decide) ?_)
    refine wl_of hX hb cL_1568 (rw_lshl (pc' := 1569) rfl ?_)
    obtain ⟨v5998, e5999⟩ : ∃ x : Int, x = wl_shl (H5978 0 ((i + 1).toNat)) 32 := ⟨_, rfl⟩
    rw [← e5999]
    have b6000 : -9223372036854775808 ≤ v5998 ∧ v5998 ≤ 9223372036854775807 := by
      rw [e5999]
      exact wL_shl _ _
    refine wl_of hX hb cL_1569 (rw_aload_n (pc' := 1570) (v := .ref 0) rfl rfl rfl ?_)
    refine wl_of hX hb cL_1570 (rw_iload (pc' := 1572) (z := i) rfl rfl ?_)
    refine wl_of hX hb cL_1572 (rw_iconst (pc' := 1573) rfl ?_)
    refine wl_of hX hb cL_1573 (rw_iadd (pc' := 1574) rfl ?_)
    have k6003 : H5978 0 ((i + 2).toNat) = H 0 ((i + 2).toNat) := (f5983 0 ((i + 2).toNat) _ g0 (wmem_s rfl))
    refine wl_of hX hb cL_1574 (xa_I (so := 0) (pc' := 1575) (a := 0) w5982 g0 (wsh_s _) (by omega) (wty_s _ _) (by omega) (by omega) rfl (fun b6001 b6002 => ?_))
    refine wl_of hX hb cL_1575 (rw_i2l (pc' := 1576) rfl ⟨by omega, by omega⟩ ?_)
    refine wl_of hX hb cL_1576 (rw_ldc2 (pc' := 1579) (z := 4294967295) rfl rfl rfl ?_)
    refine wl_of hX hb cL_1579 (rw_land (pc' := 1580) rfl ?_)
    obtain ⟨v6004, e6005⟩ : ∃ x : Int, x = wl_and (H5978 0 ((i + 2).toNat)) 4294967295 := ⟨_, rfl⟩
    rw [← e6005]
    have b6006 : -9223372036854775808 ≤ v6004 ∧ v6004 ≤ 9223372036854775807 := by
      rw [e6005]
      exact wL_and _ _
    refine wl_of hX hb cL_1580 (rw_lor (pc' := 1581) rfl ?_)
    obtain ⟨v6007, e6008⟩ : ∃ x : Int, x = wl_or v5998 v6004 := ⟨_, rfl⟩
    rw [← e6008]
    have b6009 : -9223372036854775808 ≤ v6007 ∧ v6007 ≤ 9223372036854775807 := by
      rw [e6008]
      exact wL_or _ _
    have k6010 : wKI H5978 m = wKI H m := (wKI_fr hW gm f5983 rfl)
    have k6011 : H5978 x 9 = H x 9 := (f5983 x 9 _ gx rfl)
    have k6012 : H5978 m 6 = H m 6 := (f5983 m 6 _ gm rfl)
    have k6013 : H5978 x 11 = H x 11 := (f5983 x 11 _ gx rfl)
    have k6014 : H5978 m 13 = H m 13 := (f5983 m 13 _ gm rfl)
    have k6015 : H5978 x 8 = H x 8 := (f5983 x 8 _ gx rfl)
    have k6016 : H5978 m 3 = H m 3 := (f5983 m 3 _ gm rfl)
    have rs9 : v6007 = v5970 := by
      rw [e6008, e5999, e6005, e5971, e5963, e5968, show H5978 0 ((i + 1).toNat) = H 0 ((i + 1).toNat) by omega, show H5978 0 ((i + 2).toNat) = H 0 ((i + 2).toNat) by omega]
    rw [rs9]
    have h6017 : RB T H5978 m e8 d8 := (RB_fr hW gm f5983 rfl hrb8)
    have h6018 : RY T H5978 m (d8 0 3) g8 (H m 32) := (RY_fr hW gm f5983 rfl h5975)
    refine wl_of hX hb cL_1581 (xc_V (pc' := 1584) (r := m) (as := [vL v5970]) (st := []) (lm_11_219) rfl rfl (Nat.le_of_ble_eq_true rfl) w5982 gm sh_42 (by decide) rfl (by decide) (u_292 (e := e8) (d := d8) (nY := ((d8 0 3))) (gY := g8) (cY := ((H m 32))) w5982 gm ⟨b5972.1, b5972.2⟩ (by omega) h6017 h6018) (fun R6019 T6020 H6021 p6022 => ?_))
    obtain ⟨e6023, w6025, f6026, z6027, e6024, b6028, p6029⟩ := p6022
    subst e6023
    subst e6024
    rcases p6029 with ⟨a6030, a6031, a6032, a6033⟩ | ⟨a6034, a6035, a6036⟩
    · show WL _ _ _ _ 1584 [(4, vI i), (3, .ref o), (2, .ref m), (1, .ref x), (0, .ref 0)] [vI z6027] _ H6021
      refine wl_of hX hb cL_1584 (rw_pop (pc' := 1585) rfl rfl ?_)
      refine wl_of hX hb cL_1585 (rw_goto (p1 := 1654) (by decide) ?_)
      have k6037 : wKI H6021 m = wKI H5978 m := (wKI_fr w5982 gm f6026 rfl)
      have k6038 : H6021 x 9 = H5978 x 9 := (f6026 x 9 _ gx rfl)
      have k6039 : H6021 m 6 = H5978 m 6 := (f6026 m 6 _ gm rfl)
      have k6040 : H6021 x 11 = H5978 x 11 := (f6026 x 11 _ gx rfl)
      have k6041 : H6021 m 13 = H5978 m 13 := (f6026 m 13 _ gm rfl)
      have k6042 : H6021 x 8 = H5978 x 8 := (f6026 x 8 _ gx rfl)
      have k6043 : H6021 m 3 = H5978 m 3 := (f6026 m 3 _ gm rfl)
      have k6044 : H6021 x 0 = H x 0 := ((f6026 x 0 _ gx rfl).trans (f5983 x 0 _ gx rfl))
      have q6045 : H6021 x 0 = (tc : Int) := k6044.trans e0
      have k6046 : H6021 m 5 = H m 5 := ((f6026 m 5 _ gm rfl).trans (f5983 m 5 _ gm rfl))
      have q6047 : H6021 m 5 = (tm : Int) := k6046.trans em
      have k6048 : H6021 x 6 = H x 6 := ((f6026 x 6 _ gx rfl).trans (f5983 x 6 _ gx rfl))
      have q6049 : H6021 x 6 = (cu : Int) := k6048.trans ecu
      have k6050 : H6021 x 7 = H x 7 := ((f6026 x 7 _ gx rfl).trans (f5983 x 7 _ gx rfl))
      have q6051 : H6021 x 7 = (dr : Int) := k6050.trans edr
      have h6052 : CEN T H6021 ce8 e8 d8 := (CEN_fr w5982 gce8 f6026 rfl (CEN_fr hW gce8 f5983 rfl hcen8))
      have h6053 : TP T H6021 tc B := (TP_fr w5982 gtc f6026 rfl (TP_fr hW gtc f5983 rfl htc))
      have h6054 : TM T H6021 tm B := (TM_fr w5982 gtm f6026 rfl (TM_fr hW gtm f5983 rfl htm))
      have h6055 : DD T H6021 cu  := (DD_fr w5982 gcu f6026 rfl (DD_fr hW gcu f5983 rfl hcu))
      have h6056 : DD T H6021 dr  := (DD_fr w5982 gdr f6026 rfl (DD_fr hW gdr f5983 rfl hdr))
      have h6057 : DE T H6021 cu  := (DE_fr w5982 gcu f6026 rfl (DE_fr hW gcu f5983 rfl hdec))
      have h6058 : DE T H6021 dr  := (DE_fr w5982 gdr f6026 rfl (DE_fr hW gdr f5983 rfl hded))
      have h6059 : SP T H6021 x C8 := (SP_fr w5982 gx f6026 rfl (SP_fr hW gx f5983 rfl hsp))
      have h6060 : CU T H6021 cu e8 d8 n8 := (CU_fr w5982 gcu f6026 rfl (CU_fr hW gcu f5983 rfl hcu8))
      have h6061 : CY T H6021 cu ((d8 0 3)) (xdg d8 v5970) (wdv (d8 0 3).toNat v5970) := (CY_fr w5982 gcu f6026 rfl a5991)
      have k6062 : H6021 x 3 = H x 3 := ((f6026 x 3 _ gx rfl).trans (f5983 x 3 _ gx rfl))
      have q6063 : H6021 x 3 = (ce8 : Int) := k6062.trans ece8
      have h6064 : HDR T H6021 ce8  := (HDR_fr w5982 gce8 f6026 rfl (HDR_fr hW gce8 f5983 rfl hhdr8))
      have h6065 : KNN T H6021 m e8 d8 := (KNN_fr w5982 gm f6026 rfl (KNN_fr hW gm f5983 rfl hknn8))
      have h6066 : RB T H6021 m e8 d8 := (RB_fr w5982 gm f6026 rfl h6017)
      exact WL.loc hX (by simp) (next T H6021 ⟨⟨w6025, g0, gx, gm, go, by omega, by omega⟩, ⟨_, tc, tm, cu, dr, _, _, _, _, _, ce8, q6045, gtc, h6053, q6047, gtm, h6054, q6049, gcu, q6051, gdr, h6055, h6056, h6057, h6058, h6059, hC1, hC2, h6060, h6066, (h6061).1, (a6033).1, hE, hZ, (by omega), (by assumption), (by omega), (by first | assumption | exact SG_0), q6063, gce8, h6052, h6064, h6065, gm⟩, by omega, by omega⟩ (by omega) (by omega))
    · show WL _ _ _ _ 1584 [(4, vI i), (3, .ref o), (2, .ref m), (1, .ref x), (0, .ref 0)] [vI z6027] _ H6021
      refine wl_of hX hb cL_1584 (rw_pop (pc' := 1585) rfl rfl ?_)
      refine wl_of hX hb cL_1585 (rw_goto (p1 := 1654) (by decide) ?_)
      have k6067 : wKI H6021 m = wKI H5978 m := (wKI_fr w5982 gm f6026 rfl)
      have k6068 : H6021 x 9 = H5978 x 9 := (f6026 x 9 _ gx rfl)
      have k6069 : H6021 m 6 = H5978 m 6 := (f6026 m 6 _ gm rfl)
      have k6070 : H6021 x 11 = H5978 x 11 := (f6026 x 11 _ gx rfl)
      have k6071 : H6021 m 13 = H5978 m 13 := (f6026 m 13 _ gm rfl)
      have k6072 : H6021 x 8 = H5978 x 8 := (f6026 x 8 _ gx rfl)
      have k6073 : H6021 m 3 = H5978 m 3 := (f6026 m 3 _ gm rfl)
      have k6074 : H6021 x 0 = H x 0 := ((f6026 x 0 _ gx rfl).trans (f5983 x 0 _ gx rfl))
      have q6075 : H6021 x 0 = (tc : Int) := k6074.trans e0
      have k6076 : H6021 m 5 = H m 5 := ((f6026 m 5 _ gm rfl).trans (f5983 m 5 _ gm rfl))
      have q6077 : H6021 m 5 = (tm : Int) := k6076.trans em
      have k6078 : H6021 x 6 = H x 6 := ((f6026 x 6 _ gx rfl).trans (f5983 x 6 _ gx rfl))
      have q6079 : H6021 x 6 = (cu : Int) := k6078.trans ecu
      have k6080 : H6021 x 7 = H x 7 := ((f6026 x 7 _ gx rfl).trans (f5983 x 7 _ gx rfl))
      have q6081 : H6021 x 7 = (dr : Int) := k6080.trans edr
      have h6082 : CEN T H6021 ce8 e8 d8 := (CEN_fr w5982 gce8 f6026 rfl (CEN_fr hW gce8 f5983 rfl hcen8))
      have h6083 : TP T H6021 tc B := (TP_fr w5982 gtc f6026 rfl (TP_fr hW gtc f5983 rfl htc))
      have h6084 : TM T H6021 tm B := (TM_fr w5982 gtm f6026 rfl (TM_fr hW gtm f5983 rfl htm))
      have h6085 : DD T H6021 cu  := (DD_fr w5982 gcu f6026 rfl (DD_fr hW gcu f5983 rfl hcu))
      have h6086 : DD T H6021 dr  := (DD_fr w5982 gdr f6026 rfl (DD_fr hW gdr f5983 rfl hdr))
      have h6087 : DE T H6021 cu  := (DE_fr w5982 gcu f6026 rfl (DE_fr hW gcu f5983 rfl hdec))
      have h6088 : DE T H6021 dr  := (DE_fr w5982 gdr f6026 rfl (DE_fr hW gdr f5983 rfl hded))
      have h6089 : SP T H6021 x C8 := (SP_fr w5982 gx f6026 rfl (SP_fr hW gx f5983 rfl hsp))
      have h6090 : CU T H6021 cu e8 d8 n8 := (CU_fr w5982 gcu f6026 rfl (CU_fr hW gcu f5983 rfl hcu8))
      have h6091 : CY T H6021 cu ((d8 0 3)) (xdg d8 v5970) (wdv (d8 0 3).toNat v5970) := (CY_fr w5982 gcu f6026 rfl a5991)
      have k6092 : H6021 x 3 = H x 3 := ((f6026 x 3 _ gx rfl).trans (f5983 x 3 _ gx rfl))
      have q6093 : H6021 x 3 = (ce8 : Int) := k6092.trans ece8
      have h6094 : HDR T H6021 ce8  := (HDR_fr w5982 gce8 f6026 rfl (HDR_fr hW gce8 f5983 rfl hhdr8))
      have h6095 : KNN T H6021 m e8 d8 := (KNN_fr w5982 gm f6026 rfl (KNN_fr hW gm f5983 rfl hknn8))
      exfalso
      omega
  · show WL _ _ _ _ 1557 [(4, vI i), (3, .ref o), (2, .ref m), (1, .ref x), (0, .ref 0)] [vI z5984] _ H5978
    refine wl_of hX hb cL_1557 (rw_pop (pc' := 1558) rfl rfl ?_)
    refine wl_of hX hb cL_1558 (rw_aload_n (pc' := 1559) (v := .ref m) rfl rfl rfl ?_)
    refine wl_of hX hb cL_1559 (rw_aload_n (pc' := 1560) (v := .ref 0) rfl rfl rfl ?_)
    refine wl_of hX hb cL_1560 (rw_iload (pc' := 1562) (z := i) rfl rfl ?_)
    refine wl_of hX hb cL_1562 (rw_iconst (pc' := 1563) rfl ?_)
    refine wl_of hX hb cL_1563 (rw_iadd (pc' := 1564) rfl ?_)
    have k6098 : H5978 0 ((i + 1).toNat) = H 0 ((i + 1).toNat) := (f5983 0 ((i + 1).toNat) _ g0 (wmem_s rfl))
    refine wl_of hX hb cL_1564 (xa_I (so := 0) (pc' := 1565) (a := 0) w5982 g0 (wsh_s _) (by omega) (wty_s _ _) (by omega) (by omega) rfl (fun b6096 b6097 => ?_))
    refine wl_of hX hb cL_1565 (rw_i2l (pc' := 1566) rfl ⟨by omega, by omega⟩ ?_)
    refine wl_of hX hb cL_1566 (rw_bipush (pc' := 1568) (z := 32) rfl (by decide) ?_)
    refine wl_of hX hb cL_1568 (rw_lshl (pc' := 1569) rfl ?_)
    obtain ⟨v6099, e6100⟩ : ∃ x : Int, x = wl_shl (H5978 0 ((i + 1).toNat)) 32 := ⟨_, rfl⟩
    rw [← e6100]
    have b6101 : -9223372036854775808 ≤ v6099 ∧ v6099 ≤ 9223372036854775807 := by
      rw [e6100]
      exact wL_shl _ _
    refine wl_of hX hb cL_1569 (rw_aload_n (pc' := 1570) (v := .ref 0) rfl rfl rfl ?_)
    refine wl_of hX hb cL_1570 (rw_iload (pc' := 1572) (z := i) rfl rfl ?_)
    refine wl_of hX hb cL_1572 (rw_iconst (pc' := 1573) rfl ?_)
    refine wl_of hX hb cL_1573 (rw_iadd (pc' := 1574) rfl ?_)
    have k6104 : H5978 0 ((i + 2).toNat) = H 0 ((i + 2).toNat) := (f5983 0 ((i + 2).toNat) _ g0 (wmem_s rfl))
    refine wl_of hX hb cL_1574 (xa_I (so := 0) (pc' := 1575) (a := 0) w5982 g0 (wsh_s _) (by omega) (wty_s _ _) (by omega) (by omega) rfl (fun b6102 b6103 => ?_))
    refine wl_of hX hb cL_1575 (rw_i2l (pc' := 1576) rfl ⟨by omega, by omega⟩ ?_)
    refine wl_of hX hb cL_1576 (rw_ldc2 (pc' := 1579) (z := 4294967295) rfl rfl rfl ?_)
    refine wl_of hX hb cL_1579 (rw_land (pc' := 1580) rfl ?_)
    obtain ⟨v6105, e6106⟩ : ∃ x : Int, x = wl_and (H5978 0 ((i + 2).toNat)) 4294967295 := ⟨_, rfl⟩
    rw [← e6106]
    have b6107 : -9223372036854775808 ≤ v6105 ∧ v6105 ≤ 9223372036854775807 := by
      rw [e6106]
      exact wL_and _ _
    refine wl_of hX hb cL_1580 (rw_lor (pc' := 1581) rfl ?_)
    obtain ⟨v6108, e6109⟩ : ∃ x : Int, x = wl_or v6099 v6105 := ⟨_, rfl⟩
    rw [← e6109]
    have b6110 : -9223372036854775808 ≤ v6108 ∧ v6108 ≤ 9223372036854775807 := by
      rw [e6109]
      exact wL_or _ _
    have k6111 : wKI H5978 m = wKI H m := (wKI_fr hW gm f5983 rfl)
    have k6112 : H5978 x 9 = H x 9 := (f5983 x 9 _ gx rfl)
    have k6113 : H5978 m 6 = H m 6 := (f5983 m 6 _ gm rfl)
    have k6114 : H5978 x 11 = H x 11 := (f5983 x 11 _ gx rfl)
    have k6115 : H5978 m 13 = H m 13 := (f5983 m 13 _ gm rfl)
    have k6116 : H5978 x 8 = H x 8 := (f5983 x 8 _ gx rfl)
    have k6117 : H5978 m 3 = H m 3 := (f5983 m 3 _ gm rfl)
    have rs9 : v6108 = v5970 := by
      rw [e6109, e6100, e6106, e5971, e5963, e5968, show H5978 0 ((i + 1).toNat) = H 0 ((i + 1).toNat) by omega, show H5978 0 ((i + 2).toNat) = H 0 ((i + 2).toNat) by omega]
    rw [rs9]
    have h6118 : RB T H5978 m e8 d8 := (RB_fr hW gm f5983 rfl hrb8)
    have h6119 : RY T H5978 m (d8 0 3) g8 (H m 32) := (RY_fr hW gm f5983 rfl h5975)
    refine wl_of hX hb cL_1581 (xc_V (pc' := 1584) (r := m) (as := [vL v5970]) (st := []) (lm_11_219) rfl rfl (Nat.le_of_ble_eq_true rfl) w5982 gm sh_42 (by decide) rfl (by decide) (u_292 (e := e8) (d := d8) (nY := ((d8 0 3))) (gY := g8) (cY := ((H m 32))) w5982 gm ⟨b5972.1, b5972.2⟩ (by omega) h6118 h6119) (fun R6120 T6121 H6122 p6123 => ?_))
    obtain ⟨e6124, w6126, f6127, z6128, e6125, b6129, p6130⟩ := p6123
    subst e6124
    subst e6125
    rcases p6130 with ⟨a6131, a6132, a6133, a6134⟩ | ⟨a6135, a6136, a6137⟩
    · show WL _ _ _ _ 1584 [(4, vI i), (3, .ref o), (2, .ref m), (1, .ref x), (0, .ref 0)] [vI z6128] _ H6122
      refine wl_of hX hb cL_1584 (rw_pop (pc' := 1585) rfl rfl ?_)
      refine wl_of hX hb cL_1585 (rw_goto (p1 := 1654) (by decide) ?_)
      have k6138 : wKI H6122 m = wKI H5978 m := (wKI_fr w5982 gm f6127 rfl)
      have k6139 : H6122 x 9 = H5978 x 9 := (f6127 x 9 _ gx rfl)
      have k6140 : H6122 m 6 = H5978 m 6 := (f6127 m 6 _ gm rfl)
      have k6141 : H6122 x 11 = H5978 x 11 := (f6127 x 11 _ gx rfl)
      have k6142 : H6122 m 13 = H5978 m 13 := (f6127 m 13 _ gm rfl)
      have k6143 : H6122 x 8 = H5978 x 8 := (f6127 x 8 _ gx rfl)
      have k6144 : H6122 m 3 = H5978 m 3 := (f6127 m 3 _ gm rfl)
      have k6145 : H6122 x 0 = H x 0 := ((f6127 x 0 _ gx rfl).trans (f5983 x 0 _ gx rfl))
      have q6146 : H6122 x 0 = (tc : Int) := k6145.trans e0
      have k6147 : H6122 m 5 = H m 5 := ((f6127 m 5 _ gm rfl).trans (f5983 m 5 _ gm rfl))
      have q6148 : H6122 m 5 = (tm : Int) := k6147.trans em
      have k6149 : H6122 x 6 = H x 6 := ((f6127 x 6 _ gx rfl).trans (f5983 x 6 _ gx rfl))
      have q6150 : H6122 x 6 = (cu : Int) := k6149.trans ecu
      have k6151 : H6122 x 7 = H x 7 := ((f6127 x 7 _ gx rfl).trans (f5983 x 7 _ gx rfl))
      have q6152 : H6122 x 7 = (dr : Int) := k6151.trans edr
      have h6153 : CEN T H6122 ce8 e8 d8 := (CEN_fr w5982 gce8 f6127 rfl (CEN_fr hW gce8 f5983 rfl hcen8))
      have h6154 : TP T H6122 tc B := (TP_fr w5982 gtc f6127 rfl (TP_fr hW gtc f5983 rfl htc))
      have h6155 : TM T H6122 tm B := (TM_fr w5982 gtm f6127 rfl (TM_fr hW gtm f5983 rfl htm))
      have h6156 : DD T H6122 cu  := (DD_fr w5982 gcu f6127 rfl (DD_fr hW gcu f5983 rfl hcu))
      have h6157 : DD T H6122 dr  := (DD_fr w5982 gdr f6127 rfl (DD_fr hW gdr f5983 rfl hdr))
      have h6158 : DE T H6122 cu  := (DE_fr w5982 gcu f6127 rfl (DE_fr hW gcu f5983 rfl hdec))
      have h6159 : DE T H6122 dr  := (DE_fr w5982 gdr f6127 rfl (DE_fr hW gdr f5983 rfl hded))
      have h6160 : SP T H6122 x C8 := (SP_fr w5982 gx f6127 rfl (SP_fr hW gx f5983 rfl hsp))
      have h6161 : CU T H6122 cu e8 d8 n8 := (CU_fr w5982 gcu f6127 rfl (CU_fr hW gcu f5983 rfl hcu8))
      have h6162 : CY T H6122 cu ((d8 0 3)) g8 ((H cu 17)) := (CY_fr w5982 gcu f6127 rfl a5994)
      have k6163 : H6122 x 3 = H x 3 := ((f6127 x 3 _ gx rfl).trans (f5983 x 3 _ gx rfl))
      have q6164 : H6122 x 3 = (ce8 : Int) := k6163.trans ece8
      have h6165 : HDR T H6122 ce8  := (HDR_fr w5982 gce8 f6127 rfl (HDR_fr hW gce8 f5983 rfl hhdr8))
      have h6166 : KNN T H6122 m e8 d8 := (KNN_fr w5982 gm f6127 rfl (KNN_fr hW gm f5983 rfl hknn8))
      exfalso
      omega
    · show WL _ _ _ _ 1584 [(4, vI i), (3, .ref o), (2, .ref m), (1, .ref x), (0, .ref 0)] [vI z6128] _ H6122
      refine wl_of hX hb cL_1584 (rw_pop (pc' := 1585) rfl rfl ?_)
      refine wl_of hX hb cL_1585 (rw_goto (p1 := 1654) (by decide) ?_)
      have k6167 : wKI H6122 m = wKI H5978 m := (wKI_fr w5982 gm f6127 rfl)
      have k6168 : H6122 x 9 = H5978 x 9 := (f6127 x 9 _ gx rfl)
      have k6169 : H6122 m 6 = H5978 m 6 := (f6127 m 6 _ gm rfl)
      have k6170 : H6122 x 11 = H5978 x 11 := (f6127 x 11 _ gx rfl)
      have k6171 : H6122 m 13 = H5978 m 13 := (f6127 m 13 _ gm rfl)
      have k6172 : H6122 x 8 = H5978 x 8 := (f6127 x 8 _ gx rfl)
      have k6173 : H6122 m 3 = H5978 m 3 := (f6127 m 3 _ gm rfl)
      have k6174 : H6122 x 0 = H x 0 := ((f6127 x 0 _ gx rfl).trans (f5983 x 0 _ gx rfl))
      have q6175 : H6122 x 0 = (tc : Int) := k6174.trans e0
      have k6176 : H6122 m 5 = H m 5 := ((f6127 m 5 _ gm rfl).trans (f5983 m 5 _ gm rfl))
      have q6177 : H6122 m 5 = (tm : Int) := k6176.trans em
      have k6178 : H6122 x 6 = H x 6 := ((f6127 x 6 _ gx rfl).trans (f5983 x 6 _ gx rfl))
      have q6179 : H6122 x 6 = (cu : Int) := k6178.trans ecu
      have k6180 : H6122 x 7 = H x 7 := ((f6127 x 7 _ gx rfl).trans (f5983 x 7 _ gx rfl))
      have q6181 : H6122 x 7 = (dr : Int) := k6180.trans edr
      have h6182 : CEN T H6122 ce8 e8 d8 := (CEN_fr w5982 gce8 f6127 rfl (CEN_fr hW gce8 f5983 rfl hcen8))
      have h6183 : TP T H6122 tc B := (TP_fr w5982 gtc f6127 rfl (TP_fr hW gtc f5983 rfl htc))
      have h6184 : TM T H6122 tm B := (TM_fr w5982 gtm f6127 rfl (TM_fr hW gtm f5983 rfl htm))
      have h6185 : DD T H6122 cu  := (DD_fr w5982 gcu f6127 rfl (DD_fr hW gcu f5983 rfl hcu))
      have h6186 : DD T H6122 dr  := (DD_fr w5982 gdr f6127 rfl (DD_fr hW gdr f5983 rfl hdr))
      have h6187 : DE T H6122 cu  := (DE_fr w5982 gcu f6127 rfl (DE_fr hW gcu f5983 rfl hdec))
      have h6188 : DE T H6122 dr  := (DE_fr w5982 gdr f6127 rfl (DE_fr hW gdr f5983 rfl hded))
      have h6189 : SP T H6122 x C8 := (SP_fr w5982 gx f6127 rfl (SP_fr hW gx f5983 rfl hsp))
      have h6190 : CU T H6122 cu e8 d8 n8 := (CU_fr w5982 gcu f6127 rfl (CU_fr hW gcu f5983 rfl hcu8))
      have h6191 : CY T H6122 cu ((d8 0 3)) g8 ((H cu 17)) := (CY_fr w5982 gcu f6127 rfl a5994)
      have k6192 : H6122 x 3 = H x 3 := ((f6127 x 3 _ gx rfl).trans (f5983 x 3 _ gx rfl))
      have q6193 : H6122 x 3 = (ce8 : Int) := k6192.trans ece8
      have h6194 : HDR T H6122 ce8  := (HDR_fr w5982 gce8 f6127 rfl (HDR_fr hW gce8 f5983 rfl hhdr8))
      have h6195 : KNN T H6122 m e8 d8 := (KNN_fr w5982 gm f6127 rfl (KNN_fr hW gm f5983 rfl hknn8))
      have h6196 : RB T H6122 m e8 d8 := (RB_fr w5982 gm f6127 rfl h6118)
      exact WL.loc hX (by simp) (next T H6122 ⟨⟨w6126, g0, gx, gm, go, by omega, by omega⟩, ⟨_, tc, tm, cu, dr, _, _, _, _, _, ce8, q6175, gtc, h6183, q6177, gtm, h6184, q6179, gcu, q6181, gdr, h6185, h6186, h6187, h6188, h6189, hC1, hC2, h6190, h6196, (h6191).1, (a6137).1, hE, hZ, (by omega), (by assumption), (by omega), (by first | assumption | exact SG_0), q6193, gce8, h6182, h6194, h6195, gm⟩, by omega, by omega⟩ (by omega) (by omega))
set_option maxHeartbeats 4000000 in
theorem wl_c47 {kt : Nat → Option mc_E} {CB SB : Nat} {X : mc_S → Prop} {T : wq_T} {H : wq_H} {Len x m o : Nat} {i : Int} (hX : wlX kt CB SB X) (hb : T.2.1 ≤ CB ∧ T.2.2.1 ≤ SB) (hI : wlJ Len x m o T H) (hL : Len ≤ 3072) (hi : 0 ≤ i ∧ i + 6 ≤ Len) (hb2 : T.2.1 + 20 ≤ CB ∧ T.2.2.1 + 500 ≤ SB) (hled : ∀ {z : Int}, wI z → T.2.1 ≤ CB ∧ T.2.2.1 ≤ SB → wlJ Len x m o T H → (∀ (z' : Int), wI z' → ∀ (T' : wq_T) (H' : wq_H), wlJ Len x m o T' H' → T'.2.1 ≤ T.2.1 + 20 → T'.2.2.1 ≤ T.2.2.1 + 500 → WL kt CB SB X 1599 (wlL i x m o) [vI z'] T' H') → WL kt CB SB X 1596 (wlL i x m o) [.ref o, vI z, .ref x] T H) (next : ∀ T' H', wlJ Len x m o T' H' → T'.2.1 ≤ T.2.1 + 20 → T'.2.2.1 ≤ T.2.2.1 + 500 → WL kt CB SB X 1654 (wlL i x m o) [] T' H') : WL kt CB SB X 1588 (wlL i x m o) [] T H := by
  obtain ⟨⟨hW, g0, gx, gm, go, hK, hr⟩, hXI, hY1, hY2⟩ := hI
  refine wl_of hX hb cL_1588 (rw_aload_n (pc' := 1589) (v := .ref x) rfl rfl rfl ?_)
  refine wl_of hX hb cL_1589 (rw_aload_n (pc' := 1590) (v := .ref 0) rfl rfl rfl ?_)
  refine wl_of hX hb cL_1590 (rw_iload (pc' := 1592) (z := i) rfl rfl ?_)
  refine wl_of hX hb cL_1592 (rw_iconst (pc' := 1593) rfl ?_)
  refine wl_of hX hb cL_1593 (rw_iadd (pc' := 1594) rfl ?_)
  refine wl_of hX hb cL_1594 (xa_I (so := 0) (pc' := 1595) (a := 0) hW g0 (wsh_s _) (by omega) (wty_s _ _) (by omega) (by omega) rfl (fun b6197 b6198 => ?_))
  refine wl_of hX hb cL_1595 (rw_aload_n (pc' := 1596) (v := .ref o) rfl rfl rfl ?_)
  refine hled ⟨by omega, by omega⟩ hb ⟨⟨hW, g0, gx, gm, go, by omega, by omega⟩, hXI, by omega, by omega⟩ (fun z9 b9 T9 H9 hI9 n9 s9 => ?_)
  obtain ⟨⟨w9, g0, gx, gm, go, hK, hr⟩, hXI, hY1, hY2⟩ := hI9
  have hb : T9.2.1 ≤ CB ∧ T9.2.2.1 ≤ SB := ⟨by omega, by omega⟩
  refine wl_of hX hb cL_1599 (rw_istore (pc' := 1601) (z := z9) (L' := [(5, vI z9), (4, vI i), (3, .ref o), (2, .ref m), (1, .ref x), (0, .ref 0)]) rfl rfl rfl ?_)
  refine wl_of hX hb cL_1601 (rw_aload_n (pc' := 1602) (v := .ref m) rfl rfl rfl ?_)
  refine wl_of hX hb cL_1602 (rw_aload_n (pc' := 1603) (v := .ref 0) rfl rfl rfl ?_)
  refine wl_of hX hb cL_1603 (rw_iload (pc' := 1605) (z := i) rfl rfl ?_)
  refine wl_of hX hb cL_1605 (rw_iconst (pc' := 1606) rfl ?_)
  refine wl_of hX hb cL_1606 (rw_iadd (pc' := 1607) rfl ?_)
  refine wl_of hX hb cL_1607 (xa_I (so := 0) (pc' := 1608) (a := 0) w9 g0 (wsh_s _) (by omega) (wty_s _ _) (by omega) (by omega) rfl (fun b6199 b6200 => ?_))
  refine wl_of hX hb cL_1608 (xc_V (pc' := 1611) (r := m) (as := [vI (H9 0 ((i + 1).toNat))]) (st := []) (lm_11_225) rfl rfl (Nat.le_of_ble_eq_true rfl) w9 gm sh_42 (by decide) rfl (by decide) (s_293 w9 gm ⟨by omega, by omega⟩ (by omega)) (fun R6201 T6202 H6203 p6204 => ?_))
  obtain ⟨e6205, w6207, f6208, z6210, e6206, b6211, p6209⟩ := p6204
  subst e6205
  subst e6206
  show WL _ _ _ _ 1611 [(5, vI z9), (4, vI i), (3, .ref o), (2, .ref m), (1, .ref x), (0, .ref 0)] [vI z6210] _ H6203
  refine wl_of hX hb cL_1611 (rw_istore (pc' := 1613) (z := z6210) (L' := [(6, vI z6210), (5, vI z9), (4, vI i), (3, .ref o), (2, .ref m), (1, .ref x), (0, .ref 0)]) rfl rfl rfl ?_)
  refine wl_of hX hb cL_1613 (rw_goto (p1 := 1654) (by decide) ?_)
  have k6212 : H6203 x 9 = H9 x 9 := (f6208 x 9 _ gx rfl)
  have k6213 : H6203 m 6 = H9 m 6 := (f6208 m 6 _ gm rfl)
  have k6214 : H6203 x 11 = H9 x 11 := (f6208 x 11 _ gx rfl)
  have k6215 : H6203 m 13 = H9 m 13 := (f6208 m 13 _ gm rfl)
  have k6216 : H6203 x 8 = H9 x 8 := (f6208 x 8 _ gx rfl)
  have k6217 : H6203 m 3 = H9 m 3 := (f6208 m 3 _ gm rfl)
  have h6218 : XI T9 H6203 x m := (XI_fr w9 gx f6208 rfl hXI)
  exact WL.loc hX (by simp) (next T9 H6203 ⟨⟨w6207, g0, gx, gm, go, by omega, by omega⟩, h6218, by omega, by omega⟩ (by omega) (by omega))
set_option maxHeartbeats 4000000 in
theorem wl_c48 {kt : Nat → Option mc_E} {CB SB : Nat} {X : mc_S → Prop} {T : wq_T} {H : wq_H} {Len x m o : Nat} {i : Int} (hX : wlX kt CB SB X) (hb : T.2.1 ≤ CB ∧ T.2.2.1 ≤ SB) (hI : wlJ Len x m o T H) (hL : Len ≤ 3072) (hi : 0 ≤ i ∧ i + 6 ≤ Len) (hb2 : T.2.1 + 20 ≤ CB ∧ T.2.2.1 + 500 ≤ SB)  (next : ∀ T' H', wlJ Len x m o T' H' → T'.2.1 ≤ T.2.1 + 20 → T'.2.2.1 ≤ T.2.2.1 + 500 → WL kt CB SB X 1654 (wlL i x m o) [] T' H') : WL kt CB SB X 1616 (wlL i x m o) [] T H := by
  obtain ⟨⟨hW, g0, gx, gm, go, hK, hr⟩, hXI, hY1, hY2⟩ := hI
  refine wl_of hX hb cL_1616 (rw_aload_n (pc' := 1617) (v := .ref x) rfl rfl rfl ?_)
  refine wl_of hX hb cL_1617 (rw_aload_n (pc' := 1618) (v := .ref 0) rfl rfl rfl ?_)
  refine wl_of hX hb cL_1618 (rw_iload (pc' := 1620) (z := i) rfl rfl ?_)
  refine wl_of hX hb cL_1620 (rw_iconst (pc' := 1621) rfl ?_)
  refine wl_of hX hb cL_1621 (rw_iadd (pc' := 1622) rfl ?_)
  refine wl_of hX hb cL_1622 (xa_I (so := 0) (pc' := 1623) (a := 0) hW g0 (wsh_s _) (by omega) (wty_s _ _) (by omega) (by omega) rfl (fun b6219 b6220 => ?_))
  refine wl_of hX hb cL_1623 (xc_V (pc' := 1626) (r := x) (as := [vI (H 0 ((i + 1).toNat))]) (st := []) (lm_11_226) rfl rfl (Nat.le_of_ble_eq_true rfl) hW gx sh_1 (by decide) rfl (by decide) (s_164 hW gx ⟨by omega, by omega⟩) (fun R6221 T6222 H6223 p6224 => ?_))
  obtain ⟨e6225, e6227, z6228, e6226, b6229⟩ := p6224
  subst e6225
  subst e6226
  subst e6227
  show WL _ _ _ _ 1626 [(4, vI i), (3, .ref o), (2, .ref m), (1, .ref x), (0, .ref 0)] [vI z6228] _ H
  refine wl_of hX hb cL_1626 (rw_pop (pc' := 1627) rfl rfl ?_)
  refine wl_of hX hb cL_1627 (rw_aload_n (pc' := 1628) (v := .ref m) rfl rfl rfl ?_)
  refine wl_of hX hb cL_1628 (rw_aload_n (pc' := 1629) (v := .ref 0) rfl rfl rfl ?_)
  refine wl_of hX hb cL_1629 (rw_iload (pc' := 1631) (z := i) rfl rfl ?_)
  refine wl_of hX hb cL_1631 (rw_iconst (pc' := 1632) rfl ?_)
  refine wl_of hX hb cL_1632 (rw_iadd (pc' := 1633) rfl ?_)
  refine wl_of hX hb cL_1633 (xa_I (so := 0) (pc' := 1634) (a := 0) hW g0 (wsh_s _) (by omega) (wty_s _ _) (by omega) (by omega) rfl (fun b6230 b6231 => ?_))
  refine wl_of hX hb cL_1634 (xc_V (pc' := 1637) (r := m) (as := [vI (H 0 ((i + 1).toNat))]) (st := []) (lm_11_229) rfl rfl (Nat.le_of_ble_eq_true rfl) hW gm sh_42 (by decide) rfl (by decide) (s_294 hW gm ⟨by omega, by omega⟩ (by omega)) (fun R6232 T6233 H6234 p6235 => ?_))
  obtain ⟨e6236, w6238, f6239, z6241, e6237, b6242, p6240⟩ := p6235
  subst e6236
  subst e6237
  show WL _ _ _ _ 1637 [(4, vI i), (3, .ref o), (2, .ref m), (1, .ref x), (0, .ref 0)] [vI z6241] _ H6234
  refine wl_of hX hb cL_1637 (rw_pop (pc' := 1638) rfl rfl ?_)
  refine wl_of hX hb cL_1638 (rw_goto (p1 := 1654) (by decide) ?_)
  have k6243 : H6234 x 9 = H x 9 := (f6239 x 9 _ gx rfl)
  have k6244 : H6234 m 6 = H m 6 := (f6239 m 6 _ gm rfl)
  have k6245 : H6234 x 11 = H x 11 := (f6239 x 11 _ gx rfl)
  have k6246 : H6234 m 13 = H m 13 := (f6239 m 13 _ gm rfl)
  have k6247 : H6234 x 8 = H x 8 := (f6239 x 8 _ gx rfl)
  have k6248 : H6234 m 3 = H m 3 := (f6239 m 3 _ gm rfl)
  have h6249 : XI T H6234 x m := (XI_fr hW gx f6239 rfl hXI)
  exact WL.loc hX (by simp) (next T H6234 ⟨⟨w6238, g0, gx, gm, go, by omega, by omega⟩, h6249, by omega, by omega⟩ (by omega) (by omega))
set_option maxHeartbeats 4000000 in
theorem wl_c49 {kt : Nat → Option mc_E} {CB SB : Nat} {X : mc_S → Prop} {T : wq_T} {H : wq_H} {Len x m o : Nat} {i : Int} (hX : wlX kt CB SB X) (hb : T.2.1 ≤ CB ∧ T.2.2.1 ≤ SB) (hI : wlJ Len x m o T H) (hL : Len ≤ 3072) (hi : 0 ≤ i ∧ i + 6 ≤ Len) (hb2 : T.2.1 + 20 ≤ CB ∧ T.2.2.1 + 500 ≤ SB)  (next : ∀ T' H', wlJ Len x m o T' H' → T'.2.1 ≤ T.2.1 + 20 → T'.2.2.1 ≤ T.2.2.1 + 500 → WL kt CB SB X 1654 (wlL i x m o) [] T' H') : WL kt CB SB X 1641 (wlL i x m o) [] T H := by
  obtain ⟨⟨hW, g0, gx, gm, go, hK, hr⟩, hXI, hY1, hY2⟩ := hI
  refine wl_of hX hb cL_1641 (rw_aload_n (pc' := 1642) (v := .ref x) rfl rfl rfl ?_)
  refine wl_of hX hb cL_1642 (xc_V (pc' := 1645) (r := x) (as := []) (st := []) (lm_11_230) rfl rfl (Nat.le_of_ble_eq_true rfl) hW gx sh_1 (by decide) rfl (by decide) (s_165 hW gx) (fun R6250 T6251 H6252 p6253 => ?_))
  obtain ⟨e6254, e6256, z6257, e6255, b6258⟩ := p6253
  subst e6254
  subst e6255
  subst e6256
  show WL _ _ _ _ 1645 [(4, vI i), (3, .ref o), (2, .ref m), (1, .ref x), (0, .ref 0)] [vI z6257] _ H
  refine wl_of hX hb cL_1645 (rw_pop (pc' := 1646) rfl rfl ?_)
  refine wl_of hX hb cL_1646 (rw_aload_n (pc' := 1647) (v := .ref m) rfl rfl rfl ?_)
  refine wl_of hX hb cL_1647 (xc_V (pc' := 1650) (r := m) (as := []) (st := []) (lm_11_233) rfl rfl (Nat.le_of_ble_eq_true rfl) hW gm sh_42 (by decide) rfl (by decide) (s_295 hW gm (by omega)) (fun R6259 T6260 H6261 p6262 => ?_))
  obtain ⟨e6263, w6265, f6266, z6268, e6264, b6269, p6267⟩ := p6262
  subst e6263
  subst e6264
  show WL _ _ _ _ 1650 [(4, vI i), (3, .ref o), (2, .ref m), (1, .ref x), (0, .ref 0)] [vI z6268] _ H6261
  refine wl_of hX hb cL_1650 (rw_pop (pc' := 1651) rfl rfl ?_)
  refine wl_of hX hb cL_1651 (rw_goto (p1 := 1654) (by decide) ?_)
  have k6270 : H6261 x 9 = H x 9 := (f6266 x 9 _ gx rfl)
  have k6271 : H6261 m 6 = H m 6 := (f6266 m 6 _ gm rfl)
  have k6272 : H6261 x 11 = H x 11 := (f6266 x 11 _ gx rfl)
  have k6273 : H6261 m 13 = H m 13 := (f6266 m 13 _ gm rfl)
  have k6274 : H6261 x 8 = H x 8 := (f6266 x 8 _ gx rfl)
  have k6275 : H6261 m 3 = H m 3 := (f6266 m 3 _ gm rfl)
  have h6276 : XI T H6261 x m := (XI_fr hW gx f6266 rfl hXI)
  exact WL.loc hX (by simp) (next T H6261 ⟨⟨w6265, g0, gx, gm, go, by omega, by omega⟩, h6276, by omega, by omega⟩ (by omega) (by omega))
set_option maxHeartbeats 4000000 in
theorem wl_head {kt : Nat → Option mc_E} {CB SB : Nat} {X : mc_S → Prop} {T : wq_T} {H : wq_H} {Len x m o : Nat} {i : Int} (hX : wlX kt CB SB X) (hb : T.2.1 ≤ CB ∧ T.2.2.1 ≤ SB) (hI : wlJ Len x m o T H) (hL : Len ≤ 3072) (hi : 0 ≤ i ∧ i ≤ Len) (cases : ∀ t, t ∈ [256, 329, 354, 367, 380, 405, 454, 503, 516, 553, 578, 603, 616, 629, 642, 655, 668, 705, 718, 755, 792, 829, 882, 919, 944, 957, 994, 1020, 1057, 1110, 1163, 1176, 1201, 1226, 1251, 1264, 1317, 1330, 1343, 1368, 1405, 1430, 1455, 1468, 1505, 1518, 1531, 1588, 1616, 1641] → i + 6 ≤ Len → WL kt CB SB X t (wlL i x m o) [] T H) (next : i + 6 ≤ Len → WL kt CB SB X 1654 (wlL i x m o) [] T H) : WL kt CB SB X 23 (wlL i x m o) [] T H := by
  obtain ⟨⟨hW, g0, gx, gm, go, hK, hr⟩, hXI, hY1, hY2⟩ := hI
  refine wl_of hX hb cL_23 (rw_iload (pc' := 25) (z := i) rfl rfl ?_)
  refine wl_of hX hb cL_25 (rw_aload_n (pc' := 26) (v := .ref 0) rfl rfl rfl ?_)
  refine wl_of hX hb cL_26 (xa_N (pc' := 27) (a := 0) (n := Len) hW g0 (wsh_s _) (by decide) rfl ?_)
  refine wl_of hX hb cL_27 (rw_bipush (pc' := 29) (z := 6) rfl (by decide) ?_)
  refine wl_of hX hb cL_29 (rw_isub (pc' := 30) rfl ?_)
  refine wl_of hX hb cL_30 (rw_icmp_gt (p1 := 1660) (p2 := 33) (by decide) rfl ⟨by omega, by omega⟩ ⟨by omega, by omega⟩ (fun c6277 => ?_) (fun c6277 => ?_))
  · refine wl_of hX hb cL_1660 (rw_iconst (pc' := 1661) rfl ?_)
    exact WL.fin hX hb
  · refine wl_of hX hb cL_33 (rw_aload_n (pc' := 34) (v := .ref 0) rfl rfl rfl ?_)
    refine wl_of hX hb cL_34 (rw_iload (pc' := 36) (z := i) rfl rfl ?_)
    refine wl_of hX hb cL_36 (xa_I (so := 0) (pc' := 37) (a := 0) hW g0 (wsh_s _) (by omega) (wty_s _ _) (by omega) (by omega) rfl (fun b6278 b6279 => ?_))
    refine wl_of hX hb cL_37 (rw_bipush (pc' := 39) (z := 63) rfl (by decide) ?_)
    refine wl_of hX hb cL_39 (rw_iand (pc' := 40) rfl ?_)
    obtain ⟨v6280, e6281⟩ : ∃ x : Int, x = wq_and (H 0 (i.toNat)) 63 := ⟨_, rfl⟩
    rw [← e6281]
    have b6282 : 0 ≤ v6280 ∧ v6280 ≤ 63 := by
      rw [e6281]
      exact wq_and_b _ (by omega) (by omega)
    have c6283 : v6280 = 0 ∨ v6280 = 1 ∨ v6280 = 2 ∨ v6280 = 3 ∨ v6280 = 4 ∨ v6280 = 5 ∨ v6280 = 6 ∨ v6280 = 7 ∨ v6280 = 8 ∨ v6280 = 9 ∨ v6280 = 10 ∨ v6280 = 11 ∨ v6280 = 12 ∨ v6280 = 13 ∨ v6280 = 14 ∨ v6280 = 15 ∨ v6280 = 16 ∨ v6280 = 17 ∨ v6280 = 18 ∨ v6280 = 19 ∨ v6280 = 20 ∨ v6280 = 21 ∨ v6280 = 22 ∨ v6280 = 23 ∨ v6280 = 24 ∨ v6280 = 25 ∨ v6280 = 26 ∨ v6280 = 27 ∨ v6280 = 28 ∨ v6280 = 29 ∨ v6280 = 30 ∨ v6280 = 31 ∨ v6280 = 32 ∨ v6280 = 33 ∨ v6280 = 34 ∨ v6280 = 35 ∨ v6280 = 36 ∨ v6280 = 37 ∨ v6280 = 38 ∨ v6280 = 39 ∨ v6280 = 40 ∨ v6280 = 41 ∨ v6280 = 42 ∨ v6280 = 43 ∨ v6280 = 44 ∨ v6280 = 45 ∨ v6280 = 46 ∨ v6280 = 47 ∨ v6280 = 48 ∨ v6280 = 49 ∨ (v6280 < 0 ∨ 49 < v6280) := by omega
    rcases c6283 with c6283 | c6283 | c6283 | c6283 | c6283 | c6283 | c6283 | c6283 | c6283 | c6283 | c6283 | c6283 | c6283 | c6283 | c6283 | c6283 | c6283 | c6283 | c6283 | c6283 | c6283 | c6283 | c6283 | c6283 | c6283 | c6283 | c6283 | c6283 | c6283 | c6283 | c6283 | c6283 | c6283 | c6283 | c6283 | c6283 | c6283 | c6283 | c6283 | c6283 | c6283 | c6283 | c6283 | c6283 | c6283 | c6283 | c6283 | c6283 | c6283 | c6283 | c6283
    · refine wl_of hX hb cL_40 (rw_tsw (p1 := 256) ⟨by omega, by omega⟩ (by rw [c6283]; decide) ?_)
      exact cases 256 (by decide) (by omega)
    · refine wl_of hX hb cL_40 (rw_tsw (p1 := 329) ⟨by omega, by omega⟩ (by rw [c6283]; decide) ?_)
      exact cases 329 (by decide) (by omega)
    · refine wl_of hX hb cL_40 (rw_tsw (p1 := 354) ⟨by omega, by omega⟩ (by rw [c6283]; decide) ?_)
      exact cases 354 (by decide) (by omega)
    · refine wl_of hX hb cL_40 (rw_tsw (p1 := 367) ⟨by omega, by omega⟩ (by rw [c6283]; decide) ?_)
      exact cases 367 (by decide) (by omega)
    · refine wl_of hX hb cL_40 (rw_tsw (p1 := 380) ⟨by omega, by omega⟩ (by rw [c6283]; decide) ?_)
      exact cases 380 (by decide) (by omega)
    · refine wl_of hX hb cL_40 (rw_tsw (p1 := 405) ⟨by omega, by omega⟩ (by rw [c6283]; decide) ?_)
      exact cases 405 (by decide) (by omega)
    · refine wl_of hX hb cL_40 (rw_tsw (p1 := 454) ⟨by omega, by omega⟩ (by rw [c6283]; decide) ?_)
      exact cases 454 (by decide) (by omega)
    · refine wl_of hX hb cL_40 (rw_tsw (p1 := 503) ⟨by omega, by omega⟩ (by rw [c6283]; decide) ?_)
      exact cases 503 (by decide) (by omega)
    · refine wl_of hX hb cL_40 (rw_tsw (p1 := 516) ⟨by omega, by omega⟩ (by rw [c6283]; decide) ?_)
      exact cases 516 (by decide) (by omega)
    · refine wl_of hX hb cL_40 (rw_tsw (p1 := 553) ⟨by omega, by omega⟩ (by rw [c6283]; decide) ?_)
      exact cases 553 (by decide) (by omega)
    · refine wl_of hX hb cL_40 (rw_tsw (p1 := 578) ⟨by omega, by omega⟩ (by rw [c6283]; decide) ?_)
      exact cases 578 (by decide) (by omega)
    · refine wl_of hX hb cL_40 (rw_tsw (p1 := 603) ⟨by omega, by omega⟩ (by rw [c6283]; decide) ?_)
      exact cases 603 (by decide) (by omega)
    · refine wl_of hX hb cL_40 (rw_tsw (p1 := 616) ⟨by omega, by omega⟩ (by rw [c6283]; decide) ?_)
      exact cases 616 (by decide) (by omega)
    · refine wl_of hX hb cL_40 (rw_tsw (p1 := 629) ⟨by omega, by omega⟩ (by rw [c6283]; decide) ?_)
      exact cases 629 (by decide) (by omega)
    · refine wl_of hX hb cL_40 (rw_tsw (p1 := 642) ⟨by omega, by omega⟩ (by rw [c6283]; decide) ?_)
      exact cases 642 (by decide) (by omega)
    · refine wl_of hX hb cL_40 (rw_tsw (p1 := 655) ⟨by omega, by omega⟩ (by rw [c6283]; decide) ?_)
      exact cases 655 (by decide) (by omega)
    · refine wl_of hX hb cL_40 (rw_tsw (p1 := 668) ⟨by omega, by omega⟩ (by rw [c6283]; decide) ?_)
      exact cases 668 (by decide) (by omega)
    · refine wl_of hX hb cL_40 (rw_tsw (p1 := 705) ⟨by omega, by omega⟩ (by rw [c6283]; decide) ?_)
      exact cases 705 (by decide) (by omega)
    · refine wl_of hX hb cL_40 (rw_tsw (p1 := 718) ⟨by omega, by omega⟩ (by rw [c6283]; decide) ?_)
      exact cases 718 (by decide) (by omega)
    · refine wl_of hX hb cL_40 (rw_tsw (p1 := 755) ⟨by omega, by omega⟩ (by rw [c6283]; decide) ?_)
      exact cases 755 (by decide) (by omega)
    · refine wl_of hX hb cL_40 (rw_tsw (p1 := 792) ⟨by omega, by omega⟩ (by rw [c6283]; decide) ?_)
      exact cases 792 (by decide) (by omega)
    · refine wl_of hX hb cL_40 (rw_tsw (p1 := 829) ⟨by omega, by omega⟩ (by rw [c6283]; decide) ?_)
      exact cases 829 (by decide) (by omega)
    · refine wl_of hX hb cL_40 (rw_tsw (p1 := 882) ⟨by omega, by omega⟩ (by rw [c6283]; decide) ?_)
      exact cases 882 (by decide) (by omega)
    · refine wl_of hX hb cL_40 (rw_tsw (p1 := 919) ⟨by omega, by omega⟩ (by rw [c6283]; decide) ?_)
      exact cases 919 (by decide) (by omega)
    · refine wl_of hX hb cL_40 (rw_tsw (p1 := 944) ⟨by omega, by omega⟩ (by rw [c6283]; decide) ?_)
      exact cases 944 (by decide) (by omega)
    · refine wl_of hX hb cL_40 (rw_tsw (p1 := 957) ⟨by omega, by omega⟩ (by rw [c6283]; decide) ?_)
      exact cases 957 (by decide) (by omega)
    · refine wl_of hX hb cL_40 (rw_tsw (p1 := 994) ⟨by omega, by omega⟩ (by rw [c6283]; decide) ?_)
      exact cases 994 (by decide) (by omega)
    · refine wl_of hX hb cL_40 (rw_tsw (p1 := 1020) ⟨by omega, by omega⟩ (by rw [c6283]; decide) ?_)
      exact cases 1020 (by decide) (by omega)
    · refine wl_of hX hb cL_40 (rw_tsw (p1 := 1057) ⟨by omega, by omega⟩ (by rw [c6283]; decide) ?_)
      exact cases 1057 (by decide) (by omega)
    · refine wl_of hX hb cL_40 (rw_tsw (p1 := 1110) ⟨by omega, by omega⟩ (by rw [c6283]; decide) ?_)
      exact cases 1110 (by decide) (by omega)
    · refine wl_of hX hb cL_40 (rw_tsw (p1 := 1163) ⟨by omega, by omega⟩ (by rw [c6283]; decide) ?_)
      exact cases 1163 (by decide) (by omega)
    · refine wl_of hX hb cL_40 (rw_tsw (p1 := 1176) ⟨by omega, by omega⟩ (by rw [c6283]; decide) ?_)
      exact cases 1176 (by decide) (by omega)
    · refine wl_of hX hb cL_40 (rw_tsw (p1 := 1201) ⟨by omega, by omega⟩ (by rw [c6283]; decide) ?_)
      exact cases 1201 (by decide) (by omega)
    · refine wl_of hX hb cL_40 (rw_tsw (p1 := 1226) ⟨by omega, by omega⟩ (by rw [c6283]; decide) ?_)
      exact cases 1226 (by decide) (by omega)
    · refine wl_of hX hb cL_40 (rw_tsw (p1 := 1251) ⟨by omega, by omega⟩ (by rw [c6283]; decide) ?_)
      exact cases 1251 (by decide) (by omega)
    · refine wl_of hX hb cL_40 (rw_tsw (p1 := 1264) ⟨by omega, by omega⟩ (by rw [c6283]; decide) ?_)
      exact cases 1264 (by decide) (by omega)
    · refine wl_of hX hb cL_40 (rw_tsw (p1 := 1317) ⟨by omega, by omega⟩ (by rw [c6283]; decide) ?_)
      exact cases 1317 (by decide) (by omega)
    · refine wl_of hX hb cL_40 (rw_tsw (p1 := 1330) ⟨by omega, by omega⟩ (by rw [c6283]; decide) ?_)
      exact cases 1330 (by decide) (by omega)
    · refine wl_of hX hb cL_40 (rw_tsw (p1 := 1343) ⟨by omega, by omega⟩ (by rw [c6283]; decide) ?_)
      exact cases 1343 (by decide) (by omega)
    · refine wl_of hX hb cL_40 (rw_tsw (p1 := 1368) ⟨by omega, by omega⟩ (by rw [c6283]; decide) ?_)
      exact cases 1368 (by decide) (by omega)
    · refine wl_of hX hb cL_40 (rw_tsw (p1 := 1405) ⟨by omega, by omega⟩ (by rw [c6283]; decide) ?_)
      exact cases 1405 (by decide) (by omega)
    · refine wl_of hX hb cL_40 (rw_tsw (p1 := 1430) ⟨by omega, by omega⟩ (by rw [c6283]; decide) ?_)
      exact cases 1430 (by decide) (by omega)
    · refine wl_of hX hb cL_40 (rw_tsw (p1 := 1455) ⟨by omega, by omega⟩ (by rw [c6283]; decide) ?_)
      exact cases 1455 (by decide) (by omega)
    · refine wl_of hX hb cL_40 (rw_tsw (p1 := 1468) ⟨by omega, by omega⟩ (by rw [c6283]; decide) ?_)
      exact cases 1468 (by decide) (by omega)
    · refine wl_of hX hb cL_40 (rw_tsw (p1 := 1505) ⟨by omega, by omega⟩ (by rw [c6283]; decide) ?_)
      exact cases 1505 (by decide) (by omega)
    · refine wl_of hX hb cL_40 (rw_tsw (p1 := 1518) ⟨by omega, by omega⟩ (by rw [c6283]; decide) ?_)
      exact cases 1518 (by decide) (by omega)
    · refine wl_of hX hb cL_40 (rw_tsw (p1 := 1531) ⟨by omega, by omega⟩ (by rw [c6283]; decide) ?_)
      exact cases 1531 (by decide) (by omega)
    · refine wl_of hX hb cL_40 (rw_tsw (p1 := 1588) ⟨by omega, by omega⟩ (by rw [c6283]; decide) ?_)
      exact cases 1588 (by decide) (by omega)
    · refine wl_of hX hb cL_40 (rw_tsw (p1 := 1616) ⟨by omega, by omega⟩ (by rw [c6283]; decide) ?_)
      exact cases 1616 (by decide) (by omega)
    · refine wl_of hX hb cL_40 (rw_tsw (p1 := 1641) ⟨by omega, by omega⟩ (by rw [c6283]; decide) ?_)
      exact cases 1641 (by decide) (by omega)
    · refine wl_of hX hb cL_40 (rw_tsw (p1 := 1654) ⟨by omega, by omega⟩ (by rw [if_pos c6283]; decide) ?_)
      exact next (by omega)
theorem wl_back {kt : Nat → Option mc_E} {CB SB : Nat} {X : mc_S → Prop} {T : wq_T} {H : wq_H} {Len x m o : Nat} {i : Int} (hX : wlX kt CB SB X) (hb : T.2.1 ≤ CB ∧ T.2.2.1 ≤ SB) (hI : wlJ Len x m o T H) (hL : Len ≤ 3072) (hi : 0 ≤ i ∧ i + 6 ≤ Len) (next : WL kt CB SB X 23 (wlL (i + 6) x m o) [] T H) : WL kt CB SB X 1654 (wlL i x m o) [] T H := by
  obtain ⟨⟨hW, g0, gx, gm, go, hK, hr⟩, hXI, hY1, hY2⟩ := hI
  refine wl_of hX hb cL_1654 (rw_iinc (pc' := 1657) (z := i) (L' := [(4, vI (i + 6)), (3, .ref o), (2, .ref m), (1, .ref x), (0, .ref 0)]) rfl rfl rfl rfl ?_)
  refine wl_of hX hb cL_1657 (rw_goto (p1 := 23) (by decide) ?_)
  exact next
/-- the call that may throw, as the loop wants it -/
def wlLed (kt : Nat → Option mc_E) (CB SB : Nat) (X : mc_S → Prop) (Len x m o : Nat) : Prop := ∀ (T : wq_T) (H : wq_H) (i z : Int), T.2.1 + 20 ≤ CB ∧ T.2.2.1 + 500 ≤ SB → wI z → wlJ Len x m o T H → (∀ (z' : Int), wI z' → ∀ (T' : wq_T) (H' : wq_H), wlJ Len x m o T' H' → T'.2.1 ≤ T.2.1 + 20 → T'.2.2.1 ≤ T.2.2.1 + 500 → WL kt CB SB X 1599 (wlL i x m o) [vI z'] T' H') → WL kt CB SB X 1596 (wlL i x m o) [.ref o, vI z, .ref x] T H
set_option maxRecDepth 40000 in
theorem wl_loopL {kt : Nat → Option mc_E} {CB SB : Nat} {X : mc_S → Prop} {Len x m o : Nat} (hX : wlX kt CB SB X) (hL : Len ≤ 3072) (hled : wlLed kt CB SB X Len x m o) : ∀ (n : Nat) (T : wq_T) (H : wq_H) (i : Int), 0 ≤ i ∧ i ≤ Len → (Len - i).toNat = n → T.2.1 + 4 * (n + 6) ≤ CB → T.2.2.1 + 100 * (n + 6) ≤ SB → wlJ Len x m o T H → WL kt CB SB X 23 (wlL i x m o) [] T H := by
  intro n
  induction n using Nat.strongRecOn with
  | _ n ih =>
    intro T H i hi hn hc hs hI
    have hb : T.2.1 ≤ CB ∧ T.2.2.1 ≤ SB := ⟨by omega, by omega⟩
    have hb2 : T.2.1 + 20 ≤ CB ∧ T.2.2.1 + 500 ≤ SB := ⟨by omega, by omega⟩
    refine wl_head hX hb hI hL hi (fun t ht h6 => ?_) (fun h6 => wl_back hX hb hI hL ⟨hi.1, h6⟩ (ih (Len - (i + 6)).toNat (by omega) T H (i + 6) ⟨by omega, by omega⟩ rfl (by omega) (by omega) hI))
    have next : ∀ T' H', wlJ Len x m o T' H' → T'.2.1 ≤ T.2.1 + 20 → T'.2.2.1 ≤ T.2.2.1 + 500 → WL kt CB SB X 1654 (wlL i x m o) [] T' H' := fun T' H' hI' h1 h2 => wl_back hX ⟨by omega, by omega⟩ hI' hL ⟨hi.1, h6⟩ (ih (Len - (i + 6)).toNat (by omega) T' H' (i + 6) ⟨by omega, by omega⟩ rfl (by omega) (by omega) hI')
    rcases List.mem_cons.mp ht with rfl | ht
    · exact wl_c0 hX hb hI hL ⟨hi.1, h6⟩ hb2 next
    rcases List.mem_cons.mp ht with rfl | ht
    · exact wl_c1 hX hb hI hL ⟨hi.1, h6⟩ hb2 next
    rcases List.mem_cons.mp ht with rfl | ht
    · exact wl_c2 hX hb hI hL ⟨hi.1, h6⟩ hb2 next
    rcases List.mem_cons.mp ht with rfl | ht
    · exact wl_c3 hX hb hI hL ⟨hi.1, h6⟩ hb2 next
    rcases List.mem_cons.mp ht with rfl | ht
    · exact wl_c4 hX hb hI hL ⟨hi.1, h6⟩ hb2 next
    rcases List.mem_cons.mp ht with rfl | ht
    · exact wl_c5 hX hb hI hL ⟨hi.1, h6⟩ hb2 next
    rcases List.mem_cons.mp ht with rfl | ht
    · exact wl_c6 hX hb hI hL ⟨hi.1, h6⟩ hb2 next
    rcases List.mem_cons.mp ht with rfl | ht
    · exact wl_c7 hX hb hI hL ⟨hi.1, h6⟩ hb2 next
    rcases List.mem_cons.mp ht with rfl | ht
    · exact wl_c8 hX hb hI hL ⟨hi.1, h6⟩ hb2 next
    rcases List.mem_cons.mp ht with rfl | ht
    · exact wl_c9 hX hb hI hL ⟨hi.1, h6⟩ hb2 next
    rcases List.mem_cons.mp ht with rfl | ht
    · exact wl_c10 hX hb hI hL ⟨hi.1, h6⟩ hb2 next
    rcases List.mem_cons.mp ht with rfl | ht
    · exact wl_c11 hX hb hI hL ⟨hi.1, h6⟩ hb2 next
    rcases List.mem_cons.mp ht with rfl | ht
    · exact wl_c12 hX hb hI hL ⟨hi.1, h6⟩ hb2 next
    rcases List.mem_cons.mp ht with rfl | ht
    · exact wl_c13 hX hb hI hL ⟨hi.1, h6⟩ hb2 next
    rcases List.mem_cons.mp ht with rfl | ht
    · exact wl_c14 hX hb hI hL ⟨hi.1, h6⟩ hb2 next
    rcases List.mem_cons.mp ht with rfl | ht
    · exact wl_c15 hX hb hI hL ⟨hi.1, h6⟩ hb2 next
    rcases List.mem_cons.mp ht with rfl | ht
    · exact wl_c16 hX hb hI hL ⟨hi.1, h6⟩ hb2 next
    rcases List.mem_cons.mp ht with rfl | ht
    · exact wl_c17 hX hb hI hL ⟨hi.1, h6⟩ hb2 next
    rcases List.mem_cons.mp ht with rfl | ht
    · exact wl_c18 hX hb hI hL ⟨hi.1, h6⟩ hb2 next
    rcases List.mem_cons.mp ht with rfl | ht
    · exact wl_c19 hX hb hI hL ⟨hi.1, h6⟩ hb2 next
    rcases List.mem_cons.mp ht with rfl | ht
    · exact wl_c20 hX hb hI hL ⟨hi.1, h6⟩ hb2 next
    rcases List.mem_cons.mp ht with rfl | ht
    · exact wl_c21 hX hb hI hL ⟨hi.1, h6⟩ hb2 next
    rcases List.mem_cons.mp ht with rfl | ht
    · exact wl_c22 hX hb hI hL ⟨hi.1, h6⟩ hb2 next
    rcases List.mem_cons.mp ht with rfl | ht
    · exact wl_c23 hX hb hI hL ⟨hi.1, h6⟩ hb2 next
    rcases List.mem_cons.mp ht with rfl | ht
    · exact wl_c24 hX hb hI hL ⟨hi.1, h6⟩ hb2 next
    rcases List.mem_cons.mp ht with rfl | ht
    · exact wl_c25 hX hb hI hL ⟨hi.1, h6⟩ hb2 next
    rcases List.mem_cons.mp ht with rfl | ht
    · exact wl_c26 hX hb hI hL ⟨hi.1, h6⟩ hb2 next
    rcases List.mem_cons.mp ht with rfl | ht
    · exact wl_c27 hX hb hI hL ⟨hi.1, h6⟩ hb2 next
    rcases List.mem_cons.mp ht with rfl | ht
    · exact wl_c28 hX hb hI hL ⟨hi.1, h6⟩ hb2 next
    rcases List.mem_cons.mp ht with rfl | ht
    · exact wl_c29 hX hb hI hL ⟨hi.1, h6⟩ hb2 next
    rcases List.mem_cons.mp ht with rfl | ht
    · exact wl_c30 hX hb hI hL ⟨hi.1, h6⟩ hb2 next
    rcases List.mem_cons.mp ht with rfl | ht
    · exact wl_c31 hX hb hI hL ⟨hi.1, h6⟩ hb2 next
    rcases List.mem_cons.mp ht with rfl | ht
    · exact wl_c32 hX hb hI hL ⟨hi.1, h6⟩ hb2 next
    rcases List.mem_cons.mp ht with rfl | ht
    · exact wl_c33 hX hb hI hL ⟨hi.1, h6⟩ hb2 next
    rcases List.mem_cons.mp ht with rfl | ht
    · exact wl_c34 hX hb hI hL ⟨hi.1, h6⟩ hb2 next
    rcases List.mem_cons.mp ht with rfl | ht
    · exact wl_c35 hX hb hI hL ⟨hi.1, h6⟩ hb2 next
    rcases List.mem_cons.mp ht with rfl | ht
    · exact wl_c36 hX hb hI hL ⟨hi.1, h6⟩ hb2 next
    rcases List.mem_cons.mp ht with rfl | ht
    · exact wl_c37 hX hb hI hL ⟨hi.1, h6⟩ hb2 next
    rcases List.mem_cons.mp ht with rfl | ht
    · exact wl_c38 hX hb hI hL ⟨hi.1, h6⟩ hb2 next
    rcases List.mem_cons.mp ht with rfl | ht
    · exact wl_c39 hX hb hI hL ⟨hi.1, h6⟩ hb2 next
    rcases List.mem_cons.mp ht with rfl | ht
    · exact wl_c40 hX hb hI hL ⟨hi.1, h6⟩ hb2 next
    rcases List.mem_cons.mp ht with rfl | ht
    · exact wl_c41 hX hb hI hL ⟨hi.1, h6⟩ hb2 next
    rcases List.mem_cons.mp ht with rfl | ht
    · exact wl_c42 hX hb hI hL ⟨hi.1, h6⟩ hb2 next
    rcases List.mem_cons.mp ht with rfl | ht
    · exact wl_c43 hX hb hI hL ⟨hi.1, h6⟩ hb2 next
    rcases List.mem_cons.mp ht with rfl | ht
    · exact wl_c44 hX hb hI hL ⟨hi.1, h6⟩ hb2 next
    rcases List.mem_cons.mp ht with rfl | ht
    · exact wl_c45 hX hb hI hL ⟨hi.1, h6⟩ hb2 next
    rcases List.mem_cons.mp ht with rfl | ht
    · exact wl_c46 hX hb hI hL ⟨hi.1, h6⟩ hb2 next
    rcases List.mem_cons.mp ht with rfl | ht
    · exact wl_c47 hX hb hI hL ⟨hi.1, h6⟩ hb2 (fun hz _ hI2 k => hled T H i _ hb2 hz hI2 k) next
    rcases List.mem_cons.mp ht with rfl | ht
    · exact wl_c48 hX hb hI hL ⟨hi.1, h6⟩ hb2 next
    rcases List.mem_cons.mp ht with rfl | ht
    · exact wl_c49 hX hb hI hL ⟨hi.1, h6⟩ hb2 next
    cases ht
