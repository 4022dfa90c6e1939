/-! THE LAW, GONE ON WITH (own work) -/
set_option maxHeartbeats 4000000 in
theorem wl_c43 {kt : Nat → Option mc_E} {CB SB : Nat} {X : mc_S → Prop} {T : wq_T} {H : wq_H} {Len x m o : Nat} {i : Int} (hX : wlX kt CB SB X) (hb : T.2.1 ≤ CB ∧ T.2.2.1 ≤ SB) (hI : wlJ Len x m o T H) (hL : Len ≤ 3072) (hi : 0 ≤ i ∧ i + 6 ≤ Len) (hb2 : T.2.1 + 20 ≤ CB ∧ T.2.2.1 + 500 ≤ SB)  (next : ∀ T' H', wlJ Len x m o T' H' → T'.2.1 ≤ T.2.1 + 20 → T'.2.2.1 ≤ T.2.2.1 + 500 → WL kt CB SB X 1654 (wlL i x m o) [] T' H') : WL kt CB SB X 1468 (wlL i x m o) [] T H := by
  obtain ⟨⟨hW, g0, gx, gm, go, hK, hr⟩, hXI, hY1, hY2⟩ := hI
  refine wl_of hX hb cL_1468 (rw_aload_n (pc' := 1469) (v := .ref x) rfl rfl rfl ?_)
  refine wl_of hX hb cL_1469 (rw_aload_n (pc' := 1470) (v := .ref 0) rfl rfl rfl ?_)
  refine wl_of hX hb cL_1470 (rw_iload (pc' := 1472) (z := i) rfl rfl ?_)
  refine wl_of hX hb cL_1472 (rw_iconst (pc' := 1473) rfl ?_)
  refine wl_of hX hb cL_1473 (rw_iadd (pc' := 1474) rfl ?_)
  refine wl_of hX hb cL_1474 (xa_I (so := 0) (pc' := 1475) (a := 0) hW g0 (wsh_s _) (by omega) (wty_s _ _) (by omega) (by omega) rfl (fun b5842 b5843 => ?_))
  refine wl_of hX hb cL_1475 (rw_aload_n (pc' := 1476) (v := .ref 0) rfl rfl rfl ?_)
  refine wl_of hX hb cL_1476 (rw_iload (pc' := 1478) (z := i) rfl rfl ?_)
  refine wl_of hX hb cL_1478 (rw_iconst (pc' := 1479) rfl ?_)
  refine wl_of hX hb cL_1479 (rw_iadd (pc' := 1480) rfl ?_)
  refine wl_of hX hb cL_1480 (xa_I (so := 0) (pc' := 1481) (a := 0) hW g0 (wsh_s _) (by omega) (wty_s _ _) (by omega) (by omega) rfl (fun b5844 b5845 => ?_))
  refine wl_of hX hb cL_1481 (xc_V (pc' := 1484) (r := x) (as := [vI (H 0 ((i + 1).toNat)), vI (H 0 ((i + 2).toNat))]) (st := []) (lm_11_200) rfl rfl (Nat.le_of_ble_eq_true rfl) hW gx sh_1 (by decide) rfl (by decide) (s_157 hW gx ⟨by omega, by omega⟩ ⟨by omega, by omega⟩) (fun R5846 T5847 H5848 p5849 => ?_))
  obtain ⟨e5850, w5852, f5853, z5854, e5851, b5855⟩ := p5849
  subst e5850
  subst e5851
  show WL _ _ _ _ 1484 [(4, vI i), (3, .ref o), (2, .ref m), (1, .ref x), (0, .ref 0)] [vI z5854] _ H5848
  refine wl_of hX hb cL_1484 (rw_pop (pc' := 1485) rfl rfl ?_)
  refine wl_of hX hb cL_1485 (rw_aload_n (pc' := 1486) (v := .ref m) rfl rfl rfl ?_)
  refine wl_of hX hb cL_1486 (rw_aload_n (pc' := 1487) (v := .ref 0) rfl rfl rfl ?_)
  refine wl_of hX hb cL_1487 (rw_iload (pc' := 1489) (z := i) rfl rfl ?_)
  refine wl_of hX hb cL_1489 (rw_iconst (pc' := 1490) rfl ?_)
  refine wl_of hX hb cL_1490 (rw_iadd (pc' := 1491) rfl ?_)
  have k5858 : H5848 0 ((i + 1).toNat) = H 0 ((i + 1).toNat) := (f5853 0 ((i + 1).toNat) _ g0 (wmem_s rfl))
  refine wl_of hX hb cL_1491 (xa_I (so := 0) (pc' := 1492) (a := 0) w5852 g0 (wsh_s _) (by omega) (wty_s _ _) (by omega) (by omega) rfl (fun b5856 b5857 => ?_))
  refine wl_of hX hb cL_1492 (rw_aload_n (pc' := 1493) (v := .ref 0) rfl rfl rfl ?_)
  refine wl_of hX hb cL_1493 (rw_iload (pc' := 1495) (z := i) rfl rfl ?_)
  refine wl_of hX hb cL_1495 (rw_iconst (pc' := 1496) rfl ?_)
  refine wl_of hX hb cL_1496 (rw_iadd (pc' := 1497) rfl ?_)
  have k5861 : H5848 0 ((i + 2).toNat) = H 0 ((i + 2).toNat) := (f5853 0 ((i + 2).toNat) _ g0 (wmem_s rfl))
  refine wl_of hX hb cL_1497 (xa_I (so := 0) (pc' := 1498) (a := 0) w5852 g0 (wsh_s _) (by omega) (wty_s _ _) (by omega) (by omega) rfl (fun b5859 b5860 => ?_))
  have k5862 : wKI H5848 m = wKI H m := (wKI_fr hW gm f5853 rfl)
  have k5863 : H5848 x 9 = H x 9 := (f5853 x 9 _ gx rfl)
  have k5864 : H5848 m 6 = H m 6 := (f5853 m 6 _ gm rfl)
  have k5865 : H5848 x 11 = H x 11 := (f5853 x 11 _ gx rfl)
  have k5866 : H5848 m 13 = H m 13 := (f5853 m 13 _ gm rfl)
  have k5867 : H5848 x 8 = H x 8 := (f5853 x 8 _ gx rfl)
  have k5868 : H5848 m 3 = H m 3 := (f5853 m 3 _ gm rfl)
  refine wl_of hX hb cL_1498 (xc_V (pc' := 1501) (r := m) (as := [vI (H5848 0 ((i + 1).toNat)), vI (H5848 0 ((i + 2).toNat))]) (st := []) (lm_11_203) rfl rfl (Nat.le_of_ble_eq_true rfl) w5852 gm sh_42 (by decide) rfl (by decide) (s_289 w5852 gm ⟨by omega, by omega⟩ ⟨by omega, by omega⟩ (by omega)) (fun R5869 T5870 H5871 p5872 => ?_))
  obtain ⟨e5873, w5875, f5876, z5878, e5874, b5879, p5877⟩ := p5872
  subst e5873
  subst e5874
  show WL _ _ _ _ 1501 [(4, vI i), (3, .ref o), (2, .ref m), (1, .ref x), (0, .ref 0)] [vI z5878] _ H5871
  refine wl_of hX hb cL_1501 (rw_pop (pc' := 1502) rfl rfl ?_)
  refine wl_of hX hb cL_1502 (rw_goto (p1 := 1654) (by decide) ?_)
  have k5880 : H5871 x 9 = H5848 x 9 := (f5876 x 9 _ gx rfl)
  have k5881 : H5871 m 6 = H5848 m 6 := (f5876 m 6 _ gm rfl)
  have k5882 : H5871 x 11 = H5848 x 11 := (f5876 x 11 _ gx rfl)
  have k5883 : H5871 m 13 = H5848 m 13 := (f5876 m 13 _ gm rfl)
  have k5884 : H5871 x 8 = H5848 x 8 := (f5876 x 8 _ gx rfl)
  have k5885 : H5871 m 3 = H5848 m 3 := (f5876 m 3 _ gm rfl)
  have h5886 : XI T H5871 x m := (XI_fr w5852 gx f5876 rfl (XI_fr hW gx f5853 rfl hXI))
  exact WL.loc hX (by simp) (next T H5871 ⟨⟨w5875, g0, gx, gm, go, by omega, by omega⟩, h5886, by omega, by omega⟩ (by omega) (by omega))
set_option maxHeartbeats 4000000 in
theorem wl_c44 {kt : Nat → Option mc_E} {CB SB : Nat} {X : mc_S → Prop} {T : wq_T} {H : wq_H} {Len x m o : Nat} {i : Int} (hX : wlX kt CB SB X) (hb : T.2.1 ≤ CB ∧ T.2.2.1 ≤ SB) (hI : wlJ Len x m o T H) (hL : Len ≤ 3072) (hi : 0 ≤ i ∧ i + 6 ≤ Len) (hb2 : T.2.1 + 20 ≤ CB ∧ T.2.2.1 + 500 ≤ SB)  (next : ∀ T' H', wlJ Len x m o T' H' → T'.2.1 ≤ T.2.1 + 20 → T'.2.2.1 ≤ T.2.2.1 + 500 → WL kt CB SB X 1654 (wlL i x m o) [] T' H') : WL kt CB SB X 1505 (wlL i x m o) [] T H := by
  obtain ⟨⟨hW, g0, gx, gm, go, hK, hr⟩, hXI, hY1, hY2⟩ := hI
  refine wl_of hX hb cL_1505 (rw_aload_n (pc' := 1506) (v := .ref x) rfl rfl rfl ?_)
  refine wl_of hX hb cL_1506 (xc_V (pc' := 1509) (r := x) (as := []) (st := []) (lm_11_204) rfl rfl (Nat.le_of_ble_eq_true rfl) hW gx sh_1 (by decide) rfl (by decide) (s_158 hW gx) (fun R5887 T5888 H5889 p5890 => ?_))
  obtain ⟨e5891, w5893, f5894, z5895, e5892, b5896⟩ := p5890
  subst e5891
  subst e5892
  show WL _ _ _ _ 1509 [(4, vI i), (3, .ref o), (2, .ref m), (1, .ref x), (0, .ref 0)] [vI z5895] _ H5889
  refine wl_of hX hb cL_1509 (rw_pop (pc' := 1510) rfl rfl ?_)
  refine wl_of hX hb cL_1510 (rw_aload_n (pc' := 1511) (v := .ref m) rfl rfl rfl ?_)
  have k5897 : wKI H5889 m = wKI H m := (wKI_fr hW gm f5894 rfl)
  have k5898 : H5889 x 9 = H x 9 := (f5894 x 9 _ gx rfl)
  have k5899 : H5889 m 6 = H m 6 := (f5894 m 6 _ gm rfl)
  have k5900 : H5889 x 11 = H x 11 := (f5894 x 11 _ gx rfl)
  have k5901 : H5889 m 13 = H m 13 := (f5894 m 13 _ gm rfl)
  have k5902 : H5889 x 8 = H x 8 := (f5894 x 8 _ gx rfl)
  have k5903 : H5889 m 3 = H m 3 := (f5894 m 3 _ gm rfl)
  refine wl_of hX hb cL_1511 (xc_V (pc' := 1514) (r := m) (as := []) (st := []) (lm_11_208) rfl rfl (Nat.le_of_ble_eq_true rfl) w5893 gm sh_42 (by decide) rfl (by decide) (s_290 w5893 gm (by omega)) (fun R5904 T5905 H5906 p5907 => ?_))
  obtain ⟨e5908, w5910, f5911, z5913, e5909, b5914, p5912⟩ := p5907
  subst e5908
  subst e5909
  show WL _ _ _ _ 1514 [(4, vI i), (3, .ref o), (2, .ref m), (1, .ref x), (0, .ref 0)] [vI z5913] _ H5906
  refine wl_of hX hb cL_1514 (rw_pop (pc' := 1515) rfl rfl ?_)
  refine wl_of hX hb cL_1515 (rw_goto (p1 := 1654) (by decide) ?_)
  have k5915 : H5906 x 9 = H5889 x 9 := (f5911 x 9 _ gx rfl)
  have k5916 : H5906 m 6 = H5889 m 6 := (f5911 m 6 _ gm rfl)
  have k5917 : H5906 x 11 = H5889 x 11 := (f5911 x 11 _ gx rfl)
  have k5918 : H5906 m 13 = H5889 m 13 := (f5911 m 13 _ gm rfl)
  have k5919 : H5906 x 8 = H5889 x 8 := (f5911 x 8 _ gx rfl)
  have k5920 : H5906 m 3 = H5889 m 3 := (f5911 m 3 _ gm rfl)
  have h5921 : XI T H5906 x m := (XI_fr w5893 gx f5911 rfl (XI_fr hW gx f5894 rfl hXI))
  exact WL.loc hX (by simp) (next T H5906 ⟨⟨w5910, g0, gx, gm, go, by omega, by omega⟩, h5921, by omega, by omega⟩ (by omega) (by omega))
set_option maxHeartbeats 4000000 in
theorem wl_c45 {kt : Nat → Option mc_E} {CB SB : Nat} {X : mc_S → Prop} {T : wq_T} {H : wq_H} {Len x m o : Nat} {i : Int} (hX : wlX kt CB SB X) (hb : T.2.1 ≤ CB ∧ T.2.2.1 ≤ SB) (hI : wlJ Len x m o T H) (hL : Len ≤ 3072) (hi : 0 ≤ i ∧ i + 6 ≤ Len) (hb2 : T.2.1 + 20 ≤ CB ∧ T.2.2.1 + 500 ≤ SB)  (next : ∀ T' H', wlJ Len x m o T' H' → T'.2.1 ≤ T.2.1 + 20 → T'.2.2.1 ≤ T.2.2.1 + 500 → WL kt CB SB X 1654 (wlL i x m o) [] T' H') : WL kt CB SB X 1518 (wlL i x m o) [] T H := by
  obtain ⟨⟨hW, g0, gx, gm, go, hK, hr⟩, hXI, hY1, hY2⟩ := hI
  refine wl_of hX hb cL_1518 (rw_aload_n (pc' := 1519) (v := .ref x) rfl rfl rfl ?_)
  refine wl_of hX hb cL_1519 (xc_V (pc' := 1522) (r := x) (as := []) (st := []) (lm_11_209) rfl rfl (Nat.le_of_ble_eq_true rfl) hW gx sh_1 (by decide) rfl (by decide) (s_159 hW gx) (fun R5922 T5923 H5924 p5925 => ?_))
  obtain ⟨e5926, w5928, f5929, z5930, e5927, b5931⟩ := p5925
  subst e5926
  subst e5927
  show WL _ _ _ _ 1522 [(4, vI i), (3, .ref o), (2, .ref m), (1, .ref x), (0, .ref 0)] [vL z5930] _ H5924
  refine wl_of hX hb cL_1522 (rw_pop2 (pc' := 1523) rfl rfl ?_)
  refine wl_of hX hb cL_1523 (rw_aload_n (pc' := 1524) (v := .ref m) rfl rfl rfl ?_)
  have k5932 : wKI H5924 m = wKI H m := (wKI_fr hW gm f5929 rfl)
  have k5933 : H5924 x 9 = H x 9 := (f5929 x 9 _ gx rfl)
  have k5934 : H5924 m 6 = H m 6 := (f5929 m 6 _ gm rfl)
  have k5935 : H5924 x 11 = H x 11 := (f5929 x 11 _ gx rfl)
  have k5936 : H5924 m 13 = H m 13 := (f5929 m 13 _ gm rfl)
  have k5937 : H5924 x 8 = H x 8 := (f5929 x 8 _ gx rfl)
  have k5938 : H5924 m 3 = H m 3 := (f5929 m 3 _ gm rfl)
  refine wl_of hX hb cL_1524 (xc_V (pc' := 1527) (r := m) (as := []) (st := []) (lm_11_212) rfl rfl (Nat.le_of_ble_eq_true rfl) w5928 gm sh_42 (by decide) rfl (by decide) (s_291 w5928 gm (by omega)) (fun R5939 T5940 H5941 p5942 => ?_))
  obtain ⟨e5943, w5945, f5946, z5948, e5944, b5949, p5947⟩ := p5942
  subst e5943
  subst e5944
  show WL _ _ _ _ 1527 [(4, vI i), (3, .ref o), (2, .ref m), (1, .ref x), (0, .ref 0)] [vL z5948] _ H5941
  refine wl_of hX hb cL_1527 (rw_pop2 (pc' := 1528) rfl rfl ?_)
  refine wl_of hX hb cL_1528 (rw_goto (p1 := 1654) (by decide) ?_)
  have k5950 : H5941 x 9 = H5924 x 9 := (f5946 x 9 _ gx rfl)
  have k5951 : H5941 m 6 = H5924 m 6 := (f5946 m 6 _ gm rfl)
  have k5952 : H5941 x 11 = H5924 x 11 := (f5946 x 11 _ gx rfl)
  have k5953 : H5941 m 13 = H5924 m 13 := (f5946 m 13 _ gm rfl)
  have k5954 : H5941 x 8 = H5924 x 8 := (f5946 x 8 _ gx rfl)
  have k5955 : H5941 m 3 = H5924 m 3 := (f5946 m 3 _ gm rfl)
  have h5956 : XI T H5941 x m := (XI_fr w5928 gx f5946 rfl (XI_fr hW gx f5929 rfl hXI))
  exact WL.loc hX (by simp) (next T H5941 ⟨⟨w5945, g0, gx, gm, go, by omega, by omega⟩, h5956, by omega, by omega⟩ (by omega) (by omega))
set_option maxHeartbeats 4000000 in
theorem wl_c46 {kt : Nat → Option mc_E} {CB SB : Nat} {X : mc_S → Prop} {T : wq_T} {H : wq_H} {Len x m o : Nat} {i : Int} (hX : wlX kt CB SB X) (hb : T.2.1 ≤ CB ∧ T.2.2.1 ≤ SB) (hI : wlJ Len x m o T H) (hL : Len ≤ 3072) (hi : 0 ≤ i ∧ i + 6 ≤ Len) (hb2 : T.2.1 + 20 ≤ CB ∧ T.2.2.1 + 500 ≤ SB)  (next : ∀ T' H', wlJ Len x m o T' H' → T'.2.1 ≤ T.2.1 + 20 → T'.2.2.1 ≤ T.2.2.1 + 500 → WL kt CB SB X 1654 (wlL i x m o) [] T' H') : WL kt CB SB X 1531 (wlL i x m o) [] T H := by
  obtain ⟨⟨hW, g0, gx, gm, go, hK, hr⟩, hXI, hY1, hY2⟩ := hI
  refine wl_of hX hb cL_1531 (rw_aload_n (pc' := 1532) (v := .ref x) rfl rfl rfl ?_)
  refine wl_of hX hb cL_1532 (rw_aload_n (pc' := 1533) (v := .ref 0) rfl rfl rfl ?_)
  refine wl_of hX hb cL_1533 (rw_iload (pc' := 1535) (z := i) rfl rfl ?_)
  refine wl_of hX hb cL_1535 (rw_iconst (pc' := 1536) rfl ?_)
  refine wl_of hX hb cL_1536 (rw_iadd (pc' := 1537) rfl ?_)
  refine wl_of hX hb cL_1537 (xa_I (so := 0) (pc' := 1538) (a := 0) hW g0 (wsh_s _) (by omega) (wty_s _ _) (by omega) (by omega) rfl (fun b5957 b5958 => ?_))
  refine wl_of hX hb cL_1538 (rw_i2l (pc' := 1539) rfl ⟨by omega, by omega⟩ ?_)
  refine wl_of hX hb cL_1539 (rw_bipush (pc' := 1541) (z := 32) rfl (by decide) ?_)
  refine wl_of hX hb cL_1541 (rw_lshl (pc' := 1542) rfl ?_)
  obtain ⟨v5959, e5960⟩ : ∃ x : Int, x = wl_shl (H 0 ((i + 1).toNat)) 32 := ⟨_, rfl⟩
  rw [← e5960]
  have b5961 : -9223372036854775808 ≤ v5959 ∧ v5959 ≤ 9223372036854775807 := by
    rw [e5960]
    exact wL_shl _ _
  refine wl_of hX hb cL_1542 (rw_aload_n (pc' := 1543) (v := .ref 0) rfl rfl rfl ?_)
  refine wl_of hX hb cL_1543 (rw_iload (pc' := 1545) (z := i) rfl rfl ?_)
  refine wl_of hX hb cL_1545 (rw_iconst (pc' := 1546) rfl ?_)
  refine wl_of hX hb cL_1546 (rw_iadd (pc' := 1547) rfl ?_)
  refine wl_of hX hb cL_1547 (xa_I (so := 0) (pc' := 1548) (a := 0) hW g0 (wsh_s _) (by omega) (wty_s _ _) (by omega) (by omega) rfl (fun b5962 b5963 => ?_))
  refine wl_of hX hb cL_1548 (rw_i2l (pc' := 1549) rfl ⟨by omega, by omega⟩ ?_)
  refine wl_of hX hb cL_1549 (rw_ldc2 (pc' := 1552) (z := 4294967295) rfl rfl rfl ?_)
  refine wl_of hX hb cL_1552 (rw_land (pc' := 1553) rfl ?_)
  obtain ⟨v5964, e5965⟩ : ∃ x : Int, x = wl_and (H 0 ((i + 2).toNat)) 4294967295 := ⟨_, rfl⟩
  rw [← e5965]
  have b5966 : -9223372036854775808 ≤ v5964 ∧ v5964 ≤ 9223372036854775807 := by
    rw [e5965]
    exact wL_and _ _
  refine wl_of hX hb cL_1553 (rw_lor (pc' := 1554) rfl ?_)
  obtain ⟨v5967, e5968⟩ : ∃ x : Int, x = wl_or v5959 v5964 := ⟨_, rfl⟩
  rw [← e5968]
  have b5969 : -9223372036854775808 ≤ v5967 ∧ v5967 ≤ 9223372036854775807 := by
    rw [e5968]
    exact wL_or _ _
  obtain ⟨B, tc, tm, cu, dr, C8, e8, d8, n8, g8, ce8, e0, gtc, htc, em, gtm, htm, ecu, gcu, edr, gdr, hcu, hdr, hdec, hded, hsp, hC1, hC2, hcu8, hrb8, hcg8, hmn8, hE, hZ, hn8, hXA, hV8, hSG, ece8, gce8, hcen8, hhdr8, hknn8, -⟩ := hXI
  have hN3 := RB_n3 hrb8
  have hE13 : ∀ h : Nat, h < 24 → 0 ≤ e8 13 h ∧ e8 13 h ≤ 100 := fun k hk => by
    obtain ⟨s, h1, h2, h3⟩ := hcu8.1.2.2.1
    exact ⟨(h3 k hk).1, (h3 k hk).2.1⟩
  have hXW := hXA.1
  have hXN := hXA.2
  have hE0 : e8 0 3 = d8 0 3 ∧ e8 0 0 = d8 0 0 := by
    have h := hE 0 (by decide)
    exact ⟨congrFun h 3, congrFun h 0⟩
  have u5970 := CU_k hcu8
  have h5971 : CY T H cu (d8 0 3) g8 (H cu 17) := ⟨hcg8, rfl⟩
  have h5972 : RY T H m (d8 0 3) g8 (H m 32) := ⟨hmn8, rfl⟩
  obtain ⟨t9, ht9⟩ : ∃ t : Int, t = H x 9 := ⟨_, rfl⟩
  refine wl_of hX hb cL_1554 (xc_V (pc' := 1557) (r := x) (as := [vL v5967]) (st := []) (lm_11_215) rfl rfl (Nat.le_of_ble_eq_true rfl) hW gx sh_1 (by decide) rfl (by decide) (u_161 (e := e8) (d := d8) (n := n8) (nY := ((d8 0 3))) (gY := g8) (cY := ((H cu 17))) hW gx ⟨b5969.1, b5969.2⟩ ecu gcu (by omega) (by omega) (by omega) hcu8 h5971 hcu) (fun R5973 T5974 H5975 p5976 => ?_))
  obtain ⟨e5977, w5979, f5980, z5981, e5978, b5982, p5983⟩ := p5976
  subst e5977
  subst e5978
  rcases p5983 with ⟨a5984, a5985, a5986, a5987, a5988⟩ | ⟨a5989, a5990, a5991⟩
  · show WL _ _ _ _ 1557 [(4, vI i), (3, .ref o), (2, .ref m), (1, .ref x), (0, .ref 0)] [vI z5981] _ H5975
    refine wl_of hX hb cL_1557 (rw_pop (pc' := 1558) rfl rfl ?_)
    refine wl_of hX hb cL_1558 (rw_aload_n (pc' := 1559) (v := .ref m) rfl rfl rfl ?_)
    refine wl_of hX hb cL_1559 (rw_aload_n (pc' := 1560) (v := .ref 0) rfl rfl rfl ?_)
    refine wl_of hX hb cL_1560 (rw_iload (pc' := 1562) (z := i) rfl rfl ?_)
    refine wl_of hX hb cL_1562 (rw_iconst (pc' := 1563) rfl ?_)
    refine wl_of hX hb cL_1563 (rw_iadd (pc' := 1564) rfl ?_)
    have k5994 : H5975 0 ((i + 1).toNat) = H 0 ((i + 1).toNat) := (f5980 0 ((i + 1).toNat) _ g0 (wmem_s rfl))
    refine wl_of hX hb cL_1564 (xa_I (so := 0) (pc' := 1565) (a := 0) w5979 g0 (wsh_s _) (by omega) (wty_s _ _) (by omega) (by omega) rfl (fun b5992 b5993 => ?_))
    refine wl_of hX hb cL_1565 (rw_i2l (pc' := 1566) rfl ⟨by omega, by omega⟩ ?_)
    refine wl_of hX hb cL_1566 (rw_bipush (pc' := 1568) (z := 32) rfl (by decide) ?_)
    refine wl_of hX hb cL_1568 (rw_lshl (pc' := 1569) rfl ?_)
    obtain ⟨v5995, e5996⟩ : ∃ x : Int, x = wl_shl (H5975 0 ((i + 1).toNat)) 32 := ⟨_, rfl⟩
    rw [← e5996]
    have b5997 : -9223372036854775808 ≤ v5995 ∧ v5995 ≤ 9223372036854775807 := by
      rw [e5996]
      exact wL_shl _ _
    refine wl_of hX hb cL_1569 (rw_aload_n (pc' := 1570) (v := .ref 0) rfl rfl rfl ?_)
    refine wl_of hX hb cL_1570 (rw_iload (pc' := 1572) (z := i) rfl rfl ?_)
    refine wl_of hX hb cL_1572 (rw_iconst (pc' := 1573) rfl ?_)
    refine wl_of hX hb cL_1573 (rw_iadd (pc' := 1574) rfl ?_)
    have k6000 : H5975 0 ((i + 2).toNat) = H 0 ((i + 2).toNat) := (f5980 0 ((i + 2).toNat) _ g0 (wmem_s rfl))
    refine wl_of hX hb cL_1574 (xa_I (so := 0) (pc' := 1575) (a := 0) w5979 g0 (wsh_s _) (by omega) (wty_s _ _) (by omega) (by omega) rfl (fun b5998 b5999 => ?_))
    refine wl_of hX hb cL_1575 (rw_i2l (pc' := 1576) rfl ⟨by omega, by omega⟩ ?_)
    refine wl_of hX hb cL_1576 (rw_ldc2 (pc' := 1579) (z := 4294967295) rfl rfl rfl ?_)
    refine wl_of hX hb cL_1579 (rw_land (pc' := 1580) rfl ?_)
    obtain ⟨v6001, e6002⟩ : ∃ x : Int, x = wl_and (H5975 0 ((i + 2).toNat)) 4294967295 := ⟨_, rfl⟩
    rw [← e6002]
    have b6003 : -9223372036854775808 ≤ v6001 ∧ v6001 ≤ 9223372036854775807 := by
      rw [e6002]
      exact wL_and _ _
    refine wl_of hX hb cL_1580 (rw_lor (pc' := 1581) rfl ?_)
    obtain ⟨v6004, e6005⟩ : ∃ x : Int, x = wl_or v5995 v6001 := ⟨_, rfl⟩
    rw [← e6005]
    have b6006 : -9223372036854775808 ≤ v6004 ∧ v6004 ≤ 9223372036854775807 := by
      rw [e6005]
      exact wL_or _ _
    have k6007 : wKI H5975 m = wKI H m := (wKI_fr hW gm f5980 rfl)
    have k6008 : H5975 x 9 = H x 9 := (f5980 x 9 _ gx rfl)
    have k6009 : H5975 m 6 = H m 6 := (f5980 m 6 _ gm rfl)
    have k6010 : H5975 x 11 = H x 11 := (f5980 x 11 _ gx rfl)
    have k6011 : H5975 m 13 = H m 13 := (f5980 m 13 _ gm rfl)
    have k6012 : H5975 x 8 = H x 8 := (f5980 x 8 _ gx rfl)
    have k6013 : H5975 m 3 = H m 3 := (f5980 m 3 _ gm rfl)
    have rs9 : v6004 = v5967 := by
      rw [e6005, e5996, e6002, e5968, e5960, e5965, show H5975 0 ((i + 1).toNat) = H 0 ((i + 1).toNat) by omega, show H5975 0 ((i + 2).toNat) = H 0 ((i + 2).toNat) by omega]
    rw [rs9]
    have h6014 : RB T H5975 m e8 d8 := (RB_fr hW gm f5980 rfl hrb8)
    have h6015 : RY T H5975 m (d8 0 3) g8 (H m 32) := (RY_fr hW gm f5980 rfl h5972)
    refine wl_of hX hb cL_1581 (xc_V (pc' := 1584) (r := m) (as := [vL v5967]) (st := []) (lm_11_219) rfl rfl (Nat.le_of_ble_eq_true rfl) w5979 gm sh_42 (by decide) rfl (by decide) (u_292 (e := e8) (d := d8) (nY := ((d8 0 3))) (gY := g8) (cY := ((H m 32))) w5979 gm ⟨b5969.1, b5969.2⟩ (by omega) h6014 h6015) (fun R6016 T6017 H6018 p6019 => ?_))
    obtain ⟨e6020, w6022, f6023, z6024, e6021, b6025, p6026⟩ := p6019
    subst e6020
    subst e6021
    rcases p6026 with ⟨a6027, a6028, a6029, a6030⟩ | ⟨a6031, a6032, a6033⟩
    · show WL _ _ _ _ 1584 [(4, vI i), (3, .ref o), (2, .ref m), (1, .ref x), (0, .ref 0)] [vI z6024] _ H6018
      refine wl_of hX hb cL_1584 (rw_pop (pc' := 1585) rfl rfl ?_)
      refine wl_of hX hb cL_1585 (rw_goto (p1 := 1654) (by decide) ?_)
      have k6034 : wKI H6018 m = wKI H5975 m := (wKI_fr w5979 gm f6023 rfl)
      have k6035 : H6018 x 9 = H5975 x 9 := (f6023 x 9 _ gx rfl)
      have k6036 : H6018 m 6 = H5975 m 6 := (f6023 m 6 _ gm rfl)
      have k6037 : H6018 x 11 = H5975 x 11 := (f6023 x 11 _ gx rfl)
      have k6038 : H6018 m 13 = H5975 m 13 := (f6023 m 13 _ gm rfl)
      have k6039 : H6018 x 8 = H5975 x 8 := (f6023 x 8 _ gx rfl)
      have k6040 : H6018 m 3 = H5975 m 3 := (f6023 m 3 _ gm rfl)
      have k6041 : H6018 x 0 = H x 0 := ((f6023 x 0 _ gx rfl).trans (f5980 x 0 _ gx rfl))
      have q6042 : H6018 x 0 = (tc : Int) := k6041.trans e0
      have k6043 : H6018 m 5 = H m 5 := ((f6023 m 5 _ gm rfl).trans (f5980 m 5 _ gm rfl))
      have q6044 : H6018 m 5 = (tm : Int) := k6043.trans em
      have k6045 : H6018 x 6 = H x 6 := ((f6023 x 6 _ gx rfl).trans (f5980 x 6 _ gx rfl))
      have q6046 : H6018 x 6 = (cu : Int) := k6045.trans ecu
      have k6047 : H6018 x 7 = H x 7 := ((f6023 x 7 _ gx rfl).trans (f5980 x 7 _ gx rfl))
      have q6048 : H6018 x 7 = (dr : Int) := k6047.trans edr
      have h6049 : CEN T H6018 ce8 e8 d8 := (CEN_fr w5979 gce8 f6023 rfl (CEN_fr hW gce8 f5980 rfl hcen8))
      have h6050 : TP T H6018 tc B := (TP_fr w5979 gtc f6023 rfl (TP_fr hW gtc f5980 rfl htc))
      have h6051 : TM T H6018 tm B := (TM_fr w5979 gtm f6023 rfl (TM_fr hW gtm f5980 rfl htm))
      have h6052 : DD T H6018 cu  := (DD_fr w5979 gcu f6023 rfl (DD_fr hW gcu f5980 rfl hcu))
      have h6053 : DD T H6018 dr  := (DD_fr w5979 gdr f6023 rfl (DD_fr hW gdr f5980 rfl hdr))
      have h6054 : DE T H6018 cu  := (DE_fr w5979 gcu f6023 rfl (DE_fr hW gcu f5980 rfl hdec))
      have h6055 : DE T H6018 dr  := (DE_fr w5979 gdr f6023 rfl (DE_fr hW gdr f5980 rfl hded))
      have h6056 : SP T H6018 x C8 := (SP_fr w5979 gx f6023 rfl (SP_fr hW gx f5980 rfl hsp))
      have h6057 : CU T H6018 cu e8 d8 n8 := (CU_fr w5979 gcu f6023 rfl (CU_fr hW gcu f5980 rfl hcu8))
      have h6058 : CY T H6018 cu ((d8 0 3)) (xdg d8 v5967) (wdv (d8 0 3).toNat v5967) := (CY_fr w5979 gcu f6023 rfl a5988)
      have k6059 : H6018 x 3 = H x 3 := ((f6023 x 3 _ gx rfl).trans (f5980 x 3 _ gx rfl))
      have q6060 : H6018 x 3 = (ce8 : Int) := k6059.trans ece8
      have h6061 : HDR T H6018 ce8  := (HDR_fr w5979 gce8 f6023 rfl (HDR_fr hW gce8 f5980 rfl hhdr8))
      have h6062 : KNN T H6018 m e8 d8 := (KNN_fr w5979 gm f6023 rfl (KNN_fr hW gm f5980 rfl hknn8))
      have h6063 : RB T H6018 m e8 d8 := (RB_fr w5979 gm f6023 rfl h6014)
      exact WL.loc hX (by simp) (next T H6018 ⟨⟨w6022, g0, gx, gm, go, by omega, by omega⟩, ⟨_, tc, tm, cu, dr, _, _, _, _, _, ce8, q6042, gtc, h6050, q6044, gtm, h6051, q6046, gcu, q6048, gdr, h6052, h6053, h6054, h6055, h6056, hC1, hC2, h6057, h6063, (h6058).1, (a6030).1, hE, hZ, (by omega), (by assumption), (by omega), (by first | assumption | exact SG_0), q6060, gce8, h6049, h6061, h6062, gm⟩, by omega, by omega⟩ (by omega) (by omega))
    · show WL _ _ _ _ 1584 [(4, vI i), (3, .ref o), (2, .ref m), (1, .ref x), (0, .ref 0)] [vI z6024] _ H6018
      refine wl_of hX hb cL_1584 (rw_pop (pc' := 1585) rfl rfl ?_)
      refine wl_of hX hb cL_1585 (rw_goto (p1 := 1654) (by decide) ?_)
      have k6064 : wKI H6018 m = wKI H5975 m := (wKI_fr w5979 gm f6023 rfl)
      have k6065 : H6018 x 9 = H5975 x 9 := (f6023 x 9 _ gx rfl)
      have k6066 : H6018 m 6 = H5975 m 6 := (f6023 m 6 _ gm rfl)
      have k6067 : H6018 x 11 = H5975 x 11 := (f6023 x 11 _ gx rfl)
      have k6068 : H6018 m 13 = H5975 m 13 := (f6023 m 13 _ gm rfl)
      have k6069 : H6018 x 8 = H5975 x 8 := (f6023 x 8 _ gx rfl)
      have k6070 : H6018 m 3 = H5975 m 3 := (f6023 m 3 _ gm rfl)
      have k6071 : H6018 x 0 = H x 0 := ((f6023 x 0 _ gx rfl).trans (f5980 x 0 _ gx rfl))
      have q6072 : H6018 x 0 = (tc : Int) := k6071.trans e0
      have k6073 : H6018 m 5 = H m 5 := ((f6023 m 5 _ gm rfl).trans (f5980 m 5 _ gm rfl))
      have q6074 : H6018 m 5 = (tm : Int) := k6073.trans em
      have k6075 : H6018 x 6 = H x 6 := ((f6023 x 6 _ gx rfl).trans (f5980 x 6 _ gx rfl))
      have q6076 : H6018 x 6 = (cu : Int) := k6075.trans ecu
      have k6077 : H6018 x 7 = H x 7 := ((f6023 x 7 _ gx rfl).trans (f5980 x 7 _ gx rfl))
      have q6078 : H6018 x 7 = (dr : Int) := k6077.trans edr
      have h6079 : CEN T H6018 ce8 e8 d8 := (CEN_fr w5979 gce8 f6023 rfl (CEN_fr hW gce8 f5980 rfl hcen8))
      have h6080 : TP T H6018 tc B := (TP_fr w5979 gtc f6023 rfl (TP_fr hW gtc f5980 rfl htc))
      have h6081 : TM T H6018 tm B := (TM_fr w5979 gtm f6023 rfl (TM_fr hW gtm f5980 rfl htm))
      have h6082 : DD T H6018 cu  := (DD_fr w5979 gcu f6023 rfl (DD_fr hW gcu f5980 rfl hcu))
      have h6083 : DD T H6018 dr  := (DD_fr w5979 gdr f6023 rfl (DD_fr hW gdr f5980 rfl hdr))
      have h6084 : DE T H6018 cu  := (DE_fr w5979 gcu f6023 rfl (DE_fr hW gcu f5980 rfl hdec))
      have h6085 : DE T H6018 dr  := (DE_fr w5979 gdr f6023 rfl (DE_fr hW gdr f5980 rfl hded))
      have h6086 : SP T H6018 x C8 := (SP_fr w5979 gx f6023 rfl (SP_fr hW gx f5980 rfl hsp))
      have h6087 : CU T H6018 cu e8 d8 n8 := (CU_fr w5979 gcu f6023 rfl (CU_fr hW gcu f5980 rfl hcu8))
      have h6088 : CY T H6018 cu ((d8 0 3)) (xdg d8 v5967) (wdv (d8 0 3).toNat v5967) := (CY_fr w5979 gcu f6023 rfl a5988)
      have k6089 : H6018 x 3 = H x 3 := ((f6023 x 3 _ gx rfl).trans (f5980 x 3 _ gx rfl))
      have q6090 : H6018 x 3 = (ce8 : Int) := k6089.trans ece8
      have h6091 : HDR T H6018 ce8  := (HDR_fr w5979 gce8 f6023 rfl (HDR_fr hW gce8 f5980 rfl hhdr8))
      have h6092 : KNN T H6018 m e8 d8 := (KNN_fr w5979 gm f6023 rfl (KNN_fr hW gm f5980 rfl hknn8))
      exfalso
      omega
  · show WL _ _ _ _ 1557 [(4, vI i), (3, .ref o), (2, .ref m), (1, .ref x), (0, .ref 0)] [vI z5981] _ H5975
    refine wl_of hX hb cL_1557 (rw_pop (pc' := 1558) rfl rfl ?_)
    refine wl_of hX hb cL_1558 (rw_aload_n (pc' := 1559) (v := .ref m) rfl rfl rfl ?_)
    refine wl_of hX hb cL_1559 (rw_aload_n (pc' := 1560) (v := .ref 0) rfl rfl rfl ?_)
    refine wl_of hX hb cL_1560 (rw_iload (pc' := 1562) (z := i) rfl rfl ?_)
    refine wl_of hX hb cL_1562 (rw_iconst (pc' := 1563) rfl ?_)
    refine wl_of hX hb cL_1563 (rw_iadd (pc' := 1564) rfl ?_)
    have k6095 : H5975 0 ((i + 1).toNat) = H 0 ((i + 1).toNat) := (f5980 0 ((i + 1).toNat) _ g0 (wmem_s rfl))
    refine wl_of hX hb cL_1564 (xa_I (so := 0) (pc' := 1565) (a := 0) w5979 g0 (wsh_s _) (by omega) (wty_s _ _) (by omega) (by omega) rfl (fun b6093 b6094 => ?_))
    refine wl_of hX hb cL_1565 (rw_i2l (pc' := 1566) rfl ⟨by omega, by omega⟩ ?_)
    refine wl_of hX hb cL_1566 (rw_bipush (pc' := 1568) (z := 32) rfl (by decide) ?_)
    refine wl_of hX hb cL_1568 (rw_lshl (pc' := 1569) rfl ?_)
    obtain ⟨v6096, e6097⟩ : ∃ x : Int, x = wl_shl (H5975 0 ((i + 1).toNat)) 32 := ⟨_, rfl⟩
    rw [← e6097]
    have b6098 : -9223372036854775808 ≤ v6096 ∧ v6096 ≤ 9223372036854775807 := by
      rw [e6097]
      exact wL_shl _ _
    refine wl_of hX hb cL_1569 (rw_aload_n (pc' := 1570) (v := .ref 0) rfl rfl rfl ?_)
    refine wl_of hX hb cL_1570 (rw_iload (pc' := 1572) (z := i) rfl rfl ?_)
    refine wl_of hX hb cL_1572 (rw_iconst (pc' := 1573) rfl ?_)
    refine wl_of hX hb cL_1573 (rw_iadd (pc' := 1574) rfl ?_)
    have k6101 : H5975 0 ((i + 2).toNat) = H 0 ((i + 2).toNat) := (f5980 0 ((i + 2).toNat) _ g0 (wmem_s rfl))
    refine wl_of hX hb cL_1574 (xa_I (so := 0) (pc' := 1575) (a := 0) w5979 g0 (wsh_s _) (by omega) (wty_s _ _) (by omega) (by omega) rfl (fun b6099 b6100 => ?_))
    refine wl_of hX hb cL_1575 (rw_i2l (pc' := 1576) rfl ⟨by omega, by omega⟩ ?_)
    refine wl_of hX hb cL_1576 (rw_ldc2 (pc' := 1579) (z := 4294967295) rfl rfl rfl ?_)
    refine wl_of hX hb cL_1579 (rw_land (pc' := 1580) rfl ?_)
    obtain ⟨v6102, e6103⟩ : ∃ x : Int, x = wl_and (H5975 0 ((i + 2).toNat)) 4294967295 := ⟨_, rfl⟩
    rw [← e6103]
    have b6104 : -9223372036854775808 ≤ v6102 ∧ v6102 ≤ 9223372036854775807 := by
      rw [e6103]
      exact wL_and _ _
    refine wl_of hX hb cL_1580 (rw_lor (pc' := 1581) rfl ?_)
    obtain ⟨v6105, e6106⟩ : ∃ x : Int, x = wl_or v6096 v6102 := ⟨_, rfl⟩
    rw [← e6106]
    have b6107 : -9223372036854775808 ≤ v6105 ∧ v6105 ≤ 9223372036854775807 := by
      rw [e6106]
      exact wL_or _ _
    have k6108 : wKI H5975 m = wKI H m := (wKI_fr hW gm f5980 rfl)
    have k6109 : H5975 x 9 = H x 9 := (f5980 x 9 _ gx rfl)
    have k6110 : H5975 m 6 = H m 6 := (f5980 m 6 _ gm rfl)
    have k6111 : H5975 x 11 = H x 11 := (f5980 x 11 _ gx rfl)
    have k6112 : H5975 m 13 = H m 13 := (f5980 m 13 _ gm rfl)
    have k6113 : H5975 x 8 = H x 8 := (f5980 x 8 _ gx rfl)
    have k6114 : H5975 m 3 = H m 3 := (f5980 m 3 _ gm rfl)
    have rs9 : v6105 = v5967 := by
      rw [e6106, e6097, e6103, e5968, e5960, e5965, show H5975 0 ((i + 1).toNat) = H 0 ((i + 1).toNat) by omega, show H5975 0 ((i + 2).toNat) = H 0 ((i + 2).toNat) by omega]
    rw [rs9]
    have h6115 : RB T H5975 m e8 d8 := (RB_fr hW gm f5980 rfl hrb8)
    have h6116 : RY T H5975 m (d8 0 3) g8 (H m 32) := (RY_fr hW gm f5980 rfl h5972)
    refine wl_of hX hb cL_1581 (xc_V (pc' := 1584) (r := m) (as := [vL v5967]) (st := []) (lm_11_219) rfl rfl (Nat.le_of_ble_eq_true rfl) w5979 gm sh_42 (by decide) rfl (by decide) (u_292 (e := e8) (d := d8) (nY := ((d8 0 3))) (gY := g8) (cY := ((H m 32))) w5979 gm ⟨b5969.1, b5969.2⟩ (by omega) h6115 h6116) (fun R6117 T6118 H6119 p6120 => ?_))
    obtain ⟨e6121, w6123, f6124, z6125, e6122, b6126, p6127⟩ := p6120
    subst e6121
    subst e6122
    rcases p6127 with ⟨a6128, a6129, a6130, a6131⟩ | ⟨a6132, a6133, a6134⟩
    · show WL _ _ _ _ 1584 [(4, vI i), (3, .ref o), (2, .ref m), (1, .ref x), (0, .ref 0)] [vI z6125] _ H6119
      refine wl_of hX hb cL_1584 (rw_pop (pc' := 1585) rfl rfl ?_)
      refine wl_of hX hb cL_1585 (rw_goto (p1 := 1654) (by decide) ?_)
      have k6135 : wKI H6119 m = wKI H5975 m := (wKI_fr w5979 gm f6124 rfl)
      have k6136 : H6119 x 9 = H5975 x 9 := (f6124 x 9 _ gx rfl)
      have k6137 : H6119 m 6 = H5975 m 6 := (f6124 m 6 _ gm rfl)
      have k6138 : H6119 x 11 = H5975 x 11 := (f6124 x 11 _ gx rfl)
      have k6139 : H6119 m 13 = H5975 m 13 := (f6124 m 13 _ gm rfl)
      have k6140 : H6119 x 8 = H5975 x 8 := (f6124 x 8 _ gx rfl)
      have k6141 : H6119 m 3 = H5975 m 3 := (f6124 m 3 _ gm rfl)
      have k6142 : H6119 x 0 = H x 0 := ((f6124 x 0 _ gx rfl).trans (f5980 x 0 _ gx rfl))
      have q6143 : H6119 x 0 = (tc : Int) := k6142.trans e0
      have k6144 : H6119 m 5 = H m 5 := ((f6124 m 5 _ gm rfl).trans (f5980 m 5 _ gm rfl))
      have q6145 : H6119 m 5 = (tm : Int) := k6144.trans em
      have k6146 : H6119 x 6 = H x 6 := ((f6124 x 6 _ gx rfl).trans (f5980 x 6 _ gx rfl))
      have q6147 : H6119 x 6 = (cu : Int) := k6146.trans ecu
      have k6148 : H6119 x 7 = H x 7 := ((f6124 x 7 _ gx rfl).trans (f5980 x 7 _ gx rfl))
      have q6149 : H6119 x 7 = (dr : Int) := k6148.trans edr
      have h6150 : CEN T H6119 ce8 e8 d8 := (CEN_fr w5979 gce8 f6124 rfl (CEN_fr hW gce8 f5980 rfl hcen8))
      have h6151 : TP T H6119 tc B := (TP_fr w5979 gtc f6124 rfl (TP_fr hW gtc f5980 rfl htc))
      have h6152 : TM T H6119 tm B := (TM_fr w5979 gtm f6124 rfl (TM_fr hW gtm f5980 rfl htm))
      have h6153 : DD T H6119 cu  := (DD_fr w5979 gcu f6124 rfl (DD_fr hW gcu f5980 rfl hcu))
      have h6154 : DD T H6119 dr  := (DD_fr w5979 gdr f6124 rfl (DD_fr hW gdr f5980 rfl hdr))
      have h6155 : DE T H6119 cu  := (DE_fr w5979 gcu f6124 rfl (DE_fr hW gcu f5980 rfl hdec))
      have h6156 : DE T H6119 dr  := (DE_fr w5979 gdr f6124 rfl (DE_fr hW gdr f5980 rfl hded))
      have h6157 : SP T H6119 x C8 := (SP_fr w5979 gx f6124 rfl (SP_fr hW gx f5980 rfl hsp))
      have h6158 : CU T H6119 cu e8 d8 n8 := (CU_fr w5979 gcu f6124 rfl (CU_fr hW gcu f5980 rfl hcu8))
      have h6159 : CY T H6119 cu ((d8 0 3)) g8 ((H cu 17)) := (CY_fr w5979 gcu f6124 rfl a5991)
      have k6160 : H6119 x 3 = H x 3 := ((f6124 x 3 _ gx rfl).trans (f5980 x 3 _ gx rfl))
      have q6161 : H6119 x 3 = (ce8 : Int) := k6160.trans ece8
      have h6162 : HDR T H6119 ce8  := (HDR_fr w5979 gce8 f6124 rfl (HDR_fr hW gce8 f5980 rfl hhdr8))
      have h6163 : KNN T H6119 m e8 d8 := (KNN_fr w5979 gm f6124 rfl (KNN_fr hW gm f5980 rfl hknn8))
      exfalso
      omega
    · show WL _ _ _ _ 1584 [(4, vI i), (3, .ref o), (2, .ref m), (1, .ref x), (0, .ref 0)] [vI z6125] _ H6119
      refine wl_of hX hb cL_1584 (rw_pop (pc' := 1585) rfl rfl ?_)
      refine wl_of hX hb cL_1585 (rw_goto (p1 := 1654) (by decide) ?_)
      have k6164 : wKI H6119 m = wKI H5975 m := (wKI_fr w5979 gm f6124 rfl)
      have k6165 : H6119 x 9 = H5975 x 9 := (f6124 x 9 _ gx rfl)
      have k6166 : H6119 m 6 = H5975 m 6 := (f6124 m 6 _ gm rfl)
      have k6167 : H6119 x 11 = H5975 x 11 := (f6124 x 11 _ gx rfl)
      have k6168 : H6119 m 13 = H5975 m 13 := (f6124 m 13 _ gm rfl)
      have k6169 : H6119 x 8 = H5975 x 8 := (f6124 x 8 _ gx rfl)
      have k6170 : H6119 m 3 = H5975 m 3 := (f6124 m 3 _ gm rfl)
      have k6171 : H6119 x 0 = H x 0 := ((f6124 x 0 _ gx rfl).trans (f5980 x 0 _ gx rfl))
      have q6172 : H6119 x 0 = (tc : Int) := k6171.trans e0
      have k6173 : H6119 m 5 = H m 5 := ((f6124 m 5 _ gm rfl).trans (f5980 m 5 _ gm rfl))
      have q6174 : H6119 m 5 = (tm : Int) := k6173.trans em
      have k6175 : H6119 x 6 = H x 6 := ((f6124 x 6 _ gx rfl).trans (f5980 x 6 _ gx rfl))
      have q6176 : H6119 x 6 = (cu : Int) := k6175.trans ecu
      have k6177 : H6119 x 7 = H x 7 := ((f6124 x 7 _ gx rfl).trans (f5980 x 7 _ gx rfl))
      have q6178 : H6119 x 7 = (dr : Int) := k6177.trans edr
      have h6179 : CEN T H6119 ce8 e8 d8 := (CEN_fr w5979 gce8 f6124 rfl (CEN_fr hW gce8 f5980 rfl hcen8))
      have h6180 : TP T H6119 tc B := (TP_fr w5979 gtc f6124 rfl (TP_fr hW gtc f5980 rfl htc))
      have h6181 : TM T H6119 tm B := (TM_fr w5979 gtm f6124 rfl (TM_fr hW gtm f5980 rfl htm))
      have h6182 : DD T H6119 cu  := (DD_fr w5979 gcu f6124 rfl (DD_fr hW gcu f5980 rfl hcu))
      have h6183 : DD T H6119 dr  := (DD_fr w5979 gdr f6124 rfl (DD_fr hW gdr f5980 rfl hdr))
      have h6184 : DE T H6119 cu  := (DE_fr w5979 gcu f6124 rfl (DE_fr hW gcu f5980 rfl hdec))
      have h6185 : DE T H6119 dr  := (DE_fr w5979 gdr f6124 rfl (DE_fr hW gdr f5980 rfl hded))
      have h6186 : SP T H6119 x C8 := (SP_fr w5979 gx f6124 rfl (SP_fr hW gx f5980 rfl hsp))
      have h6187 : CU T H6119 cu e8 d8 n8 := (CU_fr w5979 gcu f6124 rfl (CU_fr hW gcu f5980 rfl hcu8))
      have h6188 : CY T H6119 cu ((d8 0 3)) g8 ((H cu 17)) := (CY_fr w5979 gcu f6124 rfl a5991)
      have k6189 : H6119 x 3 = H x 3 := ((f6124 x 3 _ gx rfl).trans (f5980 x 3 _ gx rfl))
      have q6190 : H6119 x 3 = (ce8 : Int) := k6189.trans ece8
      have h6191 : HDR T H6119 ce8  := (HDR_fr w5979 gce8 f6124 rfl (HDR_fr hW gce8 f5980 rfl hhdr8))
      have h6192 : KNN T H6119 m e8 d8 := (KNN_fr w5979 gm f6124 rfl (KNN_fr hW gm f5980 rfl hknn8))
      have h6193 : RB T H6119 m e8 d8 := (RB_fr w5979 gm f6124 rfl h6115)
      exact WL.loc hX (by simp) (next T H6119 ⟨⟨w6123, g0, gx, gm, go, by omega, by omega⟩, ⟨_, tc, tm, cu, dr, _, _, _, _, _, ce8, q6172, gtc, h6180, q6174, gtm, h6181, q6176, gcu, q6178, gdr, h6182, h6183, h6184, h6185, h6186, hC1, hC2, h6187, h6193, (h6188).1, (a6134).1, hE, hZ, (by omega), (by assumption), (by omega), (by first | assumption | exact SG_0), q6190, gce8, h6179, h6191, h6192, gm⟩, by omega, by omega⟩ (by omega) (by omega))
set_option maxHeartbeats 4000000 in
theorem wl_c47 {kt : Nat → Option mc_E} {CB SB : Nat} {X : mc_S → Prop} {T : wq_T} {H : wq_H} {Len x m o : Nat} {i : Int} (hX : wlX kt CB SB X) (hb : T.2.1 ≤ CB ∧ T.2.2.1 ≤ SB) (hI : wlJ Len x m o T H) (hL : Len ≤ 3072) (hi : 0 ≤ i ∧ i + 6 ≤ Len) (hb2 : T.2.1 + 20 ≤ CB ∧ T.2.2.1 + 500 ≤ SB) (hled : ∀ {z : Int}, wI z → T.2.1 ≤ CB ∧ T.2.2.1 ≤ SB → wlJ Len x m o T H → (∀ (z' : Int), wI z' → ∀ (T' : wq_T) (H' : wq_H), wlJ Len x m o T' H' → T'.2.1 ≤ T.2.1 + 20 → T'.2.2.1 ≤ T.2.2.1 + 500 → WL kt CB SB X 1599 (wlL i x m o) [vI z'] T' H') → WL kt CB SB X 1596 (wlL i x m o) [.ref o, vI z, .ref x] T H) (next : ∀ T' H', wlJ Len x m o T' H' → T'.2.1 ≤ T.2.1 + 20 → T'.2.2.1 ≤ T.2.2.1 + 500 → WL kt CB SB X 1654 (wlL i x m o) [] T' H') : WL kt CB SB X 1588 (wlL i x m o) [] T H := by
  obtain ⟨⟨hW, g0, gx, gm, go, hK, hr⟩, hXI, hY1, hY2⟩ := hI
  refine wl_of hX hb cL_1588 (rw_aload_n (pc' := 1589) (v := .ref x) rfl rfl rfl ?_)
  refine wl_of hX hb cL_1589 (rw_aload_n (pc' := 1590) (v := .ref 0) rfl rfl rfl ?_)
  refine wl_of hX hb cL_1590 (rw_iload (pc' := 1592) (z := i) rfl rfl ?_)
  refine wl_of hX hb cL_1592 (rw_iconst (pc' := 1593) rfl ?_)
  refine wl_of hX hb cL_1593 (rw_iadd (pc' := 1594) rfl ?_)
  refine wl_of hX hb cL_1594 (xa_I (so := 0) (pc' := 1595) (a := 0) hW g0 (wsh_s _) (by omega) (wty_s _ _) (by omega) (by omega) rfl (fun b6194 b6195 => ?_))
  refine wl_of hX hb cL_1595 (rw_aload_n (pc' := 1596) (v := .ref o) rfl rfl rfl ?_)
  refine hled ⟨by omega, by omega⟩ hb ⟨⟨hW, g0, gx, gm, go, by omega, by omega⟩, hXI, by omega, by omega⟩ (fun z9 b9 T9 H9 hI9 n9 s9 => ?_)
  obtain ⟨⟨w9, g0, gx, gm, go, hK, hr⟩, hXI, hY1, hY2⟩ := hI9
  have hb : T9.2.1 ≤ CB ∧ T9.2.2.1 ≤ SB := ⟨by omega, by omega⟩
  refine wl_of hX hb cL_1599 (rw_istore (pc' := 1601) (z := z9) (L' := [(5, vI z9), (4, vI i), (3, .ref o), (2, .ref m), (1, .ref x), (0, .ref 0)]) rfl rfl rfl ?_)
  refine wl_of hX hb cL_1601 (rw_aload_n (pc' := 1602) (v := .ref m) rfl rfl rfl ?_)
  refine wl_of hX hb cL_1602 (rw_aload_n (pc' := 1603) (v := .ref 0) rfl rfl rfl ?_)
  refine wl_of hX hb cL_1603 (rw_iload (pc' := 1605) (z := i) rfl rfl ?_)
  refine wl_of hX hb cL_1605 (rw_iconst (pc' := 1606) rfl ?_)
  refine wl_of hX hb cL_1606 (rw_iadd (pc' := 1607) rfl ?_)
  refine wl_of hX hb cL_1607 (xa_I (so := 0) (pc' := 1608) (a := 0) w9 g0 (wsh_s _) (by omega) (wty_s _ _) (by omega) (by omega) rfl (fun b6196 b6197 => ?_))
  refine wl_of hX hb cL_1608 (xc_V (pc' := 1611) (r := m) (as := [vI (H9 0 ((i + 1).toNat))]) (st := []) (lm_11_225) rfl rfl (Nat.le_of_ble_eq_true rfl) w9 gm sh_42 (by decide) rfl (by decide) (s_293 w9 gm ⟨by omega, by omega⟩ (by omega)) (fun R6198 T6199 H6200 p6201 => ?_))
  obtain ⟨e6202, w6204, f6205, z6207, e6203, b6208, p6206⟩ := p6201
  subst e6202
  subst e6203
  show WL _ _ _ _ 1611 [(5, vI z9), (4, vI i), (3, .ref o), (2, .ref m), (1, .ref x), (0, .ref 0)] [vI z6207] _ H6200
  refine wl_of hX hb cL_1611 (rw_istore (pc' := 1613) (z := z6207) (L' := [(6, vI z6207), (5, vI z9), (4, vI i), (3, .ref o), (2, .ref m), (1, .ref x), (0, .ref 0)]) rfl rfl rfl ?_)
  refine wl_of hX hb cL_1613 (rw_goto (p1 := 1654) (by decide) ?_)
  have k6209 : H6200 x 9 = H9 x 9 := (f6205 x 9 _ gx rfl)
  have k6210 : H6200 m 6 = H9 m 6 := (f6205 m 6 _ gm rfl)
  have k6211 : H6200 x 11 = H9 x 11 := (f6205 x 11 _ gx rfl)
  have k6212 : H6200 m 13 = H9 m 13 := (f6205 m 13 _ gm rfl)
  have k6213 : H6200 x 8 = H9 x 8 := (f6205 x 8 _ gx rfl)
  have k6214 : H6200 m 3 = H9 m 3 := (f6205 m 3 _ gm rfl)
  have h6215 : XI T9 H6200 x m := (XI_fr w9 gx f6205 rfl hXI)
  exact WL.loc hX (by simp) (next T9 H6200 ⟨⟨w6204, g0, gx, gm, go, by omega, by omega⟩, h6215, by omega, by omega⟩ (by omega) (by omega))
set_option maxHeartbeats 4000000 in
theorem wl_c48 {kt : Nat → Option mc_E} {CB SB : Nat} {X : mc_S → Prop} {T : wq_T} {H : wq_H} {Len x m o : Nat} {i : Int} (hX : wlX kt CB SB X) (hb : T.2.1 ≤ CB ∧ T.2.2.1 ≤ SB) (hI : wlJ Len x m o T H) (hL : Len ≤ 3072) (hi : 0 ≤ i ∧ i + 6 ≤ Len) (hb2 : T.2.1 + 20 ≤ CB ∧ T.2.2.1 + 500 ≤ SB)  (next : ∀ T' H', wlJ Len x m o T' H' → T'.2.1 ≤ T.2.1 + 20 → T'.2.2.1 ≤ T.2.2.1 + 500 → WL kt CB SB X 1654 (wlL i x m o) [] T' H') : WL kt CB SB X 1616 (wlL i x m o) [] T H := by
  obtain ⟨⟨hW, g0, gx, gm, go, hK, hr⟩, hXI, hY1, hY2⟩ := hI
  refine wl_of hX hb cL_1616 (rw_aload_n (pc' := 1617) (v := .ref x) rfl rfl rfl ?_)
  refine wl_of hX hb cL_1617 (rw_aload_n (pc' := 1618) (v := .ref 0) rfl rfl rfl ?_)
  refine wl_of hX hb cL_1618 (rw_iload (pc' := 1620) (z := i) rfl rfl ?_)
  refine wl_of hX hb cL_1620 (rw_iconst (pc' := 1621) rfl ?_)
  refine wl_of hX hb cL_1621 (rw_iadd (pc' := 1622) rfl ?_)
  refine wl_of hX hb cL_1622 (xa_I (so := 0) (pc' := 1623) (a := 0) hW g0 (wsh_s _) (by omega) (wty_s _ _) (by omega) (by omega) rfl (fun b6216 b6217 => ?_))
  refine wl_of hX hb cL_1623 (xc_V (pc' := 1626) (r := x) (as := [vI (H 0 ((i + 1).toNat))]) (st := []) (lm_11_226) rfl rfl (Nat.le_of_ble_eq_true rfl) hW gx sh_1 (by decide) rfl (by decide) (s_164 hW gx ⟨by omega, by omega⟩) (fun R6218 T6219 H6220 p6221 => ?_))
  obtain ⟨e6222, e6224, z6225, e6223, b6226⟩ := p6221
  subst e6222
  subst e6223
  subst e6224
  show WL _ _ _ _ 1626 [(4, vI i), (3, .ref o), (2, .ref m), (1, .ref x), (0, .ref 0)] [vI z6225] _ H
  refine wl_of hX hb cL_1626 (rw_pop (pc' := 1627) rfl rfl ?_)
  refine wl_of hX hb cL_1627 (rw_aload_n (pc' := 1628) (v := .ref m) rfl rfl rfl ?_)
  refine wl_of hX hb cL_1628 (rw_aload_n (pc' := 1629) (v := .ref 0) rfl rfl rfl ?_)
  refine wl_of hX hb cL_1629 (rw_iload (pc' := 1631) (z := i) rfl rfl ?_)
  refine wl_of hX hb cL_1631 (rw_iconst (pc' := 1632) rfl ?_)
  refine wl_of hX hb cL_1632 (rw_iadd (pc' := 1633) rfl ?_)
  refine wl_of hX hb cL_1633 (xa_I (so := 0) (pc' := 1634) (a := 0) hW g0 (wsh_s _) (by omega) (wty_s _ _) (by omega) (by omega) rfl (fun b6227 b6228 => ?_))
  refine wl_of hX hb cL_1634 (xc_V (pc' := 1637) (r := m) (as := [vI (H 0 ((i + 1).toNat))]) (st := []) (lm_11_229) rfl rfl (Nat.le_of_ble_eq_true rfl) hW gm sh_42 (by decide) rfl (by decide) (s_294 hW gm ⟨by omega, by omega⟩ (by omega)) (fun R6229 T6230 H6231 p6232 => ?_))
  obtain ⟨e6233, w6235, f6236, z6238, e6234, b6239, p6237⟩ := p6232
  subst e6233
  subst e6234
  show WL _ _ _ _ 1637 [(4, vI i), (3, .ref o), (2, .ref m), (1, .ref x), (0, .ref 0)] [vI z6238] _ H6231
  refine wl_of hX hb cL_1637 (rw_pop (pc' := 1638) rfl rfl ?_)
  refine wl_of hX hb cL_1638 (rw_goto (p1 := 1654) (by decide) ?_)
  have k6240 : H6231 x 9 = H x 9 := (f6236 x 9 _ gx rfl)
  have k6241 : H6231 m 6 = H m 6 := (f6236 m 6 _ gm rfl)
  have k6242 : H6231 x 11 = H x 11 := (f6236 x 11 _ gx rfl)
  have k6243 : H6231 m 13 = H m 13 := (f6236 m 13 _ gm rfl)
  have k6244 : H6231 x 8 = H x 8 := (f6236 x 8 _ gx rfl)
  have k6245 : H6231 m 3 = H m 3 := (f6236 m 3 _ gm rfl)
  have h6246 : XI T H6231 x m := (XI_fr hW gx f6236 rfl hXI)
  exact WL.loc hX (by simp) (next T H6231 ⟨⟨w6235, g0, gx, gm, go, by omega, by omega⟩, h6246, by omega, by omega⟩ (by omega) (by omega))
set_option maxHeartbeats 4000000 in
theorem wl_c49 {kt : Nat → Option mc_E} {CB SB : Nat} {X : mc_S → Prop} {T : wq_T} {H : wq_H} {Len x m o : Nat} {i : Int} (hX : wlX kt CB SB X) (hb : T.2.1 ≤ CB ∧ T.2.2.1 ≤ SB) (hI : wlJ Len x m o T H) (hL : Len ≤ 3072) (hi : 0 ≤ i ∧ i + 6 ≤ Len) (hb2 : T.2.1 + 20 ≤ CB ∧ T.2.2.1 + 500 ≤ SB)  (next : ∀ T' H', wlJ Len x m o T' H' → T'.2.1 ≤ T.2.1 + 20 → T'.2.2.1 ≤ T.2.2.1 + 500 → WL kt CB SB X 1654 (wlL i x m o) [] T' H') : WL kt CB SB X 1641 (wlL i x m o) [] T H := by
  obtain ⟨⟨hW, g0, gx, gm, go, hK, hr⟩, hXI, hY1, hY2⟩ := hI
  refine wl_of hX hb cL_1641 (rw_aload_n (pc' := 1642) (v := .ref x) rfl rfl rfl ?_)
  refine wl_of hX hb cL_1642 (xc_V (pc' := 1645) (r := x) (as := []) (st := []) (lm_11_230) rfl rfl (Nat.le_of_ble_eq_true rfl) hW gx sh_1 (by decide) rfl (by decide) (s_165 hW gx) (fun R6247 T6248 H6249 p6250 => ?_))
  obtain ⟨e6251, e6253, z6254, e6252, b6255⟩ := p6250
  subst e6251
  subst e6252
  subst e6253
  show WL _ _ _ _ 1645 [(4, vI i), (3, .ref o), (2, .ref m), (1, .ref x), (0, .ref 0)] [vI z6254] _ H
  refine wl_of hX hb cL_1645 (rw_pop (pc' := 1646) rfl rfl ?_)
  refine wl_of hX hb cL_1646 (rw_aload_n (pc' := 1647) (v := .ref m) rfl rfl rfl ?_)
  refine wl_of hX hb cL_1647 (xc_V (pc' := 1650) (r := m) (as := []) (st := []) (lm_11_233) rfl rfl (Nat.le_of_ble_eq_true rfl) hW gm sh_42 (by decide) rfl (by decide) (s_295 hW gm (by omega)) (fun R6256 T6257 H6258 p6259 => ?_))
  obtain ⟨e6260, w6262, f6263, z6265, e6261, b6266, p6264⟩ := p6259
  subst e6260
  subst e6261
  show WL _ _ _ _ 1650 [(4, vI i), (3, .ref o), (2, .ref m), (1, .ref x), (0, .ref 0)] [vI z6265] _ H6258
  refine wl_of hX hb cL_1650 (rw_pop (pc' := 1651) rfl rfl ?_)
  refine wl_of hX hb cL_1651 (rw_goto (p1 := 1654) (by decide) ?_)
  have k6267 : H6258 x 9 = H x 9 := (f6263 x 9 _ gx rfl)
  have k6268 : H6258 m 6 = H m 6 := (f6263 m 6 _ gm rfl)
  have k6269 : H6258 x 11 = H x 11 := (f6263 x 11 _ gx rfl)
  have k6270 : H6258 m 13 = H m 13 := (f6263 m 13 _ gm rfl)
  have k6271 : H6258 x 8 = H x 8 := (f6263 x 8 _ gx rfl)
  have k6272 : H6258 m 3 = H m 3 := (f6263 m 3 _ gm rfl)
  have h6273 : XI T H6258 x m := (XI_fr hW gx f6263 rfl hXI)
  exact WL.loc hX (by simp) (next T H6258 ⟨⟨w6262, g0, gx, gm, go, by omega, by omega⟩, h6273, by omega, by omega⟩ (by omega) (by omega))
set_option maxHeartbeats 4000000 in
theorem wl_head {kt : Nat → Option mc_E} {CB SB : Nat} {X : mc_S → Prop} {T : wq_T} {H : wq_H} {Len x m o : Nat} {i : Int} (hX : wlX kt CB SB X) (hb : T.2.1 ≤ CB ∧ T.2.2.1 ≤ SB) (hI : wlJ Len x m o T H) (hL : Len ≤ 3072) (hi : 0 ≤ i ∧ i ≤ Len) (cases : ∀ t, t ∈ [256, 329, 354, 367, 380, 405, 454, 503, 516, 553, 578, 603, 616, 629, 642, 655, 668, 705, 718, 755, 792, 829, 882, 919, 944, 958, 995, 1020, 1057, 1110, 1163, 1176, 1201, 1226, 1251, 1264, 1317, 1330, 1343, 1368, 1405, 1430, 1455, 1468, 1505, 1518, 1531, 1588, 1616, 1641] → i + 6 ≤ Len → WL kt CB SB X t (wlL i x m o) [] T H) (next : i + 6 ≤ Len → WL kt CB SB X 1654 (wlL i x m o) [] T H) : WL kt CB SB X 23 (wlL i x m o) [] T H := by
  obtain ⟨⟨hW, g0, gx, gm, go, hK, hr⟩, hXI, hY1, hY2⟩ := hI
  refine wl_of hX hb cL_23 (rw_iload (pc' := 25) (z := i) rfl rfl ?_)
  refine wl_of hX hb cL_25 (rw_aload_n (pc' := 26) (v := .ref 0) rfl rfl rfl ?_)
  refine wl_of hX hb cL_26 (xa_N (pc' := 27) (a := 0) (n := Len) hW g0 (wsh_s _) (by decide) rfl ?_)
  refine wl_of hX hb cL_27 (rw_bipush (pc' := 29) (z := 6) rfl (by decide) ?_)
  refine wl_of hX hb cL_29 (rw_isub (pc' := 30) rfl ?_)
  refine wl_of hX hb cL_30 (rw_icmp_gt (p1 := 1660) (p2 := 33) (by decide) rfl ⟨by omega, by omega⟩ ⟨by omega, by omega⟩ (fun c6274 => ?_) (fun c6274 => ?_))
  · refine wl_of hX hb cL_1660 (rw_iconst (pc' := 1661) rfl ?_)
    exact WL.fin hX hb
  · refine wl_of hX hb cL_33 (rw_aload_n (pc' := 34) (v := .ref 0) rfl rfl rfl ?_)
    refine wl_of hX hb cL_34 (rw_iload (pc' := 36) (z := i) rfl rfl ?_)
    refine wl_of hX hb cL_36 (xa_I (so := 0) (pc' := 37) (a := 0) hW g0 (wsh_s _) (by omega) (wty_s _ _) (by omega) (by omega) rfl (fun b6275 b6276 => ?_))
    refine wl_of hX hb cL_37 (rw_bipush (pc' := 39) (z := 63) rfl (by decide) ?_)
    refine wl_of hX hb cL_39 (rw_iand (pc' := 40) rfl ?_)
    obtain ⟨v6277, e6278⟩ : ∃ x : Int, x = wq_and (H 0 (i.toNat)) 63 := ⟨_, rfl⟩
    rw [← e6278]
    have b6279 : 0 ≤ v6277 ∧ v6277 ≤ 63 := by
      rw [e6278]
      exact wq_and_b _ (by omega) (by omega)
    have c6280 : v6277 = 0 ∨ v6277 = 1 ∨ v6277 = 2 ∨ v6277 = 3 ∨ v6277 = 4 ∨ v6277 = 5 ∨ v6277 = 6 ∨ v6277 = 7 ∨ v6277 = 8 ∨ v6277 = 9 ∨ v6277 = 10 ∨ v6277 = 11 ∨ v6277 = 12 ∨ v6277 = 13 ∨ v6277 = 14 ∨ v6277 = 15 ∨ v6277 = 16 ∨ v6277 = 17 ∨ v6277 = 18 ∨ v6277 = 19 ∨ v6277 = 20 ∨ v6277 = 21 ∨ v6277 = 22 ∨ v6277 = 23 ∨ v6277 = 24 ∨ v6277 = 25 ∨ v6277 = 26 ∨ v6277 = 27 ∨ v6277 = 28 ∨ v6277 = 29 ∨ v6277 = 30 ∨ v6277 = 31 ∨ v6277 = 32 ∨ v6277 = 33 ∨ v6277 = 34 ∨ v6277 = 35 ∨ v6277 = 36 ∨ v6277 = 37 ∨ v6277 = 38 ∨ v6277 = 39 ∨ v6277 = 40 ∨ v6277 = 41 ∨ v6277 = 42 ∨ v6277 = 43 ∨ v6277 = 44 ∨ v6277 = 45 ∨ v6277 = 46 ∨ v6277 = 47 ∨ v6277 = 48 ∨ v6277 = 49 ∨ (v6277 < 0 ∨ 49 < v6277) := by omega
    rcases c6280 with c6280 | c6280 | c6280 | c6280 | c6280 | c6280 | c6280 | c6280 | c6280 | c6280 | c6280 | c6280 | c6280 | c6280 | c6280 | c6280 | c6280 | c6280 | c6280 | c6280 | c6280 | c6280 | c6280 | c6280 | c6280 | c6280 | c6280 | c6280 | c6280 | c6280 | c6280 | c6280 | c6280 | c6280 | c6280 | c6280 | c6280 | c6280 | c6280 | c6280 | c6280 | c6280 | c6280 | c6280 | c6280 | c6280 | c6280 | c6280 | c6280 | c6280 | c6280
    · refine wl_of hX hb cL_40 (rw_tsw (p1 := 256) ⟨by omega, by omega⟩ (by rw [c6280]; decide) ?_)
      exact cases 256 (by decide) (by omega)
    · refine wl_of hX hb cL_40 (rw_tsw (p1 := 329) ⟨by omega, by omega⟩ (by rw [c6280]; decide) ?_)
      exact cases 329 (by decide) (by omega)
    · refine wl_of hX hb cL_40 (rw_tsw (p1 := 354) ⟨by omega, by omega⟩ (by rw [c6280]; decide) ?_)
      exact cases 354 (by decide) (by omega)
    · refine wl_of hX hb cL_40 (rw_tsw (p1 := 367) ⟨by omega, by omega⟩ (by rw [c6280]; decide) ?_)
      exact cases 367 (by decide) (by omega)
    · refine wl_of hX hb cL_40 (rw_tsw (p1 := 380) ⟨by omega, by omega⟩ (by rw [c6280]; decide) ?_)
      exact cases 380 (by decide) (by omega)
    · refine wl_of hX hb cL_40 (rw_tsw (p1 := 405) ⟨by omega, by omega⟩ (by rw [c6280]; decide) ?_)
      exact cases 405 (by decide) (by omega)
    · refine wl_of hX hb cL_40 (rw_tsw (p1 := 454) ⟨by omega, by omega⟩ (by rw [c6280]; decide) ?_)
      exact cases 454 (by decide) (by omega)
    · refine wl_of hX hb cL_40 (rw_tsw (p1 := 503) ⟨by omega, by omega⟩ (by rw [c6280]; decide) ?_)
      exact cases 503 (by decide) (by omega)
    · refine wl_of hX hb cL_40 (rw_tsw (p1 := 516) ⟨by omega, by omega⟩ (by rw [c6280]; decide) ?_)
      exact cases 516 (by decide) (by omega)
    · refine wl_of hX hb cL_40 (rw_tsw (p1 := 553) ⟨by omega, by omega⟩ (by rw [c6280]; decide) ?_)
      exact cases 553 (by decide) (by omega)
    · refine wl_of hX hb cL_40 (rw_tsw (p1 := 578) ⟨by omega, by omega⟩ (by rw [c6280]; decide) ?_)
      exact cases 578 (by decide) (by omega)
    · refine wl_of hX hb cL_40 (rw_tsw (p1 := 603) ⟨by omega, by omega⟩ (by rw [c6280]; decide) ?_)
      exact cases 603 (by decide) (by omega)
    · refine wl_of hX hb cL_40 (rw_tsw (p1 := 616) ⟨by omega, by omega⟩ (by rw [c6280]; decide) ?_)
      exact cases 616 (by decide) (by omega)
    · refine wl_of hX hb cL_40 (rw_tsw (p1 := 629) ⟨by omega, by omega⟩ (by rw [c6280]; decide) ?_)
      exact cases 629 (by decide) (by omega)
    · refine wl_of hX hb cL_40 (rw_tsw (p1 := 642) ⟨by omega, by omega⟩ (by rw [c6280]; decide) ?_)
      exact cases 642 (by decide) (by omega)
    · refine wl_of hX hb cL_40 (rw_tsw (p1 := 655) ⟨by omega, by omega⟩ (by rw [c6280]; decide) ?_)
      exact cases 655 (by decide) (by omega)
    · refine wl_of hX hb cL_40 (rw_tsw (p1 := 668) ⟨by omega, by omega⟩ (by rw [c6280]; decide) ?_)
      exact cases 668 (by decide) (by omega)
    · refine wl_of hX hb cL_40 (rw_tsw (p1 := 705) ⟨by omega, by omega⟩ (by rw [c6280]; decide) ?_)
      exact cases 705 (by decide) (by omega)
    · refine wl_of hX hb cL_40 (rw_tsw (p1 := 718) ⟨by omega, by omega⟩ (by rw [c6280]; decide) ?_)
      exact cases 718 (by decide) (by omega)
    · refine wl_of hX hb cL_40 (rw_tsw (p1 := 755) ⟨by omega, by omega⟩ (by rw [c6280]; decide) ?_)
      exact cases 755 (by decide) (by omega)
    · refine wl_of hX hb cL_40 (rw_tsw (p1 := 792) ⟨by omega, by omega⟩ (by rw [c6280]; decide) ?_)
      exact cases 792 (by decide) (by omega)
    · refine wl_of hX hb cL_40 (rw_tsw (p1 := 829) ⟨by omega, by omega⟩ (by rw [c6280]; decide) ?_)
      exact cases 829 (by decide) (by omega)
    · refine wl_of hX hb cL_40 (rw_tsw (p1 := 882) ⟨by omega, by omega⟩ (by rw [c6280]; decide) ?_)
      exact cases 882 (by decide) (by omega)
    · refine wl_of hX hb cL_40 (rw_tsw (p1 := 919) ⟨by omega, by omega⟩ (by rw [c6280]; decide) ?_)
      exact cases 919 (by decide) (by omega)
    · refine wl_of hX hb cL_40 (rw_tsw (p1 := 944) ⟨by omega, by omega⟩ (by rw [c6280]; decide) ?_)
      exact cases 944 (by decide) (by omega)
    · refine wl_of hX hb cL_40 (rw_tsw (p1 := 958) ⟨by omega, by omega⟩ (by rw [c6280]; decide) ?_)
      exact cases 958 (by decide) (by omega)
    · refine wl_of hX hb cL_40 (rw_tsw (p1 := 995) ⟨by omega, by omega⟩ (by rw [c6280]; decide) ?_)
      exact cases 995 (by decide) (by omega)
    · refine wl_of hX hb cL_40 (rw_tsw (p1 := 1020) ⟨by omega, by omega⟩ (by rw [c6280]; decide) ?_)
      exact cases 1020 (by decide) (by omega)
    · refine wl_of hX hb cL_40 (rw_tsw (p1 := 1057) ⟨by omega, by omega⟩ (by rw [c6280]; decide) ?_)
      exact cases 1057 (by decide) (by omega)
    · refine wl_of hX hb cL_40 (rw_tsw (p1 := 1110) ⟨by omega, by omega⟩ (by rw [c6280]; decide) ?_)
      exact cases 1110 (by decide) (by omega)
    · refine wl_of hX hb cL_40 (rw_tsw (p1 := 1163) ⟨by omega, by omega⟩ (by rw [c6280]; decide) ?_)
      exact cases 1163 (by decide) (by omega)
    · refine wl_of hX hb cL_40 (rw_tsw (p1 := 1176) ⟨by omega, by omega⟩ (by rw [c6280]; decide) ?_)
      exact cases 1176 (by decide) (by omega)
    · refine wl_of hX hb cL_40 (rw_tsw (p1 := 1201) ⟨by omega, by omega⟩ (by rw [c6280]; decide) ?_)
      exact cases 1201 (by decide) (by omega)
    · refine wl_of hX hb cL_40 (rw_tsw (p1 := 1226) ⟨by omega, by omega⟩ (by rw [c6280]; decide) ?_)
      exact cases 1226 (by decide) (by omega)
    · refine wl_of hX hb cL_40 (rw_tsw (p1 := 1251) ⟨by omega, by omega⟩ (by rw [c6280]; decide) ?_)
      exact cases 1251 (by decide) (by omega)
    · refine wl_of hX hb cL_40 (rw_tsw (p1 := 1264) ⟨by omega, by omega⟩ (by rw [c6280]; decide) ?_)
      exact cases 1264 (by decide) (by omega)
    · refine wl_of hX hb cL_40 (rw_tsw (p1 := 1317) ⟨by omega, by omega⟩ (by rw [c6280]; decide) ?_)
      exact cases 1317 (by decide) (by omega)
    · refine wl_of hX hb cL_40 (rw_tsw (p1 := 1330) ⟨by omega, by omega⟩ (by rw [c6280]; decide) ?_)
      exact cases 1330 (by decide) (by omega)
    · refine wl_of hX hb cL_40 (rw_tsw (p1 := 1343) ⟨by omega, by omega⟩ (by rw [c6280]; decide) ?_)
      exact cases 1343 (by decide) (by omega)
    · refine wl_of hX hb cL_40 (rw_tsw (p1 := 1368) ⟨by omega, by omega⟩ (by rw [c6280]; decide) ?_)
      exact cases 1368 (by decide) (by omega)
    · refine wl_of hX hb cL_40 (rw_tsw (p1 := 1405) ⟨by omega, by omega⟩ (by rw [c6280]; decide) ?_)
      exact cases 1405 (by decide) (by omega)
    · refine wl_of hX hb cL_40 (rw_tsw (p1 := 1430) ⟨by omega, by omega⟩ (by rw [c6280]; decide) ?_)
      exact cases 1430 (by decide) (by omega)
    · refine wl_of hX hb cL_40 (rw_tsw (p1 := 1455) ⟨by omega, by omega⟩ (by rw [c6280]; decide) ?_)
      exact cases 1455 (by decide) (by omega)
    · refine wl_of hX hb cL_40 (rw_tsw (p1 := 1468) ⟨by omega, by omega⟩ (by rw [c6280]; decide) ?_)
      exact cases 1468 (by decide) (by omega)
    · refine wl_of hX hb cL_40 (rw_tsw (p1 := 1505) ⟨by omega, by omega⟩ (by rw [c6280]; decide) ?_)
      exact cases 1505 (by decide) (by omega)
    · refine wl_of hX hb cL_40 (rw_tsw (p1 := 1518) ⟨by omega, by omega⟩ (by rw [c6280]; decide) ?_)
      exact cases 1518 (by decide) (by omega)
    · refine wl_of hX hb cL_40 (rw_tsw (p1 := 1531) ⟨by omega, by omega⟩ (by rw [c6280]; decide) ?_)
      exact cases 1531 (by decide) (by omega)
    · refine wl_of hX hb cL_40 (rw_tsw (p1 := 1588) ⟨by omega, by omega⟩ (by rw [c6280]; decide) ?_)
      exact cases 1588 (by decide) (by omega)
    · refine wl_of hX hb cL_40 (rw_tsw (p1 := 1616) ⟨by omega, by omega⟩ (by rw [c6280]; decide) ?_)
      exact cases 1616 (by decide) (by omega)
    · refine wl_of hX hb cL_40 (rw_tsw (p1 := 1641) ⟨by omega, by omega⟩ (by rw [c6280]; decide) ?_)
      exact cases 1641 (by decide) (by omega)
    · refine wl_of hX hb cL_40 (rw_tsw (p1 := 1654) ⟨by omega, by omega⟩ (by rw [if_pos c6280]; decide) ?_)
      exact next (by omega)
theorem wl_back {kt : Nat → Option mc_E} {CB SB : Nat} {X : mc_S → Prop} {T : wq_T} {H : wq_H} {Len x m o : Nat} {i : Int} (hX : wlX kt CB SB X) (hb : T.2.1 ≤ CB ∧ T.2.2.1 ≤ SB) (hI : wlJ Len x m o T H) (hL : Len ≤ 3072) (hi : 0 ≤ i ∧ i + 6 ≤ Len) (next : WL kt CB SB X 23 (wlL (i + 6) x m o) [] T H) : WL kt CB SB X 1654 (wlL i x m o) [] T H := by
  obtain ⟨⟨hW, g0, gx, gm, go, hK, hr⟩, hXI, hY1, hY2⟩ := hI
  refine wl_of hX hb cL_1654 (rw_iinc (pc' := 1657) (z := i) (L' := [(4, vI (i + 6)), (3, .ref o), (2, .ref m), (1, .ref x), (0, .ref 0)]) rfl rfl rfl rfl ?_)
  refine wl_of hX hb cL_1657 (rw_goto (p1 := 23) (by decide) ?_)
  exact next
/-- the call that may throw, as the loop wants it -/
def wlLed (kt : Nat → Option mc_E) (CB SB : Nat) (X : mc_S → Prop) (Len x m o : Nat) : Prop := ∀ (T : wq_T) (H : wq_H) (i z : Int), T.2.1 + 20 ≤ CB ∧ T.2.2.1 + 500 ≤ SB → wI z → wlJ Len x m o T H → (∀ (z' : Int), wI z' → ∀ (T' : wq_T) (H' : wq_H), wlJ Len x m o T' H' → T'.2.1 ≤ T.2.1 + 20 → T'.2.2.1 ≤ T.2.2.1 + 500 → WL kt CB SB X 1599 (wlL i x m o) [vI z'] T' H') → WL kt CB SB X 1596 (wlL i x m o) [.ref o, vI z, .ref x] T H
set_option maxRecDepth 40000 in
theorem wl_loopL {kt : Nat → Option mc_E} {CB SB : Nat} {X : mc_S → Prop} {Len x m o : Nat} (hX : wlX kt CB SB X) (hL : Len ≤ 3072) (hled : wlLed kt CB SB X Len x m o) : ∀ (n : Nat) (T : wq_T) (H : wq_H) (i : Int), 0 ≤ i ∧ i ≤ Len → (Len - i).toNat = n → T.2.1 + 4 * (n + 6) ≤ CB → T.2.2.1 + 100 * (n + 6) ≤ SB → wlJ Len x m o T H → WL kt CB SB X 23 (wlL i x m o) [] T H := by
  intro n
  induction n using Nat.strongRecOn with
  | _ n ih =>
    intro T H i hi hn hc hs hI
    have hb : T.2.1 ≤ CB ∧ T.2.2.1 ≤ SB := ⟨by omega, by omega⟩
    have hb2 : T.2.1 + 20 ≤ CB ∧ T.2.2.1 + 500 ≤ SB := ⟨by omega, by omega⟩
    refine wl_head hX hb hI hL hi (fun t ht h6 => ?_) (fun h6 => wl_back hX hb hI hL ⟨hi.1, h6⟩ (ih (Len - (i + 6)).toNat (by omega) T H (i + 6) ⟨by omega, by omega⟩ rfl (by omega) (by omega) hI))
    have next : ∀ T' H', wlJ Len x m o T' H' → T'.2.1 ≤ T.2.1 + 20 → T'.2.2.1 ≤ T.2.2.1 + 500 → WL kt CB SB X 1654 (wlL i x m o) [] T' H' := fun T' H' hI' h1 h2 => wl_back hX ⟨by omega, by omega⟩ hI' hL ⟨hi.1, h6⟩ (ih (Len - (i + 6)).toNat (by omega) T' H' (i + 6) ⟨by omega, by omega⟩ rfl (by omega) (by omega) hI')
    rcases List.mem_cons.mp ht with rfl | ht
    · exact wl_c0 hX hb hI hL ⟨hi.1, h6⟩ hb2 next
    rcases List.mem_cons.mp ht with rfl | ht
    · exact wl_c1 hX hb hI hL ⟨hi.1, h6⟩ hb2 next
    rcases List.mem_cons.mp ht with rfl | ht
    · exact wl_c2 hX hb hI hL ⟨hi.1, h6⟩ hb2 next
    rcases List.mem_cons.mp ht with rfl | ht
    · exact wl_c3 hX hb hI hL ⟨hi.1, h6⟩ hb2 next
    rcases List.mem_cons.mp ht with rfl | ht
    · exact wl_c4 hX hb hI hL ⟨hi.1, h6⟩ hb2 next
    rcases List.mem_cons.mp ht with rfl | ht
    · exact wl_c5 hX hb hI hL ⟨hi.1, h6⟩ hb2 next
    rcases List.mem_cons.mp ht with rfl | ht
    · exact wl_c6 hX hb hI hL ⟨hi.1, h6⟩ hb2 next
    rcases List.mem_cons.mp ht with rfl | ht
    · exact wl_c7 hX hb hI hL ⟨hi.1, h6⟩ hb2 next
    rcases List.mem_cons.mp ht with rfl | ht
    · exact wl_c8 hX hb hI hL ⟨hi.1, h6⟩ hb2 next
    rcases List.mem_cons.mp ht with rfl | ht
    · exact wl_c9 hX hb hI hL ⟨hi.1, h6⟩ hb2 next
    rcases List.mem_cons.mp ht with rfl | ht
    · exact wl_c10 hX hb hI hL ⟨hi.1, h6⟩ hb2 next
    rcases List.mem_cons.mp ht with rfl | ht
    · exact wl_c11 hX hb hI hL ⟨hi.1, h6⟩ hb2 next
    rcases List.mem_cons.mp ht with rfl | ht
    · exact wl_c12 hX hb hI hL ⟨hi.1, h6⟩ hb2 next
    rcases List.mem_cons.mp ht with rfl | ht
    · exact wl_c13 hX hb hI hL ⟨hi.1, h6⟩ hb2 next
    rcases List.mem_cons.mp ht with rfl | ht
    · exact wl_c14 hX hb hI hL ⟨hi.1, h6⟩ hb2 next
    rcases List.mem_cons.mp ht with rfl | ht
    · exact wl_c15 hX hb hI hL ⟨hi.1, h6⟩ hb2 next
    rcases List.mem_cons.mp ht with rfl | ht
    · exact wl_c16 hX hb hI hL ⟨hi.1, h6⟩ hb2 next
    rcases List.mem_cons.mp ht with rfl | ht
    · exact wl_c17 hX hb hI hL ⟨hi.1, h6⟩ hb2 next
    rcases List.mem_cons.mp ht with rfl | ht
    · exact wl_c18 hX hb hI hL ⟨hi.1, h6⟩ hb2 next
    rcases List.mem_cons.mp ht with rfl | ht
    · exact wl_c19 hX hb hI hL ⟨hi.1, h6⟩ hb2 next
    rcases List.mem_cons.mp ht with rfl | ht
    · exact wl_c20 hX hb hI hL ⟨hi.1, h6⟩ hb2 next
    rcases List.mem_cons.mp ht with rfl | ht
    · exact wl_c21 hX hb hI hL ⟨hi.1, h6⟩ hb2 next
    rcases List.mem_cons.mp ht with rfl | ht
    · exact wl_c22 hX hb hI hL ⟨hi.1, h6⟩ hb2 next
    rcases List.mem_cons.mp ht with rfl | ht
    · exact wl_c23 hX hb hI hL ⟨hi.1, h6⟩ hb2 next
    rcases List.mem_cons.mp ht with rfl | ht
    · exact wl_c24 hX hb hI hL ⟨hi.1, h6⟩ hb2 next
    rcases List.mem_cons.mp ht with rfl | ht
    · exact wl_c25 hX hb hI hL ⟨hi.1, h6⟩ hb2 next
    rcases List.mem_cons.mp ht with rfl | ht
    · exact wl_c26 hX hb hI hL ⟨hi.1, h6⟩ hb2 next
    rcases List.mem_cons.mp ht with rfl | ht
    · exact wl_c27 hX hb hI hL ⟨hi.1, h6⟩ hb2 next
    rcases List.mem_cons.mp ht with rfl | ht
    · exact wl_c28 hX hb hI hL ⟨hi.1, h6⟩ hb2 next
    rcases List.mem_cons.mp ht with rfl | ht
    · exact wl_c29 hX hb hI hL ⟨hi.1, h6⟩ hb2 next
    rcases List.mem_cons.mp ht with rfl | ht
    · exact wl_c30 hX hb hI hL ⟨hi.1, h6⟩ hb2 next
    rcases List.mem_cons.mp ht with rfl | ht
    · exact wl_c31 hX hb hI hL ⟨hi.1, h6⟩ hb2 next
    rcases List.mem_cons.mp ht with rfl | ht
    · exact wl_c32 hX hb hI hL ⟨hi.1, h6⟩ hb2 next
    rcases List.mem_cons.mp ht with rfl | ht
    · exact wl_c33 hX hb hI hL ⟨hi.1, h6⟩ hb2 next
    rcases List.mem_cons.mp ht with rfl | ht
    · exact wl_c34 hX hb hI hL ⟨hi.1, h6⟩ hb2 next
    rcases List.mem_cons.mp ht with rfl | ht
    · exact wl_c35 hX hb hI hL ⟨hi.1, h6⟩ hb2 next
    rcases List.mem_cons.mp ht with rfl | ht
    · exact wl_c36 hX hb hI hL ⟨hi.1, h6⟩ hb2 next
    rcases List.mem_cons.mp ht with rfl | ht
    · exact wl_c37 hX hb hI hL ⟨hi.1, h6⟩ hb2 next
    rcases List.mem_cons.mp ht with rfl | ht
    · exact wl_c38 hX hb hI hL ⟨hi.1, h6⟩ hb2 next
    rcases List.mem_cons.mp ht with rfl | ht
    · exact wl_c39 hX hb hI hL ⟨hi.1, h6⟩ hb2 next
    rcases List.mem_cons.mp ht with rfl | ht
    · exact wl_c40 hX hb hI hL ⟨hi.1, h6⟩ hb2 next
    rcases List.mem_cons.mp ht with rfl | ht
    · exact wl_c41 hX hb hI hL ⟨hi.1, h6⟩ hb2 next
    rcases List.mem_cons.mp ht with rfl | ht
    · exact wl_c42 hX hb hI hL ⟨hi.1, h6⟩ hb2 next
    rcases List.mem_cons.mp ht with rfl | ht
    · exact wl_c43 hX hb hI hL ⟨hi.1, h6⟩ hb2 next
    rcases List.mem_cons.mp ht with rfl | ht
    · exact wl_c44 hX hb hI hL ⟨hi.1, h6⟩ hb2 next
    rcases List.mem_cons.mp ht with rfl | ht
    · exact wl_c45 hX hb hI hL ⟨hi.1, h6⟩ hb2 next
    rcases List.mem_cons.mp ht with rfl | ht
    · exact wl_c46 hX hb hI hL ⟨hi.1, h6⟩ hb2 next
    rcases List.mem_cons.mp ht with rfl | ht
    · exact wl_c47 hX hb hI hL ⟨hi.1, h6⟩ hb2 (fun hz _ hI2 k => hled T H i _ hb2 hz hI2 k) next
    rcases List.mem_cons.mp ht with rfl | ht
    · exact wl_c48 hX hb hI hL ⟨hi.1, h6⟩ hb2 next
    rcases List.mem_cons.mp ht with rfl | ht
    · exact wl_c49 hX hb hI hL ⟨hi.1, h6⟩ hb2 next
    cases ht
