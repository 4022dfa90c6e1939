/-! THE LAW, GONE ON WITH (own work) -/
set_option maxHeartbeats 4000000 in
theorem wl_c43 {kt : Nat → Option mc_E} {CB SB : Nat} {X : mc_S → Prop} {T : wq_T} {H : wq_H} {Len x m o : Nat} {i : Int} (hX : wlX kt CB SB X) (hb : T.2.1 ≤ CB ∧ T.2.2.1 ≤ SB) (hI : wlJ Len x m o T H) (hL : Len ≤ 3072) (hi : 0 ≤ i ∧ i + 6 ≤ Len) (hb2 : T.2.1 + 20 ≤ CB ∧ T.2.2.1 + 500 ≤ SB)  (next : ∀ T' H', wlJ Len x m o T' H' → T'.2.1 ≤ T.2.1 + 20 → T'.2.2.1 ≤ T.2.2.1 + 500 → WL kt CB SB X 1653 (wlL i x m o) [] T' H') : WL kt CB SB X 1467 (wlL i x m o) [] T H := by
  obtain ⟨⟨hW, g0, gx, gm, go, hK, hr⟩, hXI, hY1, hY2⟩ := hI
  refine wl_of hX hb cL_1467 (rw_aload_n (pc' := 1468) (v := .ref x) rfl rfl rfl ?_)
  refine wl_of hX hb cL_1468 (rw_aload_n (pc' := 1469) (v := .ref 0) rfl rfl rfl ?_)
  refine wl_of hX hb cL_1469 (rw_iload (pc' := 1471) (z := i) rfl rfl ?_)
  refine wl_of hX hb cL_1471 (rw_iconst (pc' := 1472) rfl ?_)
  refine wl_of hX hb cL_1472 (rw_iadd (pc' := 1473) rfl ?_)
  refine wl_of hX hb cL_1473 (xa_I (so := 0) (pc' := 1474) (a := 0) hW g0 (wsh_s _) (by omega) (wty_s _ _) (by omega) (by omega) rfl (fun b6050 b6051 => ?_))
  refine wl_of hX hb cL_1474 (rw_aload_n (pc' := 1475) (v := .ref 0) rfl rfl rfl ?_)
  refine wl_of hX hb cL_1475 (rw_iload (pc' := 1477) (z := i) rfl rfl ?_)
  refine wl_of hX hb cL_1477 (rw_iconst (pc' := 1478) rfl ?_)
  refine wl_of hX hb cL_1478 (rw_iadd (pc' := 1479) rfl ?_)
  refine wl_of hX hb cL_1479 (xa_I (so := 0) (pc' := 1480) (a := 0) hW g0 (wsh_s _) (by omega) (wty_s _ _) (by omega) (by omega) rfl (fun b6052 b6053 => ?_))
  refine wl_of hX hb cL_1480 (xc_V (pc' := 1483) (r := x) (as := [vI (H 0 ((i + 1).toNat)), vI (H 0 ((i + 2).toNat))]) (st := []) (lm_11_200) rfl rfl (Nat.le_of_ble_eq_true rfl) hW gx sh_1 (by decide) rfl (by decide) (s_157 hW gx ⟨by omega, by omega⟩ ⟨by omega, by omega⟩) (fun R6054 T6055 H6056 p6057 => ?_))
  obtain ⟨e6058, w6060, f6061, z6062, e6059, b6063⟩ := p6057
  subst e6058
  subst e6059
  show WL _ _ _ _ 1483 [(4, vI i), (3, .ref o), (2, .ref m), (1, .ref x), (0, .ref 0)] [vI z6062] _ H6056
  refine wl_of hX hb cL_1483 (rw_pop (pc' := 1484) rfl rfl ?_)
  refine wl_of hX hb cL_1484 (rw_aload_n (pc' := 1485) (v := .ref m) rfl rfl rfl ?_)
  refine wl_of hX hb cL_1485 (rw_aload_n (pc' := 1486) (v := .ref 0) rfl rfl rfl ?_)
  refine wl_of hX hb cL_1486 (rw_iload (pc' := 1488) (z := i) rfl rfl ?_)
  refine wl_of hX hb cL_1488 (rw_iconst (pc' := 1489) rfl ?_)
  refine wl_of hX hb cL_1489 (rw_iadd (pc' := 1490) rfl ?_)
  have k6066 : H6056 0 ((i + 1).toNat) = H 0 ((i + 1).toNat) := (f6061 0 ((i + 1).toNat) _ g0 (wmem_s rfl))
  refine wl_of hX hb cL_1490 (xa_I (so := 0) (pc' := 1491) (a := 0) w6060 g0 (wsh_s _) (by omega) (wty_s _ _) (by omega) (by omega) rfl (fun b6064 b6065 => ?_))
  refine wl_of hX hb cL_1491 (rw_aload_n (pc' := 1492) (v := .ref 0) rfl rfl rfl ?_)
  refine wl_of hX hb cL_1492 (rw_iload (pc' := 1494) (z := i) rfl rfl ?_)
  refine wl_of hX hb cL_1494 (rw_iconst (pc' := 1495) rfl ?_)
  refine wl_of hX hb cL_1495 (rw_iadd (pc' := 1496) rfl ?_)
  have k6069 : H6056 0 ((i + 2).toNat) = H 0 ((i + 2).toNat) := (f6061 0 ((i + 2).toNat) _ g0 (wmem_s rfl))
  refine wl_of hX hb cL_1496 (xa_I (so := 0) (pc' := 1497) (a := 0) w6060 g0 (wsh_s _) (by omega) (wty_s _ _) (by omega) (by omega) rfl (fun b6067 b6068 => ?_))
  have k6070 : wKI H6056 m = wKI H m := (wKI_fr hW gm f6061 rfl)
  have k6071 : H6056 x 9 = H x 9 := (f6061 x 9 _ gx rfl)
  have k6072 : H6056 m 6 = H m 6 := (f6061 m 6 _ gm rfl)
  have k6073 : H6056 x 11 = H x 11 := (f6061 x 11 _ gx rfl)
  have k6074 : H6056 m 13 = H m 13 := (f6061 m 13 _ gm rfl)
  have k6075 : H6056 x 8 = H x 8 := (f6061 x 8 _ gx rfl)
  have k6076 : H6056 m 3 = H m 3 := (f6061 m 3 _ gm rfl)
  refine wl_of hX hb cL_1497 (xc_V (pc' := 1500) (r := m) (as := [vI (H6056 0 ((i + 1).toNat)), vI (H6056 0 ((i + 2).toNat))]) (st := []) (lm_11_203) rfl rfl (Nat.le_of_ble_eq_true rfl) w6060 gm sh_42 (by decide) rfl (by decide) (s_289 w6060 gm ⟨by omega, by omega⟩ ⟨by omega, by omega⟩ (by omega)) (fun R6077 T6078 H6079 p6080 => ?_))
  obtain ⟨e6081, w6083, f6084, z6086, e6082, b6087, p6085⟩ := p6080
  subst e6081
  subst e6082
  show WL _ _ _ _ 1500 [(4, vI i), (3, .ref o), (2, .ref m), (1, .ref x), (0, .ref 0)] [vI z6086] _ H6079
  refine wl_of hX hb cL_1500 (rw_pop (pc' := 1501) rfl rfl ?_)
  refine wl_of hX hb cL_1501 (rw_goto (p1 := 1653) (by decide) ?_)
  have k6088 : H6079 x 9 = H6056 x 9 := (f6084 x 9 _ gx rfl)
  have k6089 : H6079 m 6 = H6056 m 6 := (f6084 m 6 _ gm rfl)
  have k6090 : H6079 x 11 = H6056 x 11 := (f6084 x 11 _ gx rfl)
  have k6091 : H6079 m 13 = H6056 m 13 := (f6084 m 13 _ gm rfl)
  have k6092 : H6079 x 8 = H6056 x 8 := (f6084 x 8 _ gx rfl)
  have k6093 : H6079 m 3 = H6056 m 3 := (f6084 m 3 _ gm rfl)
  have h6094 : XI T H6079 x m := (XI_fr w6060 gx f6084 rfl (XI_fr hW gx f6061 rfl hXI))
  exact WL.loc hX (by simp) (next T H6079 ⟨⟨w6083, g0, gx, gm, go, by omega, by omega⟩, h6094, by omega, by omega⟩ (by omega) (by omega))
set_option maxHeartbeats 4000000 in
theorem wl_c44 {kt : Nat → Option mc_E} {CB SB : Nat} {X : mc_S → Prop} {T : wq_T} {H : wq_H} {Len x m o : Nat} {i : Int} (hX : wlX kt CB SB X) (hb : T.2.1 ≤ CB ∧ T.2.2.1 ≤ SB) (hI : wlJ Len x m o T H) (hL : Len ≤ 3072) (hi : 0 ≤ i ∧ i + 6 ≤ Len) (hb2 : T.2.1 + 20 ≤ CB ∧ T.2.2.1 + 500 ≤ SB)  (next : ∀ T' H', wlJ Len x m o T' H' → T'.2.1 ≤ T.2.1 + 20 → T'.2.2.1 ≤ T.2.2.1 + 500 → WL kt CB SB X 1653 (wlL i x m o) [] T' H') : WL kt CB SB X 1504 (wlL i x m o) [] T H := by
  obtain ⟨⟨hW, g0, gx, gm, go, hK, hr⟩, hXI, hY1, hY2⟩ := hI
  refine wl_of hX hb cL_1504 (rw_aload_n (pc' := 1505) (v := .ref x) rfl rfl rfl ?_)
  refine wl_of hX hb cL_1505 (xc_V (pc' := 1508) (r := x) (as := []) (st := []) (lm_11_204) rfl rfl (Nat.le_of_ble_eq_true rfl) hW gx sh_1 (by decide) rfl (by decide) (s_158 hW gx) (fun R6095 T6096 H6097 p6098 => ?_))
  obtain ⟨e6099, w6101, f6102, z6103, e6100, b6104⟩ := p6098
  subst e6099
  subst e6100
  show WL _ _ _ _ 1508 [(4, vI i), (3, .ref o), (2, .ref m), (1, .ref x), (0, .ref 0)] [vI z6103] _ H6097
  refine wl_of hX hb cL_1508 (rw_pop (pc' := 1509) rfl rfl ?_)
  refine wl_of hX hb cL_1509 (rw_aload_n (pc' := 1510) (v := .ref m) rfl rfl rfl ?_)
  have k6105 : wKI H6097 m = wKI H m := (wKI_fr hW gm f6102 rfl)
  have k6106 : H6097 x 9 = H x 9 := (f6102 x 9 _ gx rfl)
  have k6107 : H6097 m 6 = H m 6 := (f6102 m 6 _ gm rfl)
  have k6108 : H6097 x 11 = H x 11 := (f6102 x 11 _ gx rfl)
  have k6109 : H6097 m 13 = H m 13 := (f6102 m 13 _ gm rfl)
  have k6110 : H6097 x 8 = H x 8 := (f6102 x 8 _ gx rfl)
  have k6111 : H6097 m 3 = H m 3 := (f6102 m 3 _ gm rfl)
  refine wl_of hX hb cL_1510 (xc_V (pc' := 1513) (r := m) (as := []) (st := []) (lm_11_208) rfl rfl (Nat.le_of_ble_eq_true rfl) w6101 gm sh_42 (by decide) rfl (by decide) (s_290 w6101 gm (by omega)) (fun R6112 T6113 H6114 p6115 => ?_))
  obtain ⟨e6116, w6118, f6119, z6121, e6117, b6122, p6120⟩ := p6115
  subst e6116
  subst e6117
  show WL _ _ _ _ 1513 [(4, vI i), (3, .ref o), (2, .ref m), (1, .ref x), (0, .ref 0)] [vI z6121] _ H6114
  refine wl_of hX hb cL_1513 (rw_pop (pc' := 1514) rfl rfl ?_)
  refine wl_of hX hb cL_1514 (rw_goto (p1 := 1653) (by decide) ?_)
  have k6123 : H6114 x 9 = H6097 x 9 := (f6119 x 9 _ gx rfl)
  have k6124 : H6114 m 6 = H6097 m 6 := (f6119 m 6 _ gm rfl)
  have k6125 : H6114 x 11 = H6097 x 11 := (f6119 x 11 _ gx rfl)
  have k6126 : H6114 m 13 = H6097 m 13 := (f6119 m 13 _ gm rfl)
  have k6127 : H6114 x 8 = H6097 x 8 := (f6119 x 8 _ gx rfl)
  have k6128 : H6114 m 3 = H6097 m 3 := (f6119 m 3 _ gm rfl)
  have h6129 : XI T H6114 x m := (XI_fr w6101 gx f6119 rfl (XI_fr hW gx f6102 rfl hXI))
  exact WL.loc hX (by simp) (next T H6114 ⟨⟨w6118, g0, gx, gm, go, by omega, by omega⟩, h6129, by omega, by omega⟩ (by omega) (by omega))
set_option maxHeartbeats 4000000 in
theorem wl_c45 {kt : Nat → Option mc_E} {CB SB : Nat} {X : mc_S → Prop} {T : wq_T} {H : wq_H} {Len x m o : Nat} {i : Int} (hX : wlX kt CB SB X) (hb : T.2.1 ≤ CB ∧ T.2.2.1 ≤ SB) (hI : wlJ Len x m o T H) (hL : Len ≤ 3072) (hi : 0 ≤ i ∧ i + 6 ≤ Len) (hb2 : T.2.1 + 20 ≤ CB ∧ T.2.2.1 + 500 ≤ SB)  (next : ∀ T' H', wlJ Len x m o T' H' → T'.2.1 ≤ T.2.1 + 20 → T'.2.2.1 ≤ T.2.2.1 + 500 → WL kt CB SB X 1653 (wlL i x m o) [] T' H') : WL kt CB SB X 1517 (wlL i x m o) [] T H := by
  obtain ⟨⟨hW, g0, gx, gm, go, hK, hr⟩, hXI, hY1, hY2⟩ := hI
  refine wl_of hX hb cL_1517 (rw_aload_n (pc' := 1518) (v := .ref x) rfl rfl rfl ?_)
  refine wl_of hX hb cL_1518 (xc_V (pc' := 1521) (r := x) (as := []) (st := []) (lm_11_209) rfl rfl (Nat.le_of_ble_eq_true rfl) hW gx sh_1 (by decide) rfl (by decide) (s_159 hW gx) (fun R6130 T6131 H6132 p6133 => ?_))
  obtain ⟨e6134, w6136, f6137, z6138, e6135, b6139⟩ := p6133
  subst e6134
  subst e6135
  show WL _ _ _ _ 1521 [(4, vI i), (3, .ref o), (2, .ref m), (1, .ref x), (0, .ref 0)] [vL z6138] _ H6132
  refine wl_of hX hb cL_1521 (rw_pop2 (pc' := 1522) rfl rfl ?_)
  refine wl_of hX hb cL_1522 (rw_aload_n (pc' := 1523) (v := .ref m) rfl rfl rfl ?_)
  have k6140 : wKI H6132 m = wKI H m := (wKI_fr hW gm f6137 rfl)
  have k6141 : H6132 x 9 = H x 9 := (f6137 x 9 _ gx rfl)
  have k6142 : H6132 m 6 = H m 6 := (f6137 m 6 _ gm rfl)
  have k6143 : H6132 x 11 = H x 11 := (f6137 x 11 _ gx rfl)
  have k6144 : H6132 m 13 = H m 13 := (f6137 m 13 _ gm rfl)
  have k6145 : H6132 x 8 = H x 8 := (f6137 x 8 _ gx rfl)
  have k6146 : H6132 m 3 = H m 3 := (f6137 m 3 _ gm rfl)
  refine wl_of hX hb cL_1523 (xc_V (pc' := 1526) (r := m) (as := []) (st := []) (lm_11_212) rfl rfl (Nat.le_of_ble_eq_true rfl) w6136 gm sh_42 (by decide) rfl (by decide) (s_291 w6136 gm (by omega)) (fun R6147 T6148 H6149 p6150 => ?_))
  obtain ⟨e6151, w6153, f6154, z6156, e6152, b6157, p6155⟩ := p6150
  subst e6151
  subst e6152
  show WL _ _ _ _ 1526 [(4, vI i), (3, .ref o), (2, .ref m), (1, .ref x), (0, .ref 0)] [vL z6156] _ H6149
  refine wl_of hX hb cL_1526 (rw_pop2 (pc' := 1527) rfl rfl ?_)
  refine wl_of hX hb cL_1527 (rw_goto (p1 := 1653) (by decide) ?_)
  have k6158 : H6149 x 9 = H6132 x 9 := (f6154 x 9 _ gx rfl)
  have k6159 : H6149 m 6 = H6132 m 6 := (f6154 m 6 _ gm rfl)
  have k6160 : H6149 x 11 = H6132 x 11 := (f6154 x 11 _ gx rfl)
  have k6161 : H6149 m 13 = H6132 m 13 := (f6154 m 13 _ gm rfl)
  have k6162 : H6149 x 8 = H6132 x 8 := (f6154 x 8 _ gx rfl)
  have k6163 : H6149 m 3 = H6132 m 3 := (f6154 m 3 _ gm rfl)
  have h6164 : XI T H6149 x m := (XI_fr w6136 gx f6154 rfl (XI_fr hW gx f6137 rfl hXI))
  exact WL.loc hX (by simp) (next T H6149 ⟨⟨w6153, g0, gx, gm, go, by omega, by omega⟩, h6164, by omega, by omega⟩ (by omega) (by omega))
set_option maxHeartbeats 4000000 in
theorem wl_c46 {kt : Nat → Option mc_E} {CB SB : Nat} {X : mc_S → Prop} {T : wq_T} {H : wq_H} {Len x m o : Nat} {i : Int} (hX : wlX kt CB SB X) (hb : T.2.1 ≤ CB ∧ T.2.2.1 ≤ SB) (hI : wlJ Len x m o T H) (hL : Len ≤ 3072) (hi : 0 ≤ i ∧ i + 6 ≤ Len) (hb2 : T.2.1 + 20 ≤ CB ∧ T.2.2.1 + 500 ≤ SB)  (next : ∀ T' H', wlJ Len x m o T' H' → T'.2.1 ≤ T.2.1 + 20 → T'.2.2.1 ≤ T.2.2.1 + 500 → WL kt CB SB X 1653 (wlL i x m o) [] T' H') : WL kt CB SB X 1530 (wlL i x m o) [] T H := by
  obtain ⟨⟨hW, g0, gx, gm, go, hK, hr⟩, hXI, hY1, hY2⟩ := hI
  refine wl_of hX hb cL_1530 (rw_aload_n (pc' := 1531) (v := .ref x) rfl rfl rfl ?_)
  refine wl_of hX hb cL_1531 (rw_aload_n (pc' := 1532) (v := .ref 0) rfl rfl rfl ?_)
  refine wl_of hX hb cL_1532 (rw_iload (pc' := 1534) (z := i) rfl rfl ?_)
  refine wl_of hX hb cL_1534 (rw_iconst (pc' := 1535) rfl ?_)
  refine wl_of hX hb cL_1535 (rw_iadd (pc' := 1536) rfl ?_)
  refine wl_of hX hb cL_1536 (xa_I (so := 0) (pc' := 1537) (a := 0) hW g0 (wsh_s _) (by omega) (wty_s _ _) (by omega) (by omega) rfl (fun b6165 b6166 => ?_))
  refine wl_of hX hb cL_1537 (rw_i2l (pc' := 1538) rfl ⟨by omega, by omega⟩ ?_)
  refine wl_of hX hb cL_1538 (rw_bipush (pc' := 1540) (z := 32) rfl (by decide) ?_)
  refine wl_of hX hb cL_1540 (rw_lshl (pc' := 1541) rfl ?_)
  obtain ⟨v6167, e6168⟩ : ∃ x : Int, x = wl_shl (H 0 ((i + 1).toNat)) 32 := ⟨_, rfl⟩
  rw [← e6168]
  have b6169 : -9223372036854775808 ≤ v6167 ∧ v6167 ≤ 9223372036854775807 := by
    rw [e6168]
    exact wL_shl _ _
  refine wl_of hX hb cL_1541 (rw_aload_n (pc' := 1542) (v := .ref 0) rfl rfl rfl ?_)
  refine wl_of hX hb cL_1542 (rw_iload (pc' := 1544) (z := i) rfl rfl ?_)
  refine wl_of hX hb cL_1544 (rw_iconst (pc' := 1545) rfl ?_)
  refine wl_of hX hb cL_1545 (rw_iadd (pc' := 1546) rfl ?_)
  refine wl_of hX hb cL_1546 (xa_I (so := 0) (pc' := 1547) (a := 0) hW g0 (wsh_s _) (by omega) (wty_s _ _) (by omega) (by omega) rfl (fun b6170 b6171 => ?_))
  refine wl_of hX hb cL_1547 (rw_i2l (pc' := 1548) rfl ⟨by omega, by omega⟩ ?_)
  refine wl_of hX hb cL_1548 (rw_ldc2 (pc' := 1551) (z := 4294967295) rfl rfl rfl ?_)
  refine wl_of hX hb cL_1551 (rw_land (pc' := 1552) rfl ?_)
  obtain ⟨v6172, e6173⟩ : ∃ x : Int, x = wl_and (H 0 ((i + 2).toNat)) 4294967295 := ⟨_, rfl⟩
  rw [← e6173]
  have b6174 : -9223372036854775808 ≤ v6172 ∧ v6172 ≤ 9223372036854775807 := by
    rw [e6173]
    exact wL_and _ _
  refine wl_of hX hb cL_1552 (rw_lor (pc' := 1553) rfl ?_)
  obtain ⟨v6175, e6176⟩ : ∃ x : Int, x = wl_or v6167 v6172 := ⟨_, rfl⟩
  rw [← e6176]
  have b6177 : -9223372036854775808 ≤ v6175 ∧ v6175 ≤ 9223372036854775807 := by
    rw [e6176]
    exact wL_or _ _
  obtain ⟨B, tc, tm, cu, dr, C8, e8, d8, n8, g8, ce8, e0, gtc, htc, em, gtm, htm, ecu, gcu, edr, gdr, hcu, hdr, hdec, hded, hsp, hC1, hC2, hcu8, hrb8, hcg8, hmn8, hE, hZ, hn8, hXA, hV8, hSG, ece8, gce8, hcen8, hhdr8, hknn8, -⟩ := hXI
  have hN3 := RB_n3 hrb8
  have hE13 : ∀ h : Nat, h < 24 → 0 ≤ e8 13 h ∧ e8 13 h ≤ 100 := fun k hk => by
    obtain ⟨s, h1, h2, h3⟩ := hcu8.1.2.2.1
    exact ⟨(h3 k hk).1, (h3 k hk).2.1⟩
  have hXW := hXA.1
  have hXN := hXA.2
  have hE0 : e8 0 3 = d8 0 3 ∧ e8 0 0 = d8 0 0 := by
    have h := hE 0 (by decide)
    exact ⟨congrFun h 3, congrFun h 0⟩
  have u6178 := CU_k hcu8
  have h6179 : CY T H cu (d8 0 3) g8 (H cu 17) := ⟨hcg8, rfl⟩
  have h6180 : RY T H m (d8 0 3) g8 (H m 32) := ⟨hmn8, rfl⟩
  obtain ⟨t9, ht9⟩ : ∃ t : Int, t = H x 9 := ⟨_, rfl⟩
  refine wl_of hX hb cL_1553 (xc_V (pc' := 1556) (r := x) (as := [vL v6175]) (st := []) (lm_11_215) rfl rfl (Nat.le_of_ble_eq_true rfl) hW gx sh_1 (by decide) rfl (by decide) (u_161 (e := e8) (d := d8) (n := n8) (nY := ((d8 0 3))) (gY := g8) (cY := ((H cu 17))) hW gx ⟨b6177.1, b6177.2⟩ ecu gcu (by omega) (by omega) (by omega) hcu8 h6179 hcu) (fun R6181 T6182 H6183 p6184 => ?_))
  obtain ⟨e6185, w6187, f6188, z6189, e6186, b6190, p6191⟩ := p6184
  subst e6185
  subst e6186
  rcases p6191 with ⟨a6192, a6193, a6194, a6195, a6196⟩ | ⟨a6197, a6198, a6199⟩
  · show WL _ _ _ _ 1556 [(4, vI i), (3, .ref o), (2, .ref m), (1, .ref x), (0, .ref 0)] [vI z6189] _ H6183
    refine wl_of hX hb cL_1556 (rw_pop (pc' := 1557) rfl rfl ?_)
    refine wl_of hX hb cL_1557 (rw_aload_n (pc' := 1558) (v := .ref m) rfl rfl rfl ?_)
    refine wl_of hX hb cL_1558 (rw_aload_n (pc' := 1559) (v := .ref 0) rfl rfl rfl ?_)
    refine wl_of hX hb cL_1559 (rw_iload (pc' := 1561) (z := i) rfl rfl ?_)
    refine wl_of hX hb cL_1561 (rw_iconst (pc' := 1562) rfl ?_)
    refine wl_of hX hb cL_1562 (rw_iadd (pc' := 1563) rfl ?_)
    have k6202 : H6183 0 ((i + 1).toNat) = H 0 ((i + 1).toNat) := (f6188 0 ((i + 1).toNat) _ g0 (wmem_s rfl))
    refine wl_of hX hb cL_1563 (xa_I (so := 0) (pc' := 1564) (a := 0) w6187 g0 (wsh_s _) (by omega) (wty_s _ _) (by omega) (by omega) rfl (fun b6200 b6201 => ?_))
    refine wl_of hX hb cL_1564 (rw_i2l (pc' := 1565) rfl ⟨by omega, by omega⟩ ?_)
    refine wl_of hX hb cL_1565 (rw_bipush (pc' := 1567) (z := 32) rfl (by decide) ?_)
    refine wl_of hX hb cL_1567 (rw_lshl (pc' := 1568) rfl ?_)
    obtain ⟨v6203, e6204⟩ : ∃ x : Int, x = wl_shl (H6183 0 ((i + 1).toNat)) 32 := ⟨_, rfl⟩
    rw [← e6204]
    have b6205 : -9223372036854775808 ≤ v6203 ∧ v6203 ≤ 9223372036854775807 := by
      rw [e6204]
      exact wL_shl _ _
    refine wl_of hX hb cL_1568 (rw_aload_n (pc' := 1569) (v := .ref 0) rfl rfl rfl ?_)
    refine wl_of hX hb cL_1569 (rw_iload (pc' := 1571) (z := i) rfl rfl ?_)
    refine wl_of hX hb cL_1571 (rw_iconst (pc' := 1572) rfl ?_)
    refine wl_of hX hb cL_1572 (rw_iadd (pc' := 1573) rfl ?_)
    have k6208 : H6183 0 ((i + 2).toNat) = H 0 ((i + 2).toNat) := (f6188 0 ((i + 2).toNat) _ g0 (wmem_s rfl))
    refine wl_of hX hb cL_1573 (xa_I (so := 0) (pc' := 1574) (a := 0) w6187 g0 (wsh_s _) (by omega) (wty_s _ _) (by omega) (by omega) rfl (fun b6206 b6207 => ?_))
    refine wl_of hX hb cL_1574 (rw_i2l (pc' := 1575) rfl ⟨by omega, by omega⟩ ?_)
    refine wl_of hX hb cL_1575 (rw_ldc2 (pc' := 1578) (z := 4294967295) rfl rfl rfl ?_)
    refine wl_of hX hb cL_1578 (rw_land (pc' := 1579) rfl ?_)
    obtain ⟨v6209, e6210⟩ : ∃ x : Int, x = wl_and (H6183 0 ((i + 2).toNat)) 4294967295 := ⟨_, rfl⟩
    rw [← e6210]
    have b6211 : -9223372036854775808 ≤ v6209 ∧ v6209 ≤ 9223372036854775807 := by
      rw [e6210]
      exact wL_and _ _
    refine wl_of hX hb cL_1579 (rw_lor (pc' := 1580) rfl ?_)
    obtain ⟨v6212, e6213⟩ : ∃ x : Int, x = wl_or v6203 v6209 := ⟨_, rfl⟩
    rw [← e6213]
    have b6214 : -9223372036854775808 ≤ v6212 ∧ v6212 ≤ 9223372036854775807 := by
      rw [e6213]
      exact wL_or _ _
    have k6215 : wKI H6183 m = wKI H m := (wKI_fr hW gm f6188 rfl)
    have k6216 : H6183 x 9 = H x 9 := (f6188 x 9 _ gx rfl)
    have k6217 : H6183 m 6 = H m 6 := (f6188 m 6 _ gm rfl)
    have k6218 : H6183 x 11 = H x 11 := (f6188 x 11 _ gx rfl)
    have k6219 : H6183 m 13 = H m 13 := (f6188 m 13 _ gm rfl)
    have k6220 : H6183 x 8 = H x 8 := (f6188 x 8 _ gx rfl)
    have k6221 : H6183 m 3 = H m 3 := (f6188 m 3 _ gm rfl)
    have h6222 : RB T H6183 m e8 d8 := (RB_fr hW gm f6188 rfl hrb8)
    have h6223 : RY T H6183 m (d8 0 3) g8 (H m 32) := (RY_fr hW gm f6188 rfl h6180)
    refine wl_of hX hb cL_1580 (xc_V (pc' := 1583) (r := m) (as := [vL v6212]) (st := []) (lm_11_219) rfl rfl (Nat.le_of_ble_eq_true rfl) w6187 gm sh_42 (by decide) rfl (by decide) (u_292 (e := e8) (d := d8) (nY := ((d8 0 3))) (gY := g8) (cY := ((H m 32))) w6187 gm ⟨b6214.1, b6214.2⟩ (by omega) h6222 h6223) (fun R6224 T6225 H6226 p6227 => ?_))
    obtain ⟨e6228, w6230, f6231, z6232, e6229, b6233, p6234⟩ := p6227
    subst e6228
    subst e6229
    rcases p6234 with ⟨a6235, a6236, a6237, a6238⟩ | ⟨a6239, a6240, a6241⟩
    · show WL _ _ _ _ 1583 [(4, vI i), (3, .ref o), (2, .ref m), (1, .ref x), (0, .ref 0)] [vI z6232] _ H6226
      refine wl_of hX hb cL_1583 (rw_pop (pc' := 1584) rfl rfl ?_)
      refine wl_of hX hb cL_1584 (rw_goto (p1 := 1653) (by decide) ?_)
      have k6242 : wKI H6226 m = wKI H6183 m := (wKI_fr w6187 gm f6231 rfl)
      have k6243 : H6226 x 9 = H6183 x 9 := (f6231 x 9 _ gx rfl)
      have k6244 : H6226 m 6 = H6183 m 6 := (f6231 m 6 _ gm rfl)
      have k6245 : H6226 x 11 = H6183 x 11 := (f6231 x 11 _ gx rfl)
      have k6246 : H6226 m 13 = H6183 m 13 := (f6231 m 13 _ gm rfl)
      have k6247 : H6226 x 8 = H6183 x 8 := (f6231 x 8 _ gx rfl)
      have k6248 : H6226 m 3 = H6183 m 3 := (f6231 m 3 _ gm rfl)
      have k6249 : H6226 x 0 = H x 0 := ((f6231 x 0 _ gx rfl).trans (f6188 x 0 _ gx rfl))
      have q6250 : H6226 x 0 = (tc : Int) := k6249.trans e0
      have k6251 : H6226 m 5 = H m 5 := ((f6231 m 5 _ gm rfl).trans (f6188 m 5 _ gm rfl))
      have q6252 : H6226 m 5 = (tm : Int) := k6251.trans em
      have k6253 : H6226 x 6 = H x 6 := ((f6231 x 6 _ gx rfl).trans (f6188 x 6 _ gx rfl))
      have q6254 : H6226 x 6 = (cu : Int) := k6253.trans ecu
      have k6255 : H6226 x 7 = H x 7 := ((f6231 x 7 _ gx rfl).trans (f6188 x 7 _ gx rfl))
      have q6256 : H6226 x 7 = (dr : Int) := k6255.trans edr
      have h6257 : TP T H6226 tc B := (TP_fr w6187 gtc f6231 rfl (TP_fr hW gtc f6188 rfl htc))
      have h6258 : TM T H6226 tm B := (TM_fr w6187 gtm f6231 rfl (TM_fr hW gtm f6188 rfl htm))
      have h6259 : DD T H6226 cu  := (DD_fr w6187 gcu f6231 rfl (DD_fr hW gcu f6188 rfl hcu))
      have h6260 : DD T H6226 dr  := (DD_fr w6187 gdr f6231 rfl (DD_fr hW gdr f6188 rfl hdr))
      have h6261 : DE T H6226 cu  := (DE_fr w6187 gcu f6231 rfl (DE_fr hW gcu f6188 rfl hdec))
      have h6262 : DE T H6226 dr  := (DE_fr w6187 gdr f6231 rfl (DE_fr hW gdr f6188 rfl hded))
      have h6263 : SP T H6226 x C8 := (SP_fr w6187 gx f6231 rfl (SP_fr hW gx f6188 rfl hsp))
      have h6264 : CU T H6226 cu e8 d8 n8 := (CU_fr w6187 gcu f6231 rfl (CU_fr hW gcu f6188 rfl hcu8))
      have h6265 : CY T H6226 cu ((d8 0 3)) (xdg d8 v6175) (wdv (d8 0 3).toNat v6175) := (CY_fr w6187 gcu f6231 rfl a6196)
      have k6266 : H6226 x 3 = H x 3 := ((f6231 x 3 _ gx rfl).trans (f6188 x 3 _ gx rfl))
      have q6267 : H6226 x 3 = (ce8 : Int) := k6266.trans ece8
      have h6268 : CEN T H6226 ce8 e8 d8 := (CEN_fr w6187 gce8 f6231 rfl (CEN_fr hW gce8 f6188 rfl hcen8))
      have h6269 : HDR T H6226 ce8  := (HDR_fr w6187 gce8 f6231 rfl (HDR_fr hW gce8 f6188 rfl hhdr8))
      have h6270 : KNN T H6226 m e8 d8 := (KNN_fr w6187 gm f6231 rfl (KNN_fr hW gm f6188 rfl hknn8))
      exfalso
      omega
    · show WL _ _ _ _ 1583 [(4, vI i), (3, .ref o), (2, .ref m), (1, .ref x), (0, .ref 0)] [vI z6232] _ H6226
      refine wl_of hX hb cL_1583 (rw_pop (pc' := 1584) rfl rfl ?_)
      refine wl_of hX hb cL_1584 (rw_goto (p1 := 1653) (by decide) ?_)
      have k6271 : wKI H6226 m = wKI H6183 m := (wKI_fr w6187 gm f6231 rfl)
      have k6272 : H6226 x 9 = H6183 x 9 := (f6231 x 9 _ gx rfl)
      have k6273 : H6226 m 6 = H6183 m 6 := (f6231 m 6 _ gm rfl)
      have k6274 : H6226 x 11 = H6183 x 11 := (f6231 x 11 _ gx rfl)
      have k6275 : H6226 m 13 = H6183 m 13 := (f6231 m 13 _ gm rfl)
      have k6276 : H6226 x 8 = H6183 x 8 := (f6231 x 8 _ gx rfl)
      have k6277 : H6226 m 3 = H6183 m 3 := (f6231 m 3 _ gm rfl)
      have k6278 : H6226 x 0 = H x 0 := ((f6231 x 0 _ gx rfl).trans (f6188 x 0 _ gx rfl))
      have q6279 : H6226 x 0 = (tc : Int) := k6278.trans e0
      have k6280 : H6226 m 5 = H m 5 := ((f6231 m 5 _ gm rfl).trans (f6188 m 5 _ gm rfl))
      have q6281 : H6226 m 5 = (tm : Int) := k6280.trans em
      have k6282 : H6226 x 6 = H x 6 := ((f6231 x 6 _ gx rfl).trans (f6188 x 6 _ gx rfl))
      have q6283 : H6226 x 6 = (cu : Int) := k6282.trans ecu
      have k6284 : H6226 x 7 = H x 7 := ((f6231 x 7 _ gx rfl).trans (f6188 x 7 _ gx rfl))
      have q6285 : H6226 x 7 = (dr : Int) := k6284.trans edr
      have h6286 : TP T H6226 tc B := (TP_fr w6187 gtc f6231 rfl (TP_fr hW gtc f6188 rfl htc))
      have h6287 : TM T H6226 tm B := (TM_fr w6187 gtm f6231 rfl (TM_fr hW gtm f6188 rfl htm))
      have h6288 : DD T H6226 cu  := (DD_fr w6187 gcu f6231 rfl (DD_fr hW gcu f6188 rfl hcu))
      have h6289 : DD T H6226 dr  := (DD_fr w6187 gdr f6231 rfl (DD_fr hW gdr f6188 rfl hdr))
      have h6290 : DE T H6226 cu  := (DE_fr w6187 gcu f6231 rfl (DE_fr hW gcu f6188 rfl hdec))
      have h6291 : DE T H6226 dr  := (DE_fr w6187 gdr f6231 rfl (DE_fr hW gdr f6188 rfl hded))
      have h6292 : SP T H6226 x C8 := (SP_fr w6187 gx f6231 rfl (SP_fr hW gx f6188 rfl hsp))
      have h6293 : CU T H6226 cu e8 d8 n8 := (CU_fr w6187 gcu f6231 rfl (CU_fr hW gcu f6188 rfl hcu8))
      have h6294 : CY T H6226 cu ((d8 0 3)) (xdg d8 v6175) (wdv (d8 0 3).toNat v6175) := (CY_fr w6187 gcu f6231 rfl a6196)
      have k6295 : H6226 x 3 = H x 3 := ((f6231 x 3 _ gx rfl).trans (f6188 x 3 _ gx rfl))
      have q6296 : H6226 x 3 = (ce8 : Int) := k6295.trans ece8
      have h6297 : CEN T H6226 ce8 e8 d8 := (CEN_fr w6187 gce8 f6231 rfl (CEN_fr hW gce8 f6188 rfl hcen8))
      have h6298 : HDR T H6226 ce8  := (HDR_fr w6187 gce8 f6231 rfl (HDR_fr hW gce8 f6188 rfl hhdr8))
      have h6299 : KNN T H6226 m e8 d8 := (KNN_fr w6187 gm f6231 rfl (KNN_fr hW gm f6188 rfl hknn8))
      exfalso
      omega
  · show WL _ _ _ _ 1556 [(4, vI i), (3, .ref o), (2, .ref m), (1, .ref x), (0, .ref 0)] [vI z6189] _ H6183
    refine wl_of hX hb cL_1556 (rw_pop (pc' := 1557) rfl rfl ?_)
    refine wl_of hX hb cL_1557 (rw_aload_n (pc' := 1558) (v := .ref m) rfl rfl rfl ?_)
    refine wl_of hX hb cL_1558 (rw_aload_n (pc' := 1559) (v := .ref 0) rfl rfl rfl ?_)
    refine wl_of hX hb cL_1559 (rw_iload (pc' := 1561) (z := i) rfl rfl ?_)
    refine wl_of hX hb cL_1561 (rw_iconst (pc' := 1562) rfl ?_)
    refine wl_of hX hb cL_1562 (rw_iadd (pc' := 1563) rfl ?_)
    have k6302 : H6183 0 ((i + 1).toNat) = H 0 ((i + 1).toNat) := (f6188 0 ((i + 1).toNat) _ g0 (wmem_s rfl))
    refine wl_of hX hb cL_1563 (xa_I (so := 0) (pc' := 1564) (a := 0) w6187 g0 (wsh_s _) (by omega) (wty_s _ _) (by omega) (by omega) rfl (fun b6300 b6301 => ?_))
    refine wl_of hX hb cL_1564 (rw_i2l (pc' := 1565) rfl ⟨by omega, by omega⟩ ?_)
    refine wl_of hX hb cL_1565 (rw_bipush (pc' := 1567) (z := 32) rfl (by decide) ?_)
    refine wl_of hX hb cL_1567 (rw_lshl (pc' := 1568) rfl ?_)
    obtain ⟨v6303, e6304⟩ : ∃ x : Int, x = wl_shl (H6183 0 ((i + 1).toNat)) 32 := ⟨_, rfl⟩
    rw [← e6304]
    have b6305 : -9223372036854775808 ≤ v6303 ∧ v6303 ≤ 9223372036854775807 := by
      rw [e6304]
      exact wL_shl _ _
    refine wl_of hX hb cL_1568 (rw_aload_n (pc' := 1569) (v := .ref 0) rfl rfl rfl ?_)
    refine wl_of hX hb cL_1569 (rw_iload (pc' := 1571) (z := i) rfl rfl ?_)
    refine wl_of hX hb cL_1571 (rw_iconst (pc' := 1572) rfl ?_)
    refine wl_of hX hb cL_1572 (rw_iadd (pc' := 1573) rfl ?_)
    have k6308 : H6183 0 ((i + 2).toNat) = H 0 ((i + 2).toNat) := (f6188 0 ((i + 2).toNat) _ g0 (wmem_s rfl))
    refine wl_of hX hb cL_1573 (xa_I (so := 0) (pc' := 1574) (a := 0) w6187 g0 (wsh_s _) (by omega) (wty_s _ _) (by omega) (by omega) rfl (fun b6306 b6307 => ?_))
    refine wl_of hX hb cL_1574 (rw_i2l (pc' := 1575) rfl ⟨by omega, by omega⟩ ?_)
    refine wl_of hX hb cL_1575 (rw_ldc2 (pc' := 1578) (z := 4294967295) rfl rfl rfl ?_)
    refine wl_of hX hb cL_1578 (rw_land (pc' := 1579) rfl ?_)
    obtain ⟨v6309, e6310⟩ : ∃ x : Int, x = wl_and (H6183 0 ((i + 2).toNat)) 4294967295 := ⟨_, rfl⟩
    rw [← e6310]
    have b6311 : -9223372036854775808 ≤ v6309 ∧ v6309 ≤ 9223372036854775807 := by
      rw [e6310]
      exact wL_and _ _
    refine wl_of hX hb cL_1579 (rw_lor (pc' := 1580) rfl ?_)
    obtain ⟨v6312, e6313⟩ : ∃ x : Int, x = wl_or v6303 v6309 := ⟨_, rfl⟩
    rw [← e6313]
    have b6314 : -9223372036854775808 ≤ v6312 ∧ v6312 ≤ 9223372036854775807 := by
      rw [e6313]
      exact wL_or _ _
    have k6315 : wKI H6183 m = wKI H m := (wKI_fr hW gm f6188 rfl)
    have k6316 : H6183 x 9 = H x 9 := (f6188 x 9 _ gx rfl)
    have k6317 : H6183 m 6 = H m 6 := (f6188 m 6 _ gm rfl)
    have k6318 : H6183 x 11 = H x 11 := (f6188 x 11 _ gx rfl)
    have k6319 : H6183 m 13 = H m 13 := (f6188 m 13 _ gm rfl)
    have k6320 : H6183 x 8 = H x 8 := (f6188 x 8 _ gx rfl)
    have k6321 : H6183 m 3 = H m 3 := (f6188 m 3 _ gm rfl)
    have h6322 : RB T H6183 m e8 d8 := (RB_fr hW gm f6188 rfl hrb8)
    have h6323 : RY T H6183 m (d8 0 3) g8 (H m 32) := (RY_fr hW gm f6188 rfl h6180)
    refine wl_of hX hb cL_1580 (xc_V (pc' := 1583) (r := m) (as := [vL v6312]) (st := []) (lm_11_219) rfl rfl (Nat.le_of_ble_eq_true rfl) w6187 gm sh_42 (by decide) rfl (by decide) (u_292 (e := e8) (d := d8) (nY := ((d8 0 3))) (gY := g8) (cY := ((H m 32))) w6187 gm ⟨b6314.1, b6314.2⟩ (by omega) h6322 h6323) (fun R6324 T6325 H6326 p6327 => ?_))
    obtain ⟨e6328, w6330, f6331, z6332, e6329, b6333, p6334⟩ := p6327
    subst e6328
    subst e6329
    rcases p6334 with ⟨a6335, a6336, a6337, a6338⟩ | ⟨a6339, a6340, a6341⟩
    · show WL _ _ _ _ 1583 [(4, vI i), (3, .ref o), (2, .ref m), (1, .ref x), (0, .ref 0)] [vI z6332] _ H6326
      refine wl_of hX hb cL_1583 (rw_pop (pc' := 1584) rfl rfl ?_)
      refine wl_of hX hb cL_1584 (rw_goto (p1 := 1653) (by decide) ?_)
      have k6342 : wKI H6326 m = wKI H6183 m := (wKI_fr w6187 gm f6331 rfl)
      have k6343 : H6326 x 9 = H6183 x 9 := (f6331 x 9 _ gx rfl)
      have k6344 : H6326 m 6 = H6183 m 6 := (f6331 m 6 _ gm rfl)
      have k6345 : H6326 x 11 = H6183 x 11 := (f6331 x 11 _ gx rfl)
      have k6346 : H6326 m 13 = H6183 m 13 := (f6331 m 13 _ gm rfl)
      have k6347 : H6326 x 8 = H6183 x 8 := (f6331 x 8 _ gx rfl)
      have k6348 : H6326 m 3 = H6183 m 3 := (f6331 m 3 _ gm rfl)
      have k6349 : H6326 x 0 = H x 0 := ((f6331 x 0 _ gx rfl).trans (f6188 x 0 _ gx rfl))
      have q6350 : H6326 x 0 = (tc : Int) := k6349.trans e0
      have k6351 : H6326 m 5 = H m 5 := ((f6331 m 5 _ gm rfl).trans (f6188 m 5 _ gm rfl))
      have q6352 : H6326 m 5 = (tm : Int) := k6351.trans em
      have k6353 : H6326 x 6 = H x 6 := ((f6331 x 6 _ gx rfl).trans (f6188 x 6 _ gx rfl))
      have q6354 : H6326 x 6 = (cu : Int) := k6353.trans ecu
      have k6355 : H6326 x 7 = H x 7 := ((f6331 x 7 _ gx rfl).trans (f6188 x 7 _ gx rfl))
      have q6356 : H6326 x 7 = (dr : Int) := k6355.trans edr
      have h6357 : TP T H6326 tc B := (TP_fr w6187 gtc f6331 rfl (TP_fr hW gtc f6188 rfl htc))
      have h6358 : TM T H6326 tm B := (TM_fr w6187 gtm f6331 rfl (TM_fr hW gtm f6188 rfl htm))
      have h6359 : DD T H6326 cu  := (DD_fr w6187 gcu f6331 rfl (DD_fr hW gcu f6188 rfl hcu))
      have h6360 : DD T H6326 dr  := (DD_fr w6187 gdr f6331 rfl (DD_fr hW gdr f6188 rfl hdr))
      have h6361 : DE T H6326 cu  := (DE_fr w6187 gcu f6331 rfl (DE_fr hW gcu f6188 rfl hdec))
      have h6362 : DE T H6326 dr  := (DE_fr w6187 gdr f6331 rfl (DE_fr hW gdr f6188 rfl hded))
      have h6363 : SP T H6326 x C8 := (SP_fr w6187 gx f6331 rfl (SP_fr hW gx f6188 rfl hsp))
      have h6364 : CU T H6326 cu e8 d8 n8 := (CU_fr w6187 gcu f6331 rfl (CU_fr hW gcu f6188 rfl hcu8))
      have h6365 : CY T H6326 cu ((d8 0 3)) g8 ((H cu 17)) := (CY_fr w6187 gcu f6331 rfl a6199)
      have k6366 : H6326 x 3 = H x 3 := ((f6331 x 3 _ gx rfl).trans (f6188 x 3 _ gx rfl))
      have q6367 : H6326 x 3 = (ce8 : Int) := k6366.trans ece8
      have h6368 : CEN T H6326 ce8 e8 d8 := (CEN_fr w6187 gce8 f6331 rfl (CEN_fr hW gce8 f6188 rfl hcen8))
      have h6369 : HDR T H6326 ce8  := (HDR_fr w6187 gce8 f6331 rfl (HDR_fr hW gce8 f6188 rfl hhdr8))
      have h6370 : KNN T H6326 m e8 d8 := (KNN_fr w6187 gm f6331 rfl (KNN_fr hW gm f6188 rfl hknn8))
      exfalso
      omega
    · show WL _ _ _ _ 1583 [(4, vI i), (3, .ref o), (2, .ref m), (1, .ref x), (0, .ref 0)] [vI z6332] _ H6326
      refine wl_of hX hb cL_1583 (rw_pop (pc' := 1584) rfl rfl ?_)
      refine wl_of hX hb cL_1584 (rw_goto (p1 := 1653) (by decide) ?_)
      have k6371 : wKI H6326 m = wKI H6183 m := (wKI_fr w6187 gm f6331 rfl)
      have k6372 : H6326 x 9 = H6183 x 9 := (f6331 x 9 _ gx rfl)
      have k6373 : H6326 m 6 = H6183 m 6 := (f6331 m 6 _ gm rfl)
      have k6374 : H6326 x 11 = H6183 x 11 := (f6331 x 11 _ gx rfl)
      have k6375 : H6326 m 13 = H6183 m 13 := (f6331 m 13 _ gm rfl)
      have k6376 : H6326 x 8 = H6183 x 8 := (f6331 x 8 _ gx rfl)
      have k6377 : H6326 m 3 = H6183 m 3 := (f6331 m 3 _ gm rfl)
      have k6378 : H6326 x 0 = H x 0 := ((f6331 x 0 _ gx rfl).trans (f6188 x 0 _ gx rfl))
      have q6379 : H6326 x 0 = (tc : Int) := k6378.trans e0
      have k6380 : H6326 m 5 = H m 5 := ((f6331 m 5 _ gm rfl).trans (f6188 m 5 _ gm rfl))
      have q6381 : H6326 m 5 = (tm : Int) := k6380.trans em
      have k6382 : H6326 x 6 = H x 6 := ((f6331 x 6 _ gx rfl).trans (f6188 x 6 _ gx rfl))
      have q6383 : H6326 x 6 = (cu : Int) := k6382.trans ecu
      have k6384 : H6326 x 7 = H x 7 := ((f6331 x 7 _ gx rfl).trans (f6188 x 7 _ gx rfl))
      have q6385 : H6326 x 7 = (dr : Int) := k6384.trans edr
      have h6386 : TP T H6326 tc B := (TP_fr w6187 gtc f6331 rfl (TP_fr hW gtc f6188 rfl htc))
      have h6387 : TM T H6326 tm B := (TM_fr w6187 gtm f6331 rfl (TM_fr hW gtm f6188 rfl htm))
      have h6388 : DD T H6326 cu  := (DD_fr w6187 gcu f6331 rfl (DD_fr hW gcu f6188 rfl hcu))
      have h6389 : DD T H6326 dr  := (DD_fr w6187 gdr f6331 rfl (DD_fr hW gdr f6188 rfl hdr))
      have h6390 : DE T H6326 cu  := (DE_fr w6187 gcu f6331 rfl (DE_fr hW gcu f6188 rfl hdec))
      have h6391 : DE T H6326 dr  := (DE_fr w6187 gdr f6331 rfl (DE_fr hW gdr f6188 rfl hded))
      have h6392 : SP T H6326 x C8 := (SP_fr w6187 gx f6331 rfl (SP_fr hW gx f6188 rfl hsp))
      have h6393 : CU T H6326 cu e8 d8 n8 := (CU_fr w6187 gcu f6331 rfl (CU_fr hW gcu f6188 rfl hcu8))
      have h6394 : CY T H6326 cu ((d8 0 3)) g8 ((H cu 17)) := (CY_fr w6187 gcu f6331 rfl a6199)
      have k6395 : H6326 x 3 = H x 3 := ((f6331 x 3 _ gx rfl).trans (f6188 x 3 _ gx rfl))
      have q6396 : H6326 x 3 = (ce8 : Int) := k6395.trans ece8
      have h6397 : CEN T H6326 ce8 e8 d8 := (CEN_fr w6187 gce8 f6331 rfl (CEN_fr hW gce8 f6188 rfl hcen8))
      have h6398 : HDR T H6326 ce8  := (HDR_fr w6187 gce8 f6331 rfl (HDR_fr hW gce8 f6188 rfl hhdr8))
      have h6399 : KNN T H6326 m e8 d8 := (KNN_fr w6187 gm f6331 rfl (KNN_fr hW gm f6188 rfl hknn8))
      have h6400 : RB T H6326 m e8 d8 := (RB_fr w6187 gm f6331 rfl h6322)
      exact WL.loc hX (by simp) (next T H6326 ⟨⟨w6330, g0, gx, gm, go, by omega, by omega⟩, ⟨_, tc, tm, cu, dr, _, _, _, _, _, ce8, q6379, gtc, h6386, q6381, gtm, h6387, q6383, gcu, q6385, gdr, h6388, h6389, h6390, h6391, h6392, hC1, hC2, h6393, h6400, (h6394).1, (a6341).1, hE, hZ, (by omega), (by assumption), (by omega), (by first | assumption | exact SG_0), q6396, gce8, h6397, h6398, h6399, gm⟩, by omega, by omega⟩ (by omega) (by omega))
set_option maxHeartbeats 4000000 in
theorem wl_c47 {kt : Nat → Option mc_E} {CB SB : Nat} {X : mc_S → Prop} {T : wq_T} {H : wq_H} {Len x m o : Nat} {i : Int} (hX : wlX kt CB SB X) (hb : T.2.1 ≤ CB ∧ T.2.2.1 ≤ SB) (hI : wlJ Len x m o T H) (hL : Len ≤ 3072) (hi : 0 ≤ i ∧ i + 6 ≤ Len) (hb2 : T.2.1 + 20 ≤ CB ∧ T.2.2.1 + 500 ≤ SB) (hled : ∀ {z : Int}, wI z → T.2.1 ≤ CB ∧ T.2.2.1 ≤ SB → wlJ Len x m o T H → (∀ (z' : Int), wI z' → ∀ (T' : wq_T) (H' : wq_H), wlJ Len x m o T' H' → T'.2.1 ≤ T.2.1 + 20 → T'.2.2.1 ≤ T.2.2.1 + 500 → WL kt CB SB X 1598 (wlL i x m o) [vI z'] T' H') → WL kt CB SB X 1595 (wlL i x m o) [.ref o, vI z, .ref x] T H) (next : ∀ T' H', wlJ Len x m o T' H' → T'.2.1 ≤ T.2.1 + 20 → T'.2.2.1 ≤ T.2.2.1 + 500 → WL kt CB SB X 1653 (wlL i x m o) [] T' H') : WL kt CB SB X 1587 (wlL i x m o) [] T H := by
  obtain ⟨⟨hW, g0, gx, gm, go, hK, hr⟩, hXI, hY1, hY2⟩ := hI
  refine wl_of hX hb cL_1587 (rw_aload_n (pc' := 1588) (v := .ref x) rfl rfl rfl ?_)
  refine wl_of hX hb cL_1588 (rw_aload_n (pc' := 1589) (v := .ref 0) rfl rfl rfl ?_)
  refine wl_of hX hb cL_1589 (rw_iload (pc' := 1591) (z := i) rfl rfl ?_)
  refine wl_of hX hb cL_1591 (rw_iconst (pc' := 1592) rfl ?_)
  refine wl_of hX hb cL_1592 (rw_iadd (pc' := 1593) rfl ?_)
  refine wl_of hX hb cL_1593 (xa_I (so := 0) (pc' := 1594) (a := 0) hW g0 (wsh_s _) (by omega) (wty_s _ _) (by omega) (by omega) rfl (fun b6401 b6402 => ?_))
  refine wl_of hX hb cL_1594 (rw_aload_n (pc' := 1595) (v := .ref o) rfl rfl rfl ?_)
  refine hled ⟨by omega, by omega⟩ hb ⟨⟨hW, g0, gx, gm, go, by omega, by omega⟩, hXI, by omega, by omega⟩ (fun z9 b9 T9 H9 hI9 n9 s9 => ?_)
  obtain ⟨⟨w9, g0, gx, gm, go, hK, hr⟩, hXI, hY1, hY2⟩ := hI9
  have hb : T9.2.1 ≤ CB ∧ T9.2.2.1 ≤ SB := ⟨by omega, by omega⟩
  refine wl_of hX hb cL_1598 (rw_istore (pc' := 1600) (z := z9) (L' := [(5, vI z9), (4, vI i), (3, .ref o), (2, .ref m), (1, .ref x), (0, .ref 0)]) rfl rfl rfl ?_)
  refine wl_of hX hb cL_1600 (rw_aload_n (pc' := 1601) (v := .ref m) rfl rfl rfl ?_)
  refine wl_of hX hb cL_1601 (rw_aload_n (pc' := 1602) (v := .ref 0) rfl rfl rfl ?_)
  refine wl_of hX hb cL_1602 (rw_iload (pc' := 1604) (z := i) rfl rfl ?_)
  refine wl_of hX hb cL_1604 (rw_iconst (pc' := 1605) rfl ?_)
  refine wl_of hX hb cL_1605 (rw_iadd (pc' := 1606) rfl ?_)
  refine wl_of hX hb cL_1606 (xa_I (so := 0) (pc' := 1607) (a := 0) w9 g0 (wsh_s _) (by omega) (wty_s _ _) (by omega) (by omega) rfl (fun b6403 b6404 => ?_))
  refine wl_of hX hb cL_1607 (xc_V (pc' := 1610) (r := m) (as := [vI (H9 0 ((i + 1).toNat))]) (st := []) (lm_11_225) rfl rfl (Nat.le_of_ble_eq_true rfl) w9 gm sh_42 (by decide) rfl (by decide) (s_293 w9 gm ⟨by omega, by omega⟩ (by omega)) (fun R6405 T6406 H6407 p6408 => ?_))
  obtain ⟨e6409, w6411, f6412, z6414, e6410, b6415, p6413⟩ := p6408
  subst e6409
  subst e6410
  show WL _ _ _ _ 1610 [(5, vI z9), (4, vI i), (3, .ref o), (2, .ref m), (1, .ref x), (0, .ref 0)] [vI z6414] _ H6407
  refine wl_of hX hb cL_1610 (rw_istore (pc' := 1612) (z := z6414) (L' := [(6, vI z6414), (5, vI z9), (4, vI i), (3, .ref o), (2, .ref m), (1, .ref x), (0, .ref 0)]) rfl rfl rfl ?_)
  refine wl_of hX hb cL_1612 (rw_goto (p1 := 1653) (by decide) ?_)
  have k6416 : H6407 x 9 = H9 x 9 := (f6412 x 9 _ gx rfl)
  have k6417 : H6407 m 6 = H9 m 6 := (f6412 m 6 _ gm rfl)
  have k6418 : H6407 x 11 = H9 x 11 := (f6412 x 11 _ gx rfl)
  have k6419 : H6407 m 13 = H9 m 13 := (f6412 m 13 _ gm rfl)
  have k6420 : H6407 x 8 = H9 x 8 := (f6412 x 8 _ gx rfl)
  have k6421 : H6407 m 3 = H9 m 3 := (f6412 m 3 _ gm rfl)
  have h6422 : XI T9 H6407 x m := (XI_fr w9 gx f6412 rfl hXI)
  exact WL.loc hX (by simp) (next T9 H6407 ⟨⟨w6411, g0, gx, gm, go, by omega, by omega⟩, h6422, by omega, by omega⟩ (by omega) (by omega))
set_option maxHeartbeats 4000000 in
theorem wl_c48 {kt : Nat → Option mc_E} {CB SB : Nat} {X : mc_S → Prop} {T : wq_T} {H : wq_H} {Len x m o : Nat} {i : Int} (hX : wlX kt CB SB X) (hb : T.2.1 ≤ CB ∧ T.2.2.1 ≤ SB) (hI : wlJ Len x m o T H) (hL : Len ≤ 3072) (hi : 0 ≤ i ∧ i + 6 ≤ Len) (hb2 : T.2.1 + 20 ≤ CB ∧ T.2.2.1 + 500 ≤ SB)  (next : ∀ T' H', wlJ Len x m o T' H' → T'.2.1 ≤ T.2.1 + 20 → T'.2.2.1 ≤ T.2.2.1 + 500 → WL kt CB SB X 1653 (wlL i x m o) [] T' H') : WL kt CB SB X 1615 (wlL i x m o) [] T H := by
  obtain ⟨⟨hW, g0, gx, gm, go, hK, hr⟩, hXI, hY1, hY2⟩ := hI
  refine wl_of hX hb cL_1615 (rw_aload_n (pc' := 1616) (v := .ref x) rfl rfl rfl ?_)
  refine wl_of hX hb cL_1616 (rw_aload_n (pc' := 1617) (v := .ref 0) rfl rfl rfl ?_)
  refine wl_of hX hb cL_1617 (rw_iload (pc' := 1619) (z := i) rfl rfl ?_)
  refine wl_of hX hb cL_1619 (rw_iconst (pc' := 1620) rfl ?_)
  refine wl_of hX hb cL_1620 (rw_iadd (pc' := 1621) rfl ?_)
  refine wl_of hX hb cL_1621 (xa_I (so := 0) (pc' := 1622) (a := 0) hW g0 (wsh_s _) (by omega) (wty_s _ _) (by omega) (by omega) rfl (fun b6423 b6424 => ?_))
  refine wl_of hX hb cL_1622 (xc_V (pc' := 1625) (r := x) (as := [vI (H 0 ((i + 1).toNat))]) (st := []) (lm_11_226) rfl rfl (Nat.le_of_ble_eq_true rfl) hW gx sh_1 (by decide) rfl (by decide) (s_164 hW gx ⟨by omega, by omega⟩) (fun R6425 T6426 H6427 p6428 => ?_))
  obtain ⟨e6429, e6431, z6432, e6430, b6433⟩ := p6428
  subst e6429
  subst e6430
  subst e6431
  show WL _ _ _ _ 1625 [(4, vI i), (3, .ref o), (2, .ref m), (1, .ref x), (0, .ref 0)] [vI z6432] _ H
  refine wl_of hX hb cL_1625 (rw_pop (pc' := 1626) rfl rfl ?_)
  refine wl_of hX hb cL_1626 (rw_aload_n (pc' := 1627) (v := .ref m) rfl rfl rfl ?_)
  refine wl_of hX hb cL_1627 (rw_aload_n (pc' := 1628) (v := .ref 0) rfl rfl rfl ?_)
  refine wl_of hX hb cL_1628 (rw_iload (pc' := 1630) (z := i) rfl rfl ?_)
  refine wl_of hX hb cL_1630 (rw_iconst (pc' := 1631) rfl ?_)
  refine wl_of hX hb cL_1631 (rw_iadd (pc' := 1632) rfl ?_)
  refine wl_of hX hb cL_1632 (xa_I (so := 0) (pc' := 1633) (a := 0) hW g0 (wsh_s _) (by omega) (wty_s _ _) (by omega) (by omega) rfl (fun b6434 b6435 => ?_))
  refine wl_of hX hb cL_1633 (xc_V (pc' := 1636) (r := m) (as := [vI (H 0 ((i + 1).toNat))]) (st := []) (lm_11_229) rfl rfl (Nat.le_of_ble_eq_true rfl) hW gm sh_42 (by decide) rfl (by decide) (s_294 hW gm ⟨by omega, by omega⟩ (by omega)) (fun R6436 T6437 H6438 p6439 => ?_))
  obtain ⟨e6440, w6442, f6443, z6445, e6441, b6446, p6444⟩ := p6439
  subst e6440
  subst e6441
  show WL _ _ _ _ 1636 [(4, vI i), (3, .ref o), (2, .ref m), (1, .ref x), (0, .ref 0)] [vI z6445] _ H6438
  refine wl_of hX hb cL_1636 (rw_pop (pc' := 1637) rfl rfl ?_)
  refine wl_of hX hb cL_1637 (rw_goto (p1 := 1653) (by decide) ?_)
  have k6447 : H6438 x 9 = H x 9 := (f6443 x 9 _ gx rfl)
  have k6448 : H6438 m 6 = H m 6 := (f6443 m 6 _ gm rfl)
  have k6449 : H6438 x 11 = H x 11 := (f6443 x 11 _ gx rfl)
  have k6450 : H6438 m 13 = H m 13 := (f6443 m 13 _ gm rfl)
  have k6451 : H6438 x 8 = H x 8 := (f6443 x 8 _ gx rfl)
  have k6452 : H6438 m 3 = H m 3 := (f6443 m 3 _ gm rfl)
  have h6453 : XI T H6438 x m := (XI_fr hW gx f6443 rfl hXI)
  exact WL.loc hX (by simp) (next T H6438 ⟨⟨w6442, g0, gx, gm, go, by omega, by omega⟩, h6453, by omega, by omega⟩ (by omega) (by omega))
set_option maxHeartbeats 4000000 in
theorem wl_c49 {kt : Nat → Option mc_E} {CB SB : Nat} {X : mc_S → Prop} {T : wq_T} {H : wq_H} {Len x m o : Nat} {i : Int} (hX : wlX kt CB SB X) (hb : T.2.1 ≤ CB ∧ T.2.2.1 ≤ SB) (hI : wlJ Len x m o T H) (hL : Len ≤ 3072) (hi : 0 ≤ i ∧ i + 6 ≤ Len) (hb2 : T.2.1 + 20 ≤ CB ∧ T.2.2.1 + 500 ≤ SB)  (next : ∀ T' H', wlJ Len x m o T' H' → T'.2.1 ≤ T.2.1 + 20 → T'.2.2.1 ≤ T.2.2.1 + 500 → WL kt CB SB X 1653 (wlL i x m o) [] T' H') : WL kt CB SB X 1640 (wlL i x m o) [] T H := by
  obtain ⟨⟨hW, g0, gx, gm, go, hK, hr⟩, hXI, hY1, hY2⟩ := hI
  refine wl_of hX hb cL_1640 (rw_aload_n (pc' := 1641) (v := .ref x) rfl rfl rfl ?_)
  refine wl_of hX hb cL_1641 (xc_V (pc' := 1644) (r := x) (as := []) (st := []) (lm_11_230) rfl rfl (Nat.le_of_ble_eq_true rfl) hW gx sh_1 (by decide) rfl (by decide) (s_165 hW gx) (fun R6454 T6455 H6456 p6457 => ?_))
  obtain ⟨e6458, e6460, z6461, e6459, b6462⟩ := p6457
  subst e6458
  subst e6459
  subst e6460
  show WL _ _ _ _ 1644 [(4, vI i), (3, .ref o), (2, .ref m), (1, .ref x), (0, .ref 0)] [vI z6461] _ H
  refine wl_of hX hb cL_1644 (rw_pop (pc' := 1645) rfl rfl ?_)
  refine wl_of hX hb cL_1645 (rw_aload_n (pc' := 1646) (v := .ref m) rfl rfl rfl ?_)
  refine wl_of hX hb cL_1646 (xc_V (pc' := 1649) (r := m) (as := []) (st := []) (lm_11_233) rfl rfl (Nat.le_of_ble_eq_true rfl) hW gm sh_42 (by decide) rfl (by decide) (s_295 hW gm (by omega)) (fun R6463 T6464 H6465 p6466 => ?_))
  obtain ⟨e6467, w6469, f6470, z6472, e6468, b6473, p6471⟩ := p6466
  subst e6467
  subst e6468
  show WL _ _ _ _ 1649 [(4, vI i), (3, .ref o), (2, .ref m), (1, .ref x), (0, .ref 0)] [vI z6472] _ H6465
  refine wl_of hX hb cL_1649 (rw_pop (pc' := 1650) rfl rfl ?_)
  refine wl_of hX hb cL_1650 (rw_goto (p1 := 1653) (by decide) ?_)
  have k6474 : H6465 x 9 = H x 9 := (f6470 x 9 _ gx rfl)
  have k6475 : H6465 m 6 = H m 6 := (f6470 m 6 _ gm rfl)
  have k6476 : H6465 x 11 = H x 11 := (f6470 x 11 _ gx rfl)
  have k6477 : H6465 m 13 = H m 13 := (f6470 m 13 _ gm rfl)
  have k6478 : H6465 x 8 = H x 8 := (f6470 x 8 _ gx rfl)
  have k6479 : H6465 m 3 = H m 3 := (f6470 m 3 _ gm rfl)
  have h6480 : XI T H6465 x m := (XI_fr hW gx f6470 rfl hXI)
  exact WL.loc hX (by simp) (next T H6465 ⟨⟨w6469, g0, gx, gm, go, by omega, by omega⟩, h6480, by omega, by omega⟩ (by omega) (by omega))
set_option maxHeartbeats 4000000 in
theorem wl_head {kt : Nat → Option mc_E} {CB SB : Nat} {X : mc_S → Prop} {T : wq_T} {H : wq_H} {Len x m o : Nat} {i : Int} (hX : wlX kt CB SB X) (hb : T.2.1 ≤ CB ∧ T.2.2.1 ≤ SB) (hI : wlJ Len x m o T H) (hL : Len ≤ 3072) (hi : 0 ≤ i ∧ i ≤ Len) (cases : ∀ t, t ∈ [256, 329, 354, 367, 380, 405, 454, 503, 516, 553, 578, 603, 616, 629, 642, 655, 668, 705, 718, 755, 792, 829, 882, 919, 944, 957, 994, 1019, 1056, 1109, 1162, 1175, 1200, 1225, 1250, 1263, 1316, 1329, 1342, 1367, 1404, 1429, 1454, 1467, 1504, 1517, 1530, 1587, 1615, 1640] → i + 6 ≤ Len → WL kt CB SB X t (wlL i x m o) [] T H) (next : i + 6 ≤ Len → WL kt CB SB X 1653 (wlL i x m o) [] T H) : WL kt CB SB X 23 (wlL i x m o) [] T H := by
  obtain ⟨⟨hW, g0, gx, gm, go, hK, hr⟩, hXI, hY1, hY2⟩ := hI
  refine wl_of hX hb cL_23 (rw_iload (pc' := 25) (z := i) rfl rfl ?_)
  refine wl_of hX hb cL_25 (rw_aload_n (pc' := 26) (v := .ref 0) rfl rfl rfl ?_)
  refine wl_of hX hb cL_26 (xa_N (pc' := 27) (a := 0) (n := Len) hW g0 (wsh_s _) (by decide) rfl ?_)
  refine wl_of hX hb cL_27 (rw_bipush (pc' := 29) (z := 6) rfl (by decide) ?_)
  refine wl_of hX hb cL_29 (rw_isub (pc' := 30) rfl ?_)
  refine wl_of hX hb cL_30 (rw_icmp_gt (p1 := 1659) (p2 := 33) (by decide) rfl ⟨by omega, by omega⟩ ⟨by omega, by omega⟩ (fun c6481 => ?_) (fun c6481 => ?_))
  · refine wl_of hX hb cL_1659 (rw_iconst (pc' := 1660) rfl ?_)
    exact WL.fin hX hb
  · refine wl_of hX hb cL_33 (rw_aload_n (pc' := 34) (v := .ref 0) rfl rfl rfl ?_)
    refine wl_of hX hb cL_34 (rw_iload (pc' := 36) (z := i) rfl rfl ?_)
    refine wl_of hX hb cL_36 (xa_I (so := 0) (pc' := 37) (a := 0) hW g0 (wsh_s _) (by omega) (wty_s _ _) (by omega) (by omega) rfl (fun b6482 b6483 => ?_))
    refine wl_of hX hb cL_37 (rw_bipush (pc' := 39) (z := 63) rfl (by decide) ?_)
    refine wl_of hX hb cL_39 (rw_iand (pc' := 40) rfl ?_)
    obtain ⟨v6484, e6485⟩ : ∃ x : Int, x = wq_and (H 0 (i.toNat)) 63 := ⟨_, rfl⟩
    rw [← e6485]
    have b6486 : 0 ≤ v6484 ∧ v6484 ≤ 63 := by
      rw [e6485]
      exact wq_and_b _ (by omega) (by omega)
    have c6487 : v6484 = 0 ∨ v6484 = 1 ∨ v6484 = 2 ∨ v6484 = 3 ∨ v6484 = 4 ∨ v6484 = 5 ∨ v6484 = 6 ∨ v6484 = 7 ∨ v6484 = 8 ∨ v6484 = 9 ∨ v6484 = 10 ∨ v6484 = 11 ∨ v6484 = 12 ∨ v6484 = 13 ∨ v6484 = 14 ∨ v6484 = 15 ∨ v6484 = 16 ∨ v6484 = 17 ∨ v6484 = 18 ∨ v6484 = 19 ∨ v6484 = 20 ∨ v6484 = 21 ∨ v6484 = 22 ∨ v6484 = 23 ∨ v6484 = 24 ∨ v6484 = 25 ∨ v6484 = 26 ∨ v6484 = 27 ∨ v6484 = 28 ∨ v6484 = 29 ∨ v6484 = 30 ∨ v6484 = 31 ∨ v6484 = 32 ∨ v6484 = 33 ∨ v6484 = 34 ∨ v6484 = 35 ∨ v6484 = 36 ∨ v6484 = 37 ∨ v6484 = 38 ∨ v6484 = 39 ∨ v6484 = 40 ∨ v6484 = 41 ∨ v6484 = 42 ∨ v6484 = 43 ∨ v6484 = 44 ∨ v6484 = 45 ∨ v6484 = 46 ∨ v6484 = 47 ∨ v6484 = 48 ∨ v6484 = 49 ∨ (v6484 < 0 ∨ 49 < v6484) := by omega
    rcases c6487 with c6487 | c6487 | c6487 | c6487 | c6487 | c6487 | c6487 | c6487 | c6487 | c6487 | c6487 | c6487 | c6487 | c6487 | c6487 | c6487 | c6487 | c6487 | c6487 | c6487 | c6487 | c6487 | c6487 | c6487 | c6487 | c6487 | c6487 | c6487 | c6487 | c6487 | c6487 | c6487 | c6487 | c6487 | c6487 | c6487 | c6487 | c6487 | c6487 | c6487 | c6487 | c6487 | c6487 | c6487 | c6487 | c6487 | c6487 | c6487 | c6487 | c6487 | c6487
    · refine wl_of hX hb cL_40 (rw_tsw (p1 := 256) ⟨by omega, by omega⟩ (by rw [c6487]; decide) ?_)
      exact cases 256 (by decide) (by omega)
    · refine wl_of hX hb cL_40 (rw_tsw (p1 := 329) ⟨by omega, by omega⟩ (by rw [c6487]; decide) ?_)
      exact cases 329 (by decide) (by omega)
    · refine wl_of hX hb cL_40 (rw_tsw (p1 := 354) ⟨by omega, by omega⟩ (by rw [c6487]; decide) ?_)
      exact cases 354 (by decide) (by omega)
    · refine wl_of hX hb cL_40 (rw_tsw (p1 := 367) ⟨by omega, by omega⟩ (by rw [c6487]; decide) ?_)
      exact cases 367 (by decide) (by omega)
    · refine wl_of hX hb cL_40 (rw_tsw (p1 := 380) ⟨by omega, by omega⟩ (by rw [c6487]; decide) ?_)
      exact cases 380 (by decide) (by omega)
    · refine wl_of hX hb cL_40 (rw_tsw (p1 := 405) ⟨by omega, by omega⟩ (by rw [c6487]; decide) ?_)
      exact cases 405 (by decide) (by omega)
    · refine wl_of hX hb cL_40 (rw_tsw (p1 := 454) ⟨by omega, by omega⟩ (by rw [c6487]; decide) ?_)
      exact cases 454 (by decide) (by omega)
    · refine wl_of hX hb cL_40 (rw_tsw (p1 := 503) ⟨by omega, by omega⟩ (by rw [c6487]; decide) ?_)
      exact cases 503 (by decide) (by omega)
    · refine wl_of hX hb cL_40 (rw_tsw (p1 := 516) ⟨by omega, by omega⟩ (by rw [c6487]; decide) ?_)
      exact cases 516 (by decide) (by omega)
    · refine wl_of hX hb cL_40 (rw_tsw (p1 := 553) ⟨by omega, by omega⟩ (by rw [c6487]; decide) ?_)
      exact cases 553 (by decide) (by omega)
    · refine wl_of hX hb cL_40 (rw_tsw (p1 := 578) ⟨by omega, by omega⟩ (by rw [c6487]; decide) ?_)
      exact cases 578 (by decide) (by omega)
    · refine wl_of hX hb cL_40 (rw_tsw (p1 := 603) ⟨by omega, by omega⟩ (by rw [c6487]; decide) ?_)
      exact cases 603 (by decide) (by omega)
    · refine wl_of hX hb cL_40 (rw_tsw (p1 := 616) ⟨by omega, by omega⟩ (by rw [c6487]; decide) ?_)
      exact cases 616 (by decide) (by omega)
    · refine wl_of hX hb cL_40 (rw_tsw (p1 := 629) ⟨by omega, by omega⟩ (by rw [c6487]; decide) ?_)
      exact cases 629 (by decide) (by omega)
    · refine wl_of hX hb cL_40 (rw_tsw (p1 := 642) ⟨by omega, by omega⟩ (by rw [c6487]; decide) ?_)
      exact cases 642 (by decide) (by omega)
    · refine wl_of hX hb cL_40 (rw_tsw (p1 := 655) ⟨by omega, by omega⟩ (by rw [c6487]; decide) ?_)
      exact cases 655 (by decide) (by omega)
    · refine wl_of hX hb cL_40 (rw_tsw (p1 := 668) ⟨by omega, by omega⟩ (by rw [c6487]; decide) ?_)
      exact cases 668 (by decide) (by omega)
    · refine wl_of hX hb cL_40 (rw_tsw (p1 := 705) ⟨by omega, by omega⟩ (by rw [c6487]; decide) ?_)
      exact cases 705 (by decide) (by omega)
    · refine wl_of hX hb cL_40 (rw_tsw (p1 := 718) ⟨by omega, by omega⟩ (by rw [c6487]; decide) ?_)
      exact cases 718 (by decide) (by omega)
    · refine wl_of hX hb cL_40 (rw_tsw (p1 := 755) ⟨by omega, by omega⟩ (by rw [c6487]; decide) ?_)
      exact cases 755 (by decide) (by omega)
    · refine wl_of hX hb cL_40 (rw_tsw (p1 := 792) ⟨by omega, by omega⟩ (by rw [c6487]; decide) ?_)
      exact cases 792 (by decide) (by omega)
    · refine wl_of hX hb cL_40 (rw_tsw (p1 := 829) ⟨by omega, by omega⟩ (by rw [c6487]; decide) ?_)
      exact cases 829 (by decide) (by omega)
    · refine wl_of hX hb cL_40 (rw_tsw (p1 := 882) ⟨by omega, by omega⟩ (by rw [c6487]; decide) ?_)
      exact cases 882 (by decide) (by omega)
    · refine wl_of hX hb cL_40 (rw_tsw (p1 := 919) ⟨by omega, by omega⟩ (by rw [c6487]; decide) ?_)
      exact cases 919 (by decide) (by omega)
    · refine wl_of hX hb cL_40 (rw_tsw (p1 := 944) ⟨by omega, by omega⟩ (by rw [c6487]; decide) ?_)
      exact cases 944 (by decide) (by omega)
    · refine wl_of hX hb cL_40 (rw_tsw (p1 := 957) ⟨by omega, by omega⟩ (by rw [c6487]; decide) ?_)
      exact cases 957 (by decide) (by omega)
    · refine wl_of hX hb cL_40 (rw_tsw (p1 := 994) ⟨by omega, by omega⟩ (by rw [c6487]; decide) ?_)
      exact cases 994 (by decide) (by omega)
    · refine wl_of hX hb cL_40 (rw_tsw (p1 := 1019) ⟨by omega, by omega⟩ (by rw [c6487]; decide) ?_)
      exact cases 1019 (by decide) (by omega)
    · refine wl_of hX hb cL_40 (rw_tsw (p1 := 1056) ⟨by omega, by omega⟩ (by rw [c6487]; decide) ?_)
      exact cases 1056 (by decide) (by omega)
    · refine wl_of hX hb cL_40 (rw_tsw (p1 := 1109) ⟨by omega, by omega⟩ (by rw [c6487]; decide) ?_)
      exact cases 1109 (by decide) (by omega)
    · refine wl_of hX hb cL_40 (rw_tsw (p1 := 1162) ⟨by omega, by omega⟩ (by rw [c6487]; decide) ?_)
      exact cases 1162 (by decide) (by omega)
    · refine wl_of hX hb cL_40 (rw_tsw (p1 := 1175) ⟨by omega, by omega⟩ (by rw [c6487]; decide) ?_)
      exact cases 1175 (by decide) (by omega)
    · refine wl_of hX hb cL_40 (rw_tsw (p1 := 1200) ⟨by omega, by omega⟩ (by rw [c6487]; decide) ?_)
      exact cases 1200 (by decide) (by omega)
    · refine wl_of hX hb cL_40 (rw_tsw (p1 := 1225) ⟨by omega, by omega⟩ (by rw [c6487]; decide) ?_)
      exact cases 1225 (by decide) (by omega)
    · refine wl_of hX hb cL_40 (rw_tsw (p1 := 1250) ⟨by omega, by omega⟩ (by rw [c6487]; decide) ?_)
      exact cases 1250 (by decide) (by omega)
    · refine wl_of hX hb cL_40 (rw_tsw (p1 := 1263) ⟨by omega, by omega⟩ (by rw [c6487]; decide) ?_)
      exact cases 1263 (by decide) (by omega)
    · refine wl_of hX hb cL_40 (rw_tsw (p1 := 1316) ⟨by omega, by omega⟩ (by rw [c6487]; decide) ?_)
      exact cases 1316 (by decide) (by omega)
    · refine wl_of hX hb cL_40 (rw_tsw (p1 := 1329) ⟨by omega, by omega⟩ (by rw [c6487]; decide) ?_)
      exact cases 1329 (by decide) (by omega)
    · refine wl_of hX hb cL_40 (rw_tsw (p1 := 1342) ⟨by omega, by omega⟩ (by rw [c6487]; decide) ?_)
      exact cases 1342 (by decide) (by omega)
    · refine wl_of hX hb cL_40 (rw_tsw (p1 := 1367) ⟨by omega, by omega⟩ (by rw [c6487]; decide) ?_)
      exact cases 1367 (by decide) (by omega)
    · refine wl_of hX hb cL_40 (rw_tsw (p1 := 1404) ⟨by omega, by omega⟩ (by rw [c6487]; decide) ?_)
      exact cases 1404 (by decide) (by omega)
    · refine wl_of hX hb cL_40 (rw_tsw (p1 := 1429) ⟨by omega, by omega⟩ (by rw [c6487]; decide) ?_)
      exact cases 1429 (by decide) (by omega)
    · refine wl_of hX hb cL_40 (rw_tsw (p1 := 1454) ⟨by omega, by omega⟩ (by rw [c6487]; decide) ?_)
      exact cases 1454 (by decide) (by omega)
    · refine wl_of hX hb cL_40 (rw_tsw (p1 := 1467) ⟨by omega, by omega⟩ (by rw [c6487]; decide) ?_)
      exact cases 1467 (by decide) (by omega)
    · refine wl_of hX hb cL_40 (rw_tsw (p1 := 1504) ⟨by omega, by omega⟩ (by rw [c6487]; decide) ?_)
      exact cases 1504 (by decide) (by omega)
    · refine wl_of hX hb cL_40 (rw_tsw (p1 := 1517) ⟨by omega, by omega⟩ (by rw [c6487]; decide) ?_)
      exact cases 1517 (by decide) (by omega)
    · refine wl_of hX hb cL_40 (rw_tsw (p1 := 1530) ⟨by omega, by omega⟩ (by rw [c6487]; decide) ?_)
      exact cases 1530 (by decide) (by omega)
    · refine wl_of hX hb cL_40 (rw_tsw (p1 := 1587) ⟨by omega, by omega⟩ (by rw [c6487]; decide) ?_)
      exact cases 1587 (by decide) (by omega)
    · refine wl_of hX hb cL_40 (rw_tsw (p1 := 1615) ⟨by omega, by omega⟩ (by rw [c6487]; decide) ?_)
      exact cases 1615 (by decide) (by omega)
    · refine wl_of hX hb cL_40 (rw_tsw (p1 := 1640) ⟨by omega, by omega⟩ (by rw [c6487]; decide) ?_)
      exact cases 1640 (by decide) (by omega)
    · refine wl_of hX hb cL_40 (rw_tsw (p1 := 1653) ⟨by omega, by omega⟩ (by rw [if_pos c6487]; decide) ?_)
      exact next (by omega)
theorem wl_back {kt : Nat → Option mc_E} {CB SB : Nat} {X : mc_S → Prop} {T : wq_T} {H : wq_H} {Len x m o : Nat} {i : Int} (hX : wlX kt CB SB X) (hb : T.2.1 ≤ CB ∧ T.2.2.1 ≤ SB) (hI : wlJ Len x m o T H) (hL : Len ≤ 3072) (hi : 0 ≤ i ∧ i + 6 ≤ Len) (next : WL kt CB SB X 23 (wlL (i + 6) x m o) [] T H) : WL kt CB SB X 1653 (wlL i x m o) [] T H := by
  obtain ⟨⟨hW, g0, gx, gm, go, hK, hr⟩, hXI, hY1, hY2⟩ := hI
  refine wl_of hX hb cL_1653 (rw_iinc (pc' := 1656) (z := i) (L' := [(4, vI (i + 6)), (3, .ref o), (2, .ref m), (1, .ref x), (0, .ref 0)]) rfl rfl rfl rfl ?_)
  refine wl_of hX hb cL_1656 (rw_goto (p1 := 23) (by decide) ?_)
  exact next
/-- the call that may throw, as the loop wants it -/
def wlLed (kt : Nat → Option mc_E) (CB SB : Nat) (X : mc_S → Prop) (Len x m o : Nat) : Prop := ∀ (T : wq_T) (H : wq_H) (i z : Int), T.2.1 + 20 ≤ CB ∧ T.2.2.1 + 500 ≤ SB → wI z → wlJ Len x m o T H → (∀ (z' : Int), wI z' → ∀ (T' : wq_T) (H' : wq_H), wlJ Len x m o T' H' → T'.2.1 ≤ T.2.1 + 20 → T'.2.2.1 ≤ T.2.2.1 + 500 → WL kt CB SB X 1598 (wlL i x m o) [vI z'] T' H') → WL kt CB SB X 1595 (wlL i x m o) [.ref o, vI z, .ref x] T H
set_option maxRecDepth 40000 in
theorem wl_loopL {kt : Nat → Option mc_E} {CB SB : Nat} {X : mc_S → Prop} {Len x m o : Nat} (hX : wlX kt CB SB X) (hL : Len ≤ 3072) (hled : wlLed kt CB SB X Len x m o) : ∀ (n : Nat) (T : wq_T) (H : wq_H) (i : Int), 0 ≤ i ∧ i ≤ Len → (Len - i).toNat = n → T.2.1 + 4 * (n + 6) ≤ CB → T.2.2.1 + 100 * (n + 6) ≤ SB → wlJ Len x m o T H → WL kt CB SB X 23 (wlL i x m o) [] T H := by
  intro n
  induction n using Nat.strongRecOn with
  | _ n ih =>
    intro T H i hi hn hc hs hI
    have hb : T.2.1 ≤ CB ∧ T.2.2.1 ≤ SB := ⟨by omega, by omega⟩
    have hb2 : T.2.1 + 20 ≤ CB ∧ T.2.2.1 + 500 ≤ SB := ⟨by omega, by omega⟩
    refine wl_head hX hb hI hL hi (fun t ht h6 => ?_) (fun h6 => wl_back hX hb hI hL ⟨hi.1, h6⟩ (ih (Len - (i + 6)).toNat (by omega) T H (i + 6) ⟨by omega, by omega⟩ rfl (by omega) (by omega) hI))
    have next : ∀ T' H', wlJ Len x m o T' H' → T'.2.1 ≤ T.2.1 + 20 → T'.2.2.1 ≤ T.2.2.1 + 500 → WL kt CB SB X 1653 (wlL i x m o) [] T' H' := fun T' H' hI' h1 h2 => wl_back hX ⟨by omega, by omega⟩ hI' hL ⟨hi.1, h6⟩ (ih (Len - (i + 6)).toNat (by omega) T' H' (i + 6) ⟨by omega, by omega⟩ rfl (by omega) (by omega) hI')
    rcases List.mem_cons.mp ht with rfl | ht
    · exact wl_c0 hX hb hI hL ⟨hi.1, h6⟩ hb2 next
    rcases List.mem_cons.mp ht with rfl | ht
    · exact wl_c1 hX hb hI hL ⟨hi.1, h6⟩ hb2 next
    rcases List.mem_cons.mp ht with rfl | ht
    · exact wl_c2 hX hb hI hL ⟨hi.1, h6⟩ hb2 next
    rcases List.mem_cons.mp ht with rfl | ht
    · exact wl_c3 hX hb hI hL ⟨hi.1, h6⟩ hb2 next
    rcases List.mem_cons.mp ht with rfl | ht
    · exact wl_c4 hX hb hI hL ⟨hi.1, h6⟩ hb2 next
    rcases List.mem_cons.mp ht with rfl | ht
    · exact wl_c5 hX hb hI hL ⟨hi.1, h6⟩ hb2 next
    rcases List.mem_cons.mp ht with rfl | ht
    · exact wl_c6 hX hb hI hL ⟨hi.1, h6⟩ hb2 next
    rcases List.mem_cons.mp ht with rfl | ht
    · exact wl_c7 hX hb hI hL ⟨hi.1, h6⟩ hb2 next
    rcases List.mem_cons.mp ht with rfl | ht
    · exact wl_c8 hX hb hI hL ⟨hi.1, h6⟩ hb2 next
    rcases List.mem_cons.mp ht with rfl | ht
    · exact wl_c9 hX hb hI hL ⟨hi.1, h6⟩ hb2 next
    rcases List.mem_cons.mp ht with rfl | ht
    · exact wl_c10 hX hb hI hL ⟨hi.1, h6⟩ hb2 next
    rcases List.mem_cons.mp ht with rfl | ht
    · exact wl_c11 hX hb hI hL ⟨hi.1, h6⟩ hb2 next
    rcases List.mem_cons.mp ht with rfl | ht
    · exact wl_c12 hX hb hI hL ⟨hi.1, h6⟩ hb2 next
    rcases List.mem_cons.mp ht with rfl | ht
    · exact wl_c13 hX hb hI hL ⟨hi.1, h6⟩ hb2 next
    rcases List.mem_cons.mp ht with rfl | ht
    · exact wl_c14 hX hb hI hL ⟨hi.1, h6⟩ hb2 next
    rcases List.mem_cons.mp ht with rfl | ht
    · exact wl_c15 hX hb hI hL ⟨hi.1, h6⟩ hb2 next
    rcases List.mem_cons.mp ht with rfl | ht
    · exact wl_c16 hX hb hI hL ⟨hi.1, h6⟩ hb2 next
    rcases List.mem_cons.mp ht with rfl | ht
    · exact wl_c17 hX hb hI hL ⟨hi.1, h6⟩ hb2 next
    rcases List.mem_cons.mp ht with rfl | ht
    · exact wl_c18 hX hb hI hL ⟨hi.1, h6⟩ hb2 next
    rcases List.mem_cons.mp ht with rfl | ht
    · exact wl_c19 hX hb hI hL ⟨hi.1, h6⟩ hb2 next
    rcases List.mem_cons.mp ht with rfl | ht
    · exact wl_c20 hX hb hI hL ⟨hi.1, h6⟩ hb2 next
    rcases List.mem_cons.mp ht with rfl | ht
    · exact wl_c21 hX hb hI hL ⟨hi.1, h6⟩ hb2 next
    rcases List.mem_cons.mp ht with rfl | ht
    · exact wl_c22 hX hb hI hL ⟨hi.1, h6⟩ hb2 next
    rcases List.mem_cons.mp ht with rfl | ht
    · exact wl_c23 hX hb hI hL ⟨hi.1, h6⟩ hb2 next
    rcases List.mem_cons.mp ht with rfl | ht
    · exact wl_c24 hX hb hI hL ⟨hi.1, h6⟩ hb2 next
    rcases List.mem_cons.mp ht with rfl | ht
    · exact wl_c25 hX hb hI hL ⟨hi.1, h6⟩ hb2 next
    rcases List.mem_cons.mp ht with rfl | ht
    · exact wl_c26 hX hb hI hL ⟨hi.1, h6⟩ hb2 next
    rcases List.mem_cons.mp ht with rfl | ht
    · exact wl_c27 hX hb hI hL ⟨hi.1, h6⟩ hb2 next
    rcases List.mem_cons.mp ht with rfl | ht
    · exact wl_c28 hX hb hI hL ⟨hi.1, h6⟩ hb2 next
    rcases List.mem_cons.mp ht with rfl | ht
    · exact wl_c29 hX hb hI hL ⟨hi.1, h6⟩ hb2 next
    rcases List.mem_cons.mp ht with rfl | ht
    · exact wl_c30 hX hb hI hL ⟨hi.1, h6⟩ hb2 next
    rcases List.mem_cons.mp ht with rfl | ht
    · exact wl_c31 hX hb hI hL ⟨hi.1, h6⟩ hb2 next
    rcases List.mem_cons.mp ht with rfl | ht
    · exact wl_c32 hX hb hI hL ⟨hi.1, h6⟩ hb2 next
    rcases List.mem_cons.mp ht with rfl | ht
    · exact wl_c33 hX hb hI hL ⟨hi.1, h6⟩ hb2 next
    rcases List.mem_cons.mp ht with rfl | ht
    · exact wl_c34 hX hb hI hL ⟨hi.1, h6⟩ hb2 next
    rcases List.mem_cons.mp ht with rfl | ht
    · exact wl_c35 hX hb hI hL ⟨hi.1, h6⟩ hb2 next
    rcases List.mem_cons.mp ht with rfl | ht
    · exact wl_c36 hX hb hI hL ⟨hi.1, h6⟩ hb2 next
    rcases List.mem_cons.mp ht with rfl | ht
    · exact wl_c37 hX hb hI hL ⟨hi.1, h6⟩ hb2 next
    rcases List.mem_cons.mp ht with rfl | ht
    · exact wl_c38 hX hb hI hL ⟨hi.1, h6⟩ hb2 next
    rcases List.mem_cons.mp ht with rfl | ht
    · exact wl_c39 hX hb hI hL ⟨hi.1, h6⟩ hb2 next
    rcases List.mem_cons.mp ht with rfl | ht
    · exact wl_c40 hX hb hI hL ⟨hi.1, h6⟩ hb2 next
    rcases List.mem_cons.mp ht with rfl | ht
    · exact wl_c41 hX hb hI hL ⟨hi.1, h6⟩ hb2 next
    rcases List.mem_cons.mp ht with rfl | ht
    · exact wl_c42 hX hb hI hL ⟨hi.1, h6⟩ hb2 next
    rcases List.mem_cons.mp ht with rfl | ht
    · exact wl_c43 hX hb hI hL ⟨hi.1, h6⟩ hb2 next
    rcases List.mem_cons.mp ht with rfl | ht
    · exact wl_c44 hX hb hI hL ⟨hi.1, h6⟩ hb2 next
    rcases List.mem_cons.mp ht with rfl | ht
    · exact wl_c45 hX hb hI hL ⟨hi.1, h6⟩ hb2 next
    rcases List.mem_cons.mp ht with rfl | ht
    · exact wl_c46 hX hb hI hL ⟨hi.1, h6⟩ hb2 next
    rcases List.mem_cons.mp ht with rfl | ht
    · exact wl_c47 hX hb hI hL ⟨hi.1, h6⟩ hb2 (fun hz _ hI2 k => hled T H i _ hb2 hz hI2 k) next
    rcases List.mem_cons.mp ht with rfl | ht
    · exact wl_c48 hX hb hI hL ⟨hi.1, h6⟩ hb2 next
    rcases List.mem_cons.mp ht with rfl | ht
    · exact wl_c49 hX hb hI hL ⟨hi.1, h6⟩ hb2 next
    cases ht
