/-! THE LAW, GONE ON WITH (own work) -/
set_option maxHeartbeats 4000000 in
theorem wl_c43 {kt : Nat → Option mc_E} {CB SB : Nat} {X : mc_S → Prop} {T : wq_T} {H : wq_H} {Len x m o : Nat} {i : Int} (hX : wlX kt CB SB X) (hb : T.2.1 ≤ CB ∧ T.2.2.1 ≤ SB) (hI : wlJ Len x m o T H) (hL : Len ≤ 3072) (hi : 0 ≤ i ∧ i + 6 ≤ Len) (hb2 : T.2.1 + 20 ≤ CB ∧ T.2.2.1 + 500 ≤ SB)  (next : ∀ T' H', wlJ Len x m o T' H' → T'.2.1 ≤ T.2.1 + 20 → T'.2.2.1 ≤ T.2.2.1 + 500 → WL kt CB SB X 1653 (wlL i x m o) [] T' H') : WL kt CB SB X 1467 (wlL i x m o) [] T H := by
  obtain ⟨⟨hW, g0, gx, gm, go, hK, hr⟩, hXI, hY1, hY2⟩ := hI
  refine wl_of hX hb cL_1467 (rw_aload_n (pc' := 1468) (v := .ref x) rfl rfl rfl ?_)
  refine wl_of hX hb cL_1468 (rw_aload_n (pc' := 1469) (v := .ref 0) rfl rfl rfl ?_)
  refine wl_of hX hb cL_1469 (rw_iload (pc' := 1471) (z := i) rfl rfl ?_)
  refine wl_of hX hb cL_1471 (rw_iconst (pc' := 1472) rfl ?_)
  refine wl_of hX hb cL_1472 (rw_iadd (pc' := 1473) rfl ?_)
  refine wl_of hX hb cL_1473 (xa_I (so := 0) (pc' := 1474) (a := 0) hW g0 (wsh_s _) (by omega) (wty_s _ _) (by omega) (by omega) rfl (fun b6054 b6055 => ?_))
  refine wl_of hX hb cL_1474 (rw_aload_n (pc' := 1475) (v := .ref 0) rfl rfl rfl ?_)
  refine wl_of hX hb cL_1475 (rw_iload (pc' := 1477) (z := i) rfl rfl ?_)
  refine wl_of hX hb cL_1477 (rw_iconst (pc' := 1478) rfl ?_)
  refine wl_of hX hb cL_1478 (rw_iadd (pc' := 1479) rfl ?_)
  refine wl_of hX hb cL_1479 (xa_I (so := 0) (pc' := 1480) (a := 0) hW g0 (wsh_s _) (by omega) (wty_s _ _) (by omega) (by omega) rfl (fun b6056 b6057 => ?_))
  refine wl_of hX hb cL_1480 (xc_V (pc' := 1483) (r := x) (as := [vI (H 0 ((i + 1).toNat)), vI (H 0 ((i + 2).toNat))]) (st := []) (lm_11_200) rfl rfl (Nat.le_of_ble_eq_true rfl) hW gx sh_1 (by decide) rfl (by decide) (s_157 hW gx ⟨by omega, by omega⟩ ⟨by omega, by omega⟩) (fun R6058 T6059 H6060 p6061 => ?_))
  obtain ⟨e6062, w6064, f6065, z6066, e6063, b6067⟩ := p6061
  subst e6062
  subst e6063
  show WL _ _ _ _ 1483 [(4, vI i), (3, .ref o), (2, .ref m), (1, .ref x), (0, .ref 0)] [vI z6066] _ H6060
  refine wl_of hX hb cL_1483 (rw_pop (pc' := 1484) rfl rfl ?_)
  refine wl_of hX hb cL_1484 (rw_aload_n (pc' := 1485) (v := .ref m) rfl rfl rfl ?_)
  refine wl_of hX hb cL_1485 (rw_aload_n (pc' := 1486) (v := .ref 0) rfl rfl rfl ?_)
  refine wl_of hX hb cL_1486 (rw_iload (pc' := 1488) (z := i) rfl rfl ?_)
  refine wl_of hX hb cL_1488 (rw_iconst (pc' := 1489) rfl ?_)
  refine wl_of hX hb cL_1489 (rw_iadd (pc' := 1490) rfl ?_)
  have k6070 : H6060 0 ((i + 1).toNat) = H 0 ((i + 1).toNat) := (f6065 0 ((i + 1).toNat) _ g0 (wmem_s rfl))
  refine wl_of hX hb cL_1490 (xa_I (so := 0) (pc' := 1491) (a := 0) w6064 g0 (wsh_s _) (by omega) (wty_s _ _) (by omega) (by omega) rfl (fun b6068 b6069 => ?_))
  refine wl_of hX hb cL_1491 (rw_aload_n (pc' := 1492) (v := .ref 0) rfl rfl rfl ?_)
  refine wl_of hX hb cL_1492 (rw_iload (pc' := 1494) (z := i) rfl rfl ?_)
  refine wl_of hX hb cL_1494 (rw_iconst (pc' := 1495) rfl ?_)
  refine wl_of hX hb cL_1495 (rw_iadd (pc' := 1496) rfl ?_)
  have k6073 : H6060 0 ((i + 2).toNat) = H 0 ((i + 2).toNat) := (f6065 0 ((i + 2).toNat) _ g0 (wmem_s rfl))
  refine wl_of hX hb cL_1496 (xa_I (so := 0) (pc' := 1497) (a := 0) w6064 g0 (wsh_s _) (by omega) (wty_s _ _) (by omega) (by omega) rfl (fun b6071 b6072 => ?_))
  have k6074 : wKI H6060 m = wKI H m := (wKI_fr hW gm f6065 rfl)
  have k6075 : H6060 x 9 = H x 9 := (f6065 x 9 _ gx rfl)
  have k6076 : H6060 m 6 = H m 6 := (f6065 m 6 _ gm rfl)
  have k6077 : H6060 x 11 = H x 11 := (f6065 x 11 _ gx rfl)
  have k6078 : H6060 m 13 = H m 13 := (f6065 m 13 _ gm rfl)
  have k6079 : H6060 x 8 = H x 8 := (f6065 x 8 _ gx rfl)
  have k6080 : H6060 m 3 = H m 3 := (f6065 m 3 _ gm rfl)
  refine wl_of hX hb cL_1497 (xc_V (pc' := 1500) (r := m) (as := [vI (H6060 0 ((i + 1).toNat)), vI (H6060 0 ((i + 2).toNat))]) (st := []) (lm_11_203) rfl rfl (Nat.le_of_ble_eq_true rfl) w6064 gm sh_42 (by decide) rfl (by decide) (s_289 w6064 gm ⟨by omega, by omega⟩ ⟨by omega, by omega⟩ (by omega)) (fun R6081 T6082 H6083 p6084 => ?_))
  obtain ⟨e6085, w6087, f6088, z6090, e6086, b6091, p6089⟩ := p6084
  subst e6085
  subst e6086
  show WL _ _ _ _ 1500 [(4, vI i), (3, .ref o), (2, .ref m), (1, .ref x), (0, .ref 0)] [vI z6090] _ H6083
  refine wl_of hX hb cL_1500 (rw_pop (pc' := 1501) rfl rfl ?_)
  refine wl_of hX hb cL_1501 (rw_goto (p1 := 1653) (by decide) ?_)
  have k6092 : H6083 x 9 = H6060 x 9 := (f6088 x 9 _ gx rfl)
  have k6093 : H6083 m 6 = H6060 m 6 := (f6088 m 6 _ gm rfl)
  have k6094 : H6083 x 11 = H6060 x 11 := (f6088 x 11 _ gx rfl)
  have k6095 : H6083 m 13 = H6060 m 13 := (f6088 m 13 _ gm rfl)
  have k6096 : H6083 x 8 = H6060 x 8 := (f6088 x 8 _ gx rfl)
  have k6097 : H6083 m 3 = H6060 m 3 := (f6088 m 3 _ gm rfl)
  have h6098 : XI T H6083 x m := (XI_fr w6064 gx f6088 rfl (XI_fr hW gx f6065 rfl hXI))
  exact WL.loc hX (by simp) (next T H6083 ⟨⟨w6087, g0, gx, gm, go, by omega, by omega⟩, h6098, by omega, by omega⟩ (by omega) (by omega))
set_option maxHeartbeats 4000000 in
theorem wl_c44 {kt : Nat → Option mc_E} {CB SB : Nat} {X : mc_S → Prop} {T : wq_T} {H : wq_H} {Len x m o : Nat} {i : Int} (hX : wlX kt CB SB X) (hb : T.2.1 ≤ CB ∧ T.2.2.1 ≤ SB) (hI : wlJ Len x m o T H) (hL : Len ≤ 3072) (hi : 0 ≤ i ∧ i + 6 ≤ Len) (hb2 : T.2.1 + 20 ≤ CB ∧ T.2.2.1 + 500 ≤ SB)  (next : ∀ T' H', wlJ Len x m o T' H' → T'.2.1 ≤ T.2.1 + 20 → T'.2.2.1 ≤ T.2.2.1 + 500 → WL kt CB SB X 1653 (wlL i x m o) [] T' H') : WL kt CB SB X 1504 (wlL i x m o) [] T H := by
  obtain ⟨⟨hW, g0, gx, gm, go, hK, hr⟩, hXI, hY1, hY2⟩ := hI
  refine wl_of hX hb cL_1504 (rw_aload_n (pc' := 1505) (v := .ref x) rfl rfl rfl ?_)
  refine wl_of hX hb cL_1505 (xc_V (pc' := 1508) (r := x) (as := []) (st := []) (lm_11_204) rfl rfl (Nat.le_of_ble_eq_true rfl) hW gx sh_1 (by decide) rfl (by decide) (s_158 hW gx) (fun R6099 T6100 H6101 p6102 => ?_))
  obtain ⟨e6103, w6105, f6106, z6107, e6104, b6108⟩ := p6102
  subst e6103
  subst e6104
  show WL _ _ _ _ 1508 [(4, vI i), (3, .ref o), (2, .ref m), (1, .ref x), (0, .ref 0)] [vI z6107] _ H6101
  refine wl_of hX hb cL_1508 (rw_pop (pc' := 1509) rfl rfl ?_)
  refine wl_of hX hb cL_1509 (rw_aload_n (pc' := 1510) (v := .ref m) rfl rfl rfl ?_)
  have k6109 : wKI H6101 m = wKI H m := (wKI_fr hW gm f6106 rfl)
  have k6110 : H6101 x 9 = H x 9 := (f6106 x 9 _ gx rfl)
  have k6111 : H6101 m 6 = H m 6 := (f6106 m 6 _ gm rfl)
  have k6112 : H6101 x 11 = H x 11 := (f6106 x 11 _ gx rfl)
  have k6113 : H6101 m 13 = H m 13 := (f6106 m 13 _ gm rfl)
  have k6114 : H6101 x 8 = H x 8 := (f6106 x 8 _ gx rfl)
  have k6115 : H6101 m 3 = H m 3 := (f6106 m 3 _ gm rfl)
  refine wl_of hX hb cL_1510 (xc_V (pc' := 1513) (r := m) (as := []) (st := []) (lm_11_208) rfl rfl (Nat.le_of_ble_eq_true rfl) w6105 gm sh_42 (by decide) rfl (by decide) (s_290 w6105 gm (by omega)) (fun R6116 T6117 H6118 p6119 => ?_))
  obtain ⟨e6120, w6122, f6123, z6125, e6121, b6126, p6124⟩ := p6119
  subst e6120
  subst e6121
  show WL _ _ _ _ 1513 [(4, vI i), (3, .ref o), (2, .ref m), (1, .ref x), (0, .ref 0)] [vI z6125] _ H6118
  refine wl_of hX hb cL_1513 (rw_pop (pc' := 1514) rfl rfl ?_)
  refine wl_of hX hb cL_1514 (rw_goto (p1 := 1653) (by decide) ?_)
  have k6127 : H6118 x 9 = H6101 x 9 := (f6123 x 9 _ gx rfl)
  have k6128 : H6118 m 6 = H6101 m 6 := (f6123 m 6 _ gm rfl)
  have k6129 : H6118 x 11 = H6101 x 11 := (f6123 x 11 _ gx rfl)
  have k6130 : H6118 m 13 = H6101 m 13 := (f6123 m 13 _ gm rfl)
  have k6131 : H6118 x 8 = H6101 x 8 := (f6123 x 8 _ gx rfl)
  have k6132 : H6118 m 3 = H6101 m 3 := (f6123 m 3 _ gm rfl)
  have h6133 : XI T H6118 x m := (XI_fr w6105 gx f6123 rfl (XI_fr hW gx f6106 rfl hXI))
  exact WL.loc hX (by simp) (next T H6118 ⟨⟨w6122, g0, gx, gm, go, by omega, by omega⟩, h6133, by omega, by omega⟩ (by omega) (by omega))
set_option maxHeartbeats 4000000 in
theorem wl_c45 {kt : Nat → Option mc_E} {CB SB : Nat} {X : mc_S → Prop} {T : wq_T} {H : wq_H} {Len x m o : Nat} {i : Int} (hX : wlX kt CB SB X) (hb : T.2.1 ≤ CB ∧ T.2.2.1 ≤ SB) (hI : wlJ Len x m o T H) (hL : Len ≤ 3072) (hi : 0 ≤ i ∧ i + 6 ≤ Len) (hb2 : T.2.1 + 20 ≤ CB ∧ T.2.2.1 + 500 ≤ SB)  (next : ∀ T' H', wlJ Len x m o T' H' → T'.2.1 ≤ T.2.1 + 20 → T'.2.2.1 ≤ T.2.2.1 + 500 → WL kt CB SB X 1653 (wlL i x m o) [] T' H') : WL kt CB SB X 1517 (wlL i x m o) [] T H := by
  obtain ⟨⟨hW, g0, gx, gm, go, hK, hr⟩, hXI, hY1, hY2⟩ := hI
  refine wl_of hX hb cL_1517 (rw_aload_n (pc' := 1518) (v := .ref x) rfl rfl rfl ?_)
  refine wl_of hX hb cL_1518 (xc_V (pc' := 1521) (r := x) (as := []) (st := []) (lm_11_209) rfl rfl (Nat.le_of_ble_eq_true rfl) hW gx sh_1 (by decide) rfl (by decide) (s_159 hW gx) (fun R6134 T6135 H6136 p6137 => ?_))
  obtain ⟨e6138, w6140, f6141, z6142, e6139, b6143⟩ := p6137
  subst e6138
  subst e6139
  show WL _ _ _ _ 1521 [(4, vI i), (3, .ref o), (2, .ref m), (1, .ref x), (0, .ref 0)] [vL z6142] _ H6136
  refine wl_of hX hb cL_1521 (rw_pop2 (pc' := 1522) rfl rfl ?_)
  refine wl_of hX hb cL_1522 (rw_aload_n (pc' := 1523) (v := .ref m) rfl rfl rfl ?_)
  have k6144 : wKI H6136 m = wKI H m := (wKI_fr hW gm f6141 rfl)
  have k6145 : H6136 x 9 = H x 9 := (f6141 x 9 _ gx rfl)
  have k6146 : H6136 m 6 = H m 6 := (f6141 m 6 _ gm rfl)
  have k6147 : H6136 x 11 = H x 11 := (f6141 x 11 _ gx rfl)
  have k6148 : H6136 m 13 = H m 13 := (f6141 m 13 _ gm rfl)
  have k6149 : H6136 x 8 = H x 8 := (f6141 x 8 _ gx rfl)
  have k6150 : H6136 m 3 = H m 3 := (f6141 m 3 _ gm rfl)
  refine wl_of hX hb cL_1523 (xc_V (pc' := 1526) (r := m) (as := []) (st := []) (lm_11_212) rfl rfl (Nat.le_of_ble_eq_true rfl) w6140 gm sh_42 (by decide) rfl (by decide) (s_291 w6140 gm (by omega)) (fun R6151 T6152 H6153 p6154 => ?_))
  obtain ⟨e6155, w6157, f6158, z6160, e6156, b6161, p6159⟩ := p6154
  subst e6155
  subst e6156
  show WL _ _ _ _ 1526 [(4, vI i), (3, .ref o), (2, .ref m), (1, .ref x), (0, .ref 0)] [vL z6160] _ H6153
  refine wl_of hX hb cL_1526 (rw_pop2 (pc' := 1527) rfl rfl ?_)
  refine wl_of hX hb cL_1527 (rw_goto (p1 := 1653) (by decide) ?_)
  have k6162 : H6153 x 9 = H6136 x 9 := (f6158 x 9 _ gx rfl)
  have k6163 : H6153 m 6 = H6136 m 6 := (f6158 m 6 _ gm rfl)
  have k6164 : H6153 x 11 = H6136 x 11 := (f6158 x 11 _ gx rfl)
  have k6165 : H6153 m 13 = H6136 m 13 := (f6158 m 13 _ gm rfl)
  have k6166 : H6153 x 8 = H6136 x 8 := (f6158 x 8 _ gx rfl)
  have k6167 : H6153 m 3 = H6136 m 3 := (f6158 m 3 _ gm rfl)
  have h6168 : XI T H6153 x m := (XI_fr w6140 gx f6158 rfl (XI_fr hW gx f6141 rfl hXI))
  exact WL.loc hX (by simp) (next T H6153 ⟨⟨w6157, g0, gx, gm, go, by omega, by omega⟩, h6168, by omega, by omega⟩ (by omega) (by omega))
set_option maxHeartbeats 4000000 in
theorem wl_c46 {kt : Nat → Option mc_E} {CB SB : Nat} {X : mc_S → Prop} {T : wq_T} {H : wq_H} {Len x m o : Nat} {i : Int} (hX : wlX kt CB SB X) (hb : T.2.1 ≤ CB ∧ T.2.2.1 ≤ SB) (hI : wlJ Len x m o T H) (hL : Len ≤ 3072) (hi : 0 ≤ i ∧ i + 6 ≤ Len) (hb2 : T.2.1 + 20 ≤ CB ∧ T.2.2.1 + 500 ≤ SB)  (next : ∀ T' H', wlJ Len x m o T' H' → T'.2.1 ≤ T.2.1 + 20 → T'.2.2.1 ≤ T.2.2.1 + 500 → WL kt CB SB X 1653 (wlL i x m o) [] T' H') : WL kt CB SB X 1530 (wlL i x m o) [] T H := by
  obtain ⟨⟨hW, g0, gx, gm, go, hK, hr⟩, hXI, hY1, hY2⟩ := hI
  refine wl_of hX hb cL_1530 (rw_aload_n (pc' := 1531) (v := .ref x) rfl rfl rfl ?_)
  refine wl_of hX hb cL_1531 (rw_aload_n (pc' := 1532) (v := .ref 0) rfl rfl rfl ?_)
  refine wl_of hX hb cL_1532 (rw_iload (pc' := 1534) (z := i) rfl rfl ?_)
  refine wl_of hX hb cL_1534 (rw_iconst (pc' := 1535) rfl ?_)
  refine wl_of hX hb cL_1535 (rw_iadd (pc' := 1536) rfl ?_)
  refine wl_of hX hb cL_1536 (xa_I (so := 0) (pc' := 1537) (a := 0) hW g0 (wsh_s _) (by omega) (wty_s _ _) (by omega) (by omega) rfl (fun b6169 b6170 => ?_))
  refine wl_of hX hb cL_1537 (rw_i2l (pc' := 1538) rfl ⟨by omega, by omega⟩ ?_)
  refine wl_of hX hb cL_1538 (rw_bipush (pc' := 1540) (z := 32) rfl (by decide) ?_)
  refine wl_of hX hb cL_1540 (rw_lshl (pc' := 1541) rfl ?_)
  obtain ⟨v6171, e6172⟩ : ∃ x : Int, x = wl_shl (H 0 ((i + 1).toNat)) 32 := ⟨_, rfl⟩
  rw [← e6172]
  have b6173 : -9223372036854775808 ≤ v6171 ∧ v6171 ≤ 9223372036854775807 := by
    rw [e6172]
    exact wL_shl _ _
  refine wl_of hX hb cL_1541 (rw_aload_n (pc' := 1542) (v := .ref 0) rfl rfl rfl ?_)
  refine wl_of hX hb cL_1542 (rw_iload (pc' := 1544) (z := i) rfl rfl ?_)
  refine wl_of hX hb cL_1544 (rw_iconst (pc' := 1545) rfl ?_)
  refine wl_of hX hb cL_1545 (rw_iadd (pc' := 1546) rfl ?_)
  refine wl_of hX hb cL_1546 (xa_I (so := 0) (pc' := 1547) (a := 0) hW g0 (wsh_s _) (by omega) (wty_s _ _) (by omega) (by omega) rfl (fun b6174 b6175 => ?_))
  refine wl_of hX hb cL_1547 (rw_i2l (pc' := 1548) rfl ⟨by omega, by omega⟩ ?_)
  refine wl_of hX hb cL_1548 (rw_ldc2 (pc' := 1551) (z := 4294967295) rfl rfl rfl ?_)
  refine wl_of hX hb cL_1551 (rw_land (pc' := 1552) rfl ?_)
  obtain ⟨v6176, e6177⟩ : ∃ x : Int, x = wl_and (H 0 ((i + 2).toNat)) 4294967295 := ⟨_, rfl⟩
  rw [← e6177]
  have b6178 : -9223372036854775808 ≤ v6176 ∧ v6176 ≤ 9223372036854775807 := by
    rw [e6177]
    exact wL_and _ _
  refine wl_of hX hb cL_1552 (rw_lor (pc' := 1553) rfl ?_)
  obtain ⟨v6179, e6180⟩ : ∃ x : Int, x = wl_or v6171 v6176 := ⟨_, rfl⟩
  rw [← e6180]
  have b6181 : -9223372036854775808 ≤ v6179 ∧ v6179 ≤ 9223372036854775807 := by
    rw [e6180]
    exact wL_or _ _
  obtain ⟨B, tc, tm, cu, dr, C8, e8, d8, n8, g8, ce8, e0, gtc, htc, em, gtm, htm, ecu, gcu, edr, gdr, hcu, hdr, hdec, hded, hsp, hC1, hC2, hcu8, hrb8, hcg8, hmn8, hE, hZ, hn8, hXA, hV8, hSG, ece8, gce8, hcen8, hhdr8, hknn8, -⟩ := hXI
  have hN3 := RB_n3 hrb8
  have hE13 : ∀ h : Nat, h < 24 → 0 ≤ e8 13 h ∧ e8 13 h ≤ 100 := fun k hk => by
    obtain ⟨s, h1, h2, h3⟩ := hcu8.1.2.2.1
    exact ⟨(h3 k hk).1, (h3 k hk).2.1⟩
  have hXW := hXA.1
  have hXN := hXA.2
  have hE0 : e8 0 3 = d8 0 3 ∧ e8 0 0 = d8 0 0 := by
    have h := hE 0 (by decide)
    exact ⟨congrFun h 3, congrFun h 0⟩
  have u6182 := CU_k hcu8
  have h6183 : CY T H cu (d8 0 3) g8 (H cu 17) := ⟨hcg8, rfl⟩
  have h6184 : RY T H m (d8 0 3) g8 (H m 32) := ⟨hmn8, rfl⟩
  obtain ⟨t9, ht9⟩ : ∃ t : Int, t = H x 9 := ⟨_, rfl⟩
  refine wl_of hX hb cL_1553 (xc_V (pc' := 1556) (r := x) (as := [vL v6179]) (st := []) (lm_11_215) rfl rfl (Nat.le_of_ble_eq_true rfl) hW gx sh_1 (by decide) rfl (by decide) (u_161 (e := e8) (d := d8) (n := n8) (nY := ((d8 0 3))) (gY := g8) (cY := ((H cu 17))) hW gx ⟨b6181.1, b6181.2⟩ ecu gcu (by omega) (by omega) (by omega) hcu8 h6183 hcu) (fun R6185 T6186 H6187 p6188 => ?_))
  obtain ⟨e6189, w6191, f6192, z6193, e6190, b6194, p6195⟩ := p6188
  subst e6189
  subst e6190
  rcases p6195 with ⟨a6196, a6197, a6198, a6199, a6200⟩ | ⟨a6201, a6202, a6203⟩
  · show WL _ _ _ _ 1556 [(4, vI i), (3, .ref o), (2, .ref m), (1, .ref x), (0, .ref 0)] [vI z6193] _ H6187
    refine wl_of hX hb cL_1556 (rw_pop (pc' := 1557) rfl rfl ?_)
    refine wl_of hX hb cL_1557 (rw_aload_n (pc' := 1558) (v := .ref m) rfl rfl rfl ?_)
    refine wl_of hX hb cL_1558 (rw_aload_n (pc' := 1559) (v := .ref 0) rfl rfl rfl ?_)
    refine wl_of hX hb cL_1559 (rw_iload (pc' := 1561) (z := i) rfl rfl ?_)
    refine wl_of hX hb cL_1561 (rw_iconst (pc' := 1562) rfl ?_)
    refine wl_of hX hb cL_1562 (rw_iadd (pc' := 1563) rfl ?_)
    have k6206 : H6187 0 ((i + 1).toNat) = H 0 ((i + 1).toNat) := (f6192 0 ((i + 1).toNat) _ g0 (wmem_s rfl))
    refine wl_of hX hb cL_1563 (xa_I (so := 0) (pc' := 1564) (a := 0) w6191 g0 (wsh_s _) (by omega) (wty_s _ _) (by omega) (by omega) rfl (fun b6204 b6205 => ?_))
    refine wl_of hX hb cL_1564 (rw_i2l (pc' := 1565) rfl ⟨by omega, by omega⟩ ?_)
    refine wl_of hX hb cL_1565 (rw_bipush (pc' := 1567) (z := 32) rfl (by decide) ?_)
    refine wl_of hX hb cL_1567 (rw_lshl (pc' := 1568) rfl ?_)
    obtain ⟨v6207, e6208⟩ : ∃ x : Int, x = wl_shl (H6187 0 ((i + 1).toNat)) 32 := ⟨_, rfl⟩
    rw [← e6208]
    have b6209 : -9223372036854775808 ≤ v6207 ∧ v6207 ≤ 9223372036854775807 := by
      rw [e6208]
      exact wL_shl _ _
    refine wl_of hX hb cL_1568 (rw_aload_n (pc' := 1569) (v := .ref 0) rfl rfl rfl ?_)
    refine wl_of hX hb cL_1569 (rw_iload (pc' := 1571) (z := i) rfl rfl ?_)
    refine wl_of hX hb cL_1571 (rw_iconst (pc' := 1572) rfl ?_)
    refine wl_of hX hb cL_1572 (rw_iadd (pc' := 1573) rfl ?_)
    have k6212 : H6187 0 ((i + 2).toNat) = H 0 ((i + 2).toNat) := (f6192 0 ((i + 2).toNat) _ g0 (wmem_s rfl))
    refine wl_of hX hb cL_1573 (xa_I (so := 0) (pc' := 1574) (a := 0) w6191 g0 (wsh_s _) (by omega) (wty_s _ _) (by omega) (by omega) rfl (fun b6210 b6211 => ?_))
    refine wl_of hX hb cL_1574 (rw_i2l (pc' := 1575) rfl ⟨by omega, by omega⟩ ?_)
    refine wl_of hX hb cL_1575 (rw_ldc2 (pc' := 1578) (z := 4294967295) rfl rfl rfl ?_)
    refine wl_of hX hb cL_1578 (rw_land (pc' := 1579) rfl ?_)
    obtain ⟨v6213, e6214⟩ : ∃ x : Int, x = wl_and (H6187 0 ((i + 2).toNat)) 4294967295 := ⟨_, rfl⟩
    rw [← e6214]
    have b6215 : -9223372036854775808 ≤ v6213 ∧ v6213 ≤ 9223372036854775807 := by
      rw [e6214]
      exact wL_and _ _
    refine wl_of hX hb cL_1579 (rw_lor (pc' := 1580) rfl ?_)
    obtain ⟨v6216, e6217⟩ : ∃ x : Int, x = wl_or v6207 v6213 := ⟨_, rfl⟩
    rw [← e6217]
    have b6218 : -9223372036854775808 ≤ v6216 ∧ v6216 ≤ 9223372036854775807 := by
      rw [e6217]
      exact wL_or _ _
    have k6219 : wKI H6187 m = wKI H m := (wKI_fr hW gm f6192 rfl)
    have k6220 : H6187 x 9 = H x 9 := (f6192 x 9 _ gx rfl)
    have k6221 : H6187 m 6 = H m 6 := (f6192 m 6 _ gm rfl)
    have k6222 : H6187 x 11 = H x 11 := (f6192 x 11 _ gx rfl)
    have k6223 : H6187 m 13 = H m 13 := (f6192 m 13 _ gm rfl)
    have k6224 : H6187 x 8 = H x 8 := (f6192 x 8 _ gx rfl)
    have k6225 : H6187 m 3 = H m 3 := (f6192 m 3 _ gm rfl)
    have rs9 : v6216 = v6179 := by
      rw [e6217, e6208, e6214, e6180, e6172, e6177, show H6187 0 ((i + 1).toNat) = H 0 ((i + 1).toNat) by omega, show H6187 0 ((i + 2).toNat) = H 0 ((i + 2).toNat) by omega]
    rw [rs9]
    have h6226 : RB T H6187 m e8 d8 := (RB_fr hW gm f6192 rfl hrb8)
    have h6227 : RY T H6187 m (d8 0 3) g8 (H m 32) := (RY_fr hW gm f6192 rfl h6184)
    refine wl_of hX hb cL_1580 (xc_V (pc' := 1583) (r := m) (as := [vL v6179]) (st := []) (lm_11_219) rfl rfl (Nat.le_of_ble_eq_true rfl) w6191 gm sh_42 (by decide) rfl (by decide) (u_292 (e := e8) (d := d8) (nY := ((d8 0 3))) (gY := g8) (cY := ((H m 32))) w6191 gm ⟨b6181.1, b6181.2⟩ (by omega) h6226 h6227) (fun R6228 T6229 H6230 p6231 => ?_))
    obtain ⟨e6232, w6234, f6235, z6236, e6233, b6237, p6238⟩ := p6231
    subst e6232
    subst e6233
    rcases p6238 with ⟨a6239, a6240, a6241, a6242⟩ | ⟨a6243, a6244, a6245⟩
    · show WL _ _ _ _ 1583 [(4, vI i), (3, .ref o), (2, .ref m), (1, .ref x), (0, .ref 0)] [vI z6236] _ H6230
      refine wl_of hX hb cL_1583 (rw_pop (pc' := 1584) rfl rfl ?_)
      refine wl_of hX hb cL_1584 (rw_goto (p1 := 1653) (by decide) ?_)
      have k6246 : wKI H6230 m = wKI H6187 m := (wKI_fr w6191 gm f6235 rfl)
      have k6247 : H6230 x 9 = H6187 x 9 := (f6235 x 9 _ gx rfl)
      have k6248 : H6230 m 6 = H6187 m 6 := (f6235 m 6 _ gm rfl)
      have k6249 : H6230 x 11 = H6187 x 11 := (f6235 x 11 _ gx rfl)
      have k6250 : H6230 m 13 = H6187 m 13 := (f6235 m 13 _ gm rfl)
      have k6251 : H6230 x 8 = H6187 x 8 := (f6235 x 8 _ gx rfl)
      have k6252 : H6230 m 3 = H6187 m 3 := (f6235 m 3 _ gm rfl)
      have k6253 : H6230 x 0 = H x 0 := ((f6235 x 0 _ gx rfl).trans (f6192 x 0 _ gx rfl))
      have q6254 : H6230 x 0 = (tc : Int) := k6253.trans e0
      have k6255 : H6230 m 5 = H m 5 := ((f6235 m 5 _ gm rfl).trans (f6192 m 5 _ gm rfl))
      have q6256 : H6230 m 5 = (tm : Int) := k6255.trans em
      have k6257 : H6230 x 6 = H x 6 := ((f6235 x 6 _ gx rfl).trans (f6192 x 6 _ gx rfl))
      have q6258 : H6230 x 6 = (cu : Int) := k6257.trans ecu
      have k6259 : H6230 x 7 = H x 7 := ((f6235 x 7 _ gx rfl).trans (f6192 x 7 _ gx rfl))
      have q6260 : H6230 x 7 = (dr : Int) := k6259.trans edr
      have h6261 : CEN T H6230 ce8 e8 d8 := (CEN_fr w6191 gce8 f6235 rfl (CEN_fr hW gce8 f6192 rfl hcen8))
      have h6262 : TP T H6230 tc B := (TP_fr w6191 gtc f6235 rfl (TP_fr hW gtc f6192 rfl htc))
      have h6263 : TM T H6230 tm B := (TM_fr w6191 gtm f6235 rfl (TM_fr hW gtm f6192 rfl htm))
      have h6264 : DD T H6230 cu  := (DD_fr w6191 gcu f6235 rfl (DD_fr hW gcu f6192 rfl hcu))
      have h6265 : DD T H6230 dr  := (DD_fr w6191 gdr f6235 rfl (DD_fr hW gdr f6192 rfl hdr))
      have h6266 : DE T H6230 cu  := (DE_fr w6191 gcu f6235 rfl (DE_fr hW gcu f6192 rfl hdec))
      have h6267 : DE T H6230 dr  := (DE_fr w6191 gdr f6235 rfl (DE_fr hW gdr f6192 rfl hded))
      have h6268 : SP T H6230 x C8 := (SP_fr w6191 gx f6235 rfl (SP_fr hW gx f6192 rfl hsp))
      have h6269 : CU T H6230 cu e8 d8 n8 := (CU_fr w6191 gcu f6235 rfl (CU_fr hW gcu f6192 rfl hcu8))
      have h6270 : CY T H6230 cu ((d8 0 3)) (xdg d8 v6179) (wdv (d8 0 3).toNat v6179) := (CY_fr w6191 gcu f6235 rfl a6200)
      have k6271 : H6230 x 3 = H x 3 := ((f6235 x 3 _ gx rfl).trans (f6192 x 3 _ gx rfl))
      have q6272 : H6230 x 3 = (ce8 : Int) := k6271.trans ece8
      have h6273 : HDR T H6230 ce8  := (HDR_fr w6191 gce8 f6235 rfl (HDR_fr hW gce8 f6192 rfl hhdr8))
      have h6274 : KNN T H6230 m e8 d8 := (KNN_fr w6191 gm f6235 rfl (KNN_fr hW gm f6192 rfl hknn8))
      have h6275 : RB T H6230 m e8 d8 := (RB_fr w6191 gm f6235 rfl h6226)
      exact WL.loc hX (by simp) (next T H6230 ⟨⟨w6234, g0, gx, gm, go, by omega, by omega⟩, ⟨_, tc, tm, cu, dr, _, _, _, _, _, ce8, q6254, gtc, h6262, q6256, gtm, h6263, q6258, gcu, q6260, gdr, h6264, h6265, h6266, h6267, h6268, hC1, hC2, h6269, h6275, (h6270).1, (a6242).1, hE, hZ, (by omega), (by assumption), (by omega), (by first | assumption | exact SG_0), q6272, gce8, h6261, h6273, h6274, gm⟩, by omega, by omega⟩ (by omega) (by omega))
    · show WL _ _ _ _ 1583 [(4, vI i), (3, .ref o), (2, .ref m), (1, .ref x), (0, .ref 0)] [vI z6236] _ H6230
      refine wl_of hX hb cL_1583 (rw_pop (pc' := 1584) rfl rfl ?_)
      refine wl_of hX hb cL_1584 (rw_goto (p1 := 1653) (by decide) ?_)
      have k6276 : wKI H6230 m = wKI H6187 m := (wKI_fr w6191 gm f6235 rfl)
      have k6277 : H6230 x 9 = H6187 x 9 := (f6235 x 9 _ gx rfl)
      have k6278 : H6230 m 6 = H6187 m 6 := (f6235 m 6 _ gm rfl)
      have k6279 : H6230 x 11 = H6187 x 11 := (f6235 x 11 _ gx rfl)
      have k6280 : H6230 m 13 = H6187 m 13 := (f6235 m 13 _ gm rfl)
      have k6281 : H6230 x 8 = H6187 x 8 := (f6235 x 8 _ gx rfl)
      have k6282 : H6230 m 3 = H6187 m 3 := (f6235 m 3 _ gm rfl)
      have k6283 : H6230 x 0 = H x 0 := ((f6235 x 0 _ gx rfl).trans (f6192 x 0 _ gx rfl))
      have q6284 : H6230 x 0 = (tc : Int) := k6283.trans e0
      have k6285 : H6230 m 5 = H m 5 := ((f6235 m 5 _ gm rfl).trans (f6192 m 5 _ gm rfl))
      have q6286 : H6230 m 5 = (tm : Int) := k6285.trans em
      have k6287 : H6230 x 6 = H x 6 := ((f6235 x 6 _ gx rfl).trans (f6192 x 6 _ gx rfl))
      have q6288 : H6230 x 6 = (cu : Int) := k6287.trans ecu
      have k6289 : H6230 x 7 = H x 7 := ((f6235 x 7 _ gx rfl).trans (f6192 x 7 _ gx rfl))
      have q6290 : H6230 x 7 = (dr : Int) := k6289.trans edr
      have h6291 : CEN T H6230 ce8 e8 d8 := (CEN_fr w6191 gce8 f6235 rfl (CEN_fr hW gce8 f6192 rfl hcen8))
      have h6292 : TP T H6230 tc B := (TP_fr w6191 gtc f6235 rfl (TP_fr hW gtc f6192 rfl htc))
      have h6293 : TM T H6230 tm B := (TM_fr w6191 gtm f6235 rfl (TM_fr hW gtm f6192 rfl htm))
      have h6294 : DD T H6230 cu  := (DD_fr w6191 gcu f6235 rfl (DD_fr hW gcu f6192 rfl hcu))
      have h6295 : DD T H6230 dr  := (DD_fr w6191 gdr f6235 rfl (DD_fr hW gdr f6192 rfl hdr))
      have h6296 : DE T H6230 cu  := (DE_fr w6191 gcu f6235 rfl (DE_fr hW gcu f6192 rfl hdec))
      have h6297 : DE T H6230 dr  := (DE_fr w6191 gdr f6235 rfl (DE_fr hW gdr f6192 rfl hded))
      have h6298 : SP T H6230 x C8 := (SP_fr w6191 gx f6235 rfl (SP_fr hW gx f6192 rfl hsp))
      have h6299 : CU T H6230 cu e8 d8 n8 := (CU_fr w6191 gcu f6235 rfl (CU_fr hW gcu f6192 rfl hcu8))
      have h6300 : CY T H6230 cu ((d8 0 3)) (xdg d8 v6179) (wdv (d8 0 3).toNat v6179) := (CY_fr w6191 gcu f6235 rfl a6200)
      have k6301 : H6230 x 3 = H x 3 := ((f6235 x 3 _ gx rfl).trans (f6192 x 3 _ gx rfl))
      have q6302 : H6230 x 3 = (ce8 : Int) := k6301.trans ece8
      have h6303 : HDR T H6230 ce8  := (HDR_fr w6191 gce8 f6235 rfl (HDR_fr hW gce8 f6192 rfl hhdr8))
      have h6304 : KNN T H6230 m e8 d8 := (KNN_fr w6191 gm f6235 rfl (KNN_fr hW gm f6192 rfl hknn8))
      exfalso
      omega
  · show WL _ _ _ _ 1556 [(4, vI i), (3, .ref o), (2, .ref m), (1, .ref x), (0, .ref 0)] [vI z6193] _ H6187
    refine wl_of hX hb cL_1556 (rw_pop (pc' := 1557) rfl rfl ?_)
    refine wl_of hX hb cL_1557 (rw_aload_n (pc' := 1558) (v := .ref m) rfl rfl rfl ?_)
    refine wl_of hX hb cL_1558 (rw_aload_n (pc' := 1559) (v := .ref 0) rfl rfl rfl ?_)
    refine wl_of hX hb cL_1559 (rw_iload (pc' := 1561) (z := i) rfl rfl ?_)
    refine wl_of hX hb cL_1561 (rw_iconst (pc' := 1562) rfl ?_)
    refine wl_of hX hb cL_1562 (rw_iadd (pc' := 1563) rfl ?_)
    have k6307 : H6187 0 ((i + 1).toNat) = H 0 ((i + 1).toNat) := (f6192 0 ((i + 1).toNat) _ g0 (wmem_s rfl))
    refine wl_of hX hb cL_1563 (xa_I (so := 0) (pc' := 1564) (a := 0) w6191 g0 (wsh_s _) (by omega) (wty_s _ _) (by omega) (by omega) rfl (fun b6305 b6306 => ?_))
    refine wl_of hX hb cL_1564 (rw_i2l (pc' := 1565) rfl ⟨by omega, by omega⟩ ?_)
    refine wl_of hX hb cL_1565 (rw_bipush (pc' := 1567) (z := 32) rfl (by decide) ?_)
    refine wl_of hX hb cL_1567 (rw_lshl (pc' := 1568) rfl ?_)
    obtain ⟨v6308, e6309⟩ : ∃ x : Int, x = wl_shl (H6187 0 ((i + 1).toNat)) 32 := ⟨_, rfl⟩
    rw [← e6309]
    have b6310 : -9223372036854775808 ≤ v6308 ∧ v6308 ≤ 9223372036854775807 := by
      rw [e6309]
      exact wL_shl _ _
    refine wl_of hX hb cL_1568 (rw_aload_n (pc' := 1569) (v := .ref 0) rfl rfl rfl ?_)
    refine wl_of hX hb cL_1569 (rw_iload (pc' := 1571) (z := i) rfl rfl ?_)
    refine wl_of hX hb cL_1571 (rw_iconst (pc' := 1572) rfl ?_)
    refine wl_of hX hb cL_1572 (rw_iadd (pc' := 1573) rfl ?_)
    have k6313 : H6187 0 ((i + 2).toNat) = H 0 ((i + 2).toNat) := (f6192 0 ((i + 2).toNat) _ g0 (wmem_s rfl))
    refine wl_of hX hb cL_1573 (xa_I (so := 0) (pc' := 1574) (a := 0) w6191 g0 (wsh_s _) (by omega) (wty_s _ _) (by omega) (by omega) rfl (fun b6311 b6312 => ?_))
    refine wl_of hX hb cL_1574 (rw_i2l (pc' := 1575) rfl ⟨by omega, by omega⟩ ?_)
    refine wl_of hX hb cL_1575 (rw_ldc2 (pc' := 1578) (z := 4294967295) rfl rfl rfl ?_)
    refine wl_of hX hb cL_1578 (rw_land (pc' := 1579) rfl ?_)
    obtain ⟨v6314, e6315⟩ : ∃ x : Int, x = wl_and (H6187 0 ((i + 2).toNat)) 4294967295 := ⟨_, rfl⟩
    rw [← e6315]
    have b6316 : -9223372036854775808 ≤ v6314 ∧ v6314 ≤ 9223372036854775807 := by
      rw [e6315]
      exact wL_and _ _
    refine wl_of hX hb cL_1579 (rw_lor (pc' := 1580) rfl ?_)
    obtain ⟨v6317, e6318⟩ : ∃ x : Int, x = wl_or v6308 v6314 := ⟨_, rfl⟩
    rw [← e6318]
    have b6319 : -9223372036854775808 ≤ v6317 ∧ v6317 ≤ 9223372036854775807 := by
      rw [e6318]
      exact wL_or _ _
    have k6320 : wKI H6187 m = wKI H m := (wKI_fr hW gm f6192 rfl)
    have k6321 : H6187 x 9 = H x 9 := (f6192 x 9 _ gx rfl)
    have k6322 : H6187 m 6 = H m 6 := (f6192 m 6 _ gm rfl)
    have k6323 : H6187 x 11 = H x 11 := (f6192 x 11 _ gx rfl)
    have k6324 : H6187 m 13 = H m 13 := (f6192 m 13 _ gm rfl)
    have k6325 : H6187 x 8 = H x 8 := (f6192 x 8 _ gx rfl)
    have k6326 : H6187 m 3 = H m 3 := (f6192 m 3 _ gm rfl)
    have rs9 : v6317 = v6179 := by
      rw [e6318, e6309, e6315, e6180, e6172, e6177, show H6187 0 ((i + 1).toNat) = H 0 ((i + 1).toNat) by omega, show H6187 0 ((i + 2).toNat) = H 0 ((i + 2).toNat) by omega]
    rw [rs9]
    have h6327 : RB T H6187 m e8 d8 := (RB_fr hW gm f6192 rfl hrb8)
    have h6328 : RY T H6187 m (d8 0 3) g8 (H m 32) := (RY_fr hW gm f6192 rfl h6184)
    refine wl_of hX hb cL_1580 (xc_V (pc' := 1583) (r := m) (as := [vL v6179]) (st := []) (lm_11_219) rfl rfl (Nat.le_of_ble_eq_true rfl) w6191 gm sh_42 (by decide) rfl (by decide) (u_292 (e := e8) (d := d8) (nY := ((d8 0 3))) (gY := g8) (cY := ((H m 32))) w6191 gm ⟨b6181.1, b6181.2⟩ (by omega) h6327 h6328) (fun R6329 T6330 H6331 p6332 => ?_))
    obtain ⟨e6333, w6335, f6336, z6337, e6334, b6338, p6339⟩ := p6332
    subst e6333
    subst e6334
    rcases p6339 with ⟨a6340, a6341, a6342, a6343⟩ | ⟨a6344, a6345, a6346⟩
    · show WL _ _ _ _ 1583 [(4, vI i), (3, .ref o), (2, .ref m), (1, .ref x), (0, .ref 0)] [vI z6337] _ H6331
      refine wl_of hX hb cL_1583 (rw_pop (pc' := 1584) rfl rfl ?_)
      refine wl_of hX hb cL_1584 (rw_goto (p1 := 1653) (by decide) ?_)
      have k6347 : wKI H6331 m = wKI H6187 m := (wKI_fr w6191 gm f6336 rfl)
      have k6348 : H6331 x 9 = H6187 x 9 := (f6336 x 9 _ gx rfl)
      have k6349 : H6331 m 6 = H6187 m 6 := (f6336 m 6 _ gm rfl)
      have k6350 : H6331 x 11 = H6187 x 11 := (f6336 x 11 _ gx rfl)
      have k6351 : H6331 m 13 = H6187 m 13 := (f6336 m 13 _ gm rfl)
      have k6352 : H6331 x 8 = H6187 x 8 := (f6336 x 8 _ gx rfl)
      have k6353 : H6331 m 3 = H6187 m 3 := (f6336 m 3 _ gm rfl)
      have k6354 : H6331 x 0 = H x 0 := ((f6336 x 0 _ gx rfl).trans (f6192 x 0 _ gx rfl))
      have q6355 : H6331 x 0 = (tc : Int) := k6354.trans e0
      have k6356 : H6331 m 5 = H m 5 := ((f6336 m 5 _ gm rfl).trans (f6192 m 5 _ gm rfl))
      have q6357 : H6331 m 5 = (tm : Int) := k6356.trans em
      have k6358 : H6331 x 6 = H x 6 := ((f6336 x 6 _ gx rfl).trans (f6192 x 6 _ gx rfl))
      have q6359 : H6331 x 6 = (cu : Int) := k6358.trans ecu
      have k6360 : H6331 x 7 = H x 7 := ((f6336 x 7 _ gx rfl).trans (f6192 x 7 _ gx rfl))
      have q6361 : H6331 x 7 = (dr : Int) := k6360.trans edr
      have h6362 : CEN T H6331 ce8 e8 d8 := (CEN_fr w6191 gce8 f6336 rfl (CEN_fr hW gce8 f6192 rfl hcen8))
      have h6363 : TP T H6331 tc B := (TP_fr w6191 gtc f6336 rfl (TP_fr hW gtc f6192 rfl htc))
      have h6364 : TM T H6331 tm B := (TM_fr w6191 gtm f6336 rfl (TM_fr hW gtm f6192 rfl htm))
      have h6365 : DD T H6331 cu  := (DD_fr w6191 gcu f6336 rfl (DD_fr hW gcu f6192 rfl hcu))
      have h6366 : DD T H6331 dr  := (DD_fr w6191 gdr f6336 rfl (DD_fr hW gdr f6192 rfl hdr))
      have h6367 : DE T H6331 cu  := (DE_fr w6191 gcu f6336 rfl (DE_fr hW gcu f6192 rfl hdec))
      have h6368 : DE T H6331 dr  := (DE_fr w6191 gdr f6336 rfl (DE_fr hW gdr f6192 rfl hded))
      have h6369 : SP T H6331 x C8 := (SP_fr w6191 gx f6336 rfl (SP_fr hW gx f6192 rfl hsp))
      have h6370 : CU T H6331 cu e8 d8 n8 := (CU_fr w6191 gcu f6336 rfl (CU_fr hW gcu f6192 rfl hcu8))
      have h6371 : CY T H6331 cu ((d8 0 3)) g8 ((H cu 17)) := (CY_fr w6191 gcu f6336 rfl a6203)
      have k6372 : H6331 x 3 = H x 3 := ((f6336 x 3 _ gx rfl).trans (f6192 x 3 _ gx rfl))
      have q6373 : H6331 x 3 = (ce8 : Int) := k6372.trans ece8
      have h6374 : HDR T H6331 ce8  := (HDR_fr w6191 gce8 f6336 rfl (HDR_fr hW gce8 f6192 rfl hhdr8))
      have h6375 : KNN T H6331 m e8 d8 := (KNN_fr w6191 gm f6336 rfl (KNN_fr hW gm f6192 rfl hknn8))
      exfalso
      omega
    · show WL _ _ _ _ 1583 [(4, vI i), (3, .ref o), (2, .ref m), (1, .ref x), (0, .ref 0)] [vI z6337] _ H6331
      refine wl_of hX hb cL_1583 (rw_pop (pc' := 1584) rfl rfl ?_)
      refine wl_of hX hb cL_1584 (rw_goto (p1 := 1653) (by decide) ?_)
      have k6376 : wKI H6331 m = wKI H6187 m := (wKI_fr w6191 gm f6336 rfl)
      have k6377 : H6331 x 9 = H6187 x 9 := (f6336 x 9 _ gx rfl)
      have k6378 : H6331 m 6 = H6187 m 6 := (f6336 m 6 _ gm rfl)
      have k6379 : H6331 x 11 = H6187 x 11 := (f6336 x 11 _ gx rfl)
      have k6380 : H6331 m 13 = H6187 m 13 := (f6336 m 13 _ gm rfl)
      have k6381 : H6331 x 8 = H6187 x 8 := (f6336 x 8 _ gx rfl)
      have k6382 : H6331 m 3 = H6187 m 3 := (f6336 m 3 _ gm rfl)
      have k6383 : H6331 x 0 = H x 0 := ((f6336 x 0 _ gx rfl).trans (f6192 x 0 _ gx rfl))
      have q6384 : H6331 x 0 = (tc : Int) := k6383.trans e0
      have k6385 : H6331 m 5 = H m 5 := ((f6336 m 5 _ gm rfl).trans (f6192 m 5 _ gm rfl))
      have q6386 : H6331 m 5 = (tm : Int) := k6385.trans em
      have k6387 : H6331 x 6 = H x 6 := ((f6336 x 6 _ gx rfl).trans (f6192 x 6 _ gx rfl))
      have q6388 : H6331 x 6 = (cu : Int) := k6387.trans ecu
      have k6389 : H6331 x 7 = H x 7 := ((f6336 x 7 _ gx rfl).trans (f6192 x 7 _ gx rfl))
      have q6390 : H6331 x 7 = (dr : Int) := k6389.trans edr
      have h6391 : CEN T H6331 ce8 e8 d8 := (CEN_fr w6191 gce8 f6336 rfl (CEN_fr hW gce8 f6192 rfl hcen8))
      have h6392 : TP T H6331 tc B := (TP_fr w6191 gtc f6336 rfl (TP_fr hW gtc f6192 rfl htc))
      have h6393 : TM T H6331 tm B := (TM_fr w6191 gtm f6336 rfl (TM_fr hW gtm f6192 rfl htm))
      have h6394 : DD T H6331 cu  := (DD_fr w6191 gcu f6336 rfl (DD_fr hW gcu f6192 rfl hcu))
      have h6395 : DD T H6331 dr  := (DD_fr w6191 gdr f6336 rfl (DD_fr hW gdr f6192 rfl hdr))
      have h6396 : DE T H6331 cu  := (DE_fr w6191 gcu f6336 rfl (DE_fr hW gcu f6192 rfl hdec))
      have h6397 : DE T H6331 dr  := (DE_fr w6191 gdr f6336 rfl (DE_fr hW gdr f6192 rfl hded))
      have h6398 : SP T H6331 x C8 := (SP_fr w6191 gx f6336 rfl (SP_fr hW gx f6192 rfl hsp))
      have h6399 : CU T H6331 cu e8 d8 n8 := (CU_fr w6191 gcu f6336 rfl (CU_fr hW gcu f6192 rfl hcu8))
      have h6400 : CY T H6331 cu ((d8 0 3)) g8 ((H cu 17)) := (CY_fr w6191 gcu f6336 rfl a6203)
      have k6401 : H6331 x 3 = H x 3 := ((f6336 x 3 _ gx rfl).trans (f6192 x 3 _ gx rfl))
      have q6402 : H6331 x 3 = (ce8 : Int) := k6401.trans ece8
      have h6403 : HDR T H6331 ce8  := (HDR_fr w6191 gce8 f6336 rfl (HDR_fr hW gce8 f6192 rfl hhdr8))
      have h6404 : KNN T H6331 m e8 d8 := (KNN_fr w6191 gm f6336 rfl (KNN_fr hW gm f6192 rfl hknn8))
      have h6405 : RB T H6331 m e8 d8 := (RB_fr w6191 gm f6336 rfl h6327)
      exact WL.loc hX (by simp) (next T H6331 ⟨⟨w6335, g0, gx, gm, go, by omega, by omega⟩, ⟨_, tc, tm, cu, dr, _, _, _, _, _, ce8, q6384, gtc, h6392, q6386, gtm, h6393, q6388, gcu, q6390, gdr, h6394, h6395, h6396, h6397, h6398, hC1, hC2, h6399, h6405, (h6400).1, (a6346).1, hE, hZ, (by omega), (by assumption), (by omega), (by first | assumption | exact SG_0), q6402, gce8, h6391, h6403, h6404, gm⟩, by omega, by omega⟩ (by omega) (by omega))
set_option maxHeartbeats 4000000 in
theorem wl_c47 {kt : Nat → Option mc_E} {CB SB : Nat} {X : mc_S → Prop} {T : wq_T} {H : wq_H} {Len x m o : Nat} {i : Int} (hX : wlX kt CB SB X) (hb : T.2.1 ≤ CB ∧ T.2.2.1 ≤ SB) (hI : wlJ Len x m o T H) (hL : Len ≤ 3072) (hi : 0 ≤ i ∧ i + 6 ≤ Len) (hb2 : T.2.1 + 20 ≤ CB ∧ T.2.2.1 + 500 ≤ SB) (hled : ∀ {z : Int}, wI z → T.2.1 ≤ CB ∧ T.2.2.1 ≤ SB → wlJ Len x m o T H → (∀ (z' : Int), wI z' → ∀ (T' : wq_T) (H' : wq_H), wlJ Len x m o T' H' → T'.2.1 ≤ T.2.1 + 20 → T'.2.2.1 ≤ T.2.2.1 + 500 → WL kt CB SB X 1598 (wlL i x m o) [vI z'] T' H') → WL kt CB SB X 1595 (wlL i x m o) [.ref o, vI z, .ref x] T H) (next : ∀ T' H', wlJ Len x m o T' H' → T'.2.1 ≤ T.2.1 + 20 → T'.2.2.1 ≤ T.2.2.1 + 500 → WL kt CB SB X 1653 (wlL i x m o) [] T' H') : WL kt CB SB X 1587 (wlL i x m o) [] T H := by
  obtain ⟨⟨hW, g0, gx, gm, go, hK, hr⟩, hXI, hY1, hY2⟩ := hI
  refine wl_of hX hb cL_1587 (rw_aload_n (pc' := 1588) (v := .ref x) rfl rfl rfl ?_)
  refine wl_of hX hb cL_1588 (rw_aload_n (pc' := 1589) (v := .ref 0) rfl rfl rfl ?_)
  refine wl_of hX hb cL_1589 (rw_iload (pc' := 1591) (z := i) rfl rfl ?_)
  refine wl_of hX hb cL_1591 (rw_iconst (pc' := 1592) rfl ?_)
  refine wl_of hX hb cL_1592 (rw_iadd (pc' := 1593) rfl ?_)
  refine wl_of hX hb cL_1593 (xa_I (so := 0) (pc' := 1594) (a := 0) hW g0 (wsh_s _) (by omega) (wty_s _ _) (by omega) (by omega) rfl (fun b6406 b6407 => ?_))
  refine wl_of hX hb cL_1594 (rw_aload_n (pc' := 1595) (v := .ref o) rfl rfl rfl ?_)
  refine hled ⟨by omega, by omega⟩ hb ⟨⟨hW, g0, gx, gm, go, by omega, by omega⟩, hXI, by omega, by omega⟩ (fun z9 b9 T9 H9 hI9 n9 s9 => ?_)
  obtain ⟨⟨w9, g0, gx, gm, go, hK, hr⟩, hXI, hY1, hY2⟩ := hI9
  have hb : T9.2.1 ≤ CB ∧ T9.2.2.1 ≤ SB := ⟨by omega, by omega⟩
  refine wl_of hX hb cL_1598 (rw_istore (pc' := 1600) (z := z9) (L' := [(5, vI z9), (4, vI i), (3, .ref o), (2, .ref m), (1, .ref x), (0, .ref 0)]) rfl rfl rfl ?_)
  refine wl_of hX hb cL_1600 (rw_aload_n (pc' := 1601) (v := .ref m) rfl rfl rfl ?_)
  refine wl_of hX hb cL_1601 (rw_aload_n (pc' := 1602) (v := .ref 0) rfl rfl rfl ?_)
  refine wl_of hX hb cL_1602 (rw_iload (pc' := 1604) (z := i) rfl rfl ?_)
  refine wl_of hX hb cL_1604 (rw_iconst (pc' := 1605) rfl ?_)
  refine wl_of hX hb cL_1605 (rw_iadd (pc' := 1606) rfl ?_)
  refine wl_of hX hb cL_1606 (xa_I (so := 0) (pc' := 1607) (a := 0) w9 g0 (wsh_s _) (by omega) (wty_s _ _) (by omega) (by omega) rfl (fun b6408 b6409 => ?_))
  refine wl_of hX hb cL_1607 (xc_V (pc' := 1610) (r := m) (as := [vI (H9 0 ((i + 1).toNat))]) (st := []) (lm_11_225) rfl rfl (Nat.le_of_ble_eq_true rfl) w9 gm sh_42 (by decide) rfl (by decide) (s_293 w9 gm ⟨by omega, by omega⟩ (by omega)) (fun R6410 T6411 H6412 p6413 => ?_))
  obtain ⟨e6414, w6416, f6417, z6419, e6415, b6420, p6418⟩ := p6413
  subst e6414
  subst e6415
  show WL _ _ _ _ 1610 [(5, vI z9), (4, vI i), (3, .ref o), (2, .ref m), (1, .ref x), (0, .ref 0)] [vI z6419] _ H6412
  refine wl_of hX hb cL_1610 (rw_istore (pc' := 1612) (z := z6419) (L' := [(6, vI z6419), (5, vI z9), (4, vI i), (3, .ref o), (2, .ref m), (1, .ref x), (0, .ref 0)]) rfl rfl rfl ?_)
  refine wl_of hX hb cL_1612 (rw_goto (p1 := 1653) (by decide) ?_)
  have k6421 : H6412 x 9 = H9 x 9 := (f6417 x 9 _ gx rfl)
  have k6422 : H6412 m 6 = H9 m 6 := (f6417 m 6 _ gm rfl)
  have k6423 : H6412 x 11 = H9 x 11 := (f6417 x 11 _ gx rfl)
  have k6424 : H6412 m 13 = H9 m 13 := (f6417 m 13 _ gm rfl)
  have k6425 : H6412 x 8 = H9 x 8 := (f6417 x 8 _ gx rfl)
  have k6426 : H6412 m 3 = H9 m 3 := (f6417 m 3 _ gm rfl)
  have h6427 : XI T9 H6412 x m := (XI_fr w9 gx f6417 rfl hXI)
  exact WL.loc hX (by simp) (next T9 H6412 ⟨⟨w6416, g0, gx, gm, go, by omega, by omega⟩, h6427, by omega, by omega⟩ (by omega) (by omega))
set_option maxHeartbeats 4000000 in
theorem wl_c48 {kt : Nat → Option mc_E} {CB SB : Nat} {X : mc_S → Prop} {T : wq_T} {H : wq_H} {Len x m o : Nat} {i : Int} (hX : wlX kt CB SB X) (hb : T.2.1 ≤ CB ∧ T.2.2.1 ≤ SB) (hI : wlJ Len x m o T H) (hL : Len ≤ 3072) (hi : 0 ≤ i ∧ i + 6 ≤ Len) (hb2 : T.2.1 + 20 ≤ CB ∧ T.2.2.1 + 500 ≤ SB)  (next : ∀ T' H', wlJ Len x m o T' H' → T'.2.1 ≤ T.2.1 + 20 → T'.2.2.1 ≤ T.2.2.1 + 500 → WL kt CB SB X 1653 (wlL i x m o) [] T' H') : WL kt CB SB X 1615 (wlL i x m o) [] T H := by
  obtain ⟨⟨hW, g0, gx, gm, go, hK, hr⟩, hXI, hY1, hY2⟩ := hI
  refine wl_of hX hb cL_1615 (rw_aload_n (pc' := 1616) (v := .ref x) rfl rfl rfl ?_)
  refine wl_of hX hb cL_1616 (rw_aload_n (pc' := 1617) (v := .ref 0) rfl rfl rfl ?_)
  refine wl_of hX hb cL_1617 (rw_iload (pc' := 1619) (z := i) rfl rfl ?_)
  refine wl_of hX hb cL_1619 (rw_iconst (pc' := 1620) rfl ?_)
  refine wl_of hX hb cL_1620 (rw_iadd (pc' := 1621) rfl ?_)
  refine wl_of hX hb cL_1621 (xa_I (so := 0) (pc' := 1622) (a := 0) hW g0 (wsh_s _) (by omega) (wty_s _ _) (by omega) (by omega) rfl (fun b6428 b6429 => ?_))
  refine wl_of hX hb cL_1622 (xc_V (pc' := 1625) (r := x) (as := [vI (H 0 ((i + 1).toNat))]) (st := []) (lm_11_226) rfl rfl (Nat.le_of_ble_eq_true rfl) hW gx sh_1 (by decide) rfl (by decide) (s_164 hW gx ⟨by omega, by omega⟩) (fun R6430 T6431 H6432 p6433 => ?_))
  obtain ⟨e6434, e6436, z6437, e6435, b6438⟩ := p6433
  subst e6434
  subst e6435
  subst e6436
  show WL _ _ _ _ 1625 [(4, vI i), (3, .ref o), (2, .ref m), (1, .ref x), (0, .ref 0)] [vI z6437] _ H
  refine wl_of hX hb cL_1625 (rw_pop (pc' := 1626) rfl rfl ?_)
  refine wl_of hX hb cL_1626 (rw_aload_n (pc' := 1627) (v := .ref m) rfl rfl rfl ?_)
  refine wl_of hX hb cL_1627 (rw_aload_n (pc' := 1628) (v := .ref 0) rfl rfl rfl ?_)
  refine wl_of hX hb cL_1628 (rw_iload (pc' := 1630) (z := i) rfl rfl ?_)
  refine wl_of hX hb cL_1630 (rw_iconst (pc' := 1631) rfl ?_)
  refine wl_of hX hb cL_1631 (rw_iadd (pc' := 1632) rfl ?_)
  refine wl_of hX hb cL_1632 (xa_I (so := 0) (pc' := 1633) (a := 0) hW g0 (wsh_s _) (by omega) (wty_s _ _) (by omega) (by omega) rfl (fun b6439 b6440 => ?_))
  refine wl_of hX hb cL_1633 (xc_V (pc' := 1636) (r := m) (as := [vI (H 0 ((i + 1).toNat))]) (st := []) (lm_11_229) rfl rfl (Nat.le_of_ble_eq_true rfl) hW gm sh_42 (by decide) rfl (by decide) (s_294 hW gm ⟨by omega, by omega⟩ (by omega)) (fun R6441 T6442 H6443 p6444 => ?_))
  obtain ⟨e6445, w6447, f6448, z6450, e6446, b6451, p6449⟩ := p6444
  subst e6445
  subst e6446
  show WL _ _ _ _ 1636 [(4, vI i), (3, .ref o), (2, .ref m), (1, .ref x), (0, .ref 0)] [vI z6450] _ H6443
  refine wl_of hX hb cL_1636 (rw_pop (pc' := 1637) rfl rfl ?_)
  refine wl_of hX hb cL_1637 (rw_goto (p1 := 1653) (by decide) ?_)
  have k6452 : H6443 x 9 = H x 9 := (f6448 x 9 _ gx rfl)
  have k6453 : H6443 m 6 = H m 6 := (f6448 m 6 _ gm rfl)
  have k6454 : H6443 x 11 = H x 11 := (f6448 x 11 _ gx rfl)
  have k6455 : H6443 m 13 = H m 13 := (f6448 m 13 _ gm rfl)
  have k6456 : H6443 x 8 = H x 8 := (f6448 x 8 _ gx rfl)
  have k6457 : H6443 m 3 = H m 3 := (f6448 m 3 _ gm rfl)
  have h6458 : XI T H6443 x m := (XI_fr hW gx f6448 rfl hXI)
  exact WL.loc hX (by simp) (next T H6443 ⟨⟨w6447, g0, gx, gm, go, by omega, by omega⟩, h6458, by omega, by omega⟩ (by omega) (by omega))
set_option maxHeartbeats 4000000 in
theorem wl_c49 {kt : Nat → Option mc_E} {CB SB : Nat} {X : mc_S → Prop} {T : wq_T} {H : wq_H} {Len x m o : Nat} {i : Int} (hX : wlX kt CB SB X) (hb : T.2.1 ≤ CB ∧ T.2.2.1 ≤ SB) (hI : wlJ Len x m o T H) (hL : Len ≤ 3072) (hi : 0 ≤ i ∧ i + 6 ≤ Len) (hb2 : T.2.1 + 20 ≤ CB ∧ T.2.2.1 + 500 ≤ SB)  (next : ∀ T' H', wlJ Len x m o T' H' → T'.2.1 ≤ T.2.1 + 20 → T'.2.2.1 ≤ T.2.2.1 + 500 → WL kt CB SB X 1653 (wlL i x m o) [] T' H') : WL kt CB SB X 1640 (wlL i x m o) [] T H := by
  obtain ⟨⟨hW, g0, gx, gm, go, hK, hr⟩, hXI, hY1, hY2⟩ := hI
  refine wl_of hX hb cL_1640 (rw_aload_n (pc' := 1641) (v := .ref x) rfl rfl rfl ?_)
  refine wl_of hX hb cL_1641 (xc_V (pc' := 1644) (r := x) (as := []) (st := []) (lm_11_230) rfl rfl (Nat.le_of_ble_eq_true rfl) hW gx sh_1 (by decide) rfl (by decide) (s_165 hW gx) (fun R6459 T6460 H6461 p6462 => ?_))
  obtain ⟨e6463, e6465, z6466, e6464, b6467⟩ := p6462
  subst e6463
  subst e6464
  subst e6465
  show WL _ _ _ _ 1644 [(4, vI i), (3, .ref o), (2, .ref m), (1, .ref x), (0, .ref 0)] [vI z6466] _ H
  refine wl_of hX hb cL_1644 (rw_pop (pc' := 1645) rfl rfl ?_)
  refine wl_of hX hb cL_1645 (rw_aload_n (pc' := 1646) (v := .ref m) rfl rfl rfl ?_)
  refine wl_of hX hb cL_1646 (xc_V (pc' := 1649) (r := m) (as := []) (st := []) (lm_11_233) rfl rfl (Nat.le_of_ble_eq_true rfl) hW gm sh_42 (by decide) rfl (by decide) (s_295 hW gm (by omega)) (fun R6468 T6469 H6470 p6471 => ?_))
  obtain ⟨e6472, w6474, f6475, z6477, e6473, b6478, p6476⟩ := p6471
  subst e6472
  subst e6473
  show WL _ _ _ _ 1649 [(4, vI i), (3, .ref o), (2, .ref m), (1, .ref x), (0, .ref 0)] [vI z6477] _ H6470
  refine wl_of hX hb cL_1649 (rw_pop (pc' := 1650) rfl rfl ?_)
  refine wl_of hX hb cL_1650 (rw_goto (p1 := 1653) (by decide) ?_)
  have k6479 : H6470 x 9 = H x 9 := (f6475 x 9 _ gx rfl)
  have k6480 : H6470 m 6 = H m 6 := (f6475 m 6 _ gm rfl)
  have k6481 : H6470 x 11 = H x 11 := (f6475 x 11 _ gx rfl)
  have k6482 : H6470 m 13 = H m 13 := (f6475 m 13 _ gm rfl)
  have k6483 : H6470 x 8 = H x 8 := (f6475 x 8 _ gx rfl)
  have k6484 : H6470 m 3 = H m 3 := (f6475 m 3 _ gm rfl)
  have h6485 : XI T H6470 x m := (XI_fr hW gx f6475 rfl hXI)
  exact WL.loc hX (by simp) (next T H6470 ⟨⟨w6474, g0, gx, gm, go, by omega, by omega⟩, h6485, by omega, by omega⟩ (by omega) (by omega))
set_option maxHeartbeats 4000000 in
theorem wl_head {kt : Nat → Option mc_E} {CB SB : Nat} {X : mc_S → Prop} {T : wq_T} {H : wq_H} {Len x m o : Nat} {i : Int} (hX : wlX kt CB SB X) (hb : T.2.1 ≤ CB ∧ T.2.2.1 ≤ SB) (hI : wlJ Len x m o T H) (hL : Len ≤ 3072) (hi : 0 ≤ i ∧ i ≤ Len) (cases : ∀ t, t ∈ [256, 329, 354, 367, 380, 405, 454, 503, 516, 553, 578, 603, 616, 629, 642, 655, 668, 705, 718, 755, 792, 829, 882, 919, 944, 957, 994, 1019, 1056, 1109, 1162, 1175, 1200, 1225, 1250, 1263, 1316, 1329, 1342, 1367, 1404, 1429, 1454, 1467, 1504, 1517, 1530, 1587, 1615, 1640] → i + 6 ≤ Len → WL kt CB SB X t (wlL i x m o) [] T H) (next : i + 6 ≤ Len → WL kt CB SB X 1653 (wlL i x m o) [] T H) : WL kt CB SB X 23 (wlL i x m o) [] T H := by
  obtain ⟨⟨hW, g0, gx, gm, go, hK, hr⟩, hXI, hY1, hY2⟩ := hI
  refine wl_of hX hb cL_23 (rw_iload (pc' := 25) (z := i) rfl rfl ?_)
  refine wl_of hX hb cL_25 (rw_aload_n (pc' := 26) (v := .ref 0) rfl rfl rfl ?_)
  refine wl_of hX hb cL_26 (xa_N (pc' := 27) (a := 0) (n := Len) hW g0 (wsh_s _) (by decide) rfl ?_)
  refine wl_of hX hb cL_27 (rw_bipush (pc' := 29) (z := 6) rfl (by decide) ?_)
  refine wl_of hX hb cL_29 (rw_isub (pc' := 30) rfl ?_)
  refine wl_of hX hb cL_30 (rw_icmp_gt (p1 := 1659) (p2 := 33) (by decide) rfl ⟨by omega, by omega⟩ ⟨by omega, by omega⟩ (fun c6486 => ?_) (fun c6486 => ?_))
  · refine wl_of hX hb cL_1659 (rw_iconst (pc' := 1660) rfl ?_)
    exact WL.fin hX hb
  · refine wl_of hX hb cL_33 (rw_aload_n (pc' := 34) (v := .ref 0) rfl rfl rfl ?_)
    refine wl_of hX hb cL_34 (rw_iload (pc' := 36) (z := i) rfl rfl ?_)
    refine wl_of hX hb cL_36 (xa_I (so := 0) (pc' := 37) (a := 0) hW g0 (wsh_s _) (by omega) (wty_s _ _) (by omega) (by omega) rfl (fun b6487 b6488 => ?_))
    refine wl_of hX hb cL_37 (rw_bipush (pc' := 39) (z := 63) rfl (by decide) ?_)
    refine wl_of hX hb cL_39 (rw_iand (pc' := 40) rfl ?_)
    obtain ⟨v6489, e6490⟩ : ∃ x : Int, x = wq_and (H 0 (i.toNat)) 63 := ⟨_, rfl⟩
    rw [← e6490]
    have b6491 : 0 ≤ v6489 ∧ v6489 ≤ 63 := by
      rw [e6490]
      exact wq_and_b _ (by omega) (by omega)
    have c6492 : v6489 = 0 ∨ v6489 = 1 ∨ v6489 = 2 ∨ v6489 = 3 ∨ v6489 = 4 ∨ v6489 = 5 ∨ v6489 = 6 ∨ v6489 = 7 ∨ v6489 = 8 ∨ v6489 = 9 ∨ v6489 = 10 ∨ v6489 = 11 ∨ v6489 = 12 ∨ v6489 = 13 ∨ v6489 = 14 ∨ v6489 = 15 ∨ v6489 = 16 ∨ v6489 = 17 ∨ v6489 = 18 ∨ v6489 = 19 ∨ v6489 = 20 ∨ v6489 = 21 ∨ v6489 = 22 ∨ v6489 = 23 ∨ v6489 = 24 ∨ v6489 = 25 ∨ v6489 = 26 ∨ v6489 = 27 ∨ v6489 = 28 ∨ v6489 = 29 ∨ v6489 = 30 ∨ v6489 = 31 ∨ v6489 = 32 ∨ v6489 = 33 ∨ v6489 = 34 ∨ v6489 = 35 ∨ v6489 = 36 ∨ v6489 = 37 ∨ v6489 = 38 ∨ v6489 = 39 ∨ v6489 = 40 ∨ v6489 = 41 ∨ v6489 = 42 ∨ v6489 = 43 ∨ v6489 = 44 ∨ v6489 = 45 ∨ v6489 = 46 ∨ v6489 = 47 ∨ v6489 = 48 ∨ v6489 = 49 ∨ (v6489 < 0 ∨ 49 < v6489) := by omega
    rcases c6492 with c6492 | c6492 | c6492 | c6492 | c6492 | c6492 | c6492 | c6492 | c6492 | c6492 | c6492 | c6492 | c6492 | c6492 | c6492 | c6492 | c6492 | c6492 | c6492 | c6492 | c6492 | c6492 | c6492 | c6492 | c6492 | c6492 | c6492 | c6492 | c6492 | c6492 | c6492 | c6492 | c6492 | c6492 | c6492 | c6492 | c6492 | c6492 | c6492 | c6492 | c6492 | c6492 | c6492 | c6492 | c6492 | c6492 | c6492 | c6492 | c6492 | c6492 | c6492
    · refine wl_of hX hb cL_40 (rw_tsw (p1 := 256) ⟨by omega, by omega⟩ (by rw [c6492]; decide) ?_)
      exact cases 256 (by decide) (by omega)
    · refine wl_of hX hb cL_40 (rw_tsw (p1 := 329) ⟨by omega, by omega⟩ (by rw [c6492]; decide) ?_)
      exact cases 329 (by decide) (by omega)
    · refine wl_of hX hb cL_40 (rw_tsw (p1 := 354) ⟨by omega, by omega⟩ (by rw [c6492]; decide) ?_)
      exact cases 354 (by decide) (by omega)
    · refine wl_of hX hb cL_40 (rw_tsw (p1 := 367) ⟨by omega, by omega⟩ (by rw [c6492]; decide) ?_)
      exact cases 367 (by decide) (by omega)
    · refine wl_of hX hb cL_40 (rw_tsw (p1 := 380) ⟨by omega, by omega⟩ (by rw [c6492]; decide) ?_)
      exact cases 380 (by decide) (by omega)
    · refine wl_of hX hb cL_40 (rw_tsw (p1 := 405) ⟨by omega, by omega⟩ (by rw [c6492]; decide) ?_)
      exact cases 405 (by decide) (by omega)
    · refine wl_of hX hb cL_40 (rw_tsw (p1 := 454) ⟨by omega, by omega⟩ (by rw [c6492]; decide) ?_)
      exact cases 454 (by decide) (by omega)
    · refine wl_of hX hb cL_40 (rw_tsw (p1 := 503) ⟨by omega, by omega⟩ (by rw [c6492]; decide) ?_)
      exact cases 503 (by decide) (by omega)
    · refine wl_of hX hb cL_40 (rw_tsw (p1 := 516) ⟨by omega, by omega⟩ (by rw [c6492]; decide) ?_)
      exact cases 516 (by decide) (by omega)
    · refine wl_of hX hb cL_40 (rw_tsw (p1 := 553) ⟨by omega, by omega⟩ (by rw [c6492]; decide) ?_)
      exact cases 553 (by decide) (by omega)
    · refine wl_of hX hb cL_40 (rw_tsw (p1 := 578) ⟨by omega, by omega⟩ (by rw [c6492]; decide) ?_)
      exact cases 578 (by decide) (by omega)
    · refine wl_of hX hb cL_40 (rw_tsw (p1 := 603) ⟨by omega, by omega⟩ (by rw [c6492]; decide) ?_)
      exact cases 603 (by decide) (by omega)
    · refine wl_of hX hb cL_40 (rw_tsw (p1 := 616) ⟨by omega, by omega⟩ (by rw [c6492]; decide) ?_)
      exact cases 616 (by decide) (by omega)
    · refine wl_of hX hb cL_40 (rw_tsw (p1 := 629) ⟨by omega, by omega⟩ (by rw [c6492]; decide) ?_)
      exact cases 629 (by decide) (by omega)
    · refine wl_of hX hb cL_40 (rw_tsw (p1 := 642) ⟨by omega, by omega⟩ (by rw [c6492]; decide) ?_)
      exact cases 642 (by decide) (by omega)
    · refine wl_of hX hb cL_40 (rw_tsw (p1 := 655) ⟨by omega, by omega⟩ (by rw [c6492]; decide) ?_)
      exact cases 655 (by decide) (by omega)
    · refine wl_of hX hb cL_40 (rw_tsw (p1 := 668) ⟨by omega, by omega⟩ (by rw [c6492]; decide) ?_)
      exact cases 668 (by decide) (by omega)
    · refine wl_of hX hb cL_40 (rw_tsw (p1 := 705) ⟨by omega, by omega⟩ (by rw [c6492]; decide) ?_)
      exact cases 705 (by decide) (by omega)
    · refine wl_of hX hb cL_40 (rw_tsw (p1 := 718) ⟨by omega, by omega⟩ (by rw [c6492]; decide) ?_)
      exact cases 718 (by decide) (by omega)
    · refine wl_of hX hb cL_40 (rw_tsw (p1 := 755) ⟨by omega, by omega⟩ (by rw [c6492]; decide) ?_)
      exact cases 755 (by decide) (by omega)
    · refine wl_of hX hb cL_40 (rw_tsw (p1 := 792) ⟨by omega, by omega⟩ (by rw [c6492]; decide) ?_)
      exact cases 792 (by decide) (by omega)
    · refine wl_of hX hb cL_40 (rw_tsw (p1 := 829) ⟨by omega, by omega⟩ (by rw [c6492]; decide) ?_)
      exact cases 829 (by decide) (by omega)
    · refine wl_of hX hb cL_40 (rw_tsw (p1 := 882) ⟨by omega, by omega⟩ (by rw [c6492]; decide) ?_)
      exact cases 882 (by decide) (by omega)
    · refine wl_of hX hb cL_40 (rw_tsw (p1 := 919) ⟨by omega, by omega⟩ (by rw [c6492]; decide) ?_)
      exact cases 919 (by decide) (by omega)
    · refine wl_of hX hb cL_40 (rw_tsw (p1 := 944) ⟨by omega, by omega⟩ (by rw [c6492]; decide) ?_)
      exact cases 944 (by decide) (by omega)
    · refine wl_of hX hb cL_40 (rw_tsw (p1 := 957) ⟨by omega, by omega⟩ (by rw [c6492]; decide) ?_)
      exact cases 957 (by decide) (by omega)
    · refine wl_of hX hb cL_40 (rw_tsw (p1 := 994) ⟨by omega, by omega⟩ (by rw [c6492]; decide) ?_)
      exact cases 994 (by decide) (by omega)
    · refine wl_of hX hb cL_40 (rw_tsw (p1 := 1019) ⟨by omega, by omega⟩ (by rw [c6492]; decide) ?_)
      exact cases 1019 (by decide) (by omega)
    · refine wl_of hX hb cL_40 (rw_tsw (p1 := 1056) ⟨by omega, by omega⟩ (by rw [c6492]; decide) ?_)
      exact cases 1056 (by decide) (by omega)
    · refine wl_of hX hb cL_40 (rw_tsw (p1 := 1109) ⟨by omega, by omega⟩ (by rw [c6492]; decide) ?_)
      exact cases 1109 (by decide) (by omega)
    · refine wl_of hX hb cL_40 (rw_tsw (p1 := 1162) ⟨by omega, by omega⟩ (by rw [c6492]; decide) ?_)
      exact cases 1162 (by decide) (by omega)
    · refine wl_of hX hb cL_40 (rw_tsw (p1 := 1175) ⟨by omega, by omega⟩ (by rw [c6492]; decide) ?_)
      exact cases 1175 (by decide) (by omega)
    · refine wl_of hX hb cL_40 (rw_tsw (p1 := 1200) ⟨by omega, by omega⟩ (by rw [c6492]; decide) ?_)
      exact cases 1200 (by decide) (by omega)
    · refine wl_of hX hb cL_40 (rw_tsw (p1 := 1225) ⟨by omega, by omega⟩ (by rw [c6492]; decide) ?_)
      exact cases 1225 (by decide) (by omega)
    · refine wl_of hX hb cL_40 (rw_tsw (p1 := 1250) ⟨by omega, by omega⟩ (by rw [c6492]; decide) ?_)
      exact cases 1250 (by decide) (by omega)
    · refine wl_of hX hb cL_40 (rw_tsw (p1 := 1263) ⟨by omega, by omega⟩ (by rw [c6492]; decide) ?_)
      exact cases 1263 (by decide) (by omega)
    · refine wl_of hX hb cL_40 (rw_tsw (p1 := 1316) ⟨by omega, by omega⟩ (by rw [c6492]; decide) ?_)
      exact cases 1316 (by decide) (by omega)
    · refine wl_of hX hb cL_40 (rw_tsw (p1 := 1329) ⟨by omega, by omega⟩ (by rw [c6492]; decide) ?_)
      exact cases 1329 (by decide) (by omega)
    · refine wl_of hX hb cL_40 (rw_tsw (p1 := 1342) ⟨by omega, by omega⟩ (by rw [c6492]; decide) ?_)
      exact cases 1342 (by decide) (by omega)
    · refine wl_of hX hb cL_40 (rw_tsw (p1 := 1367) ⟨by omega, by omega⟩ (by rw [c6492]; decide) ?_)
      exact cases 1367 (by decide) (by omega)
    · refine wl_of hX hb cL_40 (rw_tsw (p1 := 1404) ⟨by omega, by omega⟩ (by rw [c6492]; decide) ?_)
      exact cases 1404 (by decide) (by omega)
    · refine wl_of hX hb cL_40 (rw_tsw (p1 := 1429) ⟨by omega, by omega⟩ (by rw [c6492]; decide) ?_)
      exact cases 1429 (by decide) (by omega)
    · refine wl_of hX hb cL_40 (rw_tsw (p1 := 1454) ⟨by omega, by omega⟩ (by rw [c6492]; decide) ?_)
      exact cases 1454 (by decide) (by omega)
    · refine wl_of hX hb cL_40 (rw_tsw (p1 := 1467) ⟨by omega, by omega⟩ (by rw [c6492]; decide) ?_)
      exact cases 1467 (by decide) (by omega)
    · refine wl_of hX hb cL_40 (rw_tsw (p1 := 1504) ⟨by omega, by omega⟩ (by rw [c6492]; decide) ?_)
      exact cases 1504 (by decide) (by omega)
    · refine wl_of hX hb cL_40 (rw_tsw (p1 := 1517) ⟨by omega, by omega⟩ (by rw [c6492]; decide) ?_)
      exact cases 1517 (by decide) (by omega)
    · refine wl_of hX hb cL_40 (rw_tsw (p1 := 1530) ⟨by omega, by omega⟩ (by rw [c6492]; decide) ?_)
      exact cases 1530 (by decide) (by omega)
    · refine wl_of hX hb cL_40 (rw_tsw (p1 := 1587) ⟨by omega, by omega⟩ (by rw [c6492]; decide) ?_)
      exact cases 1587 (by decide) (by omega)
    · refine wl_of hX hb cL_40 (rw_tsw (p1 := 1615) ⟨by omega, by omega⟩ (by rw [c6492]; decide) ?_)
      exact cases 1615 (by decide) (by omega)
    · refine wl_of hX hb cL_40 (rw_tsw (p1 := 1640) ⟨by omega, by omega⟩ (by rw [c6492]; decide) ?_)
      exact cases 1640 (by decide) (by omega)
    · refine wl_of hX hb cL_40 (rw_tsw (p1 := 1653) ⟨by omega, by omega⟩ (by rw [if_pos c6492]; decide) ?_)
      exact next (by omega)
theorem wl_back {kt : Nat → Option mc_E} {CB SB : Nat} {X : mc_S → Prop} {T : wq_T} {H : wq_H} {Len x m o : Nat} {i : Int} (hX : wlX kt CB SB X) (hb : T.2.1 ≤ CB ∧ T.2.2.1 ≤ SB) (hI : wlJ Len x m o T H) (hL : Len ≤ 3072) (hi : 0 ≤ i ∧ i + 6 ≤ Len) (next : WL kt CB SB X 23 (wlL (i + 6) x m o) [] T H) : WL kt CB SB X 1653 (wlL i x m o) [] T H := by
  obtain ⟨⟨hW, g0, gx, gm, go, hK, hr⟩, hXI, hY1, hY2⟩ := hI
  refine wl_of hX hb cL_1653 (rw_iinc (pc' := 1656) (z := i) (L' := [(4, vI (i + 6)), (3, .ref o), (2, .ref m), (1, .ref x), (0, .ref 0)]) rfl rfl rfl rfl ?_)
  refine wl_of hX hb cL_1656 (rw_goto (p1 := 23) (by decide) ?_)
  exact next
/-- the call that may throw, as the loop wants it -/
def wlLed (kt : Nat → Option mc_E) (CB SB : Nat) (X : mc_S → Prop) (Len x m o : Nat) : Prop := ∀ (T : wq_T) (H : wq_H) (i z : Int), T.2.1 + 20 ≤ CB ∧ T.2.2.1 + 500 ≤ SB → wI z → wlJ Len x m o T H → (∀ (z' : Int), wI z' → ∀ (T' : wq_T) (H' : wq_H), wlJ Len x m o T' H' → T'.2.1 ≤ T.2.1 + 20 → T'.2.2.1 ≤ T.2.2.1 + 500 → WL kt CB SB X 1598 (wlL i x m o) [vI z'] T' H') → WL kt CB SB X 1595 (wlL i x m o) [.ref o, vI z, .ref x] T H
set_option maxRecDepth 40000 in
theorem wl_loopL {kt : Nat → Option mc_E} {CB SB : Nat} {X : mc_S → Prop} {Len x m o : Nat} (hX : wlX kt CB SB X) (hL : Len ≤ 3072) (hled : wlLed kt CB SB X Len x m o) : ∀ (n : Nat) (T : wq_T) (H : wq_H) (i : Int), 0 ≤ i ∧ i ≤ Len → (Len - i).toNat = n → T.2.1 + 4 * (n + 6) ≤ CB → T.2.2.1 + 100 * (n + 6) ≤ SB → wlJ Len x m o T H → WL kt CB SB X 23 (wlL i x m o) [] T H := by
  intro n
  induction n using Nat.strongRecOn with
  | _ n ih =>
    intro T H i hi hn hc hs hI
    have hb : T.2.1 ≤ CB ∧ T.2.2.1 ≤ SB := ⟨by omega, by omega⟩
    have hb2 : T.2.1 + 20 ≤ CB ∧ T.2.2.1 + 500 ≤ SB := ⟨by omega, by omega⟩
    refine wl_head hX hb hI hL hi (fun t ht h6 => ?_) (fun h6 => wl_back hX hb hI hL ⟨hi.1, h6⟩ (ih (Len - (i + 6)).toNat (by omega) T H (i + 6) ⟨by omega, by omega⟩ rfl (by omega) (by omega) hI))
    have next : ∀ T' H', wlJ Len x m o T' H' → T'.2.1 ≤ T.2.1 + 20 → T'.2.2.1 ≤ T.2.2.1 + 500 → WL kt CB SB X 1653 (wlL i x m o) [] T' H' := fun T' H' hI' h1 h2 => wl_back hX ⟨by omega, by omega⟩ hI' hL ⟨hi.1, h6⟩ (ih (Len - (i + 6)).toNat (by omega) T' H' (i + 6) ⟨by omega, by omega⟩ rfl (by omega) (by omega) hI')
    rcases List.mem_cons.mp ht with rfl | ht
    · exact wl_c0 hX hb hI hL ⟨hi.1, h6⟩ hb2 next
    rcases List.mem_cons.mp ht with rfl | ht
    · exact wl_c1 hX hb hI hL ⟨hi.1, h6⟩ hb2 next
    rcases List.mem_cons.mp ht with rfl | ht
    · exact wl_c2 hX hb hI hL ⟨hi.1, h6⟩ hb2 next
    rcases List.mem_cons.mp ht with rfl | ht
    · exact wl_c3 hX hb hI hL ⟨hi.1, h6⟩ hb2 next
    rcases List.mem_cons.mp ht with rfl | ht
    · exact wl_c4 hX hb hI hL ⟨hi.1, h6⟩ hb2 next
    rcases List.mem_cons.mp ht with rfl | ht
    · exact wl_c5 hX hb hI hL ⟨hi.1, h6⟩ hb2 next
    rcases List.mem_cons.mp ht with rfl | ht
    · exact wl_c6 hX hb hI hL ⟨hi.1, h6⟩ hb2 next
    rcases List.mem_cons.mp ht with rfl | ht
    · exact wl_c7 hX hb hI hL ⟨hi.1, h6⟩ hb2 next
    rcases List.mem_cons.mp ht with rfl | ht
    · exact wl_c8 hX hb hI hL ⟨hi.1, h6⟩ hb2 next
    rcases List.mem_cons.mp ht with rfl | ht
    · exact wl_c9 hX hb hI hL ⟨hi.1, h6⟩ hb2 next
    rcases List.mem_cons.mp ht with rfl | ht
    · exact wl_c10 hX hb hI hL ⟨hi.1, h6⟩ hb2 next
    rcases List.mem_cons.mp ht with rfl | ht
    · exact wl_c11 hX hb hI hL ⟨hi.1, h6⟩ hb2 next
    rcases List.mem_cons.mp ht with rfl | ht
    · exact wl_c12 hX hb hI hL ⟨hi.1, h6⟩ hb2 next
    rcases List.mem_cons.mp ht with rfl | ht
    · exact wl_c13 hX hb hI hL ⟨hi.1, h6⟩ hb2 next
    rcases List.mem_cons.mp ht with rfl | ht
    · exact wl_c14 hX hb hI hL ⟨hi.1, h6⟩ hb2 next
    rcases List.mem_cons.mp ht with rfl | ht
    · exact wl_c15 hX hb hI hL ⟨hi.1, h6⟩ hb2 next
    rcases List.mem_cons.mp ht with rfl | ht
    · exact wl_c16 hX hb hI hL ⟨hi.1, h6⟩ hb2 next
    rcases List.mem_cons.mp ht with rfl | ht
    · exact wl_c17 hX hb hI hL ⟨hi.1, h6⟩ hb2 next
    rcases List.mem_cons.mp ht with rfl | ht
    · exact wl_c18 hX hb hI hL ⟨hi.1, h6⟩ hb2 next
    rcases List.mem_cons.mp ht with rfl | ht
    · exact wl_c19 hX hb hI hL ⟨hi.1, h6⟩ hb2 next
    rcases List.mem_cons.mp ht with rfl | ht
    · exact wl_c20 hX hb hI hL ⟨hi.1, h6⟩ hb2 next
    rcases List.mem_cons.mp ht with rfl | ht
    · exact wl_c21 hX hb hI hL ⟨hi.1, h6⟩ hb2 next
    rcases List.mem_cons.mp ht with rfl | ht
    · exact wl_c22 hX hb hI hL ⟨hi.1, h6⟩ hb2 next
    rcases List.mem_cons.mp ht with rfl | ht
    · exact wl_c23 hX hb hI hL ⟨hi.1, h6⟩ hb2 next
    rcases List.mem_cons.mp ht with rfl | ht
    · exact wl_c24 hX hb hI hL ⟨hi.1, h6⟩ hb2 next
    rcases List.mem_cons.mp ht with rfl | ht
    · exact wl_c25 hX hb hI hL ⟨hi.1, h6⟩ hb2 next
    rcases List.mem_cons.mp ht with rfl | ht
    · exact wl_c26 hX hb hI hL ⟨hi.1, h6⟩ hb2 next
    rcases List.mem_cons.mp ht with rfl | ht
    · exact wl_c27 hX hb hI hL ⟨hi.1, h6⟩ hb2 next
    rcases List.mem_cons.mp ht with rfl | ht
    · exact wl_c28 hX hb hI hL ⟨hi.1, h6⟩ hb2 next
    rcases List.mem_cons.mp ht with rfl | ht
    · exact wl_c29 hX hb hI hL ⟨hi.1, h6⟩ hb2 next
    rcases List.mem_cons.mp ht with rfl | ht
    · exact wl_c30 hX hb hI hL ⟨hi.1, h6⟩ hb2 next
    rcases List.mem_cons.mp ht with rfl | ht
    · exact wl_c31 hX hb hI hL ⟨hi.1, h6⟩ hb2 next
    rcases List.mem_cons.mp ht with rfl | ht
    · exact wl_c32 hX hb hI hL ⟨hi.1, h6⟩ hb2 next
    rcases List.mem_cons.mp ht with rfl | ht
    · exact wl_c33 hX hb hI hL ⟨hi.1, h6⟩ hb2 next
    rcases List.mem_cons.mp ht with rfl | ht
    · exact wl_c34 hX hb hI hL ⟨hi.1, h6⟩ hb2 next
    rcases List.mem_cons.mp ht with rfl | ht
    · exact wl_c35 hX hb hI hL ⟨hi.1, h6⟩ hb2 next
    rcases List.mem_cons.mp ht with rfl | ht
    · exact wl_c36 hX hb hI hL ⟨hi.1, h6⟩ hb2 next
    rcases List.mem_cons.mp ht with rfl | ht
    · exact wl_c37 hX hb hI hL ⟨hi.1, h6⟩ hb2 next
    rcases List.mem_cons.mp ht with rfl | ht
    · exact wl_c38 hX hb hI hL ⟨hi.1, h6⟩ hb2 next
    rcases List.mem_cons.mp ht with rfl | ht
    · exact wl_c39 hX hb hI hL ⟨hi.1, h6⟩ hb2 next
    rcases List.mem_cons.mp ht with rfl | ht
    · exact wl_c40 hX hb hI hL ⟨hi.1, h6⟩ hb2 next
    rcases List.mem_cons.mp ht with rfl | ht
    · exact wl_c41 hX hb hI hL ⟨hi.1, h6⟩ hb2 next
    rcases List.mem_cons.mp ht with rfl | ht
    · exact wl_c42 hX hb hI hL ⟨hi.1, h6⟩ hb2 next
    rcases List.mem_cons.mp ht with rfl | ht
    · exact wl_c43 hX hb hI hL ⟨hi.1, h6⟩ hb2 next
    rcases List.mem_cons.mp ht with rfl | ht
    · exact wl_c44 hX hb hI hL ⟨hi.1, h6⟩ hb2 next
    rcases List.mem_cons.mp ht with rfl | ht
    · exact wl_c45 hX hb hI hL ⟨hi.1, h6⟩ hb2 next
    rcases List.mem_cons.mp ht with rfl | ht
    · exact wl_c46 hX hb hI hL ⟨hi.1, h6⟩ hb2 next
    rcases List.mem_cons.mp ht with rfl | ht
    · exact wl_c47 hX hb hI hL ⟨hi.1, h6⟩ hb2 (fun hz _ hI2 k => hled T H i _ hb2 hz hI2 k) next
    rcases List.mem_cons.mp ht with rfl | ht
    · exact wl_c48 hX hb hI hL ⟨hi.1, h6⟩ hb2 next
    rcases List.mem_cons.mp ht with rfl | ht
    · exact wl_c49 hX hb hI hL ⟨hi.1, h6⟩ hb2 next
    cases ht
