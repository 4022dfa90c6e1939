/-! THE LAW, GONE ON WITH (own work) -/
set_option maxHeartbeats 4000000 in
theorem wl_c43 {kt : Nat → Option mc_E} {CB SB : Nat} {X : mc_S → Prop} {T : wq_T} {H : wq_H} {Len x m o : Nat} {i : Int} (hX : wlX kt CB SB X) (hb : T.2.1 ≤ CB ∧ T.2.2.1 ≤ SB) (hI : wlJ Len x m o T H) (hL : Len ≤ 3072) (hi : 0 ≤ i ∧ i + 6 ≤ Len) (hb2 : T.2.1 + 20 ≤ CB ∧ T.2.2.1 + 500 ≤ SB)  (next : ∀ T' H', wlJ Len x m o T' H' → T'.2.1 ≤ T.2.1 + 20 → T'.2.2.1 ≤ T.2.2.1 + 500 → WL kt CB SB X 1653 (wlL i x m o) [] T' H') : WL kt CB SB X 1467 (wlL i x m o) [] T H := by
  obtain ⟨⟨hW, g0, gx, gm, go, hK, hr⟩, hXI, hY1, hY2⟩ := hI
  refine wl_of hX hb cL_1467 (rw_aload_n (pc' := 1468) (v := .ref x) rfl rfl rfl ?_)
  refine wl_of hX hb cL_1468 (rw_aload_n (pc' := 1469) (v := .ref 0) rfl rfl rfl ?_)
  refine wl_of hX hb cL_1469 (rw_iload (pc' := 1471) (z := i) rfl rfl ?_)
  refine wl_of hX hb cL_1471 (rw_iconst (pc' := 1472) rfl ?_)
  refine wl_of hX hb cL_1472 (rw_iadd (pc' := 1473) rfl ?_)
  refine wl_of hX hb cL_1473 (xa_I (so := 0) (pc' := 1474) (a := 0) hW g0 (wsh_s _) (by omega) (wty_s _ _) (by omega) (by omega) rfl (fun b6107 b6108 => ?_))
  refine wl_of hX hb cL_1474 (rw_aload_n (pc' := 1475) (v := .ref 0) rfl rfl rfl ?_)
  refine wl_of hX hb cL_1475 (rw_iload (pc' := 1477) (z := i) rfl rfl ?_)
  refine wl_of hX hb cL_1477 (rw_iconst (pc' := 1478) rfl ?_)
  refine wl_of hX hb cL_1478 (rw_iadd (pc' := 1479) rfl ?_)
  refine wl_of hX hb cL_1479 (xa_I (so := 0) (pc' := 1480) (a := 0) hW g0 (wsh_s _) (by omega) (wty_s _ _) (by omega) (by omega) rfl (fun b6109 b6110 => ?_))
  refine wl_of hX hb cL_1480 (xc_V (pc' := 1483) (r := x) (as := [vI (H 0 ((i + 1).toNat)), vI (H 0 ((i + 2).toNat))]) (st := []) (lm_11_200) rfl rfl (Nat.le_of_ble_eq_true rfl) hW gx sh_1 (by decide) rfl (by decide) (s_157 hW gx ⟨by omega, by omega⟩ ⟨by omega, by omega⟩) (fun R6111 T6112 H6113 p6114 => ?_))
  obtain ⟨e6115, w6117, f6118, z6119, e6116, b6120⟩ := p6114
  subst e6115
  subst e6116
  show WL _ _ _ _ 1483 [(4, vI i), (3, .ref o), (2, .ref m), (1, .ref x), (0, .ref 0)] [vI z6119] _ H6113
  refine wl_of hX hb cL_1483 (rw_pop (pc' := 1484) rfl rfl ?_)
  refine wl_of hX hb cL_1484 (rw_aload_n (pc' := 1485) (v := .ref m) rfl rfl rfl ?_)
  refine wl_of hX hb cL_1485 (rw_aload_n (pc' := 1486) (v := .ref 0) rfl rfl rfl ?_)
  refine wl_of hX hb cL_1486 (rw_iload (pc' := 1488) (z := i) rfl rfl ?_)
  refine wl_of hX hb cL_1488 (rw_iconst (pc' := 1489) rfl ?_)
  refine wl_of hX hb cL_1489 (rw_iadd (pc' := 1490) rfl ?_)
  have k6123 : H6113 0 ((i + 1).toNat) = H 0 ((i + 1).toNat) := (f6118 0 ((i + 1).toNat) _ g0 (wmem_s rfl))
  refine wl_of hX hb cL_1490 (xa_I (so := 0) (pc' := 1491) (a := 0) w6117 g0 (wsh_s _) (by omega) (wty_s _ _) (by omega) (by omega) rfl (fun b6121 b6122 => ?_))
  refine wl_of hX hb cL_1491 (rw_aload_n (pc' := 1492) (v := .ref 0) rfl rfl rfl ?_)
  refine wl_of hX hb cL_1492 (rw_iload (pc' := 1494) (z := i) rfl rfl ?_)
  refine wl_of hX hb cL_1494 (rw_iconst (pc' := 1495) rfl ?_)
  refine wl_of hX hb cL_1495 (rw_iadd (pc' := 1496) rfl ?_)
  have k6126 : H6113 0 ((i + 2).toNat) = H 0 ((i + 2).toNat) := (f6118 0 ((i + 2).toNat) _ g0 (wmem_s rfl))
  refine wl_of hX hb cL_1496 (xa_I (so := 0) (pc' := 1497) (a := 0) w6117 g0 (wsh_s _) (by omega) (wty_s _ _) (by omega) (by omega) rfl (fun b6124 b6125 => ?_))
  have k6127 : wKI H6113 m = wKI H m := (wKI_fr hW gm f6118 rfl)
  have k6128 : H6113 x 9 = H x 9 := (f6118 x 9 _ gx rfl)
  have k6129 : H6113 m 6 = H m 6 := (f6118 m 6 _ gm rfl)
  have k6130 : H6113 x 11 = H x 11 := (f6118 x 11 _ gx rfl)
  have k6131 : H6113 m 13 = H m 13 := (f6118 m 13 _ gm rfl)
  have k6132 : H6113 x 8 = H x 8 := (f6118 x 8 _ gx rfl)
  have k6133 : H6113 m 3 = H m 3 := (f6118 m 3 _ gm rfl)
  refine wl_of hX hb cL_1497 (xc_V (pc' := 1500) (r := m) (as := [vI (H6113 0 ((i + 1).toNat)), vI (H6113 0 ((i + 2).toNat))]) (st := []) (lm_11_203) rfl rfl (Nat.le_of_ble_eq_true rfl) w6117 gm sh_42 (by decide) rfl (by decide) (s_289 w6117 gm ⟨by omega, by omega⟩ ⟨by omega, by omega⟩ (by omega)) (fun R6134 T6135 H6136 p6137 => ?_))
  obtain ⟨e6138, w6140, f6141, z6143, e6139, b6144, p6142⟩ := p6137
  subst e6138
  subst e6139
  show WL _ _ _ _ 1500 [(4, vI i), (3, .ref o), (2, .ref m), (1, .ref x), (0, .ref 0)] [vI z6143] _ H6136
  refine wl_of hX hb cL_1500 (rw_pop (pc' := 1501) rfl rfl ?_)
  refine wl_of hX hb cL_1501 (rw_goto (p1 := 1653) (by decide) ?_)
  have k6145 : H6136 x 9 = H6113 x 9 := (f6141 x 9 _ gx rfl)
  have k6146 : H6136 m 6 = H6113 m 6 := (f6141 m 6 _ gm rfl)
  have k6147 : H6136 x 11 = H6113 x 11 := (f6141 x 11 _ gx rfl)
  have k6148 : H6136 m 13 = H6113 m 13 := (f6141 m 13 _ gm rfl)
  have k6149 : H6136 x 8 = H6113 x 8 := (f6141 x 8 _ gx rfl)
  have k6150 : H6136 m 3 = H6113 m 3 := (f6141 m 3 _ gm rfl)
  have h6151 : XI T H6136 x m := (XI_fr w6117 gx f6141 rfl (XI_fr hW gx f6118 rfl hXI))
  exact WL.loc hX (by simp) (next T H6136 ⟨⟨w6140, g0, gx, gm, go, by omega, by omega⟩, h6151, by omega, by omega⟩ (by omega) (by omega))
set_option maxHeartbeats 4000000 in
theorem wl_c44 {kt : Nat → Option mc_E} {CB SB : Nat} {X : mc_S → Prop} {T : wq_T} {H : wq_H} {Len x m o : Nat} {i : Int} (hX : wlX kt CB SB X) (hb : T.2.1 ≤ CB ∧ T.2.2.1 ≤ SB) (hI : wlJ Len x m o T H) (hL : Len ≤ 3072) (hi : 0 ≤ i ∧ i + 6 ≤ Len) (hb2 : T.2.1 + 20 ≤ CB ∧ T.2.2.1 + 500 ≤ SB)  (next : ∀ T' H', wlJ Len x m o T' H' → T'.2.1 ≤ T.2.1 + 20 → T'.2.2.1 ≤ T.2.2.1 + 500 → WL kt CB SB X 1653 (wlL i x m o) [] T' H') : WL kt CB SB X 1504 (wlL i x m o) [] T H := by
  obtain ⟨⟨hW, g0, gx, gm, go, hK, hr⟩, hXI, hY1, hY2⟩ := hI
  refine wl_of hX hb cL_1504 (rw_aload_n (pc' := 1505) (v := .ref x) rfl rfl rfl ?_)
  refine wl_of hX hb cL_1505 (xc_V (pc' := 1508) (r := x) (as := []) (st := []) (lm_11_204) rfl rfl (Nat.le_of_ble_eq_true rfl) hW gx sh_1 (by decide) rfl (by decide) (s_158 hW gx) (fun R6152 T6153 H6154 p6155 => ?_))
  obtain ⟨e6156, w6158, f6159, z6160, e6157, b6161⟩ := p6155
  subst e6156
  subst e6157
  show WL _ _ _ _ 1508 [(4, vI i), (3, .ref o), (2, .ref m), (1, .ref x), (0, .ref 0)] [vI z6160] _ H6154
  refine wl_of hX hb cL_1508 (rw_pop (pc' := 1509) rfl rfl ?_)
  refine wl_of hX hb cL_1509 (rw_aload_n (pc' := 1510) (v := .ref m) rfl rfl rfl ?_)
  have k6162 : wKI H6154 m = wKI H m := (wKI_fr hW gm f6159 rfl)
  have k6163 : H6154 x 9 = H x 9 := (f6159 x 9 _ gx rfl)
  have k6164 : H6154 m 6 = H m 6 := (f6159 m 6 _ gm rfl)
  have k6165 : H6154 x 11 = H x 11 := (f6159 x 11 _ gx rfl)
  have k6166 : H6154 m 13 = H m 13 := (f6159 m 13 _ gm rfl)
  have k6167 : H6154 x 8 = H x 8 := (f6159 x 8 _ gx rfl)
  have k6168 : H6154 m 3 = H m 3 := (f6159 m 3 _ gm rfl)
  refine wl_of hX hb cL_1510 (xc_V (pc' := 1513) (r := m) (as := []) (st := []) (lm_11_208) rfl rfl (Nat.le_of_ble_eq_true rfl) w6158 gm sh_42 (by decide) rfl (by decide) (s_290 w6158 gm (by omega)) (fun R6169 T6170 H6171 p6172 => ?_))
  obtain ⟨e6173, w6175, f6176, z6178, e6174, b6179, p6177⟩ := p6172
  subst e6173
  subst e6174
  show WL _ _ _ _ 1513 [(4, vI i), (3, .ref o), (2, .ref m), (1, .ref x), (0, .ref 0)] [vI z6178] _ H6171
  refine wl_of hX hb cL_1513 (rw_pop (pc' := 1514) rfl rfl ?_)
  refine wl_of hX hb cL_1514 (rw_goto (p1 := 1653) (by decide) ?_)
  have k6180 : H6171 x 9 = H6154 x 9 := (f6176 x 9 _ gx rfl)
  have k6181 : H6171 m 6 = H6154 m 6 := (f6176 m 6 _ gm rfl)
  have k6182 : H6171 x 11 = H6154 x 11 := (f6176 x 11 _ gx rfl)
  have k6183 : H6171 m 13 = H6154 m 13 := (f6176 m 13 _ gm rfl)
  have k6184 : H6171 x 8 = H6154 x 8 := (f6176 x 8 _ gx rfl)
  have k6185 : H6171 m 3 = H6154 m 3 := (f6176 m 3 _ gm rfl)
  have h6186 : XI T H6171 x m := (XI_fr w6158 gx f6176 rfl (XI_fr hW gx f6159 rfl hXI))
  exact WL.loc hX (by simp) (next T H6171 ⟨⟨w6175, g0, gx, gm, go, by omega, by omega⟩, h6186, by omega, by omega⟩ (by omega) (by omega))
set_option maxHeartbeats 4000000 in
theorem wl_c45 {kt : Nat → Option mc_E} {CB SB : Nat} {X : mc_S → Prop} {T : wq_T} {H : wq_H} {Len x m o : Nat} {i : Int} (hX : wlX kt CB SB X) (hb : T.2.1 ≤ CB ∧ T.2.2.1 ≤ SB) (hI : wlJ Len x m o T H) (hL : Len ≤ 3072) (hi : 0 ≤ i ∧ i + 6 ≤ Len) (hb2 : T.2.1 + 20 ≤ CB ∧ T.2.2.1 + 500 ≤ SB)  (next : ∀ T' H', wlJ Len x m o T' H' → T'.2.1 ≤ T.2.1 + 20 → T'.2.2.1 ≤ T.2.2.1 + 500 → WL kt CB SB X 1653 (wlL i x m o) [] T' H') : WL kt CB SB X 1517 (wlL i x m o) [] T H := by
  obtain ⟨⟨hW, g0, gx, gm, go, hK, hr⟩, hXI, hY1, hY2⟩ := hI
  refine wl_of hX hb cL_1517 (rw_aload_n (pc' := 1518) (v := .ref x) rfl rfl rfl ?_)
  refine wl_of hX hb cL_1518 (xc_V (pc' := 1521) (r := x) (as := []) (st := []) (lm_11_209) rfl rfl (Nat.le_of_ble_eq_true rfl) hW gx sh_1 (by decide) rfl (by decide) (s_159 hW gx) (fun R6187 T6188 H6189 p6190 => ?_))
  obtain ⟨e6191, w6193, f6194, z6195, e6192, b6196⟩ := p6190
  subst e6191
  subst e6192
  show WL _ _ _ _ 1521 [(4, vI i), (3, .ref o), (2, .ref m), (1, .ref x), (0, .ref 0)] [vL z6195] _ H6189
  refine wl_of hX hb cL_1521 (rw_pop2 (pc' := 1522) rfl rfl ?_)
  refine wl_of hX hb cL_1522 (rw_aload_n (pc' := 1523) (v := .ref m) rfl rfl rfl ?_)
  have k6197 : wKI H6189 m = wKI H m := (wKI_fr hW gm f6194 rfl)
  have k6198 : H6189 x 9 = H x 9 := (f6194 x 9 _ gx rfl)
  have k6199 : H6189 m 6 = H m 6 := (f6194 m 6 _ gm rfl)
  have k6200 : H6189 x 11 = H x 11 := (f6194 x 11 _ gx rfl)
  have k6201 : H6189 m 13 = H m 13 := (f6194 m 13 _ gm rfl)
  have k6202 : H6189 x 8 = H x 8 := (f6194 x 8 _ gx rfl)
  have k6203 : H6189 m 3 = H m 3 := (f6194 m 3 _ gm rfl)
  refine wl_of hX hb cL_1523 (xc_V (pc' := 1526) (r := m) (as := []) (st := []) (lm_11_212) rfl rfl (Nat.le_of_ble_eq_true rfl) w6193 gm sh_42 (by decide) rfl (by decide) (s_291 w6193 gm (by omega)) (fun R6204 T6205 H6206 p6207 => ?_))
  obtain ⟨e6208, w6210, f6211, z6213, e6209, b6214, p6212⟩ := p6207
  subst e6208
  subst e6209
  show WL _ _ _ _ 1526 [(4, vI i), (3, .ref o), (2, .ref m), (1, .ref x), (0, .ref 0)] [vL z6213] _ H6206
  refine wl_of hX hb cL_1526 (rw_pop2 (pc' := 1527) rfl rfl ?_)
  refine wl_of hX hb cL_1527 (rw_goto (p1 := 1653) (by decide) ?_)
  have k6215 : H6206 x 9 = H6189 x 9 := (f6211 x 9 _ gx rfl)
  have k6216 : H6206 m 6 = H6189 m 6 := (f6211 m 6 _ gm rfl)
  have k6217 : H6206 x 11 = H6189 x 11 := (f6211 x 11 _ gx rfl)
  have k6218 : H6206 m 13 = H6189 m 13 := (f6211 m 13 _ gm rfl)
  have k6219 : H6206 x 8 = H6189 x 8 := (f6211 x 8 _ gx rfl)
  have k6220 : H6206 m 3 = H6189 m 3 := (f6211 m 3 _ gm rfl)
  have h6221 : XI T H6206 x m := (XI_fr w6193 gx f6211 rfl (XI_fr hW gx f6194 rfl hXI))
  exact WL.loc hX (by simp) (next T H6206 ⟨⟨w6210, g0, gx, gm, go, by omega, by omega⟩, h6221, by omega, by omega⟩ (by omega) (by omega))
set_option maxHeartbeats 4000000 in
theorem wl_c46 {kt : Nat → Option mc_E} {CB SB : Nat} {X : mc_S → Prop} {T : wq_T} {H : wq_H} {Len x m o : Nat} {i : Int} (hX : wlX kt CB SB X) (hb : T.2.1 ≤ CB ∧ T.2.2.1 ≤ SB) (hI : wlJ Len x m o T H) (hL : Len ≤ 3072) (hi : 0 ≤ i ∧ i + 6 ≤ Len) (hb2 : T.2.1 + 20 ≤ CB ∧ T.2.2.1 + 500 ≤ SB)  (next : ∀ T' H', wlJ Len x m o T' H' → T'.2.1 ≤ T.2.1 + 20 → T'.2.2.1 ≤ T.2.2.1 + 500 → WL kt CB SB X 1653 (wlL i x m o) [] T' H') : WL kt CB SB X 1530 (wlL i x m o) [] T H := by
  obtain ⟨⟨hW, g0, gx, gm, go, hK, hr⟩, hXI, hY1, hY2⟩ := hI
  refine wl_of hX hb cL_1530 (rw_aload_n (pc' := 1531) (v := .ref x) rfl rfl rfl ?_)
  refine wl_of hX hb cL_1531 (rw_aload_n (pc' := 1532) (v := .ref 0) rfl rfl rfl ?_)
  refine wl_of hX hb cL_1532 (rw_iload (pc' := 1534) (z := i) rfl rfl ?_)
  refine wl_of hX hb cL_1534 (rw_iconst (pc' := 1535) rfl ?_)
  refine wl_of hX hb cL_1535 (rw_iadd (pc' := 1536) rfl ?_)
  refine wl_of hX hb cL_1536 (xa_I (so := 0) (pc' := 1537) (a := 0) hW g0 (wsh_s _) (by omega) (wty_s _ _) (by omega) (by omega) rfl (fun b6222 b6223 => ?_))
  refine wl_of hX hb cL_1537 (rw_i2l (pc' := 1538) rfl ⟨by omega, by omega⟩ ?_)
  refine wl_of hX hb cL_1538 (rw_bipush (pc' := 1540) (z := 32) rfl (by decide) ?_)
  refine wl_of hX hb cL_1540 (rw_lshl (pc' := 1541) rfl ?_)
  obtain ⟨v6224, e6225⟩ : ∃ x : Int, x = wl_shl (H 0 ((i + 1).toNat)) 32 := ⟨_, rfl⟩
  rw [← e6225]
  have b6226 : -9223372036854775808 ≤ v6224 ∧ v6224 ≤ 9223372036854775807 := by
    rw [e6225]
    exact wL_shl _ _
  refine wl_of hX hb cL_1541 (rw_aload_n (pc' := 1542) (v := .ref 0) rfl rfl rfl ?_)
  refine wl_of hX hb cL_1542 (rw_iload (pc' := 1544) (z := i) rfl rfl ?_)
  refine wl_of hX hb cL_1544 (rw_iconst (pc' := 1545) rfl ?_)
  refine wl_of hX hb cL_1545 (rw_iadd (pc' := 1546) rfl ?_)
  refine wl_of hX hb cL_1546 (xa_I (so := 0) (pc' := 1547) (a := 0) hW g0 (wsh_s _) (by omega) (wty_s _ _) (by omega) (by omega) rfl (fun b6227 b6228 => ?_))
  refine wl_of hX hb cL_1547 (rw_i2l (pc' := 1548) rfl ⟨by omega, by omega⟩ ?_)
  refine wl_of hX hb cL_1548 (rw_ldc2 (pc' := 1551) (z := 4294967295) rfl rfl rfl ?_)
  refine wl_of hX hb cL_1551 (rw_land (pc' := 1552) rfl ?_)
  obtain ⟨v6229, e6230⟩ : ∃ x : Int, x = wl_and (H 0 ((i + 2).toNat)) 4294967295 := ⟨_, rfl⟩
  rw [← e6230]
  have b6231 : -9223372036854775808 ≤ v6229 ∧ v6229 ≤ 9223372036854775807 := by
    rw [e6230]
    exact wL_and _ _
  refine wl_of hX hb cL_1552 (rw_lor (pc' := 1553) rfl ?_)
  obtain ⟨v6232, e6233⟩ : ∃ x : Int, x = wl_or v6224 v6229 := ⟨_, rfl⟩
  rw [← e6233]
  have b6234 : -9223372036854775808 ≤ v6232 ∧ v6232 ≤ 9223372036854775807 := by
    rw [e6233]
    exact wL_or _ _
  obtain ⟨B, tc, tm, cu, dr, C8, e8, d8, n8, g8, ce8, e0, gtc, htc, em, gtm, htm, ecu, gcu, edr, gdr, hcu, hdr, hdec, hded, hsp, hC1, hC2, hcu8, hrb8, hcg8, hmn8, hE, hZ, hn8, hXA, hV8, hSG, ece8, gce8, hcen8, hhdr8, hknn8, -⟩ := hXI
  have hN3 := RB_n3 hrb8
  have hE13 : ∀ h : Nat, h < 24 → 0 ≤ e8 13 h ∧ e8 13 h ≤ 100 := fun k hk => by
    obtain ⟨s, h1, h2, h3⟩ := hcu8.1.2.2.1
    exact ⟨(h3 k hk).1, (h3 k hk).2.1⟩
  have hXW := hXA.1
  have hXN := hXA.2
  have hE0 : e8 0 3 = d8 0 3 ∧ e8 0 0 = d8 0 0 := by
    have h := hE 0 (by decide)
    exact ⟨congrFun h 3, congrFun h 0⟩
  have u6235 := CU_k hcu8
  have h6236 : CY T H cu (d8 0 3) g8 (H cu 17) := ⟨hcg8, rfl⟩
  have h6237 : RY T H m (d8 0 3) g8 (H m 32) := ⟨hmn8, rfl⟩
  obtain ⟨t9, ht9⟩ : ∃ t : Int, t = H x 9 := ⟨_, rfl⟩
  refine wl_of hX hb cL_1553 (xc_V (pc' := 1556) (r := x) (as := [vL v6232]) (st := []) (lm_11_215) rfl rfl (Nat.le_of_ble_eq_true rfl) hW gx sh_1 (by decide) rfl (by decide) (u_161 (e := e8) (d := d8) (n := n8) (nY := ((d8 0 3))) (gY := g8) (cY := ((H cu 17))) hW gx ⟨b6234.1, b6234.2⟩ ecu gcu (by omega) (by omega) (by omega) hcu8 h6236 hcu) (fun R6238 T6239 H6240 p6241 => ?_))
  obtain ⟨e6242, w6244, f6245, z6246, e6243, b6247, p6248⟩ := p6241
  subst e6242
  subst e6243
  rcases p6248 with ⟨a6249, a6250, a6251, a6252, a6253⟩ | ⟨a6254, a6255, a6256⟩
  · show WL _ _ _ _ 1556 [(4, vI i), (3, .ref o), (2, .ref m), (1, .ref x), (0, .ref 0)] [vI z6246] _ H6240
    refine wl_of hX hb cL_1556 (rw_pop (pc' := 1557) rfl rfl ?_)
    refine wl_of hX hb cL_1557 (rw_aload_n (pc' := 1558) (v := .ref m) rfl rfl rfl ?_)
    refine wl_of hX hb cL_1558 (rw_aload_n (pc' := 1559) (v := .ref 0) rfl rfl rfl ?_)
    refine wl_of hX hb cL_1559 (rw_iload (pc' := 1561) (z := i) rfl rfl ?_)
    refine wl_of hX hb cL_1561 (rw_iconst (pc' := 1562) rfl ?_)
    refine wl_of hX hb cL_1562 (rw_iadd (pc' := 1563) rfl ?_)
    have k6259 : H6240 0 ((i + 1).toNat) = H 0 ((i + 1).toNat) := (f6245 0 ((i + 1).toNat) _ g0 (wmem_s rfl))
    refine wl_of hX hb cL_1563 (xa_I (so := 0) (pc' := 1564) (a := 0) w6244 g0 (wsh_s _) (by omega) (wty_s _ _) (by omega) (by omega) rfl (fun b6257 b6258 => ?_))
    refine wl_of hX hb cL_1564 (rw_i2l (pc' := 1565) rfl ⟨by omega, by omega⟩ ?_)
    refine wl_of hX hb cL_1565 (rw_bipush (pc' := 1567) (z := 32) rfl (by decide) ?_)
    refine wl_of hX hb cL_1567 (rw_lshl (pc' := 1568) rfl ?_)
    obtain ⟨v6260, e6261⟩ : ∃ x : Int, x = wl_shl (H6240 0 ((i + 1).toNat)) 32 := ⟨_, rfl⟩
    rw [← e6261]
    have b6262 : -9223372036854775808 ≤ v6260 ∧ v6260 ≤ 9223372036854775807 := by
      rw [e6261]
      exact wL_shl _ _
    refine wl_of hX hb cL_1568 (rw_aload_n (pc' := 1569) (v := .ref 0) rfl rfl rfl ?_)
    refine wl_of hX hb cL_1569 (rw_iload (pc' := 1571) (z := i) rfl rfl ?_)
    refine wl_of hX hb cL_1571 (rw_iconst (pc' := 1572) rfl ?_)
    refine wl_of hX hb cL_1572 (rw_iadd (pc' := 1573) rfl ?_)
    have k6265 : H6240 0 ((i + 2).toNat) = H 0 ((i + 2).toNat) := (f6245 0 ((i + 2).toNat) _ g0 (wmem_s rfl))
    refine wl_of hX hb cL_1573 (xa_I (so := 0) (pc' := 1574) (a := 0) w6244 g0 (wsh_s _) (by omega) (wty_s _ _) (by omega) (by omega) rfl (fun b6263 b6264 => ?_))
    refine wl_of hX hb cL_1574 (rw_i2l (pc' := 1575) rfl ⟨by omega, by omega⟩ ?_)
    refine wl_of hX hb cL_1575 (rw_ldc2 (pc' := 1578) (z := 4294967295) rfl rfl rfl ?_)
    refine wl_of hX hb cL_1578 (rw_land (pc' := 1579) rfl ?_)
    obtain ⟨v6266, e6267⟩ : ∃ x : Int, x = wl_and (H6240 0 ((i + 2).toNat)) 4294967295 := ⟨_, rfl⟩
    rw [← e6267]
    have b6268 : -9223372036854775808 ≤ v6266 ∧ v6266 ≤ 9223372036854775807 := by
      rw [e6267]
      exact wL_and _ _
    refine wl_of hX hb cL_1579 (rw_lor (pc' := 1580) rfl ?_)
    obtain ⟨v6269, e6270⟩ : ∃ x : Int, x = wl_or v6260 v6266 := ⟨_, rfl⟩
    rw [← e6270]
    have b6271 : -9223372036854775808 ≤ v6269 ∧ v6269 ≤ 9223372036854775807 := by
      rw [e6270]
      exact wL_or _ _
    have k6272 : wKI H6240 m = wKI H m := (wKI_fr hW gm f6245 rfl)
    have k6273 : H6240 x 9 = H x 9 := (f6245 x 9 _ gx rfl)
    have k6274 : H6240 m 6 = H m 6 := (f6245 m 6 _ gm rfl)
    have k6275 : H6240 x 11 = H x 11 := (f6245 x 11 _ gx rfl)
    have k6276 : H6240 m 13 = H m 13 := (f6245 m 13 _ gm rfl)
    have k6277 : H6240 x 8 = H x 8 := (f6245 x 8 _ gx rfl)
    have k6278 : H6240 m 3 = H m 3 := (f6245 m 3 _ gm rfl)
    have rs9 : v6269 = v6232 := by
      rw [e6270, e6261, e6267, e6233, e6225, e6230, show H6240 0 ((i + 1).toNat) = H 0 ((i + 1).toNat) by omega, show H6240 0 ((i + 2).toNat) = H 0 ((i + 2).toNat) by omega]
    rw [rs9]
    have h6279 : RB T H6240 m e8 d8 := (RB_fr hW gm f6245 rfl hrb8)
    have h6280 : RY T H6240 m (d8 0 3) g8 (H m 32) := (RY_fr hW gm f6245 rfl h6237)
    refine wl_of hX hb cL_1580 (xc_V (pc' := 1583) (r := m) (as := [vL v6232]) (st := []) (lm_11_219) rfl rfl (Nat.le_of_ble_eq_true rfl) w6244 gm sh_42 (by decide) rfl (by decide) (u_292 (e := e8) (d := d8) (nY := ((d8 0 3))) (gY := g8) (cY := ((H m 32))) w6244 gm ⟨b6234.1, b6234.2⟩ (by omega) h6279 h6280) (fun R6281 T6282 H6283 p6284 => ?_))
    obtain ⟨e6285, w6287, f6288, z6289, e6286, b6290, p6291⟩ := p6284
    subst e6285
    subst e6286
    rcases p6291 with ⟨a6292, a6293, a6294, a6295⟩ | ⟨a6296, a6297, a6298⟩
    · show WL _ _ _ _ 1583 [(4, vI i), (3, .ref o), (2, .ref m), (1, .ref x), (0, .ref 0)] [vI z6289] _ H6283
      refine wl_of hX hb cL_1583 (rw_pop (pc' := 1584) rfl rfl ?_)
      refine wl_of hX hb cL_1584 (rw_goto (p1 := 1653) (by decide) ?_)
      have k6299 : wKI H6283 m = wKI H6240 m := (wKI_fr w6244 gm f6288 rfl)
      have k6300 : H6283 x 9 = H6240 x 9 := (f6288 x 9 _ gx rfl)
      have k6301 : H6283 m 6 = H6240 m 6 := (f6288 m 6 _ gm rfl)
      have k6302 : H6283 x 11 = H6240 x 11 := (f6288 x 11 _ gx rfl)
      have k6303 : H6283 m 13 = H6240 m 13 := (f6288 m 13 _ gm rfl)
      have k6304 : H6283 x 8 = H6240 x 8 := (f6288 x 8 _ gx rfl)
      have k6305 : H6283 m 3 = H6240 m 3 := (f6288 m 3 _ gm rfl)
      have k6306 : H6283 x 0 = H x 0 := ((f6288 x 0 _ gx rfl).trans (f6245 x 0 _ gx rfl))
      have q6307 : H6283 x 0 = (tc : Int) := k6306.trans e0
      have k6308 : H6283 m 5 = H m 5 := ((f6288 m 5 _ gm rfl).trans (f6245 m 5 _ gm rfl))
      have q6309 : H6283 m 5 = (tm : Int) := k6308.trans em
      have k6310 : H6283 x 6 = H x 6 := ((f6288 x 6 _ gx rfl).trans (f6245 x 6 _ gx rfl))
      have q6311 : H6283 x 6 = (cu : Int) := k6310.trans ecu
      have k6312 : H6283 x 7 = H x 7 := ((f6288 x 7 _ gx rfl).trans (f6245 x 7 _ gx rfl))
      have q6313 : H6283 x 7 = (dr : Int) := k6312.trans edr
      have h6314 : CEN T H6283 ce8 e8 d8 := (CEN_fr w6244 gce8 f6288 rfl (CEN_fr hW gce8 f6245 rfl hcen8))
      have h6315 : TP T H6283 tc B := (TP_fr w6244 gtc f6288 rfl (TP_fr hW gtc f6245 rfl htc))
      have h6316 : TM T H6283 tm B := (TM_fr w6244 gtm f6288 rfl (TM_fr hW gtm f6245 rfl htm))
      have h6317 : DD T H6283 cu  := (DD_fr w6244 gcu f6288 rfl (DD_fr hW gcu f6245 rfl hcu))
      have h6318 : DD T H6283 dr  := (DD_fr w6244 gdr f6288 rfl (DD_fr hW gdr f6245 rfl hdr))
      have h6319 : DE T H6283 cu  := (DE_fr w6244 gcu f6288 rfl (DE_fr hW gcu f6245 rfl hdec))
      have h6320 : DE T H6283 dr  := (DE_fr w6244 gdr f6288 rfl (DE_fr hW gdr f6245 rfl hded))
      have h6321 : SP T H6283 x C8 := (SP_fr w6244 gx f6288 rfl (SP_fr hW gx f6245 rfl hsp))
      have h6322 : CU T H6283 cu e8 d8 n8 := (CU_fr w6244 gcu f6288 rfl (CU_fr hW gcu f6245 rfl hcu8))
      have h6323 : CY T H6283 cu ((d8 0 3)) (xdg d8 v6232) (wdv (d8 0 3).toNat v6232) := (CY_fr w6244 gcu f6288 rfl a6253)
      have k6324 : H6283 x 3 = H x 3 := ((f6288 x 3 _ gx rfl).trans (f6245 x 3 _ gx rfl))
      have q6325 : H6283 x 3 = (ce8 : Int) := k6324.trans ece8
      have h6326 : HDR T H6283 ce8  := (HDR_fr w6244 gce8 f6288 rfl (HDR_fr hW gce8 f6245 rfl hhdr8))
      have h6327 : KNN T H6283 m e8 d8 := (KNN_fr w6244 gm f6288 rfl (KNN_fr hW gm f6245 rfl hknn8))
      have h6328 : RB T H6283 m e8 d8 := (RB_fr w6244 gm f6288 rfl h6279)
      exact WL.loc hX (by simp) (next T H6283 ⟨⟨w6287, g0, gx, gm, go, by omega, by omega⟩, ⟨_, tc, tm, cu, dr, _, _, _, _, _, ce8, q6307, gtc, h6315, q6309, gtm, h6316, q6311, gcu, q6313, gdr, h6317, h6318, h6319, h6320, h6321, hC1, hC2, h6322, h6328, (h6323).1, (a6295).1, hE, hZ, (by omega), (by assumption), (by omega), (by first | assumption | exact SG_0), q6325, gce8, h6314, h6326, h6327, gm⟩, by omega, by omega⟩ (by omega) (by omega))
    · show WL _ _ _ _ 1583 [(4, vI i), (3, .ref o), (2, .ref m), (1, .ref x), (0, .ref 0)] [vI z6289] _ H6283
      refine wl_of hX hb cL_1583 (rw_pop (pc' := 1584) rfl rfl ?_)
      refine wl_of hX hb cL_1584 (rw_goto (p1 := 1653) (by decide) ?_)
      have k6329 : wKI H6283 m = wKI H6240 m := (wKI_fr w6244 gm f6288 rfl)
      have k6330 : H6283 x 9 = H6240 x 9 := (f6288 x 9 _ gx rfl)
      have k6331 : H6283 m 6 = H6240 m 6 := (f6288 m 6 _ gm rfl)
      have k6332 : H6283 x 11 = H6240 x 11 := (f6288 x 11 _ gx rfl)
      have k6333 : H6283 m 13 = H6240 m 13 := (f6288 m 13 _ gm rfl)
      have k6334 : H6283 x 8 = H6240 x 8 := (f6288 x 8 _ gx rfl)
      have k6335 : H6283 m 3 = H6240 m 3 := (f6288 m 3 _ gm rfl)
      have k6336 : H6283 x 0 = H x 0 := ((f6288 x 0 _ gx rfl).trans (f6245 x 0 _ gx rfl))
      have q6337 : H6283 x 0 = (tc : Int) := k6336.trans e0
      have k6338 : H6283 m 5 = H m 5 := ((f6288 m 5 _ gm rfl).trans (f6245 m 5 _ gm rfl))
      have q6339 : H6283 m 5 = (tm : Int) := k6338.trans em
      have k6340 : H6283 x 6 = H x 6 := ((f6288 x 6 _ gx rfl).trans (f6245 x 6 _ gx rfl))
      have q6341 : H6283 x 6 = (cu : Int) := k6340.trans ecu
      have k6342 : H6283 x 7 = H x 7 := ((f6288 x 7 _ gx rfl).trans (f6245 x 7 _ gx rfl))
      have q6343 : H6283 x 7 = (dr : Int) := k6342.trans edr
      have h6344 : CEN T H6283 ce8 e8 d8 := (CEN_fr w6244 gce8 f6288 rfl (CEN_fr hW gce8 f6245 rfl hcen8))
      have h6345 : TP T H6283 tc B := (TP_fr w6244 gtc f6288 rfl (TP_fr hW gtc f6245 rfl htc))
      have h6346 : TM T H6283 tm B := (TM_fr w6244 gtm f6288 rfl (TM_fr hW gtm f6245 rfl htm))
      have h6347 : DD T H6283 cu  := (DD_fr w6244 gcu f6288 rfl (DD_fr hW gcu f6245 rfl hcu))
      have h6348 : DD T H6283 dr  := (DD_fr w6244 gdr f6288 rfl (DD_fr hW gdr f6245 rfl hdr))
      have h6349 : DE T H6283 cu  := (DE_fr w6244 gcu f6288 rfl (DE_fr hW gcu f6245 rfl hdec))
      have h6350 : DE T H6283 dr  := (DE_fr w6244 gdr f6288 rfl (DE_fr hW gdr f6245 rfl hded))
      have h6351 : SP T H6283 x C8 := (SP_fr w6244 gx f6288 rfl (SP_fr hW gx f6245 rfl hsp))
      have h6352 : CU T H6283 cu e8 d8 n8 := (CU_fr w6244 gcu f6288 rfl (CU_fr hW gcu f6245 rfl hcu8))
      have h6353 : CY T H6283 cu ((d8 0 3)) (xdg d8 v6232) (wdv (d8 0 3).toNat v6232) := (CY_fr w6244 gcu f6288 rfl a6253)
      have k6354 : H6283 x 3 = H x 3 := ((f6288 x 3 _ gx rfl).trans (f6245 x 3 _ gx rfl))
      have q6355 : H6283 x 3 = (ce8 : Int) := k6354.trans ece8
      have h6356 : HDR T H6283 ce8  := (HDR_fr w6244 gce8 f6288 rfl (HDR_fr hW gce8 f6245 rfl hhdr8))
      have h6357 : KNN T H6283 m e8 d8 := (KNN_fr w6244 gm f6288 rfl (KNN_fr hW gm f6245 rfl hknn8))
      exfalso
      omega
  · show WL _ _ _ _ 1556 [(4, vI i), (3, .ref o), (2, .ref m), (1, .ref x), (0, .ref 0)] [vI z6246] _ H6240
    refine wl_of hX hb cL_1556 (rw_pop (pc' := 1557) rfl rfl ?_)
    refine wl_of hX hb cL_1557 (rw_aload_n (pc' := 1558) (v := .ref m) rfl rfl rfl ?_)
    refine wl_of hX hb cL_1558 (rw_aload_n (pc' := 1559) (v := .ref 0) rfl rfl rfl ?_)
    refine wl_of hX hb cL_1559 (rw_iload (pc' := 1561) (z := i) rfl rfl ?_)
    refine wl_of hX hb cL_1561 (rw_iconst (pc' := 1562) rfl ?_)
    refine wl_of hX hb cL_1562 (rw_iadd (pc' := 1563) rfl ?_)
    have k6360 : H6240 0 ((i + 1).toNat) = H 0 ((i + 1).toNat) := (f6245 0 ((i + 1).toNat) _ g0 (wmem_s rfl))
    refine wl_of hX hb cL_1563 (xa_I (so := 0) (pc' := 1564) (a := 0) w6244 g0 (wsh_s _) (by omega) (wty_s _ _) (by omega) (by omega) rfl (fun b6358 b6359 => ?_))
    refine wl_of hX hb cL_1564 (rw_i2l (pc' := 1565) rfl ⟨by omega, by omega⟩ ?_)
    refine wl_of hX hb cL_1565 (rw_bipush (pc' := 1567) (z := 32) rfl (by decide) ?_)
    refine wl_of hX hb cL_1567 (rw_lshl (pc' := 1568) rfl ?_)
    obtain ⟨v6361, e6362⟩ : ∃ x : Int, x = wl_shl (H6240 0 ((i + 1).toNat)) 32 := ⟨_, rfl⟩
    rw [← e6362]
    have b6363 : -9223372036854775808 ≤ v6361 ∧ v6361 ≤ 9223372036854775807 := by
      rw [e6362]
      exact wL_shl _ _
    refine wl_of hX hb cL_1568 (rw_aload_n (pc' := 1569) (v := .ref 0) rfl rfl rfl ?_)
    refine wl_of hX hb cL_1569 (rw_iload (pc' := 1571) (z := i) rfl rfl ?_)
    refine wl_of hX hb cL_1571 (rw_iconst (pc' := 1572) rfl ?_)
    refine wl_of hX hb cL_1572 (rw_iadd (pc' := 1573) rfl ?_)
    have k6366 : H6240 0 ((i + 2).toNat) = H 0 ((i + 2).toNat) := (f6245 0 ((i + 2).toNat) _ g0 (wmem_s rfl))
    refine wl_of hX hb cL_1573 (xa_I (so := 0) (pc' := 1574) (a := 0) w6244 g0 (wsh_s _) (by omega) (wty_s _ _) (by omega) (by omega) rfl (fun b6364 b6365 => ?_))
    refine wl_of hX hb cL_1574 (rw_i2l (pc' := 1575) rfl ⟨by omega, by omega⟩ ?_)
    refine wl_of hX hb cL_1575 (rw_ldc2 (pc' := 1578) (z := 4294967295) rfl rfl rfl ?_)
    refine wl_of hX hb cL_1578 (rw_land (pc' := 1579) rfl ?_)
    obtain ⟨v6367, e6368⟩ : ∃ x : Int, x = wl_and (H6240 0 ((i + 2).toNat)) 4294967295 := ⟨_, rfl⟩
    rw [← e6368]
    have b6369 : -9223372036854775808 ≤ v6367 ∧ v6367 ≤ 9223372036854775807 := by
      rw [e6368]
      exact wL_and _ _
    refine wl_of hX hb cL_1579 (rw_lor (pc' := 1580) rfl ?_)
    obtain ⟨v6370, e6371⟩ : ∃ x : Int, x = wl_or v6361 v6367 := ⟨_, rfl⟩
    rw [← e6371]
    have b6372 : -9223372036854775808 ≤ v6370 ∧ v6370 ≤ 9223372036854775807 := by
      rw [e6371]
      exact wL_or _ _
    have k6373 : wKI H6240 m = wKI H m := (wKI_fr hW gm f6245 rfl)
    have k6374 : H6240 x 9 = H x 9 := (f6245 x 9 _ gx rfl)
    have k6375 : H6240 m 6 = H m 6 := (f6245 m 6 _ gm rfl)
    have k6376 : H6240 x 11 = H x 11 := (f6245 x 11 _ gx rfl)
    have k6377 : H6240 m 13 = H m 13 := (f6245 m 13 _ gm rfl)
    have k6378 : H6240 x 8 = H x 8 := (f6245 x 8 _ gx rfl)
    have k6379 : H6240 m 3 = H m 3 := (f6245 m 3 _ gm rfl)
    have rs9 : v6370 = v6232 := by
      rw [e6371, e6362, e6368, e6233, e6225, e6230, show H6240 0 ((i + 1).toNat) = H 0 ((i + 1).toNat) by omega, show H6240 0 ((i + 2).toNat) = H 0 ((i + 2).toNat) by omega]
    rw [rs9]
    have h6380 : RB T H6240 m e8 d8 := (RB_fr hW gm f6245 rfl hrb8)
    have h6381 : RY T H6240 m (d8 0 3) g8 (H m 32) := (RY_fr hW gm f6245 rfl h6237)
    refine wl_of hX hb cL_1580 (xc_V (pc' := 1583) (r := m) (as := [vL v6232]) (st := []) (lm_11_219) rfl rfl (Nat.le_of_ble_eq_true rfl) w6244 gm sh_42 (by decide) rfl (by decide) (u_292 (e := e8) (d := d8) (nY := ((d8 0 3))) (gY := g8) (cY := ((H m 32))) w6244 gm ⟨b6234.1, b6234.2⟩ (by omega) h6380 h6381) (fun R6382 T6383 H6384 p6385 => ?_))
    obtain ⟨e6386, w6388, f6389, z6390, e6387, b6391, p6392⟩ := p6385
    subst e6386
    subst e6387
    rcases p6392 with ⟨a6393, a6394, a6395, a6396⟩ | ⟨a6397, a6398, a6399⟩
    · show WL _ _ _ _ 1583 [(4, vI i), (3, .ref o), (2, .ref m), (1, .ref x), (0, .ref 0)] [vI z6390] _ H6384
      refine wl_of hX hb cL_1583 (rw_pop (pc' := 1584) rfl rfl ?_)
      refine wl_of hX hb cL_1584 (rw_goto (p1 := 1653) (by decide) ?_)
      have k6400 : wKI H6384 m = wKI H6240 m := (wKI_fr w6244 gm f6389 rfl)
      have k6401 : H6384 x 9 = H6240 x 9 := (f6389 x 9 _ gx rfl)
      have k6402 : H6384 m 6 = H6240 m 6 := (f6389 m 6 _ gm rfl)
      have k6403 : H6384 x 11 = H6240 x 11 := (f6389 x 11 _ gx rfl)
      have k6404 : H6384 m 13 = H6240 m 13 := (f6389 m 13 _ gm rfl)
      have k6405 : H6384 x 8 = H6240 x 8 := (f6389 x 8 _ gx rfl)
      have k6406 : H6384 m 3 = H6240 m 3 := (f6389 m 3 _ gm rfl)
      have k6407 : H6384 x 0 = H x 0 := ((f6389 x 0 _ gx rfl).trans (f6245 x 0 _ gx rfl))
      have q6408 : H6384 x 0 = (tc : Int) := k6407.trans e0
      have k6409 : H6384 m 5 = H m 5 := ((f6389 m 5 _ gm rfl).trans (f6245 m 5 _ gm rfl))
      have q6410 : H6384 m 5 = (tm : Int) := k6409.trans em
      have k6411 : H6384 x 6 = H x 6 := ((f6389 x 6 _ gx rfl).trans (f6245 x 6 _ gx rfl))
      have q6412 : H6384 x 6 = (cu : Int) := k6411.trans ecu
      have k6413 : H6384 x 7 = H x 7 := ((f6389 x 7 _ gx rfl).trans (f6245 x 7 _ gx rfl))
      have q6414 : H6384 x 7 = (dr : Int) := k6413.trans edr
      have h6415 : CEN T H6384 ce8 e8 d8 := (CEN_fr w6244 gce8 f6389 rfl (CEN_fr hW gce8 f6245 rfl hcen8))
      have h6416 : TP T H6384 tc B := (TP_fr w6244 gtc f6389 rfl (TP_fr hW gtc f6245 rfl htc))
      have h6417 : TM T H6384 tm B := (TM_fr w6244 gtm f6389 rfl (TM_fr hW gtm f6245 rfl htm))
      have h6418 : DD T H6384 cu  := (DD_fr w6244 gcu f6389 rfl (DD_fr hW gcu f6245 rfl hcu))
      have h6419 : DD T H6384 dr  := (DD_fr w6244 gdr f6389 rfl (DD_fr hW gdr f6245 rfl hdr))
      have h6420 : DE T H6384 cu  := (DE_fr w6244 gcu f6389 rfl (DE_fr hW gcu f6245 rfl hdec))
      have h6421 : DE T H6384 dr  := (DE_fr w6244 gdr f6389 rfl (DE_fr hW gdr f6245 rfl hded))
      have h6422 : SP T H6384 x C8 := (SP_fr w6244 gx f6389 rfl (SP_fr hW gx f6245 rfl hsp))
      have h6423 : CU T H6384 cu e8 d8 n8 := (CU_fr w6244 gcu f6389 rfl (CU_fr hW gcu f6245 rfl hcu8))
      have h6424 : CY T H6384 cu ((d8 0 3)) g8 ((H cu 17)) := (CY_fr w6244 gcu f6389 rfl a6256)
      have k6425 : H6384 x 3 = H x 3 := ((f6389 x 3 _ gx rfl).trans (f6245 x 3 _ gx rfl))
      have q6426 : H6384 x 3 = (ce8 : Int) := k6425.trans ece8
      have h6427 : HDR T H6384 ce8  := (HDR_fr w6244 gce8 f6389 rfl (HDR_fr hW gce8 f6245 rfl hhdr8))
      have h6428 : KNN T H6384 m e8 d8 := (KNN_fr w6244 gm f6389 rfl (KNN_fr hW gm f6245 rfl hknn8))
      exfalso
      omega
    · show WL _ _ _ _ 1583 [(4, vI i), (3, .ref o), (2, .ref m), (1, .ref x), (0, .ref 0)] [vI z6390] _ H6384
      refine wl_of hX hb cL_1583 (rw_pop (pc' := 1584) rfl rfl ?_)
      refine wl_of hX hb cL_1584 (rw_goto (p1 := 1653) (by decide) ?_)
      have k6429 : wKI H6384 m = wKI H6240 m := (wKI_fr w6244 gm f6389 rfl)
      have k6430 : H6384 x 9 = H6240 x 9 := (f6389 x 9 _ gx rfl)
      have k6431 : H6384 m 6 = H6240 m 6 := (f6389 m 6 _ gm rfl)
      have k6432 : H6384 x 11 = H6240 x 11 := (f6389 x 11 _ gx rfl)
      have k6433 : H6384 m 13 = H6240 m 13 := (f6389 m 13 _ gm rfl)
      have k6434 : H6384 x 8 = H6240 x 8 := (f6389 x 8 _ gx rfl)
      have k6435 : H6384 m 3 = H6240 m 3 := (f6389 m 3 _ gm rfl)
      have k6436 : H6384 x 0 = H x 0 := ((f6389 x 0 _ gx rfl).trans (f6245 x 0 _ gx rfl))
      have q6437 : H6384 x 0 = (tc : Int) := k6436.trans e0
      have k6438 : H6384 m 5 = H m 5 := ((f6389 m 5 _ gm rfl).trans (f6245 m 5 _ gm rfl))
      have q6439 : H6384 m 5 = (tm : Int) := k6438.trans em
      have k6440 : H6384 x 6 = H x 6 := ((f6389 x 6 _ gx rfl).trans (f6245 x 6 _ gx rfl))
      have q6441 : H6384 x 6 = (cu : Int) := k6440.trans ecu
      have k6442 : H6384 x 7 = H x 7 := ((f6389 x 7 _ gx rfl).trans (f6245 x 7 _ gx rfl))
      have q6443 : H6384 x 7 = (dr : Int) := k6442.trans edr
      have h6444 : CEN T H6384 ce8 e8 d8 := (CEN_fr w6244 gce8 f6389 rfl (CEN_fr hW gce8 f6245 rfl hcen8))
      have h6445 : TP T H6384 tc B := (TP_fr w6244 gtc f6389 rfl (TP_fr hW gtc f6245 rfl htc))
      have h6446 : TM T H6384 tm B := (TM_fr w6244 gtm f6389 rfl (TM_fr hW gtm f6245 rfl htm))
      have h6447 : DD T H6384 cu  := (DD_fr w6244 gcu f6389 rfl (DD_fr hW gcu f6245 rfl hcu))
      have h6448 : DD T H6384 dr  := (DD_fr w6244 gdr f6389 rfl (DD_fr hW gdr f6245 rfl hdr))
      have h6449 : DE T H6384 cu  := (DE_fr w6244 gcu f6389 rfl (DE_fr hW gcu f6245 rfl hdec))
      have h6450 : DE T H6384 dr  := (DE_fr w6244 gdr f6389 rfl (DE_fr hW gdr f6245 rfl hded))
      have h6451 : SP T H6384 x C8 := (SP_fr w6244 gx f6389 rfl (SP_fr hW gx f6245 rfl hsp))
      have h6452 : CU T H6384 cu e8 d8 n8 := (CU_fr w6244 gcu f6389 rfl (CU_fr hW gcu f6245 rfl hcu8))
      have h6453 : CY T H6384 cu ((d8 0 3)) g8 ((H cu 17)) := (CY_fr w6244 gcu f6389 rfl a6256)
      have k6454 : H6384 x 3 = H x 3 := ((f6389 x 3 _ gx rfl).trans (f6245 x 3 _ gx rfl))
      have q6455 : H6384 x 3 = (ce8 : Int) := k6454.trans ece8
      have h6456 : HDR T H6384 ce8  := (HDR_fr w6244 gce8 f6389 rfl (HDR_fr hW gce8 f6245 rfl hhdr8))
      have h6457 : KNN T H6384 m e8 d8 := (KNN_fr w6244 gm f6389 rfl (KNN_fr hW gm f6245 rfl hknn8))
      have h6458 : RB T H6384 m e8 d8 := (RB_fr w6244 gm f6389 rfl h6380)
      exact WL.loc hX (by simp) (next T H6384 ⟨⟨w6388, g0, gx, gm, go, by omega, by omega⟩, ⟨_, tc, tm, cu, dr, _, _, _, _, _, ce8, q6437, gtc, h6445, q6439, gtm, h6446, q6441, gcu, q6443, gdr, h6447, h6448, h6449, h6450, h6451, hC1, hC2, h6452, h6458, (h6453).1, (a6399).1, hE, hZ, (by omega), (by assumption), (by omega), (by first | assumption | exact SG_0), q6455, gce8, h6444, h6456, h6457, gm⟩, by omega, by omega⟩ (by omega) (by omega))
set_option maxHeartbeats 4000000 in
theorem wl_c47 {kt : Nat → Option mc_E} {CB SB : Nat} {X : mc_S → Prop} {T : wq_T} {H : wq_H} {Len x m o : Nat} {i : Int} (hX : wlX kt CB SB X) (hb : T.2.1 ≤ CB ∧ T.2.2.1 ≤ SB) (hI : wlJ Len x m o T H) (hL : Len ≤ 3072) (hi : 0 ≤ i ∧ i + 6 ≤ Len) (hb2 : T.2.1 + 20 ≤ CB ∧ T.2.2.1 + 500 ≤ SB) (hled : ∀ {z : Int}, wI z → T.2.1 ≤ CB ∧ T.2.2.1 ≤ SB → wlJ Len x m o T H → (∀ (z' : Int), wI z' → ∀ (T' : wq_T) (H' : wq_H), wlJ Len x m o T' H' → T'.2.1 ≤ T.2.1 + 20 → T'.2.2.1 ≤ T.2.2.1 + 500 → WL kt CB SB X 1598 (wlL i x m o) [vI z'] T' H') → WL kt CB SB X 1595 (wlL i x m o) [.ref o, vI z, .ref x] T H) (next : ∀ T' H', wlJ Len x m o T' H' → T'.2.1 ≤ T.2.1 + 20 → T'.2.2.1 ≤ T.2.2.1 + 500 → WL kt CB SB X 1653 (wlL i x m o) [] T' H') : WL kt CB SB X 1587 (wlL i x m o) [] T H := by
  obtain ⟨⟨hW, g0, gx, gm, go, hK, hr⟩, hXI, hY1, hY2⟩ := hI
  refine wl_of hX hb cL_1587 (rw_aload_n (pc' := 1588) (v := .ref x) rfl rfl rfl ?_)
  refine wl_of hX hb cL_1588 (rw_aload_n (pc' := 1589) (v := .ref 0) rfl rfl rfl ?_)
  refine wl_of hX hb cL_1589 (rw_iload (pc' := 1591) (z := i) rfl rfl ?_)
  refine wl_of hX hb cL_1591 (rw_iconst (pc' := 1592) rfl ?_)
  refine wl_of hX hb cL_1592 (rw_iadd (pc' := 1593) rfl ?_)
  refine wl_of hX hb cL_1593 (xa_I (so := 0) (pc' := 1594) (a := 0) hW g0 (wsh_s _) (by omega) (wty_s _ _) (by omega) (by omega) rfl (fun b6459 b6460 => ?_))
  refine wl_of hX hb cL_1594 (rw_aload_n (pc' := 1595) (v := .ref o) rfl rfl rfl ?_)
  refine hled ⟨by omega, by omega⟩ hb ⟨⟨hW, g0, gx, gm, go, by omega, by omega⟩, hXI, by omega, by omega⟩ (fun z9 b9 T9 H9 hI9 n9 s9 => ?_)
  obtain ⟨⟨w9, g0, gx, gm, go, hK, hr⟩, hXI, hY1, hY2⟩ := hI9
  have hb : T9.2.1 ≤ CB ∧ T9.2.2.1 ≤ SB := ⟨by omega, by omega⟩
  refine wl_of hX hb cL_1598 (rw_istore (pc' := 1600) (z := z9) (L' := [(5, vI z9), (4, vI i), (3, .ref o), (2, .ref m), (1, .ref x), (0, .ref 0)]) rfl rfl rfl ?_)
  refine wl_of hX hb cL_1600 (rw_aload_n (pc' := 1601) (v := .ref m) rfl rfl rfl ?_)
  refine wl_of hX hb cL_1601 (rw_aload_n (pc' := 1602) (v := .ref 0) rfl rfl rfl ?_)
  refine wl_of hX hb cL_1602 (rw_iload (pc' := 1604) (z := i) rfl rfl ?_)
  refine wl_of hX hb cL_1604 (rw_iconst (pc' := 1605) rfl ?_)
  refine wl_of hX hb cL_1605 (rw_iadd (pc' := 1606) rfl ?_)
  refine wl_of hX hb cL_1606 (xa_I (so := 0) (pc' := 1607) (a := 0) w9 g0 (wsh_s _) (by omega) (wty_s _ _) (by omega) (by omega) rfl (fun b6461 b6462 => ?_))
  refine wl_of hX hb cL_1607 (xc_V (pc' := 1610) (r := m) (as := [vI (H9 0 ((i + 1).toNat))]) (st := []) (lm_11_225) rfl rfl (Nat.le_of_ble_eq_true rfl) w9 gm sh_42 (by decide) rfl (by decide) (s_293 w9 gm ⟨by omega, by omega⟩ (by omega)) (fun R6463 T6464 H6465 p6466 => ?_))
  obtain ⟨e6467, w6469, f6470, z6472, e6468, b6473, p6471⟩ := p6466
  subst e6467
  subst e6468
  show WL _ _ _ _ 1610 [(5, vI z9), (4, vI i), (3, .ref o), (2, .ref m), (1, .ref x), (0, .ref 0)] [vI z6472] _ H6465
  refine wl_of hX hb cL_1610 (rw_istore (pc' := 1612) (z := z6472) (L' := [(6, vI z6472), (5, vI z9), (4, vI i), (3, .ref o), (2, .ref m), (1, .ref x), (0, .ref 0)]) rfl rfl rfl ?_)
  refine wl_of hX hb cL_1612 (rw_goto (p1 := 1653) (by decide) ?_)
  have k6474 : H6465 x 9 = H9 x 9 := (f6470 x 9 _ gx rfl)
  have k6475 : H6465 m 6 = H9 m 6 := (f6470 m 6 _ gm rfl)
  have k6476 : H6465 x 11 = H9 x 11 := (f6470 x 11 _ gx rfl)
  have k6477 : H6465 m 13 = H9 m 13 := (f6470 m 13 _ gm rfl)
  have k6478 : H6465 x 8 = H9 x 8 := (f6470 x 8 _ gx rfl)
  have k6479 : H6465 m 3 = H9 m 3 := (f6470 m 3 _ gm rfl)
  have h6480 : XI T9 H6465 x m := (XI_fr w9 gx f6470 rfl hXI)
  exact WL.loc hX (by simp) (next T9 H6465 ⟨⟨w6469, g0, gx, gm, go, by omega, by omega⟩, h6480, by omega, by omega⟩ (by omega) (by omega))
set_option maxHeartbeats 4000000 in
theorem wl_c48 {kt : Nat → Option mc_E} {CB SB : Nat} {X : mc_S → Prop} {T : wq_T} {H : wq_H} {Len x m o : Nat} {i : Int} (hX : wlX kt CB SB X) (hb : T.2.1 ≤ CB ∧ T.2.2.1 ≤ SB) (hI : wlJ Len x m o T H) (hL : Len ≤ 3072) (hi : 0 ≤ i ∧ i + 6 ≤ Len) (hb2 : T.2.1 + 20 ≤ CB ∧ T.2.2.1 + 500 ≤ SB)  (next : ∀ T' H', wlJ Len x m o T' H' → T'.2.1 ≤ T.2.1 + 20 → T'.2.2.1 ≤ T.2.2.1 + 500 → WL kt CB SB X 1653 (wlL i x m o) [] T' H') : WL kt CB SB X 1615 (wlL i x m o) [] T H := by
  obtain ⟨⟨hW, g0, gx, gm, go, hK, hr⟩, hXI, hY1, hY2⟩ := hI
  refine wl_of hX hb cL_1615 (rw_aload_n (pc' := 1616) (v := .ref x) rfl rfl rfl ?_)
  refine wl_of hX hb cL_1616 (rw_aload_n (pc' := 1617) (v := .ref 0) rfl rfl rfl ?_)
  refine wl_of hX hb cL_1617 (rw_iload (pc' := 1619) (z := i) rfl rfl ?_)
  refine wl_of hX hb cL_1619 (rw_iconst (pc' := 1620) rfl ?_)
  refine wl_of hX hb cL_1620 (rw_iadd (pc' := 1621) rfl ?_)
  refine wl_of hX hb cL_1621 (xa_I (so := 0) (pc' := 1622) (a := 0) hW g0 (wsh_s _) (by omega) (wty_s _ _) (by omega) (by omega) rfl (fun b6481 b6482 => ?_))
  refine wl_of hX hb cL_1622 (xc_V (pc' := 1625) (r := x) (as := [vI (H 0 ((i + 1).toNat))]) (st := []) (lm_11_226) rfl rfl (Nat.le_of_ble_eq_true rfl) hW gx sh_1 (by decide) rfl (by decide) (s_164 hW gx ⟨by omega, by omega⟩) (fun R6483 T6484 H6485 p6486 => ?_))
  obtain ⟨e6487, e6489, z6490, e6488, b6491⟩ := p6486
  subst e6487
  subst e6488
  subst e6489
  show WL _ _ _ _ 1625 [(4, vI i), (3, .ref o), (2, .ref m), (1, .ref x), (0, .ref 0)] [vI z6490] _ H
  refine wl_of hX hb cL_1625 (rw_pop (pc' := 1626) rfl rfl ?_)
  refine wl_of hX hb cL_1626 (rw_aload_n (pc' := 1627) (v := .ref m) rfl rfl rfl ?_)
  refine wl_of hX hb cL_1627 (rw_aload_n (pc' := 1628) (v := .ref 0) rfl rfl rfl ?_)
  refine wl_of hX hb cL_1628 (rw_iload (pc' := 1630) (z := i) rfl rfl ?_)
  refine wl_of hX hb cL_1630 (rw_iconst (pc' := 1631) rfl ?_)
  refine wl_of hX hb cL_1631 (rw_iadd (pc' := 1632) rfl ?_)
  refine wl_of hX hb cL_1632 (xa_I (so := 0) (pc' := 1633) (a := 0) hW g0 (wsh_s _) (by omega) (wty_s _ _) (by omega) (by omega) rfl (fun b6492 b6493 => ?_))
  refine wl_of hX hb cL_1633 (xc_V (pc' := 1636) (r := m) (as := [vI (H 0 ((i + 1).toNat))]) (st := []) (lm_11_229) rfl rfl (Nat.le_of_ble_eq_true rfl) hW gm sh_42 (by decide) rfl (by decide) (s_294 hW gm ⟨by omega, by omega⟩ (by omega)) (fun R6494 T6495 H6496 p6497 => ?_))
  obtain ⟨e6498, w6500, f6501, z6503, e6499, b6504, p6502⟩ := p6497
  subst e6498
  subst e6499
  show WL _ _ _ _ 1636 [(4, vI i), (3, .ref o), (2, .ref m), (1, .ref x), (0, .ref 0)] [vI z6503] _ H6496
  refine wl_of hX hb cL_1636 (rw_pop (pc' := 1637) rfl rfl ?_)
  refine wl_of hX hb cL_1637 (rw_goto (p1 := 1653) (by decide) ?_)
  have k6505 : H6496 x 9 = H x 9 := (f6501 x 9 _ gx rfl)
  have k6506 : H6496 m 6 = H m 6 := (f6501 m 6 _ gm rfl)
  have k6507 : H6496 x 11 = H x 11 := (f6501 x 11 _ gx rfl)
  have k6508 : H6496 m 13 = H m 13 := (f6501 m 13 _ gm rfl)
  have k6509 : H6496 x 8 = H x 8 := (f6501 x 8 _ gx rfl)
  have k6510 : H6496 m 3 = H m 3 := (f6501 m 3 _ gm rfl)
  have h6511 : XI T H6496 x m := (XI_fr hW gx f6501 rfl hXI)
  exact WL.loc hX (by simp) (next T H6496 ⟨⟨w6500, g0, gx, gm, go, by omega, by omega⟩, h6511, by omega, by omega⟩ (by omega) (by omega))
set_option maxHeartbeats 4000000 in
theorem wl_c49 {kt : Nat → Option mc_E} {CB SB : Nat} {X : mc_S → Prop} {T : wq_T} {H : wq_H} {Len x m o : Nat} {i : Int} (hX : wlX kt CB SB X) (hb : T.2.1 ≤ CB ∧ T.2.2.1 ≤ SB) (hI : wlJ Len x m o T H) (hL : Len ≤ 3072) (hi : 0 ≤ i ∧ i + 6 ≤ Len) (hb2 : T.2.1 + 20 ≤ CB ∧ T.2.2.1 + 500 ≤ SB)  (next : ∀ T' H', wlJ Len x m o T' H' → T'.2.1 ≤ T.2.1 + 20 → T'.2.2.1 ≤ T.2.2.1 + 500 → WL kt CB SB X 1653 (wlL i x m o) [] T' H') : WL kt CB SB X 1640 (wlL i x m o) [] T H := by
  obtain ⟨⟨hW, g0, gx, gm, go, hK, hr⟩, hXI, hY1, hY2⟩ := hI
  refine wl_of hX hb cL_1640 (rw_aload_n (pc' := 1641) (v := .ref x) rfl rfl rfl ?_)
  refine wl_of hX hb cL_1641 (xc_V (pc' := 1644) (r := x) (as := []) (st := []) (lm_11_230) rfl rfl (Nat.le_of_ble_eq_true rfl) hW gx sh_1 (by decide) rfl (by decide) (s_165 hW gx) (fun R6512 T6513 H6514 p6515 => ?_))
  obtain ⟨e6516, e6518, z6519, e6517, b6520⟩ := p6515
  subst e6516
  subst e6517
  subst e6518
  show WL _ _ _ _ 1644 [(4, vI i), (3, .ref o), (2, .ref m), (1, .ref x), (0, .ref 0)] [vI z6519] _ H
  refine wl_of hX hb cL_1644 (rw_pop (pc' := 1645) rfl rfl ?_)
  refine wl_of hX hb cL_1645 (rw_aload_n (pc' := 1646) (v := .ref m) rfl rfl rfl ?_)
  refine wl_of hX hb cL_1646 (xc_V (pc' := 1649) (r := m) (as := []) (st := []) (lm_11_233) rfl rfl (Nat.le_of_ble_eq_true rfl) hW gm sh_42 (by decide) rfl (by decide) (s_295 hW gm (by omega)) (fun R6521 T6522 H6523 p6524 => ?_))
  obtain ⟨e6525, w6527, f6528, z6530, e6526, b6531, p6529⟩ := p6524
  subst e6525
  subst e6526
  show WL _ _ _ _ 1649 [(4, vI i), (3, .ref o), (2, .ref m), (1, .ref x), (0, .ref 0)] [vI z6530] _ H6523
  refine wl_of hX hb cL_1649 (rw_pop (pc' := 1650) rfl rfl ?_)
  refine wl_of hX hb cL_1650 (rw_goto (p1 := 1653) (by decide) ?_)
  have k6532 : H6523 x 9 = H x 9 := (f6528 x 9 _ gx rfl)
  have k6533 : H6523 m 6 = H m 6 := (f6528 m 6 _ gm rfl)
  have k6534 : H6523 x 11 = H x 11 := (f6528 x 11 _ gx rfl)
  have k6535 : H6523 m 13 = H m 13 := (f6528 m 13 _ gm rfl)
  have k6536 : H6523 x 8 = H x 8 := (f6528 x 8 _ gx rfl)
  have k6537 : H6523 m 3 = H m 3 := (f6528 m 3 _ gm rfl)
  have h6538 : XI T H6523 x m := (XI_fr hW gx f6528 rfl hXI)
  exact WL.loc hX (by simp) (next T H6523 ⟨⟨w6527, g0, gx, gm, go, by omega, by omega⟩, h6538, by omega, by omega⟩ (by omega) (by omega))
set_option maxHeartbeats 4000000 in
theorem wl_head {kt : Nat → Option mc_E} {CB SB : Nat} {X : mc_S → Prop} {T : wq_T} {H : wq_H} {Len x m o : Nat} {i : Int} (hX : wlX kt CB SB X) (hb : T.2.1 ≤ CB ∧ T.2.2.1 ≤ SB) (hI : wlJ Len x m o T H) (hL : Len ≤ 3072) (hi : 0 ≤ i ∧ i ≤ Len) (cases : ∀ t, t ∈ [256, 329, 354, 367, 380, 405, 454, 503, 516, 553, 578, 603, 616, 629, 642, 655, 668, 705, 718, 755, 792, 829, 882, 919, 944, 957, 994, 1019, 1056, 1109, 1162, 1175, 1200, 1225, 1250, 1263, 1316, 1329, 1342, 1367, 1404, 1429, 1454, 1467, 1504, 1517, 1530, 1587, 1615, 1640] → i + 6 ≤ Len → WL kt CB SB X t (wlL i x m o) [] T H) (next : i + 6 ≤ Len → WL kt CB SB X 1653 (wlL i x m o) [] T H) : WL kt CB SB X 23 (wlL i x m o) [] T H := by
  obtain ⟨⟨hW, g0, gx, gm, go, hK, hr⟩, hXI, hY1, hY2⟩ := hI
  refine wl_of hX hb cL_23 (rw_iload (pc' := 25) (z := i) rfl rfl ?_)
  refine wl_of hX hb cL_25 (rw_aload_n (pc' := 26) (v := .ref 0) rfl rfl rfl ?_)
  refine wl_of hX hb cL_26 (xa_N (pc' := 27) (a := 0) (n := Len) hW g0 (wsh_s _) (by decide) rfl ?_)
  refine wl_of hX hb cL_27 (rw_bipush (pc' := 29) (z := 6) rfl (by decide) ?_)
  refine wl_of hX hb cL_29 (rw_isub (pc' := 30) rfl ?_)
  refine wl_of hX hb cL_30 (rw_icmp_gt (p1 := 1659) (p2 := 33) (by decide) rfl ⟨by omega, by omega⟩ ⟨by omega, by omega⟩ (fun c6539 => ?_) (fun c6539 => ?_))
  · refine wl_of hX hb cL_1659 (rw_iconst (pc' := 1660) rfl ?_)
    exact WL.fin hX hb
  · refine wl_of hX hb cL_33 (rw_aload_n (pc' := 34) (v := .ref 0) rfl rfl rfl ?_)
    refine wl_of hX hb cL_34 (rw_iload (pc' := 36) (z := i) rfl rfl ?_)
    refine wl_of hX hb cL_36 (xa_I (so := 0) (pc' := 37) (a := 0) hW g0 (wsh_s _) (by omega) (wty_s _ _) (by omega) (by omega) rfl (fun b6540 b6541 => ?_))
    refine wl_of hX hb cL_37 (rw_bipush (pc' := 39) (z := 63) rfl (by decide) ?_)
    refine wl_of hX hb cL_39 (rw_iand (pc' := 40) rfl ?_)
    obtain ⟨v6542, e6543⟩ : ∃ x : Int, x = wq_and (H 0 (i.toNat)) 63 := ⟨_, rfl⟩
    rw [← e6543]
    have b6544 : 0 ≤ v6542 ∧ v6542 ≤ 63 := by
      rw [e6543]
      exact wq_and_b _ (by omega) (by omega)
    have c6545 : v6542 = 0 ∨ v6542 = 1 ∨ v6542 = 2 ∨ v6542 = 3 ∨ v6542 = 4 ∨ v6542 = 5 ∨ v6542 = 6 ∨ v6542 = 7 ∨ v6542 = 8 ∨ v6542 = 9 ∨ v6542 = 10 ∨ v6542 = 11 ∨ v6542 = 12 ∨ v6542 = 13 ∨ v6542 = 14 ∨ v6542 = 15 ∨ v6542 = 16 ∨ v6542 = 17 ∨ v6542 = 18 ∨ v6542 = 19 ∨ v6542 = 20 ∨ v6542 = 21 ∨ v6542 = 22 ∨ v6542 = 23 ∨ v6542 = 24 ∨ v6542 = 25 ∨ v6542 = 26 ∨ v6542 = 27 ∨ v6542 = 28 ∨ v6542 = 29 ∨ v6542 = 30 ∨ v6542 = 31 ∨ v6542 = 32 ∨ v6542 = 33 ∨ v6542 = 34 ∨ v6542 = 35 ∨ v6542 = 36 ∨ v6542 = 37 ∨ v6542 = 38 ∨ v6542 = 39 ∨ v6542 = 40 ∨ v6542 = 41 ∨ v6542 = 42 ∨ v6542 = 43 ∨ v6542 = 44 ∨ v6542 = 45 ∨ v6542 = 46 ∨ v6542 = 47 ∨ v6542 = 48 ∨ v6542 = 49 ∨ (v6542 < 0 ∨ 49 < v6542) := by omega
    rcases c6545 with c6545 | c6545 | c6545 | c6545 | c6545 | c6545 | c6545 | c6545 | c6545 | c6545 | c6545 | c6545 | c6545 | c6545 | c6545 | c6545 | c6545 | c6545 | c6545 | c6545 | c6545 | c6545 | c6545 | c6545 | c6545 | c6545 | c6545 | c6545 | c6545 | c6545 | c6545 | c6545 | c6545 | c6545 | c6545 | c6545 | c6545 | c6545 | c6545 | c6545 | c6545 | c6545 | c6545 | c6545 | c6545 | c6545 | c6545 | c6545 | c6545 | c6545 | c6545
    · refine wl_of hX hb cL_40 (rw_tsw (p1 := 256) ⟨by omega, by omega⟩ (by rw [c6545]; decide) ?_)
      exact cases 256 (by decide) (by omega)
    · refine wl_of hX hb cL_40 (rw_tsw (p1 := 329) ⟨by omega, by omega⟩ (by rw [c6545]; decide) ?_)
      exact cases 329 (by decide) (by omega)
    · refine wl_of hX hb cL_40 (rw_tsw (p1 := 354) ⟨by omega, by omega⟩ (by rw [c6545]; decide) ?_)
      exact cases 354 (by decide) (by omega)
    · refine wl_of hX hb cL_40 (rw_tsw (p1 := 367) ⟨by omega, by omega⟩ (by rw [c6545]; decide) ?_)
      exact cases 367 (by decide) (by omega)
    · refine wl_of hX hb cL_40 (rw_tsw (p1 := 380) ⟨by omega, by omega⟩ (by rw [c6545]; decide) ?_)
      exact cases 380 (by decide) (by omega)
    · refine wl_of hX hb cL_40 (rw_tsw (p1 := 405) ⟨by omega, by omega⟩ (by rw [c6545]; decide) ?_)
      exact cases 405 (by decide) (by omega)
    · refine wl_of hX hb cL_40 (rw_tsw (p1 := 454) ⟨by omega, by omega⟩ (by rw [c6545]; decide) ?_)
      exact cases 454 (by decide) (by omega)
    · refine wl_of hX hb cL_40 (rw_tsw (p1 := 503) ⟨by omega, by omega⟩ (by rw [c6545]; decide) ?_)
      exact cases 503 (by decide) (by omega)
    · refine wl_of hX hb cL_40 (rw_tsw (p1 := 516) ⟨by omega, by omega⟩ (by rw [c6545]; decide) ?_)
      exact cases 516 (by decide) (by omega)
    · refine wl_of hX hb cL_40 (rw_tsw (p1 := 553) ⟨by omega, by omega⟩ (by rw [c6545]; decide) ?_)
      exact cases 553 (by decide) (by omega)
    · refine wl_of hX hb cL_40 (rw_tsw (p1 := 578) ⟨by omega, by omega⟩ (by rw [c6545]; decide) ?_)
      exact cases 578 (by decide) (by omega)
    · refine wl_of hX hb cL_40 (rw_tsw (p1 := 603) ⟨by omega, by omega⟩ (by rw [c6545]; decide) ?_)
      exact cases 603 (by decide) (by omega)
    · refine wl_of hX hb cL_40 (rw_tsw (p1 := 616) ⟨by omega, by omega⟩ (by rw [c6545]; decide) ?_)
      exact cases 616 (by decide) (by omega)
    · refine wl_of hX hb cL_40 (rw_tsw (p1 := 629) ⟨by omega, by omega⟩ (by rw [c6545]; decide) ?_)
      exact cases 629 (by decide) (by omega)
    · refine wl_of hX hb cL_40 (rw_tsw (p1 := 642) ⟨by omega, by omega⟩ (by rw [c6545]; decide) ?_)
      exact cases 642 (by decide) (by omega)
    · refine wl_of hX hb cL_40 (rw_tsw (p1 := 655) ⟨by omega, by omega⟩ (by rw [c6545]; decide) ?_)
      exact cases 655 (by decide) (by omega)
    · refine wl_of hX hb cL_40 (rw_tsw (p1 := 668) ⟨by omega, by omega⟩ (by rw [c6545]; decide) ?_)
      exact cases 668 (by decide) (by omega)
    · refine wl_of hX hb cL_40 (rw_tsw (p1 := 705) ⟨by omega, by omega⟩ (by rw [c6545]; decide) ?_)
      exact cases 705 (by decide) (by omega)
    · refine wl_of hX hb cL_40 (rw_tsw (p1 := 718) ⟨by omega, by omega⟩ (by rw [c6545]; decide) ?_)
      exact cases 718 (by decide) (by omega)
    · refine wl_of hX hb cL_40 (rw_tsw (p1 := 755) ⟨by omega, by omega⟩ (by rw [c6545]; decide) ?_)
      exact cases 755 (by decide) (by omega)
    · refine wl_of hX hb cL_40 (rw_tsw (p1 := 792) ⟨by omega, by omega⟩ (by rw [c6545]; decide) ?_)
      exact cases 792 (by decide) (by omega)
    · refine wl_of hX hb cL_40 (rw_tsw (p1 := 829) ⟨by omega, by omega⟩ (by rw [c6545]; decide) ?_)
      exact cases 829 (by decide) (by omega)
    · refine wl_of hX hb cL_40 (rw_tsw (p1 := 882) ⟨by omega, by omega⟩ (by rw [c6545]; decide) ?_)
      exact cases 882 (by decide) (by omega)
    · refine wl_of hX hb cL_40 (rw_tsw (p1 := 919) ⟨by omega, by omega⟩ (by rw [c6545]; decide) ?_)
      exact cases 919 (by decide) (by omega)
    · refine wl_of hX hb cL_40 (rw_tsw (p1 := 944) ⟨by omega, by omega⟩ (by rw [c6545]; decide) ?_)
      exact cases 944 (by decide) (by omega)
    · refine wl_of hX hb cL_40 (rw_tsw (p1 := 957) ⟨by omega, by omega⟩ (by rw [c6545]; decide) ?_)
      exact cases 957 (by decide) (by omega)
    · refine wl_of hX hb cL_40 (rw_tsw (p1 := 994) ⟨by omega, by omega⟩ (by rw [c6545]; decide) ?_)
      exact cases 994 (by decide) (by omega)
    · refine wl_of hX hb cL_40 (rw_tsw (p1 := 1019) ⟨by omega, by omega⟩ (by rw [c6545]; decide) ?_)
      exact cases 1019 (by decide) (by omega)
    · refine wl_of hX hb cL_40 (rw_tsw (p1 := 1056) ⟨by omega, by omega⟩ (by rw [c6545]; decide) ?_)
      exact cases 1056 (by decide) (by omega)
    · refine wl_of hX hb cL_40 (rw_tsw (p1 := 1109) ⟨by omega, by omega⟩ (by rw [c6545]; decide) ?_)
      exact cases 1109 (by decide) (by omega)
    · refine wl_of hX hb cL_40 (rw_tsw (p1 := 1162) ⟨by omega, by omega⟩ (by rw [c6545]; decide) ?_)
      exact cases 1162 (by decide) (by omega)
    · refine wl_of hX hb cL_40 (rw_tsw (p1 := 1175) ⟨by omega, by omega⟩ (by rw [c6545]; decide) ?_)
      exact cases 1175 (by decide) (by omega)
    · refine wl_of hX hb cL_40 (rw_tsw (p1 := 1200) ⟨by omega, by omega⟩ (by rw [c6545]; decide) ?_)
      exact cases 1200 (by decide) (by omega)
    · refine wl_of hX hb cL_40 (rw_tsw (p1 := 1225) ⟨by omega, by omega⟩ (by rw [c6545]; decide) ?_)
      exact cases 1225 (by decide) (by omega)
    · refine wl_of hX hb cL_40 (rw_tsw (p1 := 1250) ⟨by omega, by omega⟩ (by rw [c6545]; decide) ?_)
      exact cases 1250 (by decide) (by omega)
    · refine wl_of hX hb cL_40 (rw_tsw (p1 := 1263) ⟨by omega, by omega⟩ (by rw [c6545]; decide) ?_)
      exact cases 1263 (by decide) (by omega)
    · refine wl_of hX hb cL_40 (rw_tsw (p1 := 1316) ⟨by omega, by omega⟩ (by rw [c6545]; decide) ?_)
      exact cases 1316 (by decide) (by omega)
    · refine wl_of hX hb cL_40 (rw_tsw (p1 := 1329) ⟨by omega, by omega⟩ (by rw [c6545]; decide) ?_)
      exact cases 1329 (by decide) (by omega)
    · refine wl_of hX hb cL_40 (rw_tsw (p1 := 1342) ⟨by omega, by omega⟩ (by rw [c6545]; decide) ?_)
      exact cases 1342 (by decide) (by omega)
    · refine wl_of hX hb cL_40 (rw_tsw (p1 := 1367) ⟨by omega, by omega⟩ (by rw [c6545]; decide) ?_)
      exact cases 1367 (by decide) (by omega)
    · refine wl_of hX hb cL_40 (rw_tsw (p1 := 1404) ⟨by omega, by omega⟩ (by rw [c6545]; decide) ?_)
      exact cases 1404 (by decide) (by omega)
    · refine wl_of hX hb cL_40 (rw_tsw (p1 := 1429) ⟨by omega, by omega⟩ (by rw [c6545]; decide) ?_)
      exact cases 1429 (by decide) (by omega)
    · refine wl_of hX hb cL_40 (rw_tsw (p1 := 1454) ⟨by omega, by omega⟩ (by rw [c6545]; decide) ?_)
      exact cases 1454 (by decide) (by omega)
    · refine wl_of hX hb cL_40 (rw_tsw (p1 := 1467) ⟨by omega, by omega⟩ (by rw [c6545]; decide) ?_)
      exact cases 1467 (by decide) (by omega)
    · refine wl_of hX hb cL_40 (rw_tsw (p1 := 1504) ⟨by omega, by omega⟩ (by rw [c6545]; decide) ?_)
      exact cases 1504 (by decide) (by omega)
    · refine wl_of hX hb cL_40 (rw_tsw (p1 := 1517) ⟨by omega, by omega⟩ (by rw [c6545]; decide) ?_)
      exact cases 1517 (by decide) (by omega)
    · refine wl_of hX hb cL_40 (rw_tsw (p1 := 1530) ⟨by omega, by omega⟩ (by rw [c6545]; decide) ?_)
      exact cases 1530 (by decide) (by omega)
    · refine wl_of hX hb cL_40 (rw_tsw (p1 := 1587) ⟨by omega, by omega⟩ (by rw [c6545]; decide) ?_)
      exact cases 1587 (by decide) (by omega)
    · refine wl_of hX hb cL_40 (rw_tsw (p1 := 1615) ⟨by omega, by omega⟩ (by rw [c6545]; decide) ?_)
      exact cases 1615 (by decide) (by omega)
    · refine wl_of hX hb cL_40 (rw_tsw (p1 := 1640) ⟨by omega, by omega⟩ (by rw [c6545]; decide) ?_)
      exact cases 1640 (by decide) (by omega)
    · refine wl_of hX hb cL_40 (rw_tsw (p1 := 1653) ⟨by omega, by omega⟩ (by rw [if_pos c6545]; decide) ?_)
      exact next (by omega)
theorem wl_back {kt : Nat → Option mc_E} {CB SB : Nat} {X : mc_S → Prop} {T : wq_T} {H : wq_H} {Len x m o : Nat} {i : Int} (hX : wlX kt CB SB X) (hb : T.2.1 ≤ CB ∧ T.2.2.1 ≤ SB) (hI : wlJ Len x m o T H) (hL : Len ≤ 3072) (hi : 0 ≤ i ∧ i + 6 ≤ Len) (next : WL kt CB SB X 23 (wlL (i + 6) x m o) [] T H) : WL kt CB SB X 1653 (wlL i x m o) [] T H := by
  obtain ⟨⟨hW, g0, gx, gm, go, hK, hr⟩, hXI, hY1, hY2⟩ := hI
  refine wl_of hX hb cL_1653 (rw_iinc (pc' := 1656) (z := i) (L' := [(4, vI (i + 6)), (3, .ref o), (2, .ref m), (1, .ref x), (0, .ref 0)]) rfl rfl rfl rfl ?_)
  refine wl_of hX hb cL_1656 (rw_goto (p1 := 23) (by decide) ?_)
  exact next
/-- the call that may throw, as the loop wants it -/
def wlLed (kt : Nat → Option mc_E) (CB SB : Nat) (X : mc_S → Prop) (Len x m o : Nat) : Prop := ∀ (T : wq_T) (H : wq_H) (i z : Int), T.2.1 + 20 ≤ CB ∧ T.2.2.1 + 500 ≤ SB → wI z → wlJ Len x m o T H → (∀ (z' : Int), wI z' → ∀ (T' : wq_T) (H' : wq_H), wlJ Len x m o T' H' → T'.2.1 ≤ T.2.1 + 20 → T'.2.2.1 ≤ T.2.2.1 + 500 → WL kt CB SB X 1598 (wlL i x m o) [vI z'] T' H') → WL kt CB SB X 1595 (wlL i x m o) [.ref o, vI z, .ref x] T H
set_option maxRecDepth 40000 in
theorem wl_loopL {kt : Nat → Option mc_E} {CB SB : Nat} {X : mc_S → Prop} {Len x m o : Nat} (hX : wlX kt CB SB X) (hL : Len ≤ 3072) (hled : wlLed kt CB SB X Len x m o) : ∀ (n : Nat) (T : wq_T) (H : wq_H) (i : Int), 0 ≤ i ∧ i ≤ Len → (Len - i).toNat = n → T.2.1 + 4 * (n + 6) ≤ CB → T.2.2.1 + 100 * (n + 6) ≤ SB → wlJ Len x m o T H → WL kt CB SB X 23 (wlL i x m o) [] T H := by
  intro n
  induction n using Nat.strongRecOn with
  | _ n ih =>
    intro T H i hi hn hc hs hI
    have hb : T.2.1 ≤ CB ∧ T.2.2.1 ≤ SB := ⟨by omega, by omega⟩
    have hb2 : T.2.1 + 20 ≤ CB ∧ T.2.2.1 + 500 ≤ SB := ⟨by omega, by omega⟩
    refine wl_head hX hb hI hL hi (fun t ht h6 => ?_) (fun h6 => wl_back hX hb hI hL ⟨hi.1, h6⟩ (ih (Len - (i + 6)).toNat (by omega) T H (i + 6) ⟨by omega, by omega⟩ rfl (by omega) (by omega) hI))
    have next : ∀ T' H', wlJ Len x m o T' H' → T'.2.1 ≤ T.2.1 + 20 → T'.2.2.1 ≤ T.2.2.1 + 500 → WL kt CB SB X 1653 (wlL i x m o) [] T' H' := fun T' H' hI' h1 h2 => wl_back hX ⟨by omega, by omega⟩ hI' hL ⟨hi.1, h6⟩ (ih (Len - (i + 6)).toNat (by omega) T' H' (i + 6) ⟨by omega, by omega⟩ rfl (by omega) (by omega) hI')
    rcases List.mem_cons.mp ht with rfl | ht
    · exact wl_c0 hX hb hI hL ⟨hi.1, h6⟩ hb2 next
    rcases List.mem_cons.mp ht with rfl | ht
    · exact wl_c1 hX hb hI hL ⟨hi.1, h6⟩ hb2 next
    rcases List.mem_cons.mp ht with rfl | ht
    · exact wl_c2 hX hb hI hL ⟨hi.1, h6⟩ hb2 next
    rcases List.mem_cons.mp ht with rfl | ht
    · exact wl_c3 hX hb hI hL ⟨hi.1, h6⟩ hb2 next
    rcases List.mem_cons.mp ht with rfl | ht
    · exact wl_c4 hX hb hI hL ⟨hi.1, h6⟩ hb2 next
    rcases List.mem_cons.mp ht with rfl | ht
    · exact wl_c5 hX hb hI hL ⟨hi.1, h6⟩ hb2 next
    rcases List.mem_cons.mp ht with rfl | ht
    · exact wl_c6 hX hb hI hL ⟨hi.1, h6⟩ hb2 next
    rcases List.mem_cons.mp ht with rfl | ht
    · exact wl_c7 hX hb hI hL ⟨hi.1, h6⟩ hb2 next
    rcases List.mem_cons.mp ht with rfl | ht
    · exact wl_c8 hX hb hI hL ⟨hi.1, h6⟩ hb2 next
    rcases List.mem_cons.mp ht with rfl | ht
    · exact wl_c9 hX hb hI hL ⟨hi.1, h6⟩ hb2 next
    rcases List.mem_cons.mp ht with rfl | ht
    · exact wl_c10 hX hb hI hL ⟨hi.1, h6⟩ hb2 next
    rcases List.mem_cons.mp ht with rfl | ht
    · exact wl_c11 hX hb hI hL ⟨hi.1, h6⟩ hb2 next
    rcases List.mem_cons.mp ht with rfl | ht
    · exact wl_c12 hX hb hI hL ⟨hi.1, h6⟩ hb2 next
    rcases List.mem_cons.mp ht with rfl | ht
    · exact wl_c13 hX hb hI hL ⟨hi.1, h6⟩ hb2 next
    rcases List.mem_cons.mp ht with rfl | ht
    · exact wl_c14 hX hb hI hL ⟨hi.1, h6⟩ hb2 next
    rcases List.mem_cons.mp ht with rfl | ht
    · exact wl_c15 hX hb hI hL ⟨hi.1, h6⟩ hb2 next
    rcases List.mem_cons.mp ht with rfl | ht
    · exact wl_c16 hX hb hI hL ⟨hi.1, h6⟩ hb2 next
    rcases List.mem_cons.mp ht with rfl | ht
    · exact wl_c17 hX hb hI hL ⟨hi.1, h6⟩ hb2 next
    rcases List.mem_cons.mp ht with rfl | ht
    · exact wl_c18 hX hb hI hL ⟨hi.1, h6⟩ hb2 next
    rcases List.mem_cons.mp ht with rfl | ht
    · exact wl_c19 hX hb hI hL ⟨hi.1, h6⟩ hb2 next
    rcases List.mem_cons.mp ht with rfl | ht
    · exact wl_c20 hX hb hI hL ⟨hi.1, h6⟩ hb2 next
    rcases List.mem_cons.mp ht with rfl | ht
    · exact wl_c21 hX hb hI hL ⟨hi.1, h6⟩ hb2 next
    rcases List.mem_cons.mp ht with rfl | ht
    · exact wl_c22 hX hb hI hL ⟨hi.1, h6⟩ hb2 next
    rcases List.mem_cons.mp ht with rfl | ht
    · exact wl_c23 hX hb hI hL ⟨hi.1, h6⟩ hb2 next
    rcases List.mem_cons.mp ht with rfl | ht
    · exact wl_c24 hX hb hI hL ⟨hi.1, h6⟩ hb2 next
    rcases List.mem_cons.mp ht with rfl | ht
    · exact wl_c25 hX hb hI hL ⟨hi.1, h6⟩ hb2 next
    rcases List.mem_cons.mp ht with rfl | ht
    · exact wl_c26 hX hb hI hL ⟨hi.1, h6⟩ hb2 next
    rcases List.mem_cons.mp ht with rfl | ht
    · exact wl_c27 hX hb hI hL ⟨hi.1, h6⟩ hb2 next
    rcases List.mem_cons.mp ht with rfl | ht
    · exact wl_c28 hX hb hI hL ⟨hi.1, h6⟩ hb2 next
    rcases List.mem_cons.mp ht with rfl | ht
    · exact wl_c29 hX hb hI hL ⟨hi.1, h6⟩ hb2 next
    rcases List.mem_cons.mp ht with rfl | ht
    · exact wl_c30 hX hb hI hL ⟨hi.1, h6⟩ hb2 next
    rcases List.mem_cons.mp ht with rfl | ht
    · exact wl_c31 hX hb hI hL ⟨hi.1, h6⟩ hb2 next
    rcases List.mem_cons.mp ht with rfl | ht
    · exact wl_c32 hX hb hI hL ⟨hi.1, h6⟩ hb2 next
    rcases List.mem_cons.mp ht with rfl | ht
    · exact wl_c33 hX hb hI hL ⟨hi.1, h6⟩ hb2 next
    rcases List.mem_cons.mp ht with rfl | ht
    · exact wl_c34 hX hb hI hL ⟨hi.1, h6⟩ hb2 next
    rcases List.mem_cons.mp ht with rfl | ht
    · exact wl_c35 hX hb hI hL ⟨hi.1, h6⟩ hb2 next
    rcases List.mem_cons.mp ht with rfl | ht
    · exact wl_c36 hX hb hI hL ⟨hi.1, h6⟩ hb2 next
    rcases List.mem_cons.mp ht with rfl | ht
    · exact wl_c37 hX hb hI hL ⟨hi.1, h6⟩ hb2 next
    rcases List.mem_cons.mp ht with rfl | ht
    · exact wl_c38 hX hb hI hL ⟨hi.1, h6⟩ hb2 next
    rcases List.mem_cons.mp ht with rfl | ht
    · exact wl_c39 hX hb hI hL ⟨hi.1, h6⟩ hb2 next
    rcases List.mem_cons.mp ht with rfl | ht
    · exact wl_c40 hX hb hI hL ⟨hi.1, h6⟩ hb2 next
    rcases List.mem_cons.mp ht with rfl | ht
    · exact wl_c41 hX hb hI hL ⟨hi.1, h6⟩ hb2 next
    rcases List.mem_cons.mp ht with rfl | ht
    · exact wl_c42 hX hb hI hL ⟨hi.1, h6⟩ hb2 next
    rcases List.mem_cons.mp ht with rfl | ht
    · exact wl_c43 hX hb hI hL ⟨hi.1, h6⟩ hb2 next
    rcases List.mem_cons.mp ht with rfl | ht
    · exact wl_c44 hX hb hI hL ⟨hi.1, h6⟩ hb2 next
    rcases List.mem_cons.mp ht with rfl | ht
    · exact wl_c45 hX hb hI hL ⟨hi.1, h6⟩ hb2 next
    rcases List.mem_cons.mp ht with rfl | ht
    · exact wl_c46 hX hb hI hL ⟨hi.1, h6⟩ hb2 next
    rcases List.mem_cons.mp ht with rfl | ht
    · exact wl_c47 hX hb hI hL ⟨hi.1, h6⟩ hb2 (fun hz _ hI2 k => hled T H i _ hb2 hz hI2 k) next
    rcases List.mem_cons.mp ht with rfl | ht
    · exact wl_c48 hX hb hI hL ⟨hi.1, h6⟩ hb2 next
    rcases List.mem_cons.mp ht with rfl | ht
    · exact wl_c49 hX hb hI hL ⟨hi.1, h6⟩ hb2 next
    cases ht
