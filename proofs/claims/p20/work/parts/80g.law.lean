/-! THE LAW, GONE ON WITH (own work) -/
set_option maxHeartbeats 4000000 in
theorem wl_c43 {kt : Nat → Option mc_E} {CB SB : Nat} {X : mc_S → Prop} {T : wq_T} {H : wq_H} {Len x m o : Nat} {i : Int} (hX : wlX kt CB SB X) (hb : T.2.1 ≤ CB ∧ T.2.2.1 ≤ SB) (hI : wlJ Len x m o T H) (hL : Len ≤ 3072) (hi : 0 ≤ i ∧ i + 6 ≤ Len) (hb2 : T.2.1 + 20 ≤ CB ∧ T.2.2.1 + 500 ≤ SB)  (next : ∀ T' H', wlJ Len x m o T' H' → T'.2.1 ≤ T.2.1 + 20 → T'.2.2.1 ≤ T.2.2.1 + 500 → WL kt CB SB X 1653 (wlL i x m o) [] T' H') : WL kt CB SB X 1467 (wlL i x m o) [] T H := by
  obtain ⟨⟨hW, g0, gx, gm, go, hK, hr⟩, hXI, hY1, hY2⟩ := hI
  refine wl_of hX hb cL_1467 (rw_aload_n (pc' := 1468) (v := .ref x) rfl rfl rfl ?_)
  refine wl_of hX hb cL_1468 (rw_aload_n (pc' := 1469) (v := .ref 0) rfl rfl rfl ?_)
  refine wl_of hX hb cL_1469 (rw_iload (pc' := 1471) (z := i) rfl rfl ?_)
  refine wl_of hX hb cL_1471 (rw_iconst (pc' := 1472) rfl ?_)
  refine wl_of hX hb cL_1472 (rw_iadd (pc' := 1473) rfl ?_)
  refine wl_of hX hb cL_1473 (xa_I (so := 0) (pc' := 1474) (a := 0) hW g0 (wsh_s _) (by omega) (wty_s _ _) (by omega) (by omega) rfl (fun b6010 b6011 => ?_))
  refine wl_of hX hb cL_1474 (rw_aload_n (pc' := 1475) (v := .ref 0) rfl rfl rfl ?_)
  refine wl_of hX hb cL_1475 (rw_iload (pc' := 1477) (z := i) rfl rfl ?_)
  refine wl_of hX hb cL_1477 (rw_iconst (pc' := 1478) rfl ?_)
  refine wl_of hX hb cL_1478 (rw_iadd (pc' := 1479) rfl ?_)
  refine wl_of hX hb cL_1479 (xa_I (so := 0) (pc' := 1480) (a := 0) hW g0 (wsh_s _) (by omega) (wty_s _ _) (by omega) (by omega) rfl (fun b6012 b6013 => ?_))
  refine wl_of hX hb cL_1480 (xc_V (pc' := 1483) (r := x) (as := [vI (H 0 ((i + 1).toNat)), vI (H 0 ((i + 2).toNat))]) (st := []) (lm_11_200) rfl rfl (Nat.le_of_ble_eq_true rfl) hW gx sh_1 (by decide) rfl (by decide) (s_157 hW gx ⟨by omega, by omega⟩ ⟨by omega, by omega⟩) (fun R6014 T6015 H6016 p6017 => ?_))
  obtain ⟨e6018, w6020, f6021, z6022, e6019, b6023⟩ := p6017
  subst e6018
  subst e6019
  show WL _ _ _ _ 1483 [(4, vI i), (3, .ref o), (2, .ref m), (1, .ref x), (0, .ref 0)] [vI z6022] _ H6016
  refine wl_of hX hb cL_1483 (rw_pop (pc' := 1484) rfl rfl ?_)
  refine wl_of hX hb cL_1484 (rw_aload_n (pc' := 1485) (v := .ref m) rfl rfl rfl ?_)
  refine wl_of hX hb cL_1485 (rw_aload_n (pc' := 1486) (v := .ref 0) rfl rfl rfl ?_)
  refine wl_of hX hb cL_1486 (rw_iload (pc' := 1488) (z := i) rfl rfl ?_)
  refine wl_of hX hb cL_1488 (rw_iconst (pc' := 1489) rfl ?_)
  refine wl_of hX hb cL_1489 (rw_iadd (pc' := 1490) rfl ?_)
  have k6026 : H6016 0 ((i + 1).toNat) = H 0 ((i + 1).toNat) := (f6021 0 ((i + 1).toNat) _ g0 (wmem_s rfl))
  refine wl_of hX hb cL_1490 (xa_I (so := 0) (pc' := 1491) (a := 0) w6020 g0 (wsh_s _) (by omega) (wty_s _ _) (by omega) (by omega) rfl (fun b6024 b6025 => ?_))
  refine wl_of hX hb cL_1491 (rw_aload_n (pc' := 1492) (v := .ref 0) rfl rfl rfl ?_)
  refine wl_of hX hb cL_1492 (rw_iload (pc' := 1494) (z := i) rfl rfl ?_)
  refine wl_of hX hb cL_1494 (rw_iconst (pc' := 1495) rfl ?_)
  refine wl_of hX hb cL_1495 (rw_iadd (pc' := 1496) rfl ?_)
  have k6029 : H6016 0 ((i + 2).toNat) = H 0 ((i + 2).toNat) := (f6021 0 ((i + 2).toNat) _ g0 (wmem_s rfl))
  refine wl_of hX hb cL_1496 (xa_I (so := 0) (pc' := 1497) (a := 0) w6020 g0 (wsh_s _) (by omega) (wty_s _ _) (by omega) (by omega) rfl (fun b6027 b6028 => ?_))
  have k6030 : wKI H6016 m = wKI H m := (wKI_fr hW gm f6021 rfl)
  have k6031 : H6016 x 9 = H x 9 := (f6021 x 9 _ gx rfl)
  have k6032 : H6016 m 6 = H m 6 := (f6021 m 6 _ gm rfl)
  have k6033 : H6016 x 11 = H x 11 := (f6021 x 11 _ gx rfl)
  have k6034 : H6016 m 13 = H m 13 := (f6021 m 13 _ gm rfl)
  have k6035 : H6016 x 8 = H x 8 := (f6021 x 8 _ gx rfl)
  have k6036 : H6016 m 3 = H m 3 := (f6021 m 3 _ gm rfl)
  refine wl_of hX hb cL_1497 (xc_V (pc' := 1500) (r := m) (as := [vI (H6016 0 ((i + 1).toNat)), vI (H6016 0 ((i + 2).toNat))]) (st := []) (lm_11_203) rfl rfl (Nat.le_of_ble_eq_true rfl) w6020 gm sh_42 (by decide) rfl (by decide) (s_289 w6020 gm ⟨by omega, by omega⟩ ⟨by omega, by omega⟩ (by omega)) (fun R6037 T6038 H6039 p6040 => ?_))
  obtain ⟨e6041, w6043, f6044, z6046, e6042, b6047, p6045⟩ := p6040
  subst e6041
  subst e6042
  show WL _ _ _ _ 1500 [(4, vI i), (3, .ref o), (2, .ref m), (1, .ref x), (0, .ref 0)] [vI z6046] _ H6039
  refine wl_of hX hb cL_1500 (rw_pop (pc' := 1501) rfl rfl ?_)
  refine wl_of hX hb cL_1501 (rw_goto (p1 := 1653) (by decide) ?_)
  have k6048 : H6039 x 9 = H6016 x 9 := (f6044 x 9 _ gx rfl)
  have k6049 : H6039 m 6 = H6016 m 6 := (f6044 m 6 _ gm rfl)
  have k6050 : H6039 x 11 = H6016 x 11 := (f6044 x 11 _ gx rfl)
  have k6051 : H6039 m 13 = H6016 m 13 := (f6044 m 13 _ gm rfl)
  have k6052 : H6039 x 8 = H6016 x 8 := (f6044 x 8 _ gx rfl)
  have k6053 : H6039 m 3 = H6016 m 3 := (f6044 m 3 _ gm rfl)
  have h6054 : XI T H6039 x m := (XI_fr w6020 gx f6044 rfl (XI_fr hW gx f6021 rfl hXI))
  exact WL.loc hX (by simp) (next T H6039 ⟨⟨w6043, g0, gx, gm, go, by omega, by omega⟩, h6054, by omega, by omega⟩ (by omega) (by omega))
set_option maxHeartbeats 4000000 in
theorem wl_c44 {kt : Nat → Option mc_E} {CB SB : Nat} {X : mc_S → Prop} {T : wq_T} {H : wq_H} {Len x m o : Nat} {i : Int} (hX : wlX kt CB SB X) (hb : T.2.1 ≤ CB ∧ T.2.2.1 ≤ SB) (hI : wlJ Len x m o T H) (hL : Len ≤ 3072) (hi : 0 ≤ i ∧ i + 6 ≤ Len) (hb2 : T.2.1 + 20 ≤ CB ∧ T.2.2.1 + 500 ≤ SB)  (next : ∀ T' H', wlJ Len x m o T' H' → T'.2.1 ≤ T.2.1 + 20 → T'.2.2.1 ≤ T.2.2.1 + 500 → WL kt CB SB X 1653 (wlL i x m o) [] T' H') : WL kt CB SB X 1504 (wlL i x m o) [] T H := by
  obtain ⟨⟨hW, g0, gx, gm, go, hK, hr⟩, hXI, hY1, hY2⟩ := hI
  refine wl_of hX hb cL_1504 (rw_aload_n (pc' := 1505) (v := .ref x) rfl rfl rfl ?_)
  refine wl_of hX hb cL_1505 (xc_V (pc' := 1508) (r := x) (as := []) (st := []) (lm_11_204) rfl rfl (Nat.le_of_ble_eq_true rfl) hW gx sh_1 (by decide) rfl (by decide) (s_158 hW gx) (fun R6055 T6056 H6057 p6058 => ?_))
  obtain ⟨e6059, w6061, f6062, z6063, e6060, b6064⟩ := p6058
  subst e6059
  subst e6060
  show WL _ _ _ _ 1508 [(4, vI i), (3, .ref o), (2, .ref m), (1, .ref x), (0, .ref 0)] [vI z6063] _ H6057
  refine wl_of hX hb cL_1508 (rw_pop (pc' := 1509) rfl rfl ?_)
  refine wl_of hX hb cL_1509 (rw_aload_n (pc' := 1510) (v := .ref m) rfl rfl rfl ?_)
  have k6065 : wKI H6057 m = wKI H m := (wKI_fr hW gm f6062 rfl)
  have k6066 : H6057 x 9 = H x 9 := (f6062 x 9 _ gx rfl)
  have k6067 : H6057 m 6 = H m 6 := (f6062 m 6 _ gm rfl)
  have k6068 : H6057 x 11 = H x 11 := (f6062 x 11 _ gx rfl)
  have k6069 : H6057 m 13 = H m 13 := (f6062 m 13 _ gm rfl)
  have k6070 : H6057 x 8 = H x 8 := (f6062 x 8 _ gx rfl)
  have k6071 : H6057 m 3 = H m 3 := (f6062 m 3 _ gm rfl)
  refine wl_of hX hb cL_1510 (xc_V (pc' := 1513) (r := m) (as := []) (st := []) (lm_11_208) rfl rfl (Nat.le_of_ble_eq_true rfl) w6061 gm sh_42 (by decide) rfl (by decide) (s_290 w6061 gm (by omega)) (fun R6072 T6073 H6074 p6075 => ?_))
  obtain ⟨e6076, w6078, f6079, z6081, e6077, b6082, p6080⟩ := p6075
  subst e6076
  subst e6077
  show WL _ _ _ _ 1513 [(4, vI i), (3, .ref o), (2, .ref m), (1, .ref x), (0, .ref 0)] [vI z6081] _ H6074
  refine wl_of hX hb cL_1513 (rw_pop (pc' := 1514) rfl rfl ?_)
  refine wl_of hX hb cL_1514 (rw_goto (p1 := 1653) (by decide) ?_)
  have k6083 : H6074 x 9 = H6057 x 9 := (f6079 x 9 _ gx rfl)
  have k6084 : H6074 m 6 = H6057 m 6 := (f6079 m 6 _ gm rfl)
  have k6085 : H6074 x 11 = H6057 x 11 := (f6079 x 11 _ gx rfl)
  have k6086 : H6074 m 13 = H6057 m 13 := (f6079 m 13 _ gm rfl)
  have k6087 : H6074 x 8 = H6057 x 8 := (f6079 x 8 _ gx rfl)
  have k6088 : H6074 m 3 = H6057 m 3 := (f6079 m 3 _ gm rfl)
  have h6089 : XI T H6074 x m := (XI_fr w6061 gx f6079 rfl (XI_fr hW gx f6062 rfl hXI))
  exact WL.loc hX (by simp) (next T H6074 ⟨⟨w6078, g0, gx, gm, go, by omega, by omega⟩, h6089, by omega, by omega⟩ (by omega) (by omega))
set_option maxHeartbeats 4000000 in
theorem wl_c45 {kt : Nat → Option mc_E} {CB SB : Nat} {X : mc_S → Prop} {T : wq_T} {H : wq_H} {Len x m o : Nat} {i : Int} (hX : wlX kt CB SB X) (hb : T.2.1 ≤ CB ∧ T.2.2.1 ≤ SB) (hI : wlJ Len x m o T H) (hL : Len ≤ 3072) (hi : 0 ≤ i ∧ i + 6 ≤ Len) (hb2 : T.2.1 + 20 ≤ CB ∧ T.2.2.1 + 500 ≤ SB)  (next : ∀ T' H', wlJ Len x m o T' H' → T'.2.1 ≤ T.2.1 + 20 → T'.2.2.1 ≤ T.2.2.1 + 500 → WL kt CB SB X 1653 (wlL i x m o) [] T' H') : WL kt CB SB X 1517 (wlL i x m o) [] T H := by
  obtain ⟨⟨hW, g0, gx, gm, go, hK, hr⟩, hXI, hY1, hY2⟩ := hI
  refine wl_of hX hb cL_1517 (rw_aload_n (pc' := 1518) (v := .ref x) rfl rfl rfl ?_)
  refine wl_of hX hb cL_1518 (xc_V (pc' := 1521) (r := x) (as := []) (st := []) (lm_11_209) rfl rfl (Nat.le_of_ble_eq_true rfl) hW gx sh_1 (by decide) rfl (by decide) (s_159 hW gx) (fun R6090 T6091 H6092 p6093 => ?_))
  obtain ⟨e6094, w6096, f6097, z6098, e6095, b6099⟩ := p6093
  subst e6094
  subst e6095
  show WL _ _ _ _ 1521 [(4, vI i), (3, .ref o), (2, .ref m), (1, .ref x), (0, .ref 0)] [vL z6098] _ H6092
  refine wl_of hX hb cL_1521 (rw_pop2 (pc' := 1522) rfl rfl ?_)
  refine wl_of hX hb cL_1522 (rw_aload_n (pc' := 1523) (v := .ref m) rfl rfl rfl ?_)
  have k6100 : wKI H6092 m = wKI H m := (wKI_fr hW gm f6097 rfl)
  have k6101 : H6092 x 9 = H x 9 := (f6097 x 9 _ gx rfl)
  have k6102 : H6092 m 6 = H m 6 := (f6097 m 6 _ gm rfl)
  have k6103 : H6092 x 11 = H x 11 := (f6097 x 11 _ gx rfl)
  have k6104 : H6092 m 13 = H m 13 := (f6097 m 13 _ gm rfl)
  have k6105 : H6092 x 8 = H x 8 := (f6097 x 8 _ gx rfl)
  have k6106 : H6092 m 3 = H m 3 := (f6097 m 3 _ gm rfl)
  refine wl_of hX hb cL_1523 (xc_V (pc' := 1526) (r := m) (as := []) (st := []) (lm_11_212) rfl rfl (Nat.le_of_ble_eq_true rfl) w6096 gm sh_42 (by decide) rfl (by decide) (s_291 w6096 gm (by omega)) (fun R6107 T6108 H6109 p6110 => ?_))
  obtain ⟨e6111, w6113, f6114, z6116, e6112, b6117, p6115⟩ := p6110
  subst e6111
  subst e6112
  show WL _ _ _ _ 1526 [(4, vI i), (3, .ref o), (2, .ref m), (1, .ref x), (0, .ref 0)] [vL z6116] _ H6109
  refine wl_of hX hb cL_1526 (rw_pop2 (pc' := 1527) rfl rfl ?_)
  refine wl_of hX hb cL_1527 (rw_goto (p1 := 1653) (by decide) ?_)
  have k6118 : H6109 x 9 = H6092 x 9 := (f6114 x 9 _ gx rfl)
  have k6119 : H6109 m 6 = H6092 m 6 := (f6114 m 6 _ gm rfl)
  have k6120 : H6109 x 11 = H6092 x 11 := (f6114 x 11 _ gx rfl)
  have k6121 : H6109 m 13 = H6092 m 13 := (f6114 m 13 _ gm rfl)
  have k6122 : H6109 x 8 = H6092 x 8 := (f6114 x 8 _ gx rfl)
  have k6123 : H6109 m 3 = H6092 m 3 := (f6114 m 3 _ gm rfl)
  have h6124 : XI T H6109 x m := (XI_fr w6096 gx f6114 rfl (XI_fr hW gx f6097 rfl hXI))
  exact WL.loc hX (by simp) (next T H6109 ⟨⟨w6113, g0, gx, gm, go, by omega, by omega⟩, h6124, by omega, by omega⟩ (by omega) (by omega))
set_option maxHeartbeats 4000000 in
theorem wl_c46 {kt : Nat → Option mc_E} {CB SB : Nat} {X : mc_S → Prop} {T : wq_T} {H : wq_H} {Len x m o : Nat} {i : Int} (hX : wlX kt CB SB X) (hb : T.2.1 ≤ CB ∧ T.2.2.1 ≤ SB) (hI : wlJ Len x m o T H) (hL : Len ≤ 3072) (hi : 0 ≤ i ∧ i + 6 ≤ Len) (hb2 : T.2.1 + 20 ≤ CB ∧ T.2.2.1 + 500 ≤ SB)  (next : ∀ T' H', wlJ Len x m o T' H' → T'.2.1 ≤ T.2.1 + 20 → T'.2.2.1 ≤ T.2.2.1 + 500 → WL kt CB SB X 1653 (wlL i x m o) [] T' H') : WL kt CB SB X 1530 (wlL i x m o) [] T H := by
  obtain ⟨⟨hW, g0, gx, gm, go, hK, hr⟩, hXI, hY1, hY2⟩ := hI
  refine wl_of hX hb cL_1530 (rw_aload_n (pc' := 1531) (v := .ref x) rfl rfl rfl ?_)
  refine wl_of hX hb cL_1531 (rw_aload_n (pc' := 1532) (v := .ref 0) rfl rfl rfl ?_)
  refine wl_of hX hb cL_1532 (rw_iload (pc' := 1534) (z := i) rfl rfl ?_)
  refine wl_of hX hb cL_1534 (rw_iconst (pc' := 1535) rfl ?_)
  refine wl_of hX hb cL_1535 (rw_iadd (pc' := 1536) rfl ?_)
  refine wl_of hX hb cL_1536 (xa_I (so := 0) (pc' := 1537) (a := 0) hW g0 (wsh_s _) (by omega) (wty_s _ _) (by omega) (by omega) rfl (fun b6125 b6126 => ?_))
  refine wl_of hX hb cL_1537 (rw_i2l (pc' := 1538) rfl ⟨by omega, by omega⟩ ?_)
  refine wl_of hX hb cL_1538 (rw_bipush (pc' := 1540) (z := 32) rfl (by decide) ?_)
  refine wl_of hX hb cL_1540 (rw_lshl (pc' := 1541) rfl ?_)
  obtain ⟨v6127, e6128⟩ : ∃ x : Int, x = wl_shl (H 0 ((i + 1).toNat)) 32 := ⟨_, rfl⟩
  rw [← e6128]
  have b6129 : -9223372036854775808 ≤ v6127 ∧ v6127 ≤ 9223372036854775807 := by
    rw [e6128]
    exact wL_shl _ _
  refine wl_of hX hb cL_1541 (rw_aload_n (pc' := 1542) (v := .ref 0) rfl rfl rfl ?_)
  refine wl_of hX hb cL_1542 (rw_iload (pc' := 1544) (z := i) rfl rfl ?_)
  refine wl_of hX hb cL_1544 (rw_iconst (pc' := 1545) rfl ?_)
  refine wl_of hX hb cL_1545 (rw_iadd (pc' := 1546) rfl ?_)
  refine wl_of hX hb cL_1546 (xa_I (so := 0) (pc' := 1547) (a := 0) hW g0 (wsh_s _) (by omega) (wty_s _ _) (by omega) (by omega) rfl (fun b6130 b6131 => ?_))
  refine wl_of hX hb cL_1547 (rw_i2l (pc' := 1548) rfl ⟨by omega, by omega⟩ ?_)
  refine wl_of hX hb cL_1548 (rw_ldc2 (pc' := 1551) (z := 4294967295) rfl rfl rfl ?_)
  refine wl_of hX hb cL_1551 (rw_land (pc' := 1552) rfl ?_)
  obtain ⟨v6132, e6133⟩ : ∃ x : Int, x = wl_and (H 0 ((i + 2).toNat)) 4294967295 := ⟨_, rfl⟩
  rw [← e6133]
  have b6134 : -9223372036854775808 ≤ v6132 ∧ v6132 ≤ 9223372036854775807 := by
    rw [e6133]
    exact wL_and _ _
  refine wl_of hX hb cL_1552 (rw_lor (pc' := 1553) rfl ?_)
  obtain ⟨v6135, e6136⟩ : ∃ x : Int, x = wl_or v6127 v6132 := ⟨_, rfl⟩
  rw [← e6136]
  have b6137 : -9223372036854775808 ≤ v6135 ∧ v6135 ≤ 9223372036854775807 := by
    rw [e6136]
    exact wL_or _ _
  obtain ⟨B, tc, tm, cu, dr, C8, e8, d8, n8, g8, ce8, e0, gtc, htc, em, gtm, htm, ecu, gcu, edr, gdr, hcu, hdr, hdec, hded, hsp, hC1, hC2, hcu8, hrb8, hcg8, hmn8, hE, hZ, hn8, hXA, hV8, hSG, ece8, gce8, hcen8, hhdr8, hknn8, -⟩ := hXI
  have hN3 := RB_n3 hrb8
  have hE13 : ∀ h : Nat, h < 24 → 0 ≤ e8 13 h ∧ e8 13 h ≤ 100 := fun k hk => by
    obtain ⟨s, h1, h2, h3⟩ := hcu8.1.2.2.1
    exact ⟨(h3 k hk).1, (h3 k hk).2.1⟩
  have hXW := hXA.1
  have hXN := hXA.2
  have hE0 : e8 0 3 = d8 0 3 ∧ e8 0 0 = d8 0 0 := by
    have h := hE 0 (by decide)
    exact ⟨congrFun h 3, congrFun h 0⟩
  have u6138 := CU_k hcu8
  have h6139 : CY T H cu (d8 0 3) g8 (H cu 17) := ⟨hcg8, rfl⟩
  have h6140 : RY T H m (d8 0 3) g8 (H m 32) := ⟨hmn8, rfl⟩
  obtain ⟨t9, ht9⟩ : ∃ t : Int, t = H x 9 := ⟨_, rfl⟩
  refine wl_of hX hb cL_1553 (xc_V (pc' := 1556) (r := x) (as := [vL v6135]) (st := []) (lm_11_215) rfl rfl (Nat.le_of_ble_eq_true rfl) hW gx sh_1 (by decide) rfl (by decide) (u_161 (e := e8) (d := d8) (n := n8) (nY := ((d8 0 3))) (gY := g8) (cY := ((H cu 17))) hW gx ⟨b6137.1, b6137.2⟩ ecu gcu (by omega) (by omega) (by omega) hcu8 h6139 hcu) (fun R6141 T6142 H6143 p6144 => ?_))
  obtain ⟨e6145, w6147, f6148, z6149, e6146, b6150, p6151⟩ := p6144
  subst e6145
  subst e6146
  rcases p6151 with ⟨a6152, a6153, a6154, a6155, a6156⟩ | ⟨a6157, a6158, a6159⟩
  · show WL _ _ _ _ 1556 [(4, vI i), (3, .ref o), (2, .ref m), (1, .ref x), (0, .ref 0)] [vI z6149] _ H6143
    refine wl_of hX hb cL_1556 (rw_pop (pc' := 1557) rfl rfl ?_)
    refine wl_of hX hb cL_1557 (rw_aload_n (pc' := 1558) (v := .ref m) rfl rfl rfl ?_)
    refine wl_of hX hb cL_1558 (rw_aload_n (pc' := 1559) (v := .ref 0) rfl rfl rfl ?_)
    refine wl_of hX hb cL_1559 (rw_iload (pc' := 1561) (z := i) rfl rfl ?_)
    refine wl_of hX hb cL_1561 (rw_iconst (pc' := 1562) rfl ?_)
    refine wl_of hX hb cL_1562 (rw_iadd (pc' := 1563) rfl ?_)
    have k6162 : H6143 0 ((i + 1).toNat) = H 0 ((i + 1).toNat) := (f6148 0 ((i + 1).toNat) _ g0 (wmem_s rfl))
    refine wl_of hX hb cL_1563 (xa_I (so := 0) (pc' := 1564) (a := 0) w6147 g0 (wsh_s _) (by omega) (wty_s _ _) (by omega) (by omega) rfl (fun b6160 b6161 => ?_))
    refine wl_of hX hb cL_1564 (rw_i2l (pc' := 1565) rfl ⟨by omega, by omega⟩ ?_)
    refine wl_of hX hb cL_1565 (rw_bipush (pc' := 1567) (z := 32) rfl (by decide) ?_)
    refine wl_of hX hb cL_1567 (rw_lshl (pc' := 1568) rfl ?_)
    obtain ⟨v6163, e6164⟩ : ∃ x : Int, x = wl_shl (H6143 0 ((i + 1).toNat)) 32 := ⟨_, rfl⟩
    rw [← e6164]
    have b6165 : -9223372036854775808 ≤ v6163 ∧ v6163 ≤ 9223372036854775807 := by
      rw [e6164]
      exact wL_shl _ _
    refine wl_of hX hb cL_1568 (rw_aload_n (pc' := 1569) (v := .ref 0) rfl rfl rfl ?_)
    refine wl_of hX hb cL_1569 (rw_iload (pc' := 1571) (z := i) rfl rfl ?_)
    refine wl_of hX hb cL_1571 (rw_iconst (pc' := 1572) rfl ?_)
    refine wl_of hX hb cL_1572 (rw_iadd (pc' := 1573) rfl ?_)
    have k6168 : H6143 0 ((i + 2).toNat) = H 0 ((i + 2).toNat) := (f6148 0 ((i + 2).toNat) _ g0 (wmem_s rfl))
    refine wl_of hX hb cL_1573 (xa_I (so := 0) (pc' := 1574) (a := 0) w6147 g0 (wsh_s _) (by omega) (wty_s _ _) (by omega) (by omega) rfl (fun b6166 b6167 => ?_))
    refine wl_of hX hb cL_1574 (rw_i2l (pc' := 1575) rfl ⟨by omega, by omega⟩ ?_)
    refine wl_of hX hb cL_1575 (rw_ldc2 (pc' := 1578) (z := 4294967295) rfl rfl rfl ?_)
    refine wl_of hX hb cL_1578 (rw_land (pc' := 1579) rfl ?_)
    obtain ⟨v6169, e6170⟩ : ∃ x : Int, x = wl_and (H6143 0 ((i + 2).toNat)) 4294967295 := ⟨_, rfl⟩
    rw [← e6170]
    have b6171 : -9223372036854775808 ≤ v6169 ∧ v6169 ≤ 9223372036854775807 := by
      rw [e6170]
      exact wL_and _ _
    refine wl_of hX hb cL_1579 (rw_lor (pc' := 1580) rfl ?_)
    obtain ⟨v6172, e6173⟩ : ∃ x : Int, x = wl_or v6163 v6169 := ⟨_, rfl⟩
    rw [← e6173]
    have b6174 : -9223372036854775808 ≤ v6172 ∧ v6172 ≤ 9223372036854775807 := by
      rw [e6173]
      exact wL_or _ _
    have k6175 : wKI H6143 m = wKI H m := (wKI_fr hW gm f6148 rfl)
    have k6176 : H6143 x 9 = H x 9 := (f6148 x 9 _ gx rfl)
    have k6177 : H6143 m 6 = H m 6 := (f6148 m 6 _ gm rfl)
    have k6178 : H6143 x 11 = H x 11 := (f6148 x 11 _ gx rfl)
    have k6179 : H6143 m 13 = H m 13 := (f6148 m 13 _ gm rfl)
    have k6180 : H6143 x 8 = H x 8 := (f6148 x 8 _ gx rfl)
    have k6181 : H6143 m 3 = H m 3 := (f6148 m 3 _ gm rfl)
    have h6182 : RB T H6143 m e8 d8 := (RB_fr hW gm f6148 rfl hrb8)
    have h6183 : RY T H6143 m (d8 0 3) g8 (H m 32) := (RY_fr hW gm f6148 rfl h6140)
    refine wl_of hX hb cL_1580 (xc_V (pc' := 1583) (r := m) (as := [vL v6172]) (st := []) (lm_11_219) rfl rfl (Nat.le_of_ble_eq_true rfl) w6147 gm sh_42 (by decide) rfl (by decide) (u_292 (e := e8) (d := d8) (nY := ((d8 0 3))) (gY := g8) (cY := ((H m 32))) w6147 gm ⟨b6174.1, b6174.2⟩ (by omega) h6182 h6183) (fun R6184 T6185 H6186 p6187 => ?_))
    obtain ⟨e6188, w6190, f6191, z6192, e6189, b6193, p6194⟩ := p6187
    subst e6188
    subst e6189
    rcases p6194 with ⟨a6195, a6196, a6197, a6198⟩ | ⟨a6199, a6200, a6201⟩
    · show WL _ _ _ _ 1583 [(4, vI i), (3, .ref o), (2, .ref m), (1, .ref x), (0, .ref 0)] [vI z6192] _ H6186
      refine wl_of hX hb cL_1583 (rw_pop (pc' := 1584) rfl rfl ?_)
      refine wl_of hX hb cL_1584 (rw_goto (p1 := 1653) (by decide) ?_)
      have k6202 : wKI H6186 m = wKI H6143 m := (wKI_fr w6147 gm f6191 rfl)
      have k6203 : H6186 x 9 = H6143 x 9 := (f6191 x 9 _ gx rfl)
      have k6204 : H6186 m 6 = H6143 m 6 := (f6191 m 6 _ gm rfl)
      have k6205 : H6186 x 11 = H6143 x 11 := (f6191 x 11 _ gx rfl)
      have k6206 : H6186 m 13 = H6143 m 13 := (f6191 m 13 _ gm rfl)
      have k6207 : H6186 x 8 = H6143 x 8 := (f6191 x 8 _ gx rfl)
      have k6208 : H6186 m 3 = H6143 m 3 := (f6191 m 3 _ gm rfl)
      have k6209 : H6186 x 0 = H x 0 := ((f6191 x 0 _ gx rfl).trans (f6148 x 0 _ gx rfl))
      have q6210 : H6186 x 0 = (tc : Int) := k6209.trans e0
      have k6211 : H6186 m 5 = H m 5 := ((f6191 m 5 _ gm rfl).trans (f6148 m 5 _ gm rfl))
      have q6212 : H6186 m 5 = (tm : Int) := k6211.trans em
      have k6213 : H6186 x 6 = H x 6 := ((f6191 x 6 _ gx rfl).trans (f6148 x 6 _ gx rfl))
      have q6214 : H6186 x 6 = (cu : Int) := k6213.trans ecu
      have k6215 : H6186 x 7 = H x 7 := ((f6191 x 7 _ gx rfl).trans (f6148 x 7 _ gx rfl))
      have q6216 : H6186 x 7 = (dr : Int) := k6215.trans edr
      have h6217 : TP T H6186 tc B := (TP_fr w6147 gtc f6191 rfl (TP_fr hW gtc f6148 rfl htc))
      have h6218 : TM T H6186 tm B := (TM_fr w6147 gtm f6191 rfl (TM_fr hW gtm f6148 rfl htm))
      have h6219 : DD T H6186 cu  := (DD_fr w6147 gcu f6191 rfl (DD_fr hW gcu f6148 rfl hcu))
      have h6220 : DD T H6186 dr  := (DD_fr w6147 gdr f6191 rfl (DD_fr hW gdr f6148 rfl hdr))
      have h6221 : DE T H6186 cu  := (DE_fr w6147 gcu f6191 rfl (DE_fr hW gcu f6148 rfl hdec))
      have h6222 : DE T H6186 dr  := (DE_fr w6147 gdr f6191 rfl (DE_fr hW gdr f6148 rfl hded))
      have h6223 : SP T H6186 x C8 := (SP_fr w6147 gx f6191 rfl (SP_fr hW gx f6148 rfl hsp))
      have h6224 : CU T H6186 cu e8 d8 n8 := (CU_fr w6147 gcu f6191 rfl (CU_fr hW gcu f6148 rfl hcu8))
      have h6225 : CY T H6186 cu ((d8 0 3)) (xdg d8 v6135) (wdv (d8 0 3).toNat v6135) := (CY_fr w6147 gcu f6191 rfl a6156)
      have k6226 : H6186 x 3 = H x 3 := ((f6191 x 3 _ gx rfl).trans (f6148 x 3 _ gx rfl))
      have q6227 : H6186 x 3 = (ce8 : Int) := k6226.trans ece8
      have h6228 : CEN T H6186 ce8 e8 d8 := (CEN_fr w6147 gce8 f6191 rfl (CEN_fr hW gce8 f6148 rfl hcen8))
      have h6229 : HDR T H6186 ce8  := (HDR_fr w6147 gce8 f6191 rfl (HDR_fr hW gce8 f6148 rfl hhdr8))
      have h6230 : KNN T H6186 m e8 d8 := (KNN_fr w6147 gm f6191 rfl (KNN_fr hW gm f6148 rfl hknn8))
      exfalso
      omega
    · show WL _ _ _ _ 1583 [(4, vI i), (3, .ref o), (2, .ref m), (1, .ref x), (0, .ref 0)] [vI z6192] _ H6186
      refine wl_of hX hb cL_1583 (rw_pop (pc' := 1584) rfl rfl ?_)
      refine wl_of hX hb cL_1584 (rw_goto (p1 := 1653) (by decide) ?_)
      have k6231 : wKI H6186 m = wKI H6143 m := (wKI_fr w6147 gm f6191 rfl)
      have k6232 : H6186 x 9 = H6143 x 9 := (f6191 x 9 _ gx rfl)
      have k6233 : H6186 m 6 = H6143 m 6 := (f6191 m 6 _ gm rfl)
      have k6234 : H6186 x 11 = H6143 x 11 := (f6191 x 11 _ gx rfl)
      have k6235 : H6186 m 13 = H6143 m 13 := (f6191 m 13 _ gm rfl)
      have k6236 : H6186 x 8 = H6143 x 8 := (f6191 x 8 _ gx rfl)
      have k6237 : H6186 m 3 = H6143 m 3 := (f6191 m 3 _ gm rfl)
      have k6238 : H6186 x 0 = H x 0 := ((f6191 x 0 _ gx rfl).trans (f6148 x 0 _ gx rfl))
      have q6239 : H6186 x 0 = (tc : Int) := k6238.trans e0
      have k6240 : H6186 m 5 = H m 5 := ((f6191 m 5 _ gm rfl).trans (f6148 m 5 _ gm rfl))
      have q6241 : H6186 m 5 = (tm : Int) := k6240.trans em
      have k6242 : H6186 x 6 = H x 6 := ((f6191 x 6 _ gx rfl).trans (f6148 x 6 _ gx rfl))
      have q6243 : H6186 x 6 = (cu : Int) := k6242.trans ecu
      have k6244 : H6186 x 7 = H x 7 := ((f6191 x 7 _ gx rfl).trans (f6148 x 7 _ gx rfl))
      have q6245 : H6186 x 7 = (dr : Int) := k6244.trans edr
      have h6246 : TP T H6186 tc B := (TP_fr w6147 gtc f6191 rfl (TP_fr hW gtc f6148 rfl htc))
      have h6247 : TM T H6186 tm B := (TM_fr w6147 gtm f6191 rfl (TM_fr hW gtm f6148 rfl htm))
      have h6248 : DD T H6186 cu  := (DD_fr w6147 gcu f6191 rfl (DD_fr hW gcu f6148 rfl hcu))
      have h6249 : DD T H6186 dr  := (DD_fr w6147 gdr f6191 rfl (DD_fr hW gdr f6148 rfl hdr))
      have h6250 : DE T H6186 cu  := (DE_fr w6147 gcu f6191 rfl (DE_fr hW gcu f6148 rfl hdec))
      have h6251 : DE T H6186 dr  := (DE_fr w6147 gdr f6191 rfl (DE_fr hW gdr f6148 rfl hded))
      have h6252 : SP T H6186 x C8 := (SP_fr w6147 gx f6191 rfl (SP_fr hW gx f6148 rfl hsp))
      have h6253 : CU T H6186 cu e8 d8 n8 := (CU_fr w6147 gcu f6191 rfl (CU_fr hW gcu f6148 rfl hcu8))
      have h6254 : CY T H6186 cu ((d8 0 3)) (xdg d8 v6135) (wdv (d8 0 3).toNat v6135) := (CY_fr w6147 gcu f6191 rfl a6156)
      have k6255 : H6186 x 3 = H x 3 := ((f6191 x 3 _ gx rfl).trans (f6148 x 3 _ gx rfl))
      have q6256 : H6186 x 3 = (ce8 : Int) := k6255.trans ece8
      have h6257 : CEN T H6186 ce8 e8 d8 := (CEN_fr w6147 gce8 f6191 rfl (CEN_fr hW gce8 f6148 rfl hcen8))
      have h6258 : HDR T H6186 ce8  := (HDR_fr w6147 gce8 f6191 rfl (HDR_fr hW gce8 f6148 rfl hhdr8))
      have h6259 : KNN T H6186 m e8 d8 := (KNN_fr w6147 gm f6191 rfl (KNN_fr hW gm f6148 rfl hknn8))
      exfalso
      omega
  · show WL _ _ _ _ 1556 [(4, vI i), (3, .ref o), (2, .ref m), (1, .ref x), (0, .ref 0)] [vI z6149] _ H6143
    refine wl_of hX hb cL_1556 (rw_pop (pc' := 1557) rfl rfl ?_)
    refine wl_of hX hb cL_1557 (rw_aload_n (pc' := 1558) (v := .ref m) rfl rfl rfl ?_)
    refine wl_of hX hb cL_1558 (rw_aload_n (pc' := 1559) (v := .ref 0) rfl rfl rfl ?_)
    refine wl_of hX hb cL_1559 (rw_iload (pc' := 1561) (z := i) rfl rfl ?_)
    refine wl_of hX hb cL_1561 (rw_iconst (pc' := 1562) rfl ?_)
    refine wl_of hX hb cL_1562 (rw_iadd (pc' := 1563) rfl ?_)
    have k6262 : H6143 0 ((i + 1).toNat) = H 0 ((i + 1).toNat) := (f6148 0 ((i + 1).toNat) _ g0 (wmem_s rfl))
    refine wl_of hX hb cL_1563 (xa_I (so := 0) (pc' := 1564) (a := 0) w6147 g0 (wsh_s _) (by omega) (wty_s _ _) (by omega) (by omega) rfl (fun b6260 b6261 => ?_))
    refine wl_of hX hb cL_1564 (rw_i2l (pc' := 1565) rfl ⟨by omega, by omega⟩ ?_)
    refine wl_of hX hb cL_1565 (rw_bipush (pc' := 1567) (z := 32) rfl (by decide) ?_)
    refine wl_of hX hb cL_1567 (rw_lshl (pc' := 1568) rfl ?_)
    obtain ⟨v6263, e6264⟩ : ∃ x : Int, x = wl_shl (H6143 0 ((i + 1).toNat)) 32 := ⟨_, rfl⟩
    rw [← e6264]
    have b6265 : -9223372036854775808 ≤ v6263 ∧ v6263 ≤ 9223372036854775807 := by
      rw [e6264]
      exact wL_shl _ _
    refine wl_of hX hb cL_1568 (rw_aload_n (pc' := 1569) (v := .ref 0) rfl rfl rfl ?_)
    refine wl_of hX hb cL_1569 (rw_iload (pc' := 1571) (z := i) rfl rfl ?_)
    refine wl_of hX hb cL_1571 (rw_iconst (pc' := 1572) rfl ?_)
    refine wl_of hX hb cL_1572 (rw_iadd (pc' := 1573) rfl ?_)
    have k6268 : H6143 0 ((i + 2).toNat) = H 0 ((i + 2).toNat) := (f6148 0 ((i + 2).toNat) _ g0 (wmem_s rfl))
    refine wl_of hX hb cL_1573 (xa_I (so := 0) (pc' := 1574) (a := 0) w6147 g0 (wsh_s _) (by omega) (wty_s _ _) (by omega) (by omega) rfl (fun b6266 b6267 => ?_))
    refine wl_of hX hb cL_1574 (rw_i2l (pc' := 1575) rfl ⟨by omega, by omega⟩ ?_)
    refine wl_of hX hb cL_1575 (rw_ldc2 (pc' := 1578) (z := 4294967295) rfl rfl rfl ?_)
    refine wl_of hX hb cL_1578 (rw_land (pc' := 1579) rfl ?_)
    obtain ⟨v6269, e6270⟩ : ∃ x : Int, x = wl_and (H6143 0 ((i + 2).toNat)) 4294967295 := ⟨_, rfl⟩
    rw [← e6270]
    have b6271 : -9223372036854775808 ≤ v6269 ∧ v6269 ≤ 9223372036854775807 := by
      rw [e6270]
      exact wL_and _ _
    refine wl_of hX hb cL_1579 (rw_lor (pc' := 1580) rfl ?_)
    obtain ⟨v6272, e6273⟩ : ∃ x : Int, x = wl_or v6263 v6269 := ⟨_, rfl⟩
    rw [← e6273]
    have b6274 : -9223372036854775808 ≤ v6272 ∧ v6272 ≤ 9223372036854775807 := by
      rw [e6273]
      exact wL_or _ _
    have k6275 : wKI H6143 m = wKI H m := (wKI_fr hW gm f6148 rfl)
    have k6276 : H6143 x 9 = H x 9 := (f6148 x 9 _ gx rfl)
    have k6277 : H6143 m 6 = H m 6 := (f6148 m 6 _ gm rfl)
    have k6278 : H6143 x 11 = H x 11 := (f6148 x 11 _ gx rfl)
    have k6279 : H6143 m 13 = H m 13 := (f6148 m 13 _ gm rfl)
    have k6280 : H6143 x 8 = H x 8 := (f6148 x 8 _ gx rfl)
    have k6281 : H6143 m 3 = H m 3 := (f6148 m 3 _ gm rfl)
    have h6282 : RB T H6143 m e8 d8 := (RB_fr hW gm f6148 rfl hrb8)
    have h6283 : RY T H6143 m (d8 0 3) g8 (H m 32) := (RY_fr hW gm f6148 rfl h6140)
    refine wl_of hX hb cL_1580 (xc_V (pc' := 1583) (r := m) (as := [vL v6272]) (st := []) (lm_11_219) rfl rfl (Nat.le_of_ble_eq_true rfl) w6147 gm sh_42 (by decide) rfl (by decide) (u_292 (e := e8) (d := d8) (nY := ((d8 0 3))) (gY := g8) (cY := ((H m 32))) w6147 gm ⟨b6274.1, b6274.2⟩ (by omega) h6282 h6283) (fun R6284 T6285 H6286 p6287 => ?_))
    obtain ⟨e6288, w6290, f6291, z6292, e6289, b6293, p6294⟩ := p6287
    subst e6288
    subst e6289
    rcases p6294 with ⟨a6295, a6296, a6297, a6298⟩ | ⟨a6299, a6300, a6301⟩
    · show WL _ _ _ _ 1583 [(4, vI i), (3, .ref o), (2, .ref m), (1, .ref x), (0, .ref 0)] [vI z6292] _ H6286
      refine wl_of hX hb cL_1583 (rw_pop (pc' := 1584) rfl rfl ?_)
      refine wl_of hX hb cL_1584 (rw_goto (p1 := 1653) (by decide) ?_)
      have k6302 : wKI H6286 m = wKI H6143 m := (wKI_fr w6147 gm f6291 rfl)
      have k6303 : H6286 x 9 = H6143 x 9 := (f6291 x 9 _ gx rfl)
      have k6304 : H6286 m 6 = H6143 m 6 := (f6291 m 6 _ gm rfl)
      have k6305 : H6286 x 11 = H6143 x 11 := (f6291 x 11 _ gx rfl)
      have k6306 : H6286 m 13 = H6143 m 13 := (f6291 m 13 _ gm rfl)
      have k6307 : H6286 x 8 = H6143 x 8 := (f6291 x 8 _ gx rfl)
      have k6308 : H6286 m 3 = H6143 m 3 := (f6291 m 3 _ gm rfl)
      have k6309 : H6286 x 0 = H x 0 := ((f6291 x 0 _ gx rfl).trans (f6148 x 0 _ gx rfl))
      have q6310 : H6286 x 0 = (tc : Int) := k6309.trans e0
      have k6311 : H6286 m 5 = H m 5 := ((f6291 m 5 _ gm rfl).trans (f6148 m 5 _ gm rfl))
      have q6312 : H6286 m 5 = (tm : Int) := k6311.trans em
      have k6313 : H6286 x 6 = H x 6 := ((f6291 x 6 _ gx rfl).trans (f6148 x 6 _ gx rfl))
      have q6314 : H6286 x 6 = (cu : Int) := k6313.trans ecu
      have k6315 : H6286 x 7 = H x 7 := ((f6291 x 7 _ gx rfl).trans (f6148 x 7 _ gx rfl))
      have q6316 : H6286 x 7 = (dr : Int) := k6315.trans edr
      have h6317 : TP T H6286 tc B := (TP_fr w6147 gtc f6291 rfl (TP_fr hW gtc f6148 rfl htc))
      have h6318 : TM T H6286 tm B := (TM_fr w6147 gtm f6291 rfl (TM_fr hW gtm f6148 rfl htm))
      have h6319 : DD T H6286 cu  := (DD_fr w6147 gcu f6291 rfl (DD_fr hW gcu f6148 rfl hcu))
      have h6320 : DD T H6286 dr  := (DD_fr w6147 gdr f6291 rfl (DD_fr hW gdr f6148 rfl hdr))
      have h6321 : DE T H6286 cu  := (DE_fr w6147 gcu f6291 rfl (DE_fr hW gcu f6148 rfl hdec))
      have h6322 : DE T H6286 dr  := (DE_fr w6147 gdr f6291 rfl (DE_fr hW gdr f6148 rfl hded))
      have h6323 : SP T H6286 x C8 := (SP_fr w6147 gx f6291 rfl (SP_fr hW gx f6148 rfl hsp))
      have h6324 : CU T H6286 cu e8 d8 n8 := (CU_fr w6147 gcu f6291 rfl (CU_fr hW gcu f6148 rfl hcu8))
      have h6325 : CY T H6286 cu ((d8 0 3)) g8 ((H cu 17)) := (CY_fr w6147 gcu f6291 rfl a6159)
      have k6326 : H6286 x 3 = H x 3 := ((f6291 x 3 _ gx rfl).trans (f6148 x 3 _ gx rfl))
      have q6327 : H6286 x 3 = (ce8 : Int) := k6326.trans ece8
      have h6328 : CEN T H6286 ce8 e8 d8 := (CEN_fr w6147 gce8 f6291 rfl (CEN_fr hW gce8 f6148 rfl hcen8))
      have h6329 : HDR T H6286 ce8  := (HDR_fr w6147 gce8 f6291 rfl (HDR_fr hW gce8 f6148 rfl hhdr8))
      have h6330 : KNN T H6286 m e8 d8 := (KNN_fr w6147 gm f6291 rfl (KNN_fr hW gm f6148 rfl hknn8))
      exfalso
      omega
    · show WL _ _ _ _ 1583 [(4, vI i), (3, .ref o), (2, .ref m), (1, .ref x), (0, .ref 0)] [vI z6292] _ H6286
      refine wl_of hX hb cL_1583 (rw_pop (pc' := 1584) rfl rfl ?_)
      refine wl_of hX hb cL_1584 (rw_goto (p1 := 1653) (by decide) ?_)
      have k6331 : wKI H6286 m = wKI H6143 m := (wKI_fr w6147 gm f6291 rfl)
      have k6332 : H6286 x 9 = H6143 x 9 := (f6291 x 9 _ gx rfl)
      have k6333 : H6286 m 6 = H6143 m 6 := (f6291 m 6 _ gm rfl)
      have k6334 : H6286 x 11 = H6143 x 11 := (f6291 x 11 _ gx rfl)
      have k6335 : H6286 m 13 = H6143 m 13 := (f6291 m 13 _ gm rfl)
      have k6336 : H6286 x 8 = H6143 x 8 := (f6291 x 8 _ gx rfl)
      have k6337 : H6286 m 3 = H6143 m 3 := (f6291 m 3 _ gm rfl)
      have k6338 : H6286 x 0 = H x 0 := ((f6291 x 0 _ gx rfl).trans (f6148 x 0 _ gx rfl))
      have q6339 : H6286 x 0 = (tc : Int) := k6338.trans e0
      have k6340 : H6286 m 5 = H m 5 := ((f6291 m 5 _ gm rfl).trans (f6148 m 5 _ gm rfl))
      have q6341 : H6286 m 5 = (tm : Int) := k6340.trans em
      have k6342 : H6286 x 6 = H x 6 := ((f6291 x 6 _ gx rfl).trans (f6148 x 6 _ gx rfl))
      have q6343 : H6286 x 6 = (cu : Int) := k6342.trans ecu
      have k6344 : H6286 x 7 = H x 7 := ((f6291 x 7 _ gx rfl).trans (f6148 x 7 _ gx rfl))
      have q6345 : H6286 x 7 = (dr : Int) := k6344.trans edr
      have h6346 : TP T H6286 tc B := (TP_fr w6147 gtc f6291 rfl (TP_fr hW gtc f6148 rfl htc))
      have h6347 : TM T H6286 tm B := (TM_fr w6147 gtm f6291 rfl (TM_fr hW gtm f6148 rfl htm))
      have h6348 : DD T H6286 cu  := (DD_fr w6147 gcu f6291 rfl (DD_fr hW gcu f6148 rfl hcu))
      have h6349 : DD T H6286 dr  := (DD_fr w6147 gdr f6291 rfl (DD_fr hW gdr f6148 rfl hdr))
      have h6350 : DE T H6286 cu  := (DE_fr w6147 gcu f6291 rfl (DE_fr hW gcu f6148 rfl hdec))
      have h6351 : DE T H6286 dr  := (DE_fr w6147 gdr f6291 rfl (DE_fr hW gdr f6148 rfl hded))
      have h6352 : SP T H6286 x C8 := (SP_fr w6147 gx f6291 rfl (SP_fr hW gx f6148 rfl hsp))
      have h6353 : CU T H6286 cu e8 d8 n8 := (CU_fr w6147 gcu f6291 rfl (CU_fr hW gcu f6148 rfl hcu8))
      have h6354 : CY T H6286 cu ((d8 0 3)) g8 ((H cu 17)) := (CY_fr w6147 gcu f6291 rfl a6159)
      have k6355 : H6286 x 3 = H x 3 := ((f6291 x 3 _ gx rfl).trans (f6148 x 3 _ gx rfl))
      have q6356 : H6286 x 3 = (ce8 : Int) := k6355.trans ece8
      have h6357 : CEN T H6286 ce8 e8 d8 := (CEN_fr w6147 gce8 f6291 rfl (CEN_fr hW gce8 f6148 rfl hcen8))
      have h6358 : HDR T H6286 ce8  := (HDR_fr w6147 gce8 f6291 rfl (HDR_fr hW gce8 f6148 rfl hhdr8))
      have h6359 : KNN T H6286 m e8 d8 := (KNN_fr w6147 gm f6291 rfl (KNN_fr hW gm f6148 rfl hknn8))
      have h6360 : RB T H6286 m e8 d8 := (RB_fr w6147 gm f6291 rfl h6282)
      exact WL.loc hX (by simp) (next T H6286 ⟨⟨w6290, g0, gx, gm, go, by omega, by omega⟩, ⟨_, tc, tm, cu, dr, _, _, _, _, _, ce8, q6339, gtc, h6346, q6341, gtm, h6347, q6343, gcu, q6345, gdr, h6348, h6349, h6350, h6351, h6352, hC1, hC2, h6353, h6360, (h6354).1, (a6301).1, hE, hZ, (by omega), (by assumption), (by omega), (by first | assumption | exact SG_0), q6356, gce8, h6357, h6358, h6359, gm⟩, by omega, by omega⟩ (by omega) (by omega))
set_option maxHeartbeats 4000000 in
theorem wl_c47 {kt : Nat → Option mc_E} {CB SB : Nat} {X : mc_S → Prop} {T : wq_T} {H : wq_H} {Len x m o : Nat} {i : Int} (hX : wlX kt CB SB X) (hb : T.2.1 ≤ CB ∧ T.2.2.1 ≤ SB) (hI : wlJ Len x m o T H) (hL : Len ≤ 3072) (hi : 0 ≤ i ∧ i + 6 ≤ Len) (hb2 : T.2.1 + 20 ≤ CB ∧ T.2.2.1 + 500 ≤ SB) (hled : ∀ {z : Int}, wI z → T.2.1 ≤ CB ∧ T.2.2.1 ≤ SB → wlJ Len x m o T H → (∀ (z' : Int), wI z' → ∀ (T' : wq_T) (H' : wq_H), wlJ Len x m o T' H' → T'.2.1 ≤ T.2.1 + 20 → T'.2.2.1 ≤ T.2.2.1 + 500 → WL kt CB SB X 1598 (wlL i x m o) [vI z'] T' H') → WL kt CB SB X 1595 (wlL i x m o) [.ref o, vI z, .ref x] T H) (next : ∀ T' H', wlJ Len x m o T' H' → T'.2.1 ≤ T.2.1 + 20 → T'.2.2.1 ≤ T.2.2.1 + 500 → WL kt CB SB X 1653 (wlL i x m o) [] T' H') : WL kt CB SB X 1587 (wlL i x m o) [] T H := by
  obtain ⟨⟨hW, g0, gx, gm, go, hK, hr⟩, hXI, hY1, hY2⟩ := hI
  refine wl_of hX hb cL_1587 (rw_aload_n (pc' := 1588) (v := .ref x) rfl rfl rfl ?_)
  refine wl_of hX hb cL_1588 (rw_aload_n (pc' := 1589) (v := .ref 0) rfl rfl rfl ?_)
  refine wl_of hX hb cL_1589 (rw_iload (pc' := 1591) (z := i) rfl rfl ?_)
  refine wl_of hX hb cL_1591 (rw_iconst (pc' := 1592) rfl ?_)
  refine wl_of hX hb cL_1592 (rw_iadd (pc' := 1593) rfl ?_)
  refine wl_of hX hb cL_1593 (xa_I (so := 0) (pc' := 1594) (a := 0) hW g0 (wsh_s _) (by omega) (wty_s _ _) (by omega) (by omega) rfl (fun b6361 b6362 => ?_))
  refine wl_of hX hb cL_1594 (rw_aload_n (pc' := 1595) (v := .ref o) rfl rfl rfl ?_)
  refine hled ⟨by omega, by omega⟩ hb ⟨⟨hW, g0, gx, gm, go, by omega, by omega⟩, hXI, by omega, by omega⟩ (fun z9 b9 T9 H9 hI9 n9 s9 => ?_)
  obtain ⟨⟨w9, g0, gx, gm, go, hK, hr⟩, hXI, hY1, hY2⟩ := hI9
  have hb : T9.2.1 ≤ CB ∧ T9.2.2.1 ≤ SB := ⟨by omega, by omega⟩
  refine wl_of hX hb cL_1598 (rw_istore (pc' := 1600) (z := z9) (L' := [(5, vI z9), (4, vI i), (3, .ref o), (2, .ref m), (1, .ref x), (0, .ref 0)]) rfl rfl rfl ?_)
  refine wl_of hX hb cL_1600 (rw_aload_n (pc' := 1601) (v := .ref m) rfl rfl rfl ?_)
  refine wl_of hX hb cL_1601 (rw_aload_n (pc' := 1602) (v := .ref 0) rfl rfl rfl ?_)
  refine wl_of hX hb cL_1602 (rw_iload (pc' := 1604) (z := i) rfl rfl ?_)
  refine wl_of hX hb cL_1604 (rw_iconst (pc' := 1605) rfl ?_)
  refine wl_of hX hb cL_1605 (rw_iadd (pc' := 1606) rfl ?_)
  refine wl_of hX hb cL_1606 (xa_I (so := 0) (pc' := 1607) (a := 0) w9 g0 (wsh_s _) (by omega) (wty_s _ _) (by omega) (by omega) rfl (fun b6363 b6364 => ?_))
  refine wl_of hX hb cL_1607 (xc_V (pc' := 1610) (r := m) (as := [vI (H9 0 ((i + 1).toNat))]) (st := []) (lm_11_225) rfl rfl (Nat.le_of_ble_eq_true rfl) w9 gm sh_42 (by decide) rfl (by decide) (s_293 w9 gm ⟨by omega, by omega⟩ (by omega)) (fun R6365 T6366 H6367 p6368 => ?_))
  obtain ⟨e6369, w6371, f6372, z6374, e6370, b6375, p6373⟩ := p6368
  subst e6369
  subst e6370
  show WL _ _ _ _ 1610 [(5, vI z9), (4, vI i), (3, .ref o), (2, .ref m), (1, .ref x), (0, .ref 0)] [vI z6374] _ H6367
  refine wl_of hX hb cL_1610 (rw_istore (pc' := 1612) (z := z6374) (L' := [(6, vI z6374), (5, vI z9), (4, vI i), (3, .ref o), (2, .ref m), (1, .ref x), (0, .ref 0)]) rfl rfl rfl ?_)
  refine wl_of hX hb cL_1612 (rw_goto (p1 := 1653) (by decide) ?_)
  have k6376 : H6367 x 9 = H9 x 9 := (f6372 x 9 _ gx rfl)
  have k6377 : H6367 m 6 = H9 m 6 := (f6372 m 6 _ gm rfl)
  have k6378 : H6367 x 11 = H9 x 11 := (f6372 x 11 _ gx rfl)
  have k6379 : H6367 m 13 = H9 m 13 := (f6372 m 13 _ gm rfl)
  have k6380 : H6367 x 8 = H9 x 8 := (f6372 x 8 _ gx rfl)
  have k6381 : H6367 m 3 = H9 m 3 := (f6372 m 3 _ gm rfl)
  have h6382 : XI T9 H6367 x m := (XI_fr w9 gx f6372 rfl hXI)
  exact WL.loc hX (by simp) (next T9 H6367 ⟨⟨w6371, g0, gx, gm, go, by omega, by omega⟩, h6382, by omega, by omega⟩ (by omega) (by omega))
set_option maxHeartbeats 4000000 in
theorem wl_c48 {kt : Nat → Option mc_E} {CB SB : Nat} {X : mc_S → Prop} {T : wq_T} {H : wq_H} {Len x m o : Nat} {i : Int} (hX : wlX kt CB SB X) (hb : T.2.1 ≤ CB ∧ T.2.2.1 ≤ SB) (hI : wlJ Len x m o T H) (hL : Len ≤ 3072) (hi : 0 ≤ i ∧ i + 6 ≤ Len) (hb2 : T.2.1 + 20 ≤ CB ∧ T.2.2.1 + 500 ≤ SB)  (next : ∀ T' H', wlJ Len x m o T' H' → T'.2.1 ≤ T.2.1 + 20 → T'.2.2.1 ≤ T.2.2.1 + 500 → WL kt CB SB X 1653 (wlL i x m o) [] T' H') : WL kt CB SB X 1615 (wlL i x m o) [] T H := by
  obtain ⟨⟨hW, g0, gx, gm, go, hK, hr⟩, hXI, hY1, hY2⟩ := hI
  refine wl_of hX hb cL_1615 (rw_aload_n (pc' := 1616) (v := .ref x) rfl rfl rfl ?_)
  refine wl_of hX hb cL_1616 (rw_aload_n (pc' := 1617) (v := .ref 0) rfl rfl rfl ?_)
  refine wl_of hX hb cL_1617 (rw_iload (pc' := 1619) (z := i) rfl rfl ?_)
  refine wl_of hX hb cL_1619 (rw_iconst (pc' := 1620) rfl ?_)
  refine wl_of hX hb cL_1620 (rw_iadd (pc' := 1621) rfl ?_)
  refine wl_of hX hb cL_1621 (xa_I (so := 0) (pc' := 1622) (a := 0) hW g0 (wsh_s _) (by omega) (wty_s _ _) (by omega) (by omega) rfl (fun b6383 b6384 => ?_))
  refine wl_of hX hb cL_1622 (xc_V (pc' := 1625) (r := x) (as := [vI (H 0 ((i + 1).toNat))]) (st := []) (lm_11_226) rfl rfl (Nat.le_of_ble_eq_true rfl) hW gx sh_1 (by decide) rfl (by decide) (s_164 hW gx ⟨by omega, by omega⟩) (fun R6385 T6386 H6387 p6388 => ?_))
  obtain ⟨e6389, e6391, z6392, e6390, b6393⟩ := p6388
  subst e6389
  subst e6390
  subst e6391
  show WL _ _ _ _ 1625 [(4, vI i), (3, .ref o), (2, .ref m), (1, .ref x), (0, .ref 0)] [vI z6392] _ H
  refine wl_of hX hb cL_1625 (rw_pop (pc' := 1626) rfl rfl ?_)
  refine wl_of hX hb cL_1626 (rw_aload_n (pc' := 1627) (v := .ref m) rfl rfl rfl ?_)
  refine wl_of hX hb cL_1627 (rw_aload_n (pc' := 1628) (v := .ref 0) rfl rfl rfl ?_)
  refine wl_of hX hb cL_1628 (rw_iload (pc' := 1630) (z := i) rfl rfl ?_)
  refine wl_of hX hb cL_1630 (rw_iconst (pc' := 1631) rfl ?_)
  refine wl_of hX hb cL_1631 (rw_iadd (pc' := 1632) rfl ?_)
  refine wl_of hX hb cL_1632 (xa_I (so := 0) (pc' := 1633) (a := 0) hW g0 (wsh_s _) (by omega) (wty_s _ _) (by omega) (by omega) rfl (fun b6394 b6395 => ?_))
  refine wl_of hX hb cL_1633 (xc_V (pc' := 1636) (r := m) (as := [vI (H 0 ((i + 1).toNat))]) (st := []) (lm_11_229) rfl rfl (Nat.le_of_ble_eq_true rfl) hW gm sh_42 (by decide) rfl (by decide) (s_294 hW gm ⟨by omega, by omega⟩ (by omega)) (fun R6396 T6397 H6398 p6399 => ?_))
  obtain ⟨e6400, w6402, f6403, z6405, e6401, b6406, p6404⟩ := p6399
  subst e6400
  subst e6401
  show WL _ _ _ _ 1636 [(4, vI i), (3, .ref o), (2, .ref m), (1, .ref x), (0, .ref 0)] [vI z6405] _ H6398
  refine wl_of hX hb cL_1636 (rw_pop (pc' := 1637) rfl rfl ?_)
  refine wl_of hX hb cL_1637 (rw_goto (p1 := 1653) (by decide) ?_)
  have k6407 : H6398 x 9 = H x 9 := (f6403 x 9 _ gx rfl)
  have k6408 : H6398 m 6 = H m 6 := (f6403 m 6 _ gm rfl)
  have k6409 : H6398 x 11 = H x 11 := (f6403 x 11 _ gx rfl)
  have k6410 : H6398 m 13 = H m 13 := (f6403 m 13 _ gm rfl)
  have k6411 : H6398 x 8 = H x 8 := (f6403 x 8 _ gx rfl)
  have k6412 : H6398 m 3 = H m 3 := (f6403 m 3 _ gm rfl)
  have h6413 : XI T H6398 x m := (XI_fr hW gx f6403 rfl hXI)
  exact WL.loc hX (by simp) (next T H6398 ⟨⟨w6402, g0, gx, gm, go, by omega, by omega⟩, h6413, by omega, by omega⟩ (by omega) (by omega))
set_option maxHeartbeats 4000000 in
theorem wl_c49 {kt : Nat → Option mc_E} {CB SB : Nat} {X : mc_S → Prop} {T : wq_T} {H : wq_H} {Len x m o : Nat} {i : Int} (hX : wlX kt CB SB X) (hb : T.2.1 ≤ CB ∧ T.2.2.1 ≤ SB) (hI : wlJ Len x m o T H) (hL : Len ≤ 3072) (hi : 0 ≤ i ∧ i + 6 ≤ Len) (hb2 : T.2.1 + 20 ≤ CB ∧ T.2.2.1 + 500 ≤ SB)  (next : ∀ T' H', wlJ Len x m o T' H' → T'.2.1 ≤ T.2.1 + 20 → T'.2.2.1 ≤ T.2.2.1 + 500 → WL kt CB SB X 1653 (wlL i x m o) [] T' H') : WL kt CB SB X 1640 (wlL i x m o) [] T H := by
  obtain ⟨⟨hW, g0, gx, gm, go, hK, hr⟩, hXI, hY1, hY2⟩ := hI
  refine wl_of hX hb cL_1640 (rw_aload_n (pc' := 1641) (v := .ref x) rfl rfl rfl ?_)
  refine wl_of hX hb cL_1641 (xc_V (pc' := 1644) (r := x) (as := []) (st := []) (lm_11_230) rfl rfl (Nat.le_of_ble_eq_true rfl) hW gx sh_1 (by decide) rfl (by decide) (s_165 hW gx) (fun R6414 T6415 H6416 p6417 => ?_))
  obtain ⟨e6418, e6420, z6421, e6419, b6422⟩ := p6417
  subst e6418
  subst e6419
  subst e6420
  show WL _ _ _ _ 1644 [(4, vI i), (3, .ref o), (2, .ref m), (1, .ref x), (0, .ref 0)] [vI z6421] _ H
  refine wl_of hX hb cL_1644 (rw_pop (pc' := 1645) rfl rfl ?_)
  refine wl_of hX hb cL_1645 (rw_aload_n (pc' := 1646) (v := .ref m) rfl rfl rfl ?_)
  refine wl_of hX hb cL_1646 (xc_V (pc' := 1649) (r := m) (as := []) (st := []) (lm_11_233) rfl rfl (Nat.le_of_ble_eq_true rfl) hW gm sh_42 (by decide) rfl (by decide) (s_295 hW gm (by omega)) (fun R6423 T6424 H6425 p6426 => ?_))
  obtain ⟨e6427, w6429, f6430, z6432, e6428, b6433, p6431⟩ := p6426
  subst e6427
  subst e6428
  show WL _ _ _ _ 1649 [(4, vI i), (3, .ref o), (2, .ref m), (1, .ref x), (0, .ref 0)] [vI z6432] _ H6425
  refine wl_of hX hb cL_1649 (rw_pop (pc' := 1650) rfl rfl ?_)
  refine wl_of hX hb cL_1650 (rw_goto (p1 := 1653) (by decide) ?_)
  have k6434 : H6425 x 9 = H x 9 := (f6430 x 9 _ gx rfl)
  have k6435 : H6425 m 6 = H m 6 := (f6430 m 6 _ gm rfl)
  have k6436 : H6425 x 11 = H x 11 := (f6430 x 11 _ gx rfl)
  have k6437 : H6425 m 13 = H m 13 := (f6430 m 13 _ gm rfl)
  have k6438 : H6425 x 8 = H x 8 := (f6430 x 8 _ gx rfl)
  have k6439 : H6425 m 3 = H m 3 := (f6430 m 3 _ gm rfl)
  have h6440 : XI T H6425 x m := (XI_fr hW gx f6430 rfl hXI)
  exact WL.loc hX (by simp) (next T H6425 ⟨⟨w6429, g0, gx, gm, go, by omega, by omega⟩, h6440, by omega, by omega⟩ (by omega) (by omega))
set_option maxHeartbeats 4000000 in
theorem wl_head {kt : Nat → Option mc_E} {CB SB : Nat} {X : mc_S → Prop} {T : wq_T} {H : wq_H} {Len x m o : Nat} {i : Int} (hX : wlX kt CB SB X) (hb : T.2.1 ≤ CB ∧ T.2.2.1 ≤ SB) (hI : wlJ Len x m o T H) (hL : Len ≤ 3072) (hi : 0 ≤ i ∧ i ≤ Len) (cases : ∀ t, t ∈ [256, 329, 354, 367, 380, 405, 454, 503, 516, 553, 578, 603, 616, 629, 642, 655, 668, 705, 718, 755, 792, 829, 882, 919, 944, 957, 994, 1019, 1056, 1109, 1162, 1175, 1200, 1225, 1250, 1263, 1316, 1329, 1342, 1367, 1404, 1429, 1454, 1467, 1504, 1517, 1530, 1587, 1615, 1640] → i + 6 ≤ Len → WL kt CB SB X t (wlL i x m o) [] T H) (next : i + 6 ≤ Len → WL kt CB SB X 1653 (wlL i x m o) [] T H) : WL kt CB SB X 23 (wlL i x m o) [] T H := by
  obtain ⟨⟨hW, g0, gx, gm, go, hK, hr⟩, hXI, hY1, hY2⟩ := hI
  refine wl_of hX hb cL_23 (rw_iload (pc' := 25) (z := i) rfl rfl ?_)
  refine wl_of hX hb cL_25 (rw_aload_n (pc' := 26) (v := .ref 0) rfl rfl rfl ?_)
  refine wl_of hX hb cL_26 (xa_N (pc' := 27) (a := 0) (n := Len) hW g0 (wsh_s _) (by decide) rfl ?_)
  refine wl_of hX hb cL_27 (rw_bipush (pc' := 29) (z := 6) rfl (by decide) ?_)
  refine wl_of hX hb cL_29 (rw_isub (pc' := 30) rfl ?_)
  refine wl_of hX hb cL_30 (rw_icmp_gt (p1 := 1659) (p2 := 33) (by decide) rfl ⟨by omega, by omega⟩ ⟨by omega, by omega⟩ (fun c6441 => ?_) (fun c6441 => ?_))
  · refine wl_of hX hb cL_1659 (rw_iconst (pc' := 1660) rfl ?_)
    exact WL.fin hX hb
  · refine wl_of hX hb cL_33 (rw_aload_n (pc' := 34) (v := .ref 0) rfl rfl rfl ?_)
    refine wl_of hX hb cL_34 (rw_iload (pc' := 36) (z := i) rfl rfl ?_)
    refine wl_of hX hb cL_36 (xa_I (so := 0) (pc' := 37) (a := 0) hW g0 (wsh_s _) (by omega) (wty_s _ _) (by omega) (by omega) rfl (fun b6442 b6443 => ?_))
    refine wl_of hX hb cL_37 (rw_bipush (pc' := 39) (z := 63) rfl (by decide) ?_)
    refine wl_of hX hb cL_39 (rw_iand (pc' := 40) rfl ?_)
    obtain ⟨v6444, e6445⟩ : ∃ x : Int, x = wq_and (H 0 (i.toNat)) 63 := ⟨_, rfl⟩
    rw [← e6445]
    have b6446 : 0 ≤ v6444 ∧ v6444 ≤ 63 := by
      rw [e6445]
      exact wq_and_b _ (by omega) (by omega)
    have c6447 : v6444 = 0 ∨ v6444 = 1 ∨ v6444 = 2 ∨ v6444 = 3 ∨ v6444 = 4 ∨ v6444 = 5 ∨ v6444 = 6 ∨ v6444 = 7 ∨ v6444 = 8 ∨ v6444 = 9 ∨ v6444 = 10 ∨ v6444 = 11 ∨ v6444 = 12 ∨ v6444 = 13 ∨ v6444 = 14 ∨ v6444 = 15 ∨ v6444 = 16 ∨ v6444 = 17 ∨ v6444 = 18 ∨ v6444 = 19 ∨ v6444 = 20 ∨ v6444 = 21 ∨ v6444 = 22 ∨ v6444 = 23 ∨ v6444 = 24 ∨ v6444 = 25 ∨ v6444 = 26 ∨ v6444 = 27 ∨ v6444 = 28 ∨ v6444 = 29 ∨ v6444 = 30 ∨ v6444 = 31 ∨ v6444 = 32 ∨ v6444 = 33 ∨ v6444 = 34 ∨ v6444 = 35 ∨ v6444 = 36 ∨ v6444 = 37 ∨ v6444 = 38 ∨ v6444 = 39 ∨ v6444 = 40 ∨ v6444 = 41 ∨ v6444 = 42 ∨ v6444 = 43 ∨ v6444 = 44 ∨ v6444 = 45 ∨ v6444 = 46 ∨ v6444 = 47 ∨ v6444 = 48 ∨ v6444 = 49 ∨ (v6444 < 0 ∨ 49 < v6444) := by omega
    rcases c6447 with c6447 | c6447 | c6447 | c6447 | c6447 | c6447 | c6447 | c6447 | c6447 | c6447 | c6447 | c6447 | c6447 | c6447 | c6447 | c6447 | c6447 | c6447 | c6447 | c6447 | c6447 | c6447 | c6447 | c6447 | c6447 | c6447 | c6447 | c6447 | c6447 | c6447 | c6447 | c6447 | c6447 | c6447 | c6447 | c6447 | c6447 | c6447 | c6447 | c6447 | c6447 | c6447 | c6447 | c6447 | c6447 | c6447 | c6447 | c6447 | c6447 | c6447 | c6447
    · refine wl_of hX hb cL_40 (rw_tsw (p1 := 256) ⟨by omega, by omega⟩ (by rw [c6447]; decide) ?_)
      exact cases 256 (by decide) (by omega)
    · refine wl_of hX hb cL_40 (rw_tsw (p1 := 329) ⟨by omega, by omega⟩ (by rw [c6447]; decide) ?_)
      exact cases 329 (by decide) (by omega)
    · refine wl_of hX hb cL_40 (rw_tsw (p1 := 354) ⟨by omega, by omega⟩ (by rw [c6447]; decide) ?_)
      exact cases 354 (by decide) (by omega)
    · refine wl_of hX hb cL_40 (rw_tsw (p1 := 367) ⟨by omega, by omega⟩ (by rw [c6447]; decide) ?_)
      exact cases 367 (by decide) (by omega)
    · refine wl_of hX hb cL_40 (rw_tsw (p1 := 380) ⟨by omega, by omega⟩ (by rw [c6447]; decide) ?_)
      exact cases 380 (by decide) (by omega)
    · refine wl_of hX hb cL_40 (rw_tsw (p1 := 405) ⟨by omega, by omega⟩ (by rw [c6447]; decide) ?_)
      exact cases 405 (by decide) (by omega)
    · refine wl_of hX hb cL_40 (rw_tsw (p1 := 454) ⟨by omega, by omega⟩ (by rw [c6447]; decide) ?_)
      exact cases 454 (by decide) (by omega)
    · refine wl_of hX hb cL_40 (rw_tsw (p1 := 503) ⟨by omega, by omega⟩ (by rw [c6447]; decide) ?_)
      exact cases 503 (by decide) (by omega)
    · refine wl_of hX hb cL_40 (rw_tsw (p1 := 516) ⟨by omega, by omega⟩ (by rw [c6447]; decide) ?_)
      exact cases 516 (by decide) (by omega)
    · refine wl_of hX hb cL_40 (rw_tsw (p1 := 553) ⟨by omega, by omega⟩ (by rw [c6447]; decide) ?_)
      exact cases 553 (by decide) (by omega)
    · refine wl_of hX hb cL_40 (rw_tsw (p1 := 578) ⟨by omega, by omega⟩ (by rw [c6447]; decide) ?_)
      exact cases 578 (by decide) (by omega)
    · refine wl_of hX hb cL_40 (rw_tsw (p1 := 603) ⟨by omega, by omega⟩ (by rw [c6447]; decide) ?_)
      exact cases 603 (by decide) (by omega)
    · refine wl_of hX hb cL_40 (rw_tsw (p1 := 616) ⟨by omega, by omega⟩ (by rw [c6447]; decide) ?_)
      exact cases 616 (by decide) (by omega)
    · refine wl_of hX hb cL_40 (rw_tsw (p1 := 629) ⟨by omega, by omega⟩ (by rw [c6447]; decide) ?_)
      exact cases 629 (by decide) (by omega)
    · refine wl_of hX hb cL_40 (rw_tsw (p1 := 642) ⟨by omega, by omega⟩ (by rw [c6447]; decide) ?_)
      exact cases 642 (by decide) (by omega)
    · refine wl_of hX hb cL_40 (rw_tsw (p1 := 655) ⟨by omega, by omega⟩ (by rw [c6447]; decide) ?_)
      exact cases 655 (by decide) (by omega)
    · refine wl_of hX hb cL_40 (rw_tsw (p1 := 668) ⟨by omega, by omega⟩ (by rw [c6447]; decide) ?_)
      exact cases 668 (by decide) (by omega)
    · refine wl_of hX hb cL_40 (rw_tsw (p1 := 705) ⟨by omega, by omega⟩ (by rw [c6447]; decide) ?_)
      exact cases 705 (by decide) (by omega)
    · refine wl_of hX hb cL_40 (rw_tsw (p1 := 718) ⟨by omega, by omega⟩ (by rw [c6447]; decide) ?_)
      exact cases 718 (by decide) (by omega)
    · refine wl_of hX hb cL_40 (rw_tsw (p1 := 755) ⟨by omega, by omega⟩ (by rw [c6447]; decide) ?_)
      exact cases 755 (by decide) (by omega)
    · refine wl_of hX hb cL_40 (rw_tsw (p1 := 792) ⟨by omega, by omega⟩ (by rw [c6447]; decide) ?_)
      exact cases 792 (by decide) (by omega)
    · refine wl_of hX hb cL_40 (rw_tsw (p1 := 829) ⟨by omega, by omega⟩ (by rw [c6447]; decide) ?_)
      exact cases 829 (by decide) (by omega)
    · refine wl_of hX hb cL_40 (rw_tsw (p1 := 882) ⟨by omega, by omega⟩ (by rw [c6447]; decide) ?_)
      exact cases 882 (by decide) (by omega)
    · refine wl_of hX hb cL_40 (rw_tsw (p1 := 919) ⟨by omega, by omega⟩ (by rw [c6447]; decide) ?_)
      exact cases 919 (by decide) (by omega)
    · refine wl_of hX hb cL_40 (rw_tsw (p1 := 944) ⟨by omega, by omega⟩ (by rw [c6447]; decide) ?_)
      exact cases 944 (by decide) (by omega)
    · refine wl_of hX hb cL_40 (rw_tsw (p1 := 957) ⟨by omega, by omega⟩ (by rw [c6447]; decide) ?_)
      exact cases 957 (by decide) (by omega)
    · refine wl_of hX hb cL_40 (rw_tsw (p1 := 994) ⟨by omega, by omega⟩ (by rw [c6447]; decide) ?_)
      exact cases 994 (by decide) (by omega)
    · refine wl_of hX hb cL_40 (rw_tsw (p1 := 1019) ⟨by omega, by omega⟩ (by rw [c6447]; decide) ?_)
      exact cases 1019 (by decide) (by omega)
    · refine wl_of hX hb cL_40 (rw_tsw (p1 := 1056) ⟨by omega, by omega⟩ (by rw [c6447]; decide) ?_)
      exact cases 1056 (by decide) (by omega)
    · refine wl_of hX hb cL_40 (rw_tsw (p1 := 1109) ⟨by omega, by omega⟩ (by rw [c6447]; decide) ?_)
      exact cases 1109 (by decide) (by omega)
    · refine wl_of hX hb cL_40 (rw_tsw (p1 := 1162) ⟨by omega, by omega⟩ (by rw [c6447]; decide) ?_)
      exact cases 1162 (by decide) (by omega)
    · refine wl_of hX hb cL_40 (rw_tsw (p1 := 1175) ⟨by omega, by omega⟩ (by rw [c6447]; decide) ?_)
      exact cases 1175 (by decide) (by omega)
    · refine wl_of hX hb cL_40 (rw_tsw (p1 := 1200) ⟨by omega, by omega⟩ (by rw [c6447]; decide) ?_)
      exact cases 1200 (by decide) (by omega)
    · refine wl_of hX hb cL_40 (rw_tsw (p1 := 1225) ⟨by omega, by omega⟩ (by rw [c6447]; decide) ?_)
      exact cases 1225 (by decide) (by omega)
    · refine wl_of hX hb cL_40 (rw_tsw (p1 := 1250) ⟨by omega, by omega⟩ (by rw [c6447]; decide) ?_)
      exact cases 1250 (by decide) (by omega)
    · refine wl_of hX hb cL_40 (rw_tsw (p1 := 1263) ⟨by omega, by omega⟩ (by rw [c6447]; decide) ?_)
      exact cases 1263 (by decide) (by omega)
    · refine wl_of hX hb cL_40 (rw_tsw (p1 := 1316) ⟨by omega, by omega⟩ (by rw [c6447]; decide) ?_)
      exact cases 1316 (by decide) (by omega)
    · refine wl_of hX hb cL_40 (rw_tsw (p1 := 1329) ⟨by omega, by omega⟩ (by rw [c6447]; decide) ?_)
      exact cases 1329 (by decide) (by omega)
    · refine wl_of hX hb cL_40 (rw_tsw (p1 := 1342) ⟨by omega, by omega⟩ (by rw [c6447]; decide) ?_)
      exact cases 1342 (by decide) (by omega)
    · refine wl_of hX hb cL_40 (rw_tsw (p1 := 1367) ⟨by omega, by omega⟩ (by rw [c6447]; decide) ?_)
      exact cases 1367 (by decide) (by omega)
    · refine wl_of hX hb cL_40 (rw_tsw (p1 := 1404) ⟨by omega, by omega⟩ (by rw [c6447]; decide) ?_)
      exact cases 1404 (by decide) (by omega)
    · refine wl_of hX hb cL_40 (rw_tsw (p1 := 1429) ⟨by omega, by omega⟩ (by rw [c6447]; decide) ?_)
      exact cases 1429 (by decide) (by omega)
    · refine wl_of hX hb cL_40 (rw_tsw (p1 := 1454) ⟨by omega, by omega⟩ (by rw [c6447]; decide) ?_)
      exact cases 1454 (by decide) (by omega)
    · refine wl_of hX hb cL_40 (rw_tsw (p1 := 1467) ⟨by omega, by omega⟩ (by rw [c6447]; decide) ?_)
      exact cases 1467 (by decide) (by omega)
    · refine wl_of hX hb cL_40 (rw_tsw (p1 := 1504) ⟨by omega, by omega⟩ (by rw [c6447]; decide) ?_)
      exact cases 1504 (by decide) (by omega)
    · refine wl_of hX hb cL_40 (rw_tsw (p1 := 1517) ⟨by omega, by omega⟩ (by rw [c6447]; decide) ?_)
      exact cases 1517 (by decide) (by omega)
    · refine wl_of hX hb cL_40 (rw_tsw (p1 := 1530) ⟨by omega, by omega⟩ (by rw [c6447]; decide) ?_)
      exact cases 1530 (by decide) (by omega)
    · refine wl_of hX hb cL_40 (rw_tsw (p1 := 1587) ⟨by omega, by omega⟩ (by rw [c6447]; decide) ?_)
      exact cases 1587 (by decide) (by omega)
    · refine wl_of hX hb cL_40 (rw_tsw (p1 := 1615) ⟨by omega, by omega⟩ (by rw [c6447]; decide) ?_)
      exact cases 1615 (by decide) (by omega)
    · refine wl_of hX hb cL_40 (rw_tsw (p1 := 1640) ⟨by omega, by omega⟩ (by rw [c6447]; decide) ?_)
      exact cases 1640 (by decide) (by omega)
    · refine wl_of hX hb cL_40 (rw_tsw (p1 := 1653) ⟨by omega, by omega⟩ (by rw [if_pos c6447]; decide) ?_)
      exact next (by omega)
theorem wl_back {kt : Nat → Option mc_E} {CB SB : Nat} {X : mc_S → Prop} {T : wq_T} {H : wq_H} {Len x m o : Nat} {i : Int} (hX : wlX kt CB SB X) (hb : T.2.1 ≤ CB ∧ T.2.2.1 ≤ SB) (hI : wlJ Len x m o T H) (hL : Len ≤ 3072) (hi : 0 ≤ i ∧ i + 6 ≤ Len) (next : WL kt CB SB X 23 (wlL (i + 6) x m o) [] T H) : WL kt CB SB X 1653 (wlL i x m o) [] T H := by
  obtain ⟨⟨hW, g0, gx, gm, go, hK, hr⟩, hXI, hY1, hY2⟩ := hI
  refine wl_of hX hb cL_1653 (rw_iinc (pc' := 1656) (z := i) (L' := [(4, vI (i + 6)), (3, .ref o), (2, .ref m), (1, .ref x), (0, .ref 0)]) rfl rfl rfl rfl ?_)
  refine wl_of hX hb cL_1656 (rw_goto (p1 := 23) (by decide) ?_)
  exact next
/-- the call that may throw, as the loop wants it -/
def wlLed (kt : Nat → Option mc_E) (CB SB : Nat) (X : mc_S → Prop) (Len x m o : Nat) : Prop := ∀ (T : wq_T) (H : wq_H) (i z : Int), T.2.1 + 20 ≤ CB ∧ T.2.2.1 + 500 ≤ SB → wI z → wlJ Len x m o T H → (∀ (z' : Int), wI z' → ∀ (T' : wq_T) (H' : wq_H), wlJ Len x m o T' H' → T'.2.1 ≤ T.2.1 + 20 → T'.2.2.1 ≤ T.2.2.1 + 500 → WL kt CB SB X 1598 (wlL i x m o) [vI z'] T' H') → WL kt CB SB X 1595 (wlL i x m o) [.ref o, vI z, .ref x] T H
set_option maxRecDepth 40000 in
theorem wl_loopL {kt : Nat → Option mc_E} {CB SB : Nat} {X : mc_S → Prop} {Len x m o : Nat} (hX : wlX kt CB SB X) (hL : Len ≤ 3072) (hled : wlLed kt CB SB X Len x m o) : ∀ (n : Nat) (T : wq_T) (H : wq_H) (i : Int), 0 ≤ i ∧ i ≤ Len → (Len - i).toNat = n → T.2.1 + 4 * (n + 6) ≤ CB → T.2.2.1 + 100 * (n + 6) ≤ SB → wlJ Len x m o T H → WL kt CB SB X 23 (wlL i x m o) [] T H := by
  intro n
  induction n using Nat.strongRecOn with
  | _ n ih =>
    intro T H i hi hn hc hs hI
    have hb : T.2.1 ≤ CB ∧ T.2.2.1 ≤ SB := ⟨by omega, by omega⟩
    have hb2 : T.2.1 + 20 ≤ CB ∧ T.2.2.1 + 500 ≤ SB := ⟨by omega, by omega⟩
    refine wl_head hX hb hI hL hi (fun t ht h6 => ?_) (fun h6 => wl_back hX hb hI hL ⟨hi.1, h6⟩ (ih (Len - (i + 6)).toNat (by omega) T H (i + 6) ⟨by omega, by omega⟩ rfl (by omega) (by omega) hI))
    have next : ∀ T' H', wlJ Len x m o T' H' → T'.2.1 ≤ T.2.1 + 20 → T'.2.2.1 ≤ T.2.2.1 + 500 → WL kt CB SB X 1653 (wlL i x m o) [] T' H' := fun T' H' hI' h1 h2 => wl_back hX ⟨by omega, by omega⟩ hI' hL ⟨hi.1, h6⟩ (ih (Len - (i + 6)).toNat (by omega) T' H' (i + 6) ⟨by omega, by omega⟩ rfl (by omega) (by omega) hI')
    rcases List.mem_cons.mp ht with rfl | ht
    · exact wl_c0 hX hb hI hL ⟨hi.1, h6⟩ hb2 next
    rcases List.mem_cons.mp ht with rfl | ht
    · exact wl_c1 hX hb hI hL ⟨hi.1, h6⟩ hb2 next
    rcases List.mem_cons.mp ht with rfl | ht
    · exact wl_c2 hX hb hI hL ⟨hi.1, h6⟩ hb2 next
    rcases List.mem_cons.mp ht with rfl | ht
    · exact wl_c3 hX hb hI hL ⟨hi.1, h6⟩ hb2 next
    rcases List.mem_cons.mp ht with rfl | ht
    · exact wl_c4 hX hb hI hL ⟨hi.1, h6⟩ hb2 next
    rcases List.mem_cons.mp ht with rfl | ht
    · exact wl_c5 hX hb hI hL ⟨hi.1, h6⟩ hb2 next
    rcases List.mem_cons.mp ht with rfl | ht
    · exact wl_c6 hX hb hI hL ⟨hi.1, h6⟩ hb2 next
    rcases List.mem_cons.mp ht with rfl | ht
    · exact wl_c7 hX hb hI hL ⟨hi.1, h6⟩ hb2 next
    rcases List.mem_cons.mp ht with rfl | ht
    · exact wl_c8 hX hb hI hL ⟨hi.1, h6⟩ hb2 next
    rcases List.mem_cons.mp ht with rfl | ht
    · exact wl_c9 hX hb hI hL ⟨hi.1, h6⟩ hb2 next
    rcases List.mem_cons.mp ht with rfl | ht
    · exact wl_c10 hX hb hI hL ⟨hi.1, h6⟩ hb2 next
    rcases List.mem_cons.mp ht with rfl | ht
    · exact wl_c11 hX hb hI hL ⟨hi.1, h6⟩ hb2 next
    rcases List.mem_cons.mp ht with rfl | ht
    · exact wl_c12 hX hb hI hL ⟨hi.1, h6⟩ hb2 next
    rcases List.mem_cons.mp ht with rfl | ht
    · exact wl_c13 hX hb hI hL ⟨hi.1, h6⟩ hb2 next
    rcases List.mem_cons.mp ht with rfl | ht
    · exact wl_c14 hX hb hI hL ⟨hi.1, h6⟩ hb2 next
    rcases List.mem_cons.mp ht with rfl | ht
    · exact wl_c15 hX hb hI hL ⟨hi.1, h6⟩ hb2 next
    rcases List.mem_cons.mp ht with rfl | ht
    · exact wl_c16 hX hb hI hL ⟨hi.1, h6⟩ hb2 next
    rcases List.mem_cons.mp ht with rfl | ht
    · exact wl_c17 hX hb hI hL ⟨hi.1, h6⟩ hb2 next
    rcases List.mem_cons.mp ht with rfl | ht
    · exact wl_c18 hX hb hI hL ⟨hi.1, h6⟩ hb2 next
    rcases List.mem_cons.mp ht with rfl | ht
    · exact wl_c19 hX hb hI hL ⟨hi.1, h6⟩ hb2 next
    rcases List.mem_cons.mp ht with rfl | ht
    · exact wl_c20 hX hb hI hL ⟨hi.1, h6⟩ hb2 next
    rcases List.mem_cons.mp ht with rfl | ht
    · exact wl_c21 hX hb hI hL ⟨hi.1, h6⟩ hb2 next
    rcases List.mem_cons.mp ht with rfl | ht
    · exact wl_c22 hX hb hI hL ⟨hi.1, h6⟩ hb2 next
    rcases List.mem_cons.mp ht with rfl | ht
    · exact wl_c23 hX hb hI hL ⟨hi.1, h6⟩ hb2 next
    rcases List.mem_cons.mp ht with rfl | ht
    · exact wl_c24 hX hb hI hL ⟨hi.1, h6⟩ hb2 next
    rcases List.mem_cons.mp ht with rfl | ht
    · exact wl_c25 hX hb hI hL ⟨hi.1, h6⟩ hb2 next
    rcases List.mem_cons.mp ht with rfl | ht
    · exact wl_c26 hX hb hI hL ⟨hi.1, h6⟩ hb2 next
    rcases List.mem_cons.mp ht with rfl | ht
    · exact wl_c27 hX hb hI hL ⟨hi.1, h6⟩ hb2 next
    rcases List.mem_cons.mp ht with rfl | ht
    · exact wl_c28 hX hb hI hL ⟨hi.1, h6⟩ hb2 next
    rcases List.mem_cons.mp ht with rfl | ht
    · exact wl_c29 hX hb hI hL ⟨hi.1, h6⟩ hb2 next
    rcases List.mem_cons.mp ht with rfl | ht
    · exact wl_c30 hX hb hI hL ⟨hi.1, h6⟩ hb2 next
    rcases List.mem_cons.mp ht with rfl | ht
    · exact wl_c31 hX hb hI hL ⟨hi.1, h6⟩ hb2 next
    rcases List.mem_cons.mp ht with rfl | ht
    · exact wl_c32 hX hb hI hL ⟨hi.1, h6⟩ hb2 next
    rcases List.mem_cons.mp ht with rfl | ht
    · exact wl_c33 hX hb hI hL ⟨hi.1, h6⟩ hb2 next
    rcases List.mem_cons.mp ht with rfl | ht
    · exact wl_c34 hX hb hI hL ⟨hi.1, h6⟩ hb2 next
    rcases List.mem_cons.mp ht with rfl | ht
    · exact wl_c35 hX hb hI hL ⟨hi.1, h6⟩ hb2 next
    rcases List.mem_cons.mp ht with rfl | ht
    · exact wl_c36 hX hb hI hL ⟨hi.1, h6⟩ hb2 next
    rcases List.mem_cons.mp ht with rfl | ht
    · exact wl_c37 hX hb hI hL ⟨hi.1, h6⟩ hb2 next
    rcases List.mem_cons.mp ht with rfl | ht
    · exact wl_c38 hX hb hI hL ⟨hi.1, h6⟩ hb2 next
    rcases List.mem_cons.mp ht with rfl | ht
    · exact wl_c39 hX hb hI hL ⟨hi.1, h6⟩ hb2 next
    rcases List.mem_cons.mp ht with rfl | ht
    · exact wl_c40 hX hb hI hL ⟨hi.1, h6⟩ hb2 next
    rcases List.mem_cons.mp ht with rfl | ht
    · exact wl_c41 hX hb hI hL ⟨hi.1, h6⟩ hb2 next
    rcases List.mem_cons.mp ht with rfl | ht
    · exact wl_c42 hX hb hI hL ⟨hi.1, h6⟩ hb2 next
    rcases List.mem_cons.mp ht with rfl | ht
    · exact wl_c43 hX hb hI hL ⟨hi.1, h6⟩ hb2 next
    rcases List.mem_cons.mp ht with rfl | ht
    · exact wl_c44 hX hb hI hL ⟨hi.1, h6⟩ hb2 next
    rcases List.mem_cons.mp ht with rfl | ht
    · exact wl_c45 hX hb hI hL ⟨hi.1, h6⟩ hb2 next
    rcases List.mem_cons.mp ht with rfl | ht
    · exact wl_c46 hX hb hI hL ⟨hi.1, h6⟩ hb2 next
    rcases List.mem_cons.mp ht with rfl | ht
    · exact wl_c47 hX hb hI hL ⟨hi.1, h6⟩ hb2 (fun hz _ hI2 k => hled T H i _ hb2 hz hI2 k) next
    rcases List.mem_cons.mp ht with rfl | ht
    · exact wl_c48 hX hb hI hL ⟨hi.1, h6⟩ hb2 next
    rcases List.mem_cons.mp ht with rfl | ht
    · exact wl_c49 hX hb hI hL ⟨hi.1, h6⟩ hb2 next
    cases ht
