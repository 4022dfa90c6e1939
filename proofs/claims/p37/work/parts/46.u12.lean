section
/-! what methods do (own work, written by wip/gen3/sx3.py) -/
/-! StrikeAwakeModel.seek()I  -/
abbrev uq_288 (r0 : Nat) (e : xD) (d : xD) (T : wq_T) (H : wq_H) : Option Value → wq_T → wq_H → Prop := fun r T' H' => T = T' ∧ WT T H' ∧ wfr [(42, 0), (42, 1), (42, 2), (42, 28), (42, 29), (42, 32), (51, 999), (52, 999)] T H H' ∧ ∃ z : Int, some (vI z) = r ∧ ((-2147483648) ≤ z ∧ z ≤ 2147483647) ∧ (((wKI H' r0 = 1) ∧ KNN T H' r0 e d))
set_option maxHeartbeats 4000000 in
theorem u_288 {kt : Nat → Option mc_E} {T : wq_T} {H : wq_H} {r0 : Nat} {e : xD} {d : xD} (hW : WT T H) (g0 : T.2.2.2 r0 = some 42) (p0 : wKI H r0 = 1) (p1 : XW d) (p2 : ∀ h : Nat, d 0 0 ≤ (h : Int) → h < 24 → e 13 h = 0) (p3 : XN d) (p4 : ∀ h : Nat, h < 24 → 0 ≤ e 13 h ∧ e 13 h ≤ 100) (hRB_r0 : RB T H r0 e d) (hKNN_r0 : KNN T H r0 e d) : wpc kt 8 288 [.ref r0] T H (uq_288 r0 e d T H) := by
  refine wp_enter e288 (Nat.le_of_ble_eq_true rfl) rfl ?_
  have f0 : wfr [(42, 0), (42, 1), (42, 2), (42, 28), (42, 29), (42, 32), (51, 999), (52, 999)] T H H := wfr.rf
  show wp _ _ 288 0 [(0, .ref r0)] [] _ H _
  have _b := RB_b hW hRB_r0
  have _nu := RB_n3 hRB_r0
  have _lm := RB_lm hRB_r0
  refine wp_of e288 c288_0 (rw_aload_n (pc' := 1) (v := .ref r0) rfl rfl rfl ?_)
  refine wp_of e288 c288_1 (rw_iconst (pc' := 2) rfl ?_)
  refine wp_of e288 c288_2 (xp_I (pc' := 5) lf_9_48 hW g0 sh_42 (by decide) (by decide) ty_42_0 rfl rfl (by decide) (by decide) ⟨by decide, by decide⟩ rfl (fun H1384 e1385 w1386 => ?_))
  have f1387 := f0.put' e1385 g0 rfl
  have k1388 : H1384 r0 0 = 0 := wq_u_s e1385
  refine wp_of e288 c288_5 (rw_aload_n (pc' := 6) (v := .ref r0) rfl rfl rfl ?_)
  refine wp_of e288 c288_6 (rw_aload_n (pc' := 7) (v := .ref r0) rfl rfl rfl ?_)
  have k1389 : H1384 r0 3 = H r0 3 := (wq_u_j e1385 rfl)
  refine wp_of e288 c288_7 (xg_O (pc' := 10) lf_9_337 w1386 g0 sh_42 (by decide) (by decide) ty_42_3 rfl rfl (fun q1391 => ?_) (fun r1390 q1391 g1392 => ?_))
  · refine wp_of e288 c288_10 (rw_ifnull_n (p1 := 17) (p2 := 13) (by decide) rfl ?_)
    refine wp_of e288 c288_17 (rw_iconst (pc' := 18) rfl ?_)
    have k1393 : wKI H1384 r0 = wKI H r0 := (wKI_fr hW g0 ((wfr.rf (l := [(42, 0)])).put' e1385 g0 rfl) rfl)
    have h1394 : RB T H1384 r0 e d := (RB_fr hW g0 ((wfr.rf (l := [(42, 0)])).put' e1385 g0 rfl) rfl hRB_r0)
    have h1395 : KNN T H1384 r0 e d := (KNN_fr hW g0 ((wfr.rf (l := [(42, 0)])).put' e1385 g0 rfl) rfl hKNN_r0)
    refine wp_of e288 c288_18 (xc_V (pc' := 21) (r := r0) (as := [vI 0]) (st := []) (lm_9_433) rfl rfl (Nat.le_of_ble_eq_true rfl) w1386 g0 sh_42 (by decide) rfl (by decide) (u_241 (e := e) (d := d) w1386 g0 ⟨by decide, by decide⟩ (by omega) (by omega) (by assumption) (by assumption) (by assumption) (by assumption) h1394 h1395) (fun R1396 T1397 H1398 p1399 => ?_))
    obtain ⟨e1400, w1402, f1403, z1404, e1401, b1405, p1406⟩ := p1399
    subst e1400
    subst e1401
    rcases p1406 with ⟨a1407, a1408, a1409, a1410, a1411, a1412, a1413, a1414, a1415⟩ | ⟨a1416, a1417, a1418, a1419, a1420, a1421, a1422⟩
    · exfalso
      omega
    · have f1423 := f1387.tr f1403 rfl
      show wp _ _ 288 21 [(0, .ref r0)] [vI z1404] _ H1398 _
      have k1424 : wLM H1398 r0 = wLM H r0 := ((wLM_fr w1386 g0 f1403 rfl).trans (wLM_fr hW g0 ((wfr.rf (l := [(42, 0)])).put' e1385 g0 rfl) rfl))
      refine wp_of e288 c288_21 (rw_istore_n (pc' := 22) (z := z1404) (L' := [(1, vI z1404), (0, .ref r0)]) rfl rfl rfl ?_)
      refine wp_of e288 c288_22 (rw_iload_n (pc' := 23) (z := z1404) rfl rfl ?_)
      refine wp_of e288 c288_23 (rw_if_le (p1 := 32) (p2 := 26) (by decide) rfl ⟨Int.le_trans (by decide) b1405.1, Int.le_trans b1405.2 (by decide)⟩ (fun c1425 => ?_) (fun c1425 => ?_))
      · exfalso
        omega
      · refine wp_of e288 c288_26 (rw_aload_n (pc' := 27) (v := .ref r0) rfl rfl rfl ?_)
        refine wp_of e288 c288_27 (rw_iload_n (pc' := 28) (z := z1404) rfl rfl ?_)
        refine wp_of e288 c288_28 (xc_V (pc' := 31) (r := r0) (as := [vI z1404]) (st := []) (lm_9_54) rfl rfl (Nat.le_of_ble_eq_true rfl) w1402 g0 sh_42 (by decide) rfl (by decide) (s_170 w1402 g0 ⟨Int.le_trans (by decide) b1405.1, Int.le_trans b1405.2 (by decide)⟩) (fun R1426 T1427 H1428 p1429 => ?_))
        obtain ⟨e1430, w1432, f1433, z1434, e1431, b1435⟩ := p1429
        subst e1430
        subst e1431
        have f1436 := f1423.tr f1433 rfl
        show wp _ _ 288 31 [(1, vI z1404), (0, .ref r0)] [vI z1434] _ H1428 _
        have k1437 : wKI H1428 r0 = wKI H1398 r0 := (wKI_fr w1402 g0 f1433 rfl)
        have h1438 : KNN T H1428 r0 e d := (KNN_fr w1402 g0 f1433 rfl a1422)
        exact wp_ireturn e288 c288_31 rfl ⟨rfl, w1432, f1436, z1434, rfl, ⟨b1435.1, b1435.2⟩, ⟨by omega, h1438⟩⟩
  · refine wp_of e288 c288_10 (rw_ifnull_r (p1 := 17) (p2 := 13) (by decide) rfl ?_)
    refine wp_of e288 c288_13 (rw_iconst (pc' := 14) rfl ?_)
    refine wp_of e288 c288_14 (rw_goto (p1 := 18) (by decide) ?_)
    have k1439 : wKI H1384 r0 = wKI H r0 := (wKI_fr hW g0 ((wfr.rf (l := [(42, 0)])).put' e1385 g0 rfl) rfl)
    have h1440 : RB T H1384 r0 e d := (RB_fr hW g0 ((wfr.rf (l := [(42, 0)])).put' e1385 g0 rfl) rfl hRB_r0)
    have h1441 : KNN T H1384 r0 e d := (KNN_fr hW g0 ((wfr.rf (l := [(42, 0)])).put' e1385 g0 rfl) rfl hKNN_r0)
    refine wp_of e288 c288_18 (xc_V (pc' := 21) (r := r0) (as := [vI 1]) (st := []) (lm_9_433) rfl rfl (Nat.le_of_ble_eq_true rfl) w1386 g0 sh_42 (by decide) rfl (by decide) (u_241 (e := e) (d := d) w1386 g0 ⟨by decide, by decide⟩ (by omega) (by omega) (by assumption) (by assumption) (by assumption) (by assumption) h1440 h1441) (fun R1442 T1443 H1444 p1445 => ?_))
    obtain ⟨e1446, w1448, f1449, z1450, e1447, b1451, p1452⟩ := p1445
    subst e1446
    subst e1447
    rcases p1452 with ⟨a1453, a1454, a1455, a1456, a1457, a1458, a1459, a1460, a1461⟩ | ⟨a1462, a1463, a1464, a1465, a1466, a1467, a1468⟩
    · have f1469 := f1387.tr f1449 rfl
      show wp _ _ 288 21 [(0, .ref r0)] [vI z1450] _ H1444 _
      have k1470 : wLM H1444 r0 = wLM H r0 := ((wLM_fr w1386 g0 f1449 rfl).trans (wLM_fr hW g0 ((wfr.rf (l := [(42, 0)])).put' e1385 g0 rfl) rfl))
      refine wp_of e288 c288_21 (rw_istore_n (pc' := 22) (z := z1450) (L' := [(1, vI z1450), (0, .ref r0)]) rfl rfl rfl ?_)
      refine wp_of e288 c288_22 (rw_iload_n (pc' := 23) (z := z1450) rfl rfl ?_)
      refine wp_of e288 c288_23 (rw_if_le (p1 := 32) (p2 := 26) (by decide) rfl ⟨Int.le_trans (by decide) b1451.1, Int.le_trans b1451.2 (by decide)⟩ (fun c1471 => ?_) (fun c1471 => ?_))
      · refine wp_of e288 c288_32 (rw_iconst (pc' := 33) rfl ?_)
        refine wp_of e288 c288_33 (rw_istore_n (pc' := 34) (z := 0) (L' := [(2, vI 0), (1, vI z1450), (0, .ref r0)]) rfl rfl rfl ?_)
        have lp1568 : ∀ (n1569 : Nat) (v1571 : Int), (0 ≤ v1571 ∧ v1571 ≤ 20000) → (20000 - v1571).toNat = n1569 → wp kt 7 288 34 [(2, vI v1571), (0, .ref r0)] [] T H1444 (uq_288 r0 e d T H) := by
          intro n1569
          induction n1569 using Nat.strongRecOn with
          | _ n1569 ih1570 =>
            intro v1571 b1574 m1575
            refine wp_of e288 c288_34 (rw_iload_n (pc' := 35) (z := v1571) rfl rfl ?_)
            refine wp_of e288 c288_35 (rw_aload_n (pc' := 36) (v := .ref r0) rfl rfl rfl ?_)
            refine wp_of e288 c288_36 (xg_I (pc' := 39) lf_9_422 w1448 g0 sh_42 (by decide) (by decide) ty_42_29 rfl rfl (fun b1576 b1577 => ?_))
            refine wp_of e288 c288_39 (rw_icmp_ge (p1 := 87) (p2 := 42) (by decide) rfl ⟨Int.le_trans (by decide) b1574.1, Int.le_trans b1574.2 (by decide)⟩ ⟨Int.le_trans (by decide) b1576, Int.le_trans b1577 (by decide)⟩ (fun c1578 => ?_) (fun c1578 => ?_))
            · refine wp_of e288 c288_87 (rw_aload_n (pc' := 88) (v := .ref r0) rfl rfl rfl ?_)
              refine wp_of e288 c288_88 (rw_bipush (pc' := 90) (z := 6) rfl (by decide) ?_)
              refine wp_of e288 c288_90 (xc_V (pc' := 93) (r := r0) (as := [vI 6]) (st := []) (lm_9_54) rfl rfl (Nat.le_of_ble_eq_true rfl) w1448 g0 sh_42 (by decide) rfl (by decide) (s_170 w1448 g0 ⟨by decide, by decide⟩) (fun R1579 T1580 H1581 p1582 => ?_))
              obtain ⟨e1583, w1585, f1586, z1587, e1584, b1588⟩ := p1582
              subst e1583
              subst e1584
              have f1589 := f1469.tr f1586 rfl
              show wp _ _ 288 93 [(2, vI v1571), (0, .ref r0)] [vI z1587] _ H1581 _
              have k1590 : wKI H1581 r0 = wKI H1444 r0 := (wKI_fr w1448 g0 f1586 rfl)
              have h1591 : KNN T H1581 r0 e d := (KNN_fr w1448 g0 f1586 rfl a1460)
              exact wp_ireturn e288 c288_93 rfl ⟨rfl, w1585, f1589, z1587, rfl, ⟨b1588.1, b1588.2⟩, ⟨by omega, h1591⟩⟩
            · refine wp_of e288 c288_42 (rw_aload_n (pc' := 43) (v := .ref r0) rfl rfl rfl ?_)
              refine wp_of e288 c288_43 (xg_R (pc' := 46) lf_9_42 w1448 g0 sh_42 (by decide) (by decide) ty_42_30 rfl rfl (fun r1592 q1593 g1594 => ?_))
              refine wp_of e288 c288_46 (rw_iload_n (pc' := 47) (z := v1571) rfl rfl ?_)
              refine wp_of e288 c288_47 (xa_I (so := 0) (pc' := 48) w1448 g1594 sh_52 (by decide) (ty_52 _) (b1574.1) (by omega) rfl (fun b1595 b1596 => ?_))
              refine wp_of e288 c288_48 (rw_aload_n (pc' := 49) (v := .ref r0) rfl rfl rfl ?_)
              refine wp_of e288 c288_49 (xg_I (pc' := 52) lf_9_340 w1448 g0 sh_42 (by decide) (by decide) ty_42_32 rfl rfl (fun b1597 b1598 => ?_))
              refine wp_of e288 c288_52 (rw_icmp_ge (p1 := 58) (p2 := 55) (by decide) rfl ⟨Int.le_trans (by decide) b1595, Int.le_trans b1596 (by decide)⟩ ⟨Int.le_trans (by decide) b1597, b1598⟩ (fun c1599 => ?_) (fun c1599 => ?_))
              · refine wp_of e288 c288_58 (rw_aload_n (pc' := 59) (v := .ref r0) rfl rfl rfl ?_)
                refine wp_of e288 c288_59 (rw_aload_n (pc' := 60) (v := .ref r0) rfl rfl rfl ?_)
                refine wp_of e288 c288_60 (xg_K (pc' := 63) lf_9_42 w1448 g0 sh_42 (by decide) (by decide) rfl q1593 rfl ?_)
                refine wp_of e288 c288_63 (rw_iload_n (pc' := 64) (z := v1571) rfl rfl ?_)
                refine wp_of e288 c288_64 (xa_I (so := 0) (pc' := 65) w1448 g1594 sh_52 (by decide) (ty_52 _) (b1574.1) (by omega) rfl (fun b1600 b1601 => ?_))
                refine wp_of e288 c288_65 (rw_iconst (pc' := 66) rfl ?_)
                refine wp_of e288 c288_66 (rw_iadd (pc' := 67) rfl ?_)
                refine wp_of e288 c288_67 (xp_I (pc' := 70) lf_9_340 w1448 g0 sh_42 (by decide) (by decide) ty_42_32 rfl rfl (by omega) (by omega) ⟨by omega, by omega⟩ rfl (fun H1602 e1603 w1604 => ?_))
                have f1605 := f1469.put' e1603 g0 rfl
                have k1606 : H1602 r0 32 = (H1444 r1592 (v1571.toNat)) + 1 := wq_u_s e1603
                refine wp_of e288 c288_70 (rw_aload_n (pc' := 71) (v := .ref r0) rfl rfl rfl ?_)
                refine wp_of e288 c288_71 (rw_aload_n (pc' := 72) (v := .ref r0) rfl rfl rfl ?_)
                have k1607 : H1602 r0 30 = H1444 r0 30 := (wq_u_j e1603 rfl)
                have q1608 : H1602 r0 30 = (r1592 : Int) := k1607.trans q1593
                refine wp_of e288 c288_72 (xg_K (pc' := 75) lf_9_42 w1604 g0 sh_42 (by decide) (by decide) rfl q1608 rfl ?_)
                refine wp_of e288 c288_75 (rw_iload_n (pc' := 76) (z := v1571) rfl rfl ?_)
                have k1609 : H1602 r1592 (v1571.toNat) = H1444 r1592 (v1571.toNat) := (wq_u_t e1603 g0 g1594 rfl (v1571.toNat))
                refine wp_of e288 c288_76 (xa_I (so := 0) (pc' := 77) w1604 g1594 sh_52 (by decide) (ty_52 _) (b1574.1) (by omega) rfl (fun b1610 b1611 => ?_))
                refine wp_of e288 c288_77 (xc_V (pc' := 80) (r := r0) (as := [vI (H1602 r1592 (v1571.toNat))]) (st := []) (lm_9_58) rfl rfl (Nat.le_of_ble_eq_true rfl) w1604 g0 sh_42 (by decide) rfl (by decide) (s_209 w1604 g0 ⟨Int.le_trans (by decide) b1610, Int.le_trans b1611 (by decide)⟩) (fun R1612 T1613 H1614 p1615 => ?_))
                obtain ⟨e1616, w1618, f1619, z1620, e1617, b1621⟩ := p1615
                subst e1616
                subst e1617
                have f1622 := f1605.tr f1619 rfl
                show wp _ _ 288 80 [(2, vI v1571), (0, .ref r0)] [vI z1620] _ H1614 _
                have k1623 : wKI H1614 r0 = wKI H1444 r0 := ((wKI_fr w1604 g0 f1619 rfl).trans (wKI_fr w1448 g0 ((wfr.rf (l := [(42, 32)])).put' e1603 g0 rfl) rfl))
                have h1624 : KNN T H1614 r0 e d := (KNN_fr w1604 g0 f1619 rfl (KNN_fr w1448 g0 ((wfr.rf (l := [(42, 32)])).put' e1603 g0 rfl) rfl a1460))
                exact wp_ireturn e288 c288_80 rfl ⟨rfl, w1618, f1622, z1620, rfl, ⟨b1621.1, b1621.2⟩, ⟨by omega, h1624⟩⟩
              · refine wp_of e288 c288_55 (rw_goto (p1 := 81) (by decide) ?_)
                refine wp_of e288 c288_81 (rw_iinc (pc' := 84) (z := v1571) (L' := [(2, vI (v1571 + 1)), (0, .ref r0)]) rfl rfl rfl rfl ?_)
                refine wp_of e288 c288_84 (rw_goto (p1 := 34) (by decide) ?_)
                exact wp_lc (ks := [2, 0]) (wl_c rfl (wl_c rfl wl_n)) rfl (by decide) (ih1570 _ (by omega) (v1571 + 1) ⟨by omega, by omega⟩ rfl)
        exact wp_lc (ks := [2, 1, 0]) (wl_c rfl (wl_c rfl wl_n)) rfl (by decide) (lp1568 _ 0 ⟨by decide, by decide⟩ rfl)
      · exfalso
        omega
    · have f1625 := f1387.tr f1449 rfl
      show wp _ _ 288 21 [(0, .ref r0)] [vI z1450] _ H1444 _
      have k1626 : wLM H1444 r0 = wLM H r0 := ((wLM_fr w1386 g0 f1449 rfl).trans (wLM_fr hW g0 ((wfr.rf (l := [(42, 0)])).put' e1385 g0 rfl) rfl))
      refine wp_of e288 c288_21 (rw_istore_n (pc' := 22) (z := z1450) (L' := [(1, vI z1450), (0, .ref r0)]) rfl rfl rfl ?_)
      refine wp_of e288 c288_22 (rw_iload_n (pc' := 23) (z := z1450) rfl rfl ?_)
      refine wp_of e288 c288_23 (rw_if_le (p1 := 32) (p2 := 26) (by decide) rfl ⟨Int.le_trans (by decide) b1451.1, Int.le_trans b1451.2 (by decide)⟩ (fun c1627 => ?_) (fun c1627 => ?_))
      · exfalso
        omega
      · refine wp_of e288 c288_26 (rw_aload_n (pc' := 27) (v := .ref r0) rfl rfl rfl ?_)
        refine wp_of e288 c288_27 (rw_iload_n (pc' := 28) (z := z1450) rfl rfl ?_)
        refine wp_of e288 c288_28 (xc_V (pc' := 31) (r := r0) (as := [vI z1450]) (st := []) (lm_9_54) rfl rfl (Nat.le_of_ble_eq_true rfl) w1448 g0 sh_42 (by decide) rfl (by decide) (s_170 w1448 g0 ⟨Int.le_trans (by decide) b1451.1, Int.le_trans b1451.2 (by decide)⟩) (fun R1628 T1629 H1630 p1631 => ?_))
        obtain ⟨e1632, w1634, f1635, z1636, e1633, b1637⟩ := p1631
        subst e1632
        subst e1633
        have f1638 := f1625.tr f1635 rfl
        show wp _ _ 288 31 [(1, vI z1450), (0, .ref r0)] [vI z1636] _ H1630 _
        have k1639 : wKI H1630 r0 = wKI H1444 r0 := (wKI_fr w1448 g0 f1635 rfl)
        have h1640 : KNN T H1630 r0 e d := (KNN_fr w1448 g0 f1635 rfl a1468)
        exact wp_ireturn e288 c288_31 rfl ⟨rfl, w1634, f1638, z1636, rfl, ⟨b1637.1, b1637.2⟩, ⟨by omega, h1640⟩⟩
end
section
/-! WHAT THE TWO OBJECTS HAVE IN COMMON between calls (own work): THE TAPE; two PARISHES of the class apart from each other; what is told, what is struck now, SPANS -/
def XI0 (T : wq_T) (H : wq_H) (x m : Nat) : Prop := ∃ (B : Nat → Int) (tc tm cu dr : Nat), H x 0 = (tc : Int) ∧ T.2.2.2 tc = some 2 ∧ TP T H tc B ∧ H m 5 = (tm : Int) ∧ T.2.2.2 tm = some 43 ∧ TM T H tm B ∧ H x 6 = (cu : Int) ∧ T.2.2.2 cu = some 27 ∧ H x 7 = (dr : Int) ∧ T.2.2.2 dr = some 27 ∧ DD T H cu ∧ DD T H dr ∧ T.2.2.2 m = some 42
def XI (T : wq_T) (H : wq_H) (x m : Nat) : Prop := ∃ (B : Nat → Int) (tc tm cu dr : Nat) (C : Nat → Bool) (e d : xD) (n : Int) (g : Nat → Int) (ce : Nat), H x 0 = (tc : Int) ∧ T.2.2.2 tc = some 2 ∧ TP T H tc B ∧ H m 5 = (tm : Int) ∧ T.2.2.2 tm = some 43 ∧ TM T H tm B ∧ H x 6 = (cu : Int) ∧ T.2.2.2 cu = some 27 ∧ H x 7 = (dr : Int) ∧ T.2.2.2 dr = some 27 ∧ DD T H cu ∧ DD T H dr ∧ DE T H cu ∧ DE T H dr ∧ SP T H x C ∧ C cu = true ∧ C dr = false ∧ CU T H cu e d n ∧ RB T H m e d ∧ CG T H cu (d 0 3) g ∧ MN26 T H m (d 0 3) g ∧ (∀ i, i ≠ 13 → e i = d i) ∧ (∀ h : Nat, d 0 0 ≤ (h : Int) → h < 24 → e 13 h = 0) ∧ (H x 8 = 0 ∨ n = xlots d) ∧ XA d ∧ (H x 8 = 0 ∨ (1 ≤ d 0 0 ∧ 1 ≤ d 0 3)) ∧ SG d g ∧ H x 3 = (ce : Int) ∧ T.2.2.2 ce = some 12 ∧ CEN T H ce e d ∧ HDR T H ce ∧ KNN T H m e d ∧ T.2.2.2 m = some 42
def XIx (l : List (Nat × Nat)) : Bool := wno l 1 (fun j => decide (j = 0 ∨ j = 3 ∨ j = 6 ∨ j = 7 ∨ j = 8)) && TPx l && wno l 42 (fun j => decide (j = 5)) && TMx l && DDx l && DEx l && SPx l && CUx l && RBx l && CGx l && DAw 42 26 50 l && CENx l && HDRx l && KNNx l
theorem XI_fr {T : wq_T} {H H' : wq_H} {l : List (Nat × Nat)} {x m : Nat} (hW : WT T H) (g : T.2.2.2 x = some 1) (f : wfr l T H H') (y : XIx l = true) (h : XI T H x m) : XI T H' x m := by
  unfold XIx at y
  simp only [Bool.and_eq_true] at y
  obtain ⟨⟨⟨⟨⟨⟨⟨⟨⟨⟨⟨⟨⟨y1, y2⟩, y3⟩, y4⟩, y5⟩, y6⟩, y7⟩, y8⟩, y9⟩, y10⟩, y11⟩, y12⟩, y12b⟩, y13⟩ := y
  obtain ⟨B, tc, tm, cu, dr, C, e, d, n, g', ce, h1, h2, h3, h4, h5, h6, h7, h8, h9, h10, h11, h12, h13, h14, h15, h16, h17, h18, h19, hcg, hmn, h20, h20z, h21, ha, hv, hs, hc1, hc2, hc3, hch, hc4, h22⟩ := h
  have e8 : H' x 8 = H x 8 := wno_f f g y1 rfl
  exact ⟨B, tc, tm, cu, dr, C, e, d, n, g', ce, (wno_f f g y1 rfl).trans h1, h2, TP_fr hW h2 f y2 h3, (wno_f f h22 y3 rfl).trans h4, h5, TM_fr hW h5 f y4 h6, (wno_f f g y1 rfl).trans h7, h8, (wno_f f g y1 rfl).trans h9, h10, DD_fr hW h8 f y5 h11, DD_fr hW h10 f y5 h12, DE_fr hW h8 f y6 h13, DE_fr hW h10 f y6 h14, SP_fr hW g f y7 h15, h16, h17, CU_fr hW h8 f y8 h18, RB_fr hW h22 f y9 h19, CG_fr hW h8 f y10 hcg, MN26_fr hW h22 f y11 hmn, h20, h20z, by rw [e8]; exact h21, ha, by rw [e8]; exact hv, hs, (wno_f f g y1 rfl).trans hc1, hc2, CEN_fr hW hc2 f y12 hc3, HDR_fr hW hc2 f y12b hch, KNN_fr hW h22 f y13 hc4, h22⟩
theorem DD_mono {T T' : wq_T} {H : wq_H} {r : Nat} (m : ∀ a t, T.2.2.2 a = some t → T'.2.2.2 a = some t) (h : DD T H r) : DD T' H r := by
  obtain ⟨pa, h1, h2, h3⟩ := h
  exact ⟨pa, h1, m _ _ h2, h3⟩
end
