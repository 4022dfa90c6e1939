/-! what methods do (own work, written by wip/gen3/sx3.py) -/
/-! StrikeAwakeModel.proof()I  -/
abbrev uq_276 (r0 : Nat) (e : xD) (d : xD) (T : wq_T) (H : wq_H) : Option Value → wq_T → wq_H → Prop := fun r T' H' => T = T' ∧ WT T H' ∧ wfr [(42, 0), (42, 1), (42, 2), (42, 28), (42, 29), (51, 999), (52, 999)] T H H' ∧ ∃ z : Int, some (vI z) = r ∧ ((-2147483648) ≤ z ∧ z ≤ 2147483647) ∧ (((wKI H' r0 = 1) ∧ KNN T H' r0 e d))
set_option maxHeartbeats 4000000 in
theorem u_276 {kt : Nat → Option mc_E} {T : wq_T} {H : wq_H} {r0 : Nat} {e : xD} {d : xD} (hW : WT T H) (g0 : T.2.2.2 r0 = some 42) (p0 : wKI H r0 = 1) (p1 : XW d) (p2 : ∀ h : Nat, d 0 0 ≤ (h : Int) → h < 24 → e 13 h = 0) (p3 : XN d) (p4 : ∀ h : Nat, h < 24 → 0 ≤ e 13 h ∧ e 13 h ≤ 100) (hRB_r0 : RB T H r0 e d) (hKNN_r0 : KNN T H r0 e d) : wpc kt 8 276 [.ref r0] T H (uq_276 r0 e d T H) := by
  refine wp_enter e276 (Nat.le_of_ble_eq_true rfl) rfl ?_
  have f0 : wfr [(42, 0), (42, 1), (42, 2), (42, 28), (42, 29), (51, 999), (52, 999)] T H H := wfr.rf
  show wp _ _ 276 0 [(0, .ref r0)] [] _ H _
  have _b := RB_b hW hRB_r0
  have _nu := RB_n3 hRB_r0
  have _lm := RB_lm hRB_r0
  refine wp_of e276 c276_0 (rw_aload_n (pc' := 1) (v := .ref r0) rfl rfl rfl ?_)
  refine wp_of e276 c276_1 (rw_iconst (pc' := 2) rfl ?_)
  refine wp_of e276 c276_2 (xp_I (pc' := 5) lf_9_48 hW g0 sh_42 (by decide) (by decide) ty_42_0 rfl rfl (by omega) (by omega) ⟨by omega, by omega⟩ rfl (fun H1435 e1436 w1437 => ?_))
  have f1438 := f0.put' e1436 g0 rfl
  have k1439 : H1435 r0 0 = 0 := wq_u_s e1436
  refine wp_of e276 c276_5 (rw_aload_n (pc' := 6) (v := .ref r0) rfl rfl rfl ?_)
  refine wp_of e276 c276_6 (rw_aload_n (pc' := 7) (v := .ref r0) rfl rfl rfl ?_)
  have k1440 : H1435 r0 3 = H r0 3 := (wq_u_j e1436 rfl)
  refine wp_of e276 c276_7 (xg_O (pc' := 10) lf_9_337 w1437 g0 sh_42 (by decide) (by decide) ty_42_3 rfl rfl (fun q1442 => ?_) (fun r1441 q1442 g1443 => ?_))
  · refine wp_of e276 c276_10 (rw_ifnull_n (p1 := 17) (p2 := 13) (by decide) rfl ?_)
    refine wp_of e276 c276_17 (rw_iconst (pc' := 18) rfl ?_)
    have k1444 : wKI H1435 r0 = wKI H r0 := (wKI_fr hW g0 ((wfr.rf (l := [(42, 0)])).put' e1436 g0 rfl) rfl)
    have h1445 : RB T H1435 r0 e d := (RB_fr hW g0 ((wfr.rf (l := [(42, 0)])).put' e1436 g0 rfl) rfl hRB_r0)
    have h1446 : KNN T H1435 r0 e d := (KNN_fr hW g0 ((wfr.rf (l := [(42, 0)])).put' e1436 g0 rfl) rfl hKNN_r0)
    refine wp_of e276 c276_18 (xc_V (pc' := 21) (r := r0) (as := [vI 0]) (st := []) (lm_9_433) rfl rfl (Nat.le_of_ble_eq_true rfl) w1437 g0 sh_42 (by decide) rfl (by decide) (u_241 (e := e) (d := d) w1437 g0 ⟨by omega, by omega⟩ (by omega) (by omega) (by assumption) (by assumption) (by assumption) (by assumption) h1445 h1446) (fun R1447 T1448 H1449 p1450 => ?_))
    obtain ⟨e1451, w1453, f1454, z1455, e1452, b1456, p1457⟩ := p1450
    subst e1451
    subst e1452
    rcases p1457 with ⟨a1458, a1459, a1460, a1461, a1462, a1463, a1464, a1465, a1466⟩ | ⟨a1467, a1468, a1469, a1470, a1471, a1472, a1473⟩
    · have f1474 := f1438.tr f1454 rfl
      show wp _ _ 276 21 [(0, .ref r0)] [vI z1455] _ H1449 _
      refine wp_of e276 c276_21 (rw_istore_n (pc' := 22) (z := z1455) (L' := [(1, vI z1455), (0, .ref r0)]) rfl rfl rfl ?_)
      refine wp_of e276 c276_22 (rw_iload_n (pc' := 23) (z := z1455) rfl rfl ?_)
      refine wp_of e276 c276_23 (rw_if_ne (p1 := 39) (p2 := 26) (by decide) rfl ⟨by omega, by omega⟩ (fun c1475 => ?_) (fun c1475 => ?_))
      · exfalso
        omega
      · refine wp_of e276 c276_26 (rw_aload_n (pc' := 27) (v := .ref r0) rfl rfl rfl ?_)
        have k1476 : H1449 r0 3 = H1435 r0 3 := (f1454 r0 3 _ g0 rfl)
        have q1477 : H1449 r0 3 = -1 := k1476.trans q1442
        obtain ⟨r1478, q1479, g1480⟩ := (w1453.opt g0 (t' := 54) (n := 33) (j := 3) (p := 0) (q := 0) rfl (by decide) rfl).resolve_left (by omega)
        refine wp_of e276 c276_27 (xc_V (pc' := 30) (r := r0) (as := []) (st := []) (lm_9_376) rfl rfl (Nat.le_of_ble_eq_true rfl) w1453 g0 sh_42 (by decide) rfl (by decide) (s_220 w1453 g0 q1479 g1480) (fun R1481 T1482 H1483 p1484 => ?_))
        obtain ⟨e1485, e1487, z1489, e1486, b1490, p1488⟩ := p1484
        subst e1485
        subst e1486
        subst e1487
        show wp _ _ 276 30 [(1, vI z1455), (0, .ref r0)] [vL z1489] _ H1449 _
        refine wp_of e276 c276_30 (rw_ldc2 (pc' := 33) (z := 5000) rfl rfl rfl ?_)
        refine wp_of e276 c276_33 (rw_lcmp (pc' := 34) rfl ⟨by omega, by omega⟩ ⟨by omega, by omega⟩ ?_)
        have b1491 := wq_cmp_b z1489 5000
        refine wp_of e276 c276_34 (rw_if_le (p1 := 39) (p2 := 37) (by decide) rfl ⟨by omega, by omega⟩ (fun c1492 => ?_) (fun c1492 => ?_))
        · refine wp_of e276 c276_39 (rw_iload_n (pc' := 40) (z := z1455) rfl rfl ?_)
          refine wp_of e276 c276_40 (rw_if_ne (p1 := 52) (p2 := 43) (by decide) rfl ⟨by omega, by omega⟩ (fun c1493 => ?_) (fun c1493 => ?_))
          · exfalso
            omega
          · refine wp_of e276 c276_43 (rw_aload_n (pc' := 44) (v := .ref r0) rfl rfl rfl ?_)
            refine wp_of e276 c276_44 (xg_I (pc' := 47) lf_9_422 w1453 g0 sh_42 (by decide) (by decide) ty_42_29 rfl rfl (fun b1494 b1495 => ?_))
            refine wp_of e276 c276_47 (rw_if_le (p1 := 52) (p2 := 50) (by decide) rfl ⟨by omega, by omega⟩ (fun c1496 => ?_) (fun c1496 => ?_))
            · refine wp_of e276 c276_52 (rw_iload_n (pc' := 53) (z := z1455) rfl rfl ?_)
              refine wp_of e276 c276_53 (rw_if_le (p1 := 62) (p2 := 56) (by decide) rfl ⟨by omega, by omega⟩ (fun c1497 => ?_) (fun c1497 => ?_))
              · refine wp_of e276 c276_62 (rw_aload_n (pc' := 63) (v := .ref r0) rfl rfl rfl ?_)
                refine wp_of e276 c276_63 (xc_V (pc' := 66) (r := r0) (as := []) (st := []) (lm_9_357) rfl rfl (Nat.le_of_ble_eq_true rfl) w1453 g0 sh_42 (by decide) rfl (by decide) (s_207 w1453 g0) (fun R1498 T1499 H1500 p1501 => ?_))
                obtain ⟨e1502, e1504, z1505, e1503, b1506⟩ := p1501
                subst e1502
                subst e1503
                subst e1504
                show wp _ _ 276 66 [(1, vI z1455), (0, .ref r0)] [vI z1505] _ H1449 _
                refine wp_of e276 c276_66 (rw_istore_n (pc' := 67) (z := z1505) (L' := [(2, vI z1505), (1, vI z1455), (0, .ref r0)]) rfl rfl rfl ?_)
                refine wp_of e276 c276_67 (rw_iconst (pc' := 68) rfl ?_)
                refine wp_of e276 c276_68 (rw_istore_n (pc' := 69) (z := 0) (L' := [(3, vI 0), (2, vI z1505), (1, vI z1455), (0, .ref r0)]) rfl rfl rfl ?_)
                have lp1582 : ∀ (n1583 : Nat) (v1585 : Int) (H1586 : wq_H), WT T H1586 → wfr [(51, 999)] T H1449 H1586 → (0 ≤ v1585 ∧ v1585 ≤ 4) → (4 - v1585).toNat = n1583 → wp kt 7 276 69 [(3, vI v1585), (2, vI z1505), (0, .ref r0)] [] T H1586 (uq_276 r0 e d T H) := by
                  intro n1583
                  induction n1583 using Nat.strongRecOn with
                  | _ n1583 ih1584 =>
                    intro v1585 H1586 w1587 f1588 b1589 m1590
                    have f1591 := f1474.tr f1588 rfl
                    refine wp_of e276 c276_69 (rw_iload_n (pc' := 70) (z := v1585) rfl rfl ?_)
                    refine wp_of e276 c276_70 (rw_iconst (pc' := 71) rfl ?_)
                    refine wp_of e276 c276_71 (rw_icmp_ge (p1 := 101) (p2 := 74) (by decide) rfl ⟨by omega, by omega⟩ ⟨by omega, by omega⟩ (fun c1592 => ?_) (fun c1592 => ?_))
                    · refine wp_of e276 c276_101 (rw_aload_n (pc' := 102) (v := .ref r0) rfl rfl rfl ?_)
                      refine wp_of e276 c276_102 (rw_bipush (pc' := 104) (z := -2) rfl (by decide) ?_)
                      refine wp_of e276 c276_104 (xc_V (pc' := 107) (r := r0) (as := [vI (-2)]) (st := []) (lm_9_58) rfl rfl (Nat.le_of_ble_eq_true rfl) w1587 g0 sh_42 (by decide) rfl (by decide) (s_209 w1587 g0 ⟨by omega, by omega⟩) (fun R1593 T1594 H1595 p1596 => ?_))
                      obtain ⟨e1597, w1599, f1600, z1601, e1598, b1602⟩ := p1596
                      subst e1597
                      subst e1598
                      have f1603 := f1591.tr f1600 rfl
                      show wp _ _ 276 107 [(3, vI v1585), (2, vI z1505), (0, .ref r0)] [vI z1601] _ H1595 _
                      have k1604 : wKI H1595 r0 = wKI H1449 r0 := ((wKI_fr w1587 g0 f1600 rfl).trans (wKI_fr w1453 g0 f1588 rfl))
                      have h1605 : KNN T H1595 r0 e d := (KNN_fr w1587 g0 f1600 rfl (KNN_fr w1453 g0 f1588 rfl a1465))
                      exact wp_ireturn e276 c276_107 rfl ⟨rfl, w1599, f1603, z1601, rfl, ⟨by omega, by omega⟩, ⟨by omega, h1605⟩⟩
                    · refine wp_of e276 c276_74 (rw_aload_n (pc' := 75) (v := .ref r0) rfl rfl rfl ?_)
                      refine wp_of e276 c276_75 (rw_iload_n (pc' := 76) (z := z1505) rfl rfl ?_)
                      refine wp_of e276 c276_76 (rw_iload_n (pc' := 77) (z := v1585) rfl rfl ?_)
                      have k1606 : H1586 r0 3 = H1449 r0 3 := (f1588 r0 3 _ g0 rfl)
                      have q1607 : H1586 r0 3 = (r1478 : Int) := k1606.trans q1479
                      refine wp_of e276 c276_77 (xc_V (pc' := 80) (r := r0) (as := [vI z1505, vI v1585]) (st := []) (lm_9_481) rfl rfl (Nat.le_of_ble_eq_true rfl) w1587 g0 sh_42 (by decide) rfl (by decide) (s_277 w1587 g0 ⟨by omega, by omega⟩ ⟨by omega, by omega⟩ q1607 g1480 (by omega)) (fun R1608 T1609 H1610 p1611 => ?_))
                      obtain ⟨e1612, w1614, f1615, z1616, e1613, b1617⟩ := p1611
                      subst e1612
                      subst e1613
                      have f1618 := f1591.tr f1615 rfl
                      have f1619 := f1588.tr f1615 rfl
                      show wp _ _ 276 80 [(3, vI v1585), (2, vI z1505), (0, .ref r0)] [vI z1616] _ H1610 _
                      refine wp_of e276 c276_80 (rw_istore (pc' := 82) (z := z1616) (L' := [(4, vI z1616), (3, vI v1585), (2, vI z1505), (0, .ref r0)]) rfl rfl rfl ?_)
                      refine wp_of e276 c276_82 (rw_iload (pc' := 84) (z := z1616) rfl rfl ?_)
                      refine wp_of e276 c276_84 (rw_iconst (pc' := 85) rfl ?_)
                      refine wp_of e276 c276_85 (rw_icmp_eq (p1 := 95) (p2 := 88) (by decide) rfl ⟨by omega, by omega⟩ ⟨by omega, by omega⟩ (fun c1620 => ?_) (fun c1620 => ?_))
                      · refine wp_of e276 c276_95 (rw_iinc (pc' := 98) (z := v1585) (L' := [(3, vI (v1585 + 1)), (4, vI z1616), (2, vI z1505), (0, .ref r0)]) rfl rfl rfl rfl ?_)
                        refine wp_of e276 c276_98 (rw_goto (p1 := 69) (by decide) ?_)
                        exact wp_lc (ks := [3, 4, 2, 0]) (wl_c rfl (wl_c rfl (wl_c rfl wl_n))) rfl (by decide) (ih1584 _ (by omega) (v1585 + 1) H1610 w1614 f1619 ⟨by omega, by omega⟩ rfl)
                      · refine wp_of e276 c276_88 (rw_aload_n (pc' := 89) (v := .ref r0) rfl rfl rfl ?_)
                        refine wp_of e276 c276_89 (rw_iload (pc' := 91) (z := z1616) rfl rfl ?_)
                        refine wp_of e276 c276_91 (xc_V (pc' := 94) (r := r0) (as := [vI z1616]) (st := []) (lm_9_58) rfl rfl (Nat.le_of_ble_eq_true rfl) w1614 g0 sh_42 (by decide) rfl (by decide) (s_209 w1614 g0 ⟨by omega, by omega⟩) (fun R1621 T1622 H1623 p1624 => ?_))
                        obtain ⟨e1625, w1627, f1628, z1629, e1626, b1630⟩ := p1624
                        subst e1625
                        subst e1626
                        have f1631 := f1618.tr f1628 rfl
                        show wp _ _ 276 94 [(4, vI z1616), (3, vI v1585), (2, vI z1505), (0, .ref r0)] [vI z1629] _ H1623 _
                        have k1632 : wKI H1623 r0 = wKI H1449 r0 := ((wKI_fr w1614 g0 f1628 rfl).trans ((wKI_fr w1587 g0 f1615 rfl).trans (wKI_fr w1453 g0 f1588 rfl)))
                        have h1633 : KNN T H1623 r0 e d := (KNN_fr w1614 g0 f1628 rfl (KNN_fr w1587 g0 f1615 rfl (KNN_fr w1453 g0 f1588 rfl a1465)))
                        exact wp_ireturn e276 c276_94 rfl ⟨rfl, w1627, f1631, z1629, rfl, ⟨by omega, by omega⟩, ⟨by omega, h1633⟩⟩
                exact wp_lc (ks := [3, 2, 1, 0]) (wl_c rfl (wl_c rfl (wl_c rfl wl_n))) rfl (by decide) (lp1582 _ 0 H1449 w1453 wfr.rf ⟨by omega, by omega⟩ rfl)
              · exfalso
                omega
            · refine wp_of e276 c276_50 (rw_iconst (pc' := 51) rfl ?_)
              refine wp_of e276 c276_51 (rw_istore_n (pc' := 52) (z := 5) (L' := [(1, vI 5), (0, .ref r0)]) rfl rfl rfl ?_)
              refine wp_of e276 c276_52 (rw_iload_n (pc' := 53) (z := 5) rfl rfl ?_)
              refine wp_of e276 c276_53 (rw_if_le (p1 := 62) (p2 := 56) (by decide) rfl ⟨by omega, by omega⟩ (fun c1634 => ?_) (fun c1634 => ?_))
              · exfalso
                omega
              · refine wp_of e276 c276_56 (rw_aload_n (pc' := 57) (v := .ref r0) rfl rfl rfl ?_)
                refine wp_of e276 c276_57 (rw_iload_n (pc' := 58) (z := 5) rfl rfl ?_)
                refine wp_of e276 c276_58 (xc_V (pc' := 61) (r := r0) (as := [vI 5]) (st := []) (lm_9_54) rfl rfl (Nat.le_of_ble_eq_true rfl) w1453 g0 sh_42 (by decide) rfl (by decide) (s_170 w1453 g0 ⟨by omega, by omega⟩) (fun R1635 T1636 H1637 p1638 => ?_))
                obtain ⟨e1639, w1641, f1642, z1643, e1640, b1644⟩ := p1638
                subst e1639
                subst e1640
                have f1645 := f1474.tr f1642 rfl
                show wp _ _ 276 61 [(1, vI 5), (0, .ref r0)] [vI z1643] _ H1637 _
                have k1646 : wKI H1637 r0 = wKI H1449 r0 := (wKI_fr w1453 g0 f1642 rfl)
                have h1647 : KNN T H1637 r0 e d := (KNN_fr w1453 g0 f1642 rfl a1465)
                exact wp_ireturn e276 c276_61 rfl ⟨rfl, w1641, f1645, z1643, rfl, ⟨by omega, by omega⟩, ⟨by omega, h1647⟩⟩
        · refine wp_of e276 c276_37 (rw_iconst (pc' := 38) rfl ?_)
          refine wp_of e276 c276_38 (rw_istore_n (pc' := 39) (z := 3) (L' := [(1, vI 3), (0, .ref r0)]) rfl rfl rfl ?_)
          refine wp_of e276 c276_39 (rw_iload_n (pc' := 40) (z := 3) rfl rfl ?_)
          refine wp_of e276 c276_40 (rw_if_ne (p1 := 52) (p2 := 43) (by decide) rfl ⟨by omega, by omega⟩ (fun c1648 => ?_) (fun c1648 => ?_))
          · refine wp_of e276 c276_52 (rw_iload_n (pc' := 53) (z := 3) rfl rfl ?_)
            refine wp_of e276 c276_53 (rw_if_le (p1 := 62) (p2 := 56) (by decide) rfl ⟨by omega, by omega⟩ (fun c1649 => ?_) (fun c1649 => ?_))
            · exfalso
              omega
            · refine wp_of e276 c276_56 (rw_aload_n (pc' := 57) (v := .ref r0) rfl rfl rfl ?_)
              refine wp_of e276 c276_57 (rw_iload_n (pc' := 58) (z := 3) rfl rfl ?_)
              refine wp_of e276 c276_58 (xc_V (pc' := 61) (r := r0) (as := [vI 3]) (st := []) (lm_9_54) rfl rfl (Nat.le_of_ble_eq_true rfl) w1453 g0 sh_42 (by decide) rfl (by decide) (s_170 w1453 g0 ⟨by omega, by omega⟩) (fun R1650 T1651 H1652 p1653 => ?_))
              obtain ⟨e1654, w1656, f1657, z1658, e1655, b1659⟩ := p1653
              subst e1654
              subst e1655
              have f1660 := f1474.tr f1657 rfl
              show wp _ _ 276 61 [(1, vI 3), (0, .ref r0)] [vI z1658] _ H1652 _
              have k1661 : wKI H1652 r0 = wKI H1449 r0 := (wKI_fr w1453 g0 f1657 rfl)
              have h1662 : KNN T H1652 r0 e d := (KNN_fr w1453 g0 f1657 rfl a1465)
              exact wp_ireturn e276 c276_61 rfl ⟨rfl, w1656, f1660, z1658, rfl, ⟨by omega, by omega⟩, ⟨by omega, h1662⟩⟩
          · exfalso
            omega
    · have f1663 := f1438.tr f1454 rfl
      show wp _ _ 276 21 [(0, .ref r0)] [vI z1455] _ H1449 _
      refine wp_of e276 c276_21 (rw_istore_n (pc' := 22) (z := z1455) (L' := [(1, vI z1455), (0, .ref r0)]) rfl rfl rfl ?_)
      refine wp_of e276 c276_22 (rw_iload_n (pc' := 23) (z := z1455) rfl rfl ?_)
      refine wp_of e276 c276_23 (rw_if_ne (p1 := 39) (p2 := 26) (by decide) rfl ⟨by omega, by omega⟩ (fun c1664 => ?_) (fun c1664 => ?_))
      · refine wp_of e276 c276_39 (rw_iload_n (pc' := 40) (z := z1455) rfl rfl ?_)
        refine wp_of e276 c276_40 (rw_if_ne (p1 := 52) (p2 := 43) (by decide) rfl ⟨by omega, by omega⟩ (fun c1665 => ?_) (fun c1665 => ?_))
        · refine wp_of e276 c276_52 (rw_iload_n (pc' := 53) (z := z1455) rfl rfl ?_)
          refine wp_of e276 c276_53 (rw_if_le (p1 := 62) (p2 := 56) (by decide) rfl ⟨by omega, by omega⟩ (fun c1666 => ?_) (fun c1666 => ?_))
          · exfalso
            omega
          · refine wp_of e276 c276_56 (rw_aload_n (pc' := 57) (v := .ref r0) rfl rfl rfl ?_)
            refine wp_of e276 c276_57 (rw_iload_n (pc' := 58) (z := z1455) rfl rfl ?_)
            refine wp_of e276 c276_58 (xc_V (pc' := 61) (r := r0) (as := [vI z1455]) (st := []) (lm_9_54) rfl rfl (Nat.le_of_ble_eq_true rfl) w1453 g0 sh_42 (by decide) rfl (by decide) (s_170 w1453 g0 ⟨by omega, by omega⟩) (fun R1667 T1668 H1669 p1670 => ?_))
            obtain ⟨e1671, w1673, f1674, z1675, e1672, b1676⟩ := p1670
            subst e1671
            subst e1672
            have f1677 := f1663.tr f1674 rfl
            show wp _ _ 276 61 [(1, vI z1455), (0, .ref r0)] [vI z1675] _ H1669 _
            have k1678 : wKI H1669 r0 = wKI H1449 r0 := (wKI_fr w1453 g0 f1674 rfl)
            have h1679 : KNN T H1669 r0 e d := (KNN_fr w1453 g0 f1674 rfl a1473)
            exact wp_ireturn e276 c276_61 rfl ⟨rfl, w1673, f1677, z1675, rfl, ⟨by omega, by omega⟩, ⟨by omega, h1679⟩⟩
        · exfalso
          omega
      · exfalso
        omega
  · refine wp_of e276 c276_10 (rw_ifnull_r (p1 := 17) (p2 := 13) (by decide) rfl ?_)
    refine wp_of e276 c276_13 (rw_iconst (pc' := 14) rfl ?_)
    refine wp_of e276 c276_14 (rw_goto (p1 := 18) (by decide) ?_)
    have k1680 : wKI H1435 r0 = wKI H r0 := (wKI_fr hW g0 ((wfr.rf (l := [(42, 0)])).put' e1436 g0 rfl) rfl)
    have h1681 : RB T H1435 r0 e d := (RB_fr hW g0 ((wfr.rf (l := [(42, 0)])).put' e1436 g0 rfl) rfl hRB_r0)
    have h1682 : KNN T H1435 r0 e d := (KNN_fr hW g0 ((wfr.rf (l := [(42, 0)])).put' e1436 g0 rfl) rfl hKNN_r0)
    refine wp_of e276 c276_18 (xc_V (pc' := 21) (r := r0) (as := [vI 1]) (st := []) (lm_9_433) rfl rfl (Nat.le_of_ble_eq_true rfl) w1437 g0 sh_42 (by decide) rfl (by decide) (u_241 (e := e) (d := d) w1437 g0 ⟨by omega, by omega⟩ (by omega) (by omega) (by assumption) (by assumption) (by assumption) (by assumption) h1681 h1682) (fun R1683 T1684 H1685 p1686 => ?_))
    obtain ⟨e1687, w1689, f1690, z1691, e1688, b1692, p1693⟩ := p1686
    subst e1687
    subst e1688
    rcases p1693 with ⟨a1694, a1695, a1696, a1697, a1698, a1699, a1700, a1701, a1702⟩ | ⟨a1703, a1704, a1705, a1706, a1707, a1708, a1709⟩
    · have f1710 := f1438.tr f1690 rfl
      show wp _ _ 276 21 [(0, .ref r0)] [vI z1691] _ H1685 _
      refine wp_of e276 c276_21 (rw_istore_n (pc' := 22) (z := z1691) (L' := [(1, vI z1691), (0, .ref r0)]) rfl rfl rfl ?_)
      refine wp_of e276 c276_22 (rw_iload_n (pc' := 23) (z := z1691) rfl rfl ?_)
      refine wp_of e276 c276_23 (rw_if_ne (p1 := 39) (p2 := 26) (by decide) rfl ⟨by omega, by omega⟩ (fun c1711 => ?_) (fun c1711 => ?_))
      · exfalso
        omega
      · refine wp_of e276 c276_26 (rw_aload_n (pc' := 27) (v := .ref r0) rfl rfl rfl ?_)
        have k1712 : H1685 r0 3 = H1435 r0 3 := (f1690 r0 3 _ g0 rfl)
        have q1713 : H1685 r0 3 = (r1441 : Int) := k1712.trans q1442
        refine wp_of e276 c276_27 (xc_V (pc' := 30) (r := r0) (as := []) (st := []) (lm_9_376) rfl rfl (Nat.le_of_ble_eq_true rfl) w1689 g0 sh_42 (by decide) rfl (by decide) (s_220 w1689 g0 q1713 g1443) (fun R1714 T1715 H1716 p1717 => ?_))
        obtain ⟨e1718, e1720, z1722, e1719, b1723, p1721⟩ := p1717
        subst e1718
        subst e1719
        subst e1720
        show wp _ _ 276 30 [(1, vI z1691), (0, .ref r0)] [vL z1722] _ H1685 _
        refine wp_of e276 c276_30 (rw_ldc2 (pc' := 33) (z := 5000) rfl rfl rfl ?_)
        refine wp_of e276 c276_33 (rw_lcmp (pc' := 34) rfl ⟨by omega, by omega⟩ ⟨by omega, by omega⟩ ?_)
        have b1724 := wq_cmp_b z1722 5000
        refine wp_of e276 c276_34 (rw_if_le (p1 := 39) (p2 := 37) (by decide) rfl ⟨by omega, by omega⟩ (fun c1725 => ?_) (fun c1725 => ?_))
        · refine wp_of e276 c276_39 (rw_iload_n (pc' := 40) (z := z1691) rfl rfl ?_)
          refine wp_of e276 c276_40 (rw_if_ne (p1 := 52) (p2 := 43) (by decide) rfl ⟨by omega, by omega⟩ (fun c1726 => ?_) (fun c1726 => ?_))
          · exfalso
            omega
          · refine wp_of e276 c276_43 (rw_aload_n (pc' := 44) (v := .ref r0) rfl rfl rfl ?_)
            refine wp_of e276 c276_44 (xg_I (pc' := 47) lf_9_422 w1689 g0 sh_42 (by decide) (by decide) ty_42_29 rfl rfl (fun b1727 b1728 => ?_))
            refine wp_of e276 c276_47 (rw_if_le (p1 := 52) (p2 := 50) (by decide) rfl ⟨by omega, by omega⟩ (fun c1729 => ?_) (fun c1729 => ?_))
            · refine wp_of e276 c276_52 (rw_iload_n (pc' := 53) (z := z1691) rfl rfl ?_)
              refine wp_of e276 c276_53 (rw_if_le (p1 := 62) (p2 := 56) (by decide) rfl ⟨by omega, by omega⟩ (fun c1730 => ?_) (fun c1730 => ?_))
              · refine wp_of e276 c276_62 (rw_aload_n (pc' := 63) (v := .ref r0) rfl rfl rfl ?_)
                refine wp_of e276 c276_63 (xc_V (pc' := 66) (r := r0) (as := []) (st := []) (lm_9_357) rfl rfl (Nat.le_of_ble_eq_true rfl) w1689 g0 sh_42 (by decide) rfl (by decide) (s_207 w1689 g0) (fun R1731 T1732 H1733 p1734 => ?_))
                obtain ⟨e1735, e1737, z1738, e1736, b1739⟩ := p1734
                subst e1735
                subst e1736
                subst e1737
                show wp _ _ 276 66 [(1, vI z1691), (0, .ref r0)] [vI z1738] _ H1685 _
                refine wp_of e276 c276_66 (rw_istore_n (pc' := 67) (z := z1738) (L' := [(2, vI z1738), (1, vI z1691), (0, .ref r0)]) rfl rfl rfl ?_)
                refine wp_of e276 c276_67 (rw_iconst (pc' := 68) rfl ?_)
                refine wp_of e276 c276_68 (rw_istore_n (pc' := 69) (z := 0) (L' := [(3, vI 0), (2, vI z1738), (1, vI z1691), (0, .ref r0)]) rfl rfl rfl ?_)
                have lp1815 : ∀ (n1816 : Nat) (v1818 : Int) (H1819 : wq_H), WT T H1819 → wfr [(51, 999)] T H1685 H1819 → (0 ≤ v1818 ∧ v1818 ≤ 4) → (4 - v1818).toNat = n1816 → wp kt 7 276 69 [(3, vI v1818), (2, vI z1738), (0, .ref r0)] [] T H1819 (uq_276 r0 e d T H) := by
                  intro n1816
                  induction n1816 using Nat.strongRecOn with
                  | _ n1816 ih1817 =>
                    intro v1818 H1819 w1820 f1821 b1822 m1823
                    have f1824 := f1710.tr f1821 rfl
                    refine wp_of e276 c276_69 (rw_iload_n (pc' := 70) (z := v1818) rfl rfl ?_)
                    refine wp_of e276 c276_70 (rw_iconst (pc' := 71) rfl ?_)
                    refine wp_of e276 c276_71 (rw_icmp_ge (p1 := 101) (p2 := 74) (by decide) rfl ⟨by omega, by omega⟩ ⟨by omega, by omega⟩ (fun c1825 => ?_) (fun c1825 => ?_))
                    · refine wp_of e276 c276_101 (rw_aload_n (pc' := 102) (v := .ref r0) rfl rfl rfl ?_)
                      refine wp_of e276 c276_102 (rw_bipush (pc' := 104) (z := -2) rfl (by decide) ?_)
                      refine wp_of e276 c276_104 (xc_V (pc' := 107) (r := r0) (as := [vI (-2)]) (st := []) (lm_9_58) rfl rfl (Nat.le_of_ble_eq_true rfl) w1820 g0 sh_42 (by decide) rfl (by decide) (s_209 w1820 g0 ⟨by omega, by omega⟩) (fun R1826 T1827 H1828 p1829 => ?_))
                      obtain ⟨e1830, w1832, f1833, z1834, e1831, b1835⟩ := p1829
                      subst e1830
                      subst e1831
                      have f1836 := f1824.tr f1833 rfl
                      show wp _ _ 276 107 [(3, vI v1818), (2, vI z1738), (0, .ref r0)] [vI z1834] _ H1828 _
                      have k1837 : wKI H1828 r0 = wKI H1685 r0 := ((wKI_fr w1820 g0 f1833 rfl).trans (wKI_fr w1689 g0 f1821 rfl))
                      have h1838 : KNN T H1828 r0 e d := (KNN_fr w1820 g0 f1833 rfl (KNN_fr w1689 g0 f1821 rfl a1701))
                      exact wp_ireturn e276 c276_107 rfl ⟨rfl, w1832, f1836, z1834, rfl, ⟨by omega, by omega⟩, ⟨by omega, h1838⟩⟩
                    · refine wp_of e276 c276_74 (rw_aload_n (pc' := 75) (v := .ref r0) rfl rfl rfl ?_)
                      refine wp_of e276 c276_75 (rw_iload_n (pc' := 76) (z := z1738) rfl rfl ?_)
                      refine wp_of e276 c276_76 (rw_iload_n (pc' := 77) (z := v1818) rfl rfl ?_)
                      have k1839 : H1819 r0 3 = H1685 r0 3 := (f1821 r0 3 _ g0 rfl)
                      have q1840 : H1819 r0 3 = (r1441 : Int) := k1839.trans q1713
                      refine wp_of e276 c276_77 (xc_V (pc' := 80) (r := r0) (as := [vI z1738, vI v1818]) (st := []) (lm_9_481) rfl rfl (Nat.le_of_ble_eq_true rfl) w1820 g0 sh_42 (by decide) rfl (by decide) (s_277 w1820 g0 ⟨by omega, by omega⟩ ⟨by omega, by omega⟩ q1840 g1443 (by omega)) (fun R1841 T1842 H1843 p1844 => ?_))
                      obtain ⟨e1845, w1847, f1848, z1849, e1846, b1850⟩ := p1844
                      subst e1845
                      subst e1846
                      have f1851 := f1824.tr f1848 rfl
                      have f1852 := f1821.tr f1848 rfl
                      show wp _ _ 276 80 [(3, vI v1818), (2, vI z1738), (0, .ref r0)] [vI z1849] _ H1843 _
                      refine wp_of e276 c276_80 (rw_istore (pc' := 82) (z := z1849) (L' := [(4, vI z1849), (3, vI v1818), (2, vI z1738), (0, .ref r0)]) rfl rfl rfl ?_)
                      refine wp_of e276 c276_82 (rw_iload (pc' := 84) (z := z1849) rfl rfl ?_)
                      refine wp_of e276 c276_84 (rw_iconst (pc' := 85) rfl ?_)
                      refine wp_of e276 c276_85 (rw_icmp_eq (p1 := 95) (p2 := 88) (by decide) rfl ⟨by omega, by omega⟩ ⟨by omega, by omega⟩ (fun c1853 => ?_) (fun c1853 => ?_))
                      · refine wp_of e276 c276_95 (rw_iinc (pc' := 98) (z := v1818) (L' := [(3, vI (v1818 + 1)), (4, vI z1849), (2, vI z1738), (0, .ref r0)]) rfl rfl rfl rfl ?_)
                        refine wp_of e276 c276_98 (rw_goto (p1 := 69) (by decide) ?_)
                        exact wp_lc (ks := [3, 4, 2, 0]) (wl_c rfl (wl_c rfl (wl_c rfl wl_n))) rfl (by decide) (ih1817 _ (by omega) (v1818 + 1) H1843 w1847 f1852 ⟨by omega, by omega⟩ rfl)
                      · refine wp_of e276 c276_88 (rw_aload_n (pc' := 89) (v := .ref r0) rfl rfl rfl ?_)
                        refine wp_of e276 c276_89 (rw_iload (pc' := 91) (z := z1849) rfl rfl ?_)
                        refine wp_of e276 c276_91 (xc_V (pc' := 94) (r := r0) (as := [vI z1849]) (st := []) (lm_9_58) rfl rfl (Nat.le_of_ble_eq_true rfl) w1847 g0 sh_42 (by decide) rfl (by decide) (s_209 w1847 g0 ⟨by omega, by omega⟩) (fun R1854 T1855 H1856 p1857 => ?_))
                        obtain ⟨e1858, w1860, f1861, z1862, e1859, b1863⟩ := p1857
                        subst e1858
                        subst e1859
                        have f1864 := f1851.tr f1861 rfl
                        show wp _ _ 276 94 [(4, vI z1849), (3, vI v1818), (2, vI z1738), (0, .ref r0)] [vI z1862] _ H1856 _
                        have k1865 : wKI H1856 r0 = wKI H1685 r0 := ((wKI_fr w1847 g0 f1861 rfl).trans ((wKI_fr w1820 g0 f1848 rfl).trans (wKI_fr w1689 g0 f1821 rfl)))
                        have h1866 : KNN T H1856 r0 e d := (KNN_fr w1847 g0 f1861 rfl (KNN_fr w1820 g0 f1848 rfl (KNN_fr w1689 g0 f1821 rfl a1701)))
                        exact wp_ireturn e276 c276_94 rfl ⟨rfl, w1860, f1864, z1862, rfl, ⟨by omega, by omega⟩, ⟨by omega, h1866⟩⟩
                exact wp_lc (ks := [3, 2, 1, 0]) (wl_c rfl (wl_c rfl (wl_c rfl wl_n))) rfl (by decide) (lp1815 _ 0 H1685 w1689 wfr.rf ⟨by omega, by omega⟩ rfl)
              · exfalso
                omega
            · refine wp_of e276 c276_50 (rw_iconst (pc' := 51) rfl ?_)
              refine wp_of e276 c276_51 (rw_istore_n (pc' := 52) (z := 5) (L' := [(1, vI 5), (0, .ref r0)]) rfl rfl rfl ?_)
              refine wp_of e276 c276_52 (rw_iload_n (pc' := 53) (z := 5) rfl rfl ?_)
              refine wp_of e276 c276_53 (rw_if_le (p1 := 62) (p2 := 56) (by decide) rfl ⟨by omega, by omega⟩ (fun c1867 => ?_) (fun c1867 => ?_))
              · exfalso
                omega
              · refine wp_of e276 c276_56 (rw_aload_n (pc' := 57) (v := .ref r0) rfl rfl rfl ?_)
                refine wp_of e276 c276_57 (rw_iload_n (pc' := 58) (z := 5) rfl rfl ?_)
                refine wp_of e276 c276_58 (xc_V (pc' := 61) (r := r0) (as := [vI 5]) (st := []) (lm_9_54) rfl rfl (Nat.le_of_ble_eq_true rfl) w1689 g0 sh_42 (by decide) rfl (by decide) (s_170 w1689 g0 ⟨by omega, by omega⟩) (fun R1868 T1869 H1870 p1871 => ?_))
                obtain ⟨e1872, w1874, f1875, z1876, e1873, b1877⟩ := p1871
                subst e1872
                subst e1873
                have f1878 := f1710.tr f1875 rfl
                show wp _ _ 276 61 [(1, vI 5), (0, .ref r0)] [vI z1876] _ H1870 _
                have k1879 : wKI H1870 r0 = wKI H1685 r0 := (wKI_fr w1689 g0 f1875 rfl)
                have h1880 : KNN T H1870 r0 e d := (KNN_fr w1689 g0 f1875 rfl a1701)
                exact wp_ireturn e276 c276_61 rfl ⟨rfl, w1874, f1878, z1876, rfl, ⟨by omega, by omega⟩, ⟨by omega, h1880⟩⟩
        · refine wp_of e276 c276_37 (rw_iconst (pc' := 38) rfl ?_)
          refine wp_of e276 c276_38 (rw_istore_n (pc' := 39) (z := 3) (L' := [(1, vI 3), (0, .ref r0)]) rfl rfl rfl ?_)
          refine wp_of e276 c276_39 (rw_iload_n (pc' := 40) (z := 3) rfl rfl ?_)
          refine wp_of e276 c276_40 (rw_if_ne (p1 := 52) (p2 := 43) (by decide) rfl ⟨by omega, by omega⟩ (fun c1881 => ?_) (fun c1881 => ?_))
          · refine wp_of e276 c276_52 (rw_iload_n (pc' := 53) (z := 3) rfl rfl ?_)
            refine wp_of e276 c276_53 (rw_if_le (p1 := 62) (p2 := 56) (by decide) rfl ⟨by omega, by omega⟩ (fun c1882 => ?_) (fun c1882 => ?_))
            · exfalso
              omega
            · refine wp_of e276 c276_56 (rw_aload_n (pc' := 57) (v := .ref r0) rfl rfl rfl ?_)
              refine wp_of e276 c276_57 (rw_iload_n (pc' := 58) (z := 3) rfl rfl ?_)
              refine wp_of e276 c276_58 (xc_V (pc' := 61) (r := r0) (as := [vI 3]) (st := []) (lm_9_54) rfl rfl (Nat.le_of_ble_eq_true rfl) w1689 g0 sh_42 (by decide) rfl (by decide) (s_170 w1689 g0 ⟨by omega, by omega⟩) (fun R1883 T1884 H1885 p1886 => ?_))
              obtain ⟨e1887, w1889, f1890, z1891, e1888, b1892⟩ := p1886
              subst e1887
              subst e1888
              have f1893 := f1710.tr f1890 rfl
              show wp _ _ 276 61 [(1, vI 3), (0, .ref r0)] [vI z1891] _ H1885 _
              have k1894 : wKI H1885 r0 = wKI H1685 r0 := (wKI_fr w1689 g0 f1890 rfl)
              have h1895 : KNN T H1885 r0 e d := (KNN_fr w1689 g0 f1890 rfl a1701)
              exact wp_ireturn e276 c276_61 rfl ⟨rfl, w1889, f1893, z1891, rfl, ⟨by omega, by omega⟩, ⟨by omega, h1895⟩⟩
          · exfalso
            omega
    · have f1896 := f1438.tr f1690 rfl
      show wp _ _ 276 21 [(0, .ref r0)] [vI z1691] _ H1685 _
      refine wp_of e276 c276_21 (rw_istore_n (pc' := 22) (z := z1691) (L' := [(1, vI z1691), (0, .ref r0)]) rfl rfl rfl ?_)
      refine wp_of e276 c276_22 (rw_iload_n (pc' := 23) (z := z1691) rfl rfl ?_)
      refine wp_of e276 c276_23 (rw_if_ne (p1 := 39) (p2 := 26) (by decide) rfl ⟨by omega, by omega⟩ (fun c1897 => ?_) (fun c1897 => ?_))
      · refine wp_of e276 c276_39 (rw_iload_n (pc' := 40) (z := z1691) rfl rfl ?_)
        refine wp_of e276 c276_40 (rw_if_ne (p1 := 52) (p2 := 43) (by decide) rfl ⟨by omega, by omega⟩ (fun c1898 => ?_) (fun c1898 => ?_))
        · refine wp_of e276 c276_52 (rw_iload_n (pc' := 53) (z := z1691) rfl rfl ?_)
          refine wp_of e276 c276_53 (rw_if_le (p1 := 62) (p2 := 56) (by decide) rfl ⟨by omega, by omega⟩ (fun c1899 => ?_) (fun c1899 => ?_))
          · exfalso
            omega
          · refine wp_of e276 c276_56 (rw_aload_n (pc' := 57) (v := .ref r0) rfl rfl rfl ?_)
            refine wp_of e276 c276_57 (rw_iload_n (pc' := 58) (z := z1691) rfl rfl ?_)
            refine wp_of e276 c276_58 (xc_V (pc' := 61) (r := r0) (as := [vI z1691]) (st := []) (lm_9_54) rfl rfl (Nat.le_of_ble_eq_true rfl) w1689 g0 sh_42 (by decide) rfl (by decide) (s_170 w1689 g0 ⟨by omega, by omega⟩) (fun R1900 T1901 H1902 p1903 => ?_))
            obtain ⟨e1904, w1906, f1907, z1908, e1905, b1909⟩ := p1903
            subst e1904
            subst e1905
            have f1910 := f1896.tr f1907 rfl
            show wp _ _ 276 61 [(1, vI z1691), (0, .ref r0)] [vI z1908] _ H1902 _
            have k1911 : wKI H1902 r0 = wKI H1685 r0 := (wKI_fr w1689 g0 f1907 rfl)
            have h1912 : KNN T H1902 r0 e d := (KNN_fr w1689 g0 f1907 rfl a1709)
            exact wp_ireturn e276 c276_61 rfl ⟨rfl, w1906, f1910, z1908, rfl, ⟨by omega, by omega⟩, ⟨by omega, h1912⟩⟩
        · exfalso
          omega
      · exfalso
        omega
/-! StrikeAwakeModel.part(IZ)I  -/
abbrev uq_279 (r0 : Nat) (a1 : Int) (a2 : Int) (e : xD) (d : xD) (T : wq_T) (H : wq_H) : Option Value → wq_T → wq_H → Prop := fun r T' H' => T = T' ∧ WT T H' ∧ wfr [(42, 0), (42, 1), (42, 2), (42, 28), (42, 29), (51, 999), (52, 999)] T H H' ∧ ∃ z : Int, some (vI z) = r ∧ ((-2147483648) ≤ z ∧ z ≤ 2147483647) ∧ (((z = -1000) ∧ (wKI H' r0 = 1) ∧ (((a1 < 0 ∨ d 0 0 ≤ a1) ∨ e 13 (a1).toNat ≤ 0) ∨ 20000 < xlots d ∨ xcn (xwf e d) (xlots d).toNat ≤ 0) ∧ KNN T H' r0 e d) ∨ ((wKI H' r0 = 1) ∧ (((0 ≤ a1 ∧ a1 < d 0 0) ∧ e 13 (a1).toNat > 0) ∧ xlots d ≤ 20000 ∧ 0 < xcn (xwf e d) (xlots d).toNat) ∧ (XEX (decide (a2 ≠ 0)) (xwf e d) (fun n => e 13 (a1).toNat - 1 - ((xdue d (xlot d ((n : Nat) : Int)) (a1).toNat : Nat) : Int)) (xlots d).toNat z) ∧ KNN T H' r0 e d))
set_option maxHeartbeats 4000000 in
theorem u_279 {kt : Nat → Option mc_E} {T : wq_T} {H : wq_H} {r0 : Nat} {a1 : Int} {a2 : Int} {e : xD} {d : xD} (hW : WT T H) (g0 : T.2.2.2 r0 = some 42) (i1 : (-2147483648) ≤ a1 ∧ a1 ≤ 2147483647) (i2 : 0 ≤ a2 ∧ a2 ≤ 1) (p0 : wKI H r0 = 1) (p1 : XW d) (p2 : ∀ h : Nat, d 0 0 ≤ (h : Int) → h < 24 → e 13 h = 0) (p3 : XN d) (p4 : ∀ h : Nat, h < 24 → 0 ≤ e 13 h ∧ e 13 h ≤ 100) (hRB_r0 : RB T H r0 e d) (hKNN_r0 : KNN T H r0 e d) : wpc kt 9 279 [.ref r0, vI a1, vI a2] T H (uq_279 r0 a1 a2 e d T H) := by
  refine wp_enter e279 (Nat.le_of_ble_eq_true rfl) rfl ?_
  have f0 : wfr [(42, 0), (42, 1), (42, 2), (42, 28), (42, 29), (51, 999), (52, 999)] T H H := wfr.rf
  show wp _ _ 279 0 [(0, .ref r0), (1, vI a1), (2, vI a2)] [] _ H _
  have _b := RB_b hW hRB_r0
  have _nu := RB_n3 hRB_r0
  have _lm := RB_lm hRB_r0
  have _xw := (by assumption : XW d)
  have _e13 := (by assumption : ∀ h : Nat, h < 24 → 0 ≤ e 13 h ∧ e 13 h ≤ 100)
  refine wp_of e279 c279_0 (rw_aload_n (pc' := 1) (v := .ref r0) rfl rfl rfl ?_)
  refine wp_of e279 c279_1 (rw_iconst (pc' := 2) rfl ?_)
  refine wp_of e279 c279_2 (xp_I (pc' := 5) lf_9_48 hW g0 sh_42 (by decide) (by decide) ty_42_0 rfl rfl (by omega) (by omega) ⟨by omega, by omega⟩ rfl (fun H2043 e2044 w2045 => ?_))
  have f2046 := f0.put' e2044 g0 rfl
  have k2047 : H2043 r0 0 = 0 := wq_u_s e2044
  refine wp_of e279 c279_5 (rw_aload_n (pc' := 6) (v := .ref r0) rfl rfl rfl ?_)
  refine wp_of e279 c279_6 (rw_aload_n (pc' := 7) (v := .ref r0) rfl rfl rfl ?_)
  refine wp_of e279 c279_7 (rw_iload_n (pc' := 8) (z := a1) rfl rfl ?_)
  have h2048 : RB T H2043 r0 e d := (RB_fr hW g0 ((wfr.rf (l := [(42, 0)])).put' e2044 g0 rfl) rfl hRB_r0)
  refine wp_of e279 c279_8 (xc_V (pc' := 11) (r := r0) (as := [vI a1]) (st := [.ref r0]) (lm_9_487) rfl rfl (Nat.le_of_ble_eq_true rfl) w2045 g0 sh_42 (by decide) rfl (by decide) (u_280 (e := e) (d := d) w2045 g0 ⟨by omega, by omega⟩ h2048) (fun R2049 T2050 H2051 p2052 => ?_))
  obtain ⟨e2053, e2055, z2056, e2054, b2057, p2058⟩ := p2052
  subst e2053
  subst e2054
  subst e2055
  rcases p2058 with ⟨a2059, a2060, a2061⟩ | ⟨a2062, a2063⟩
  · show wp _ _ 279 11 [(0, .ref r0), (1, vI a1), (2, vI a2)] [vI z2056, .ref r0] _ H2043 _
    have k2064 : H2043 r0 3 = H r0 3 := (wq_u_j e2044 rfl)
    have k2065 : wKI H2043 r0 = wKI H r0 := (wKI_fr hW g0 ((wfr.rf (l := [(42, 0)])).put' e2044 g0 rfl) rfl)
    have h2066 : KNN T H2043 r0 e d := (KNN_fr hW g0 ((wfr.rf (l := [(42, 0)])).put' e2044 g0 rfl) rfl hKNN_r0)
    refine wp_of e279 c279_11 (xc_V (pc' := 14) (r := r0) (as := [vI z2056]) (st := []) (lm_9_447) rfl rfl (Nat.le_of_ble_eq_true rfl) w2045 g0 sh_42 (by decide) rfl (by decide) (u_253 (e := e) (d := d) w2045 g0 ⟨by omega, by omega⟩ (by omega) (by omega) (by assumption) (by assumption) (by assumption) (by assumption) h2048 h2066) (fun R2067 T2068 H2069 p2070 => ?_))
    obtain ⟨e2071, w2073, f2074, z2075, e2072, b2076, p2077⟩ := p2070
    subst e2071
    subst e2072
    rcases p2077 with ⟨a2078, a2079, a2080, a2081, a2082, a2083, a2084, a2085, a2086, a2087⟩ | ⟨a2088, a2089, a2090, a2091, a2092, a2093, a2094⟩
    · have f2095 := f2046.tr f2074 rfl
      show wp _ _ 279 14 [(0, .ref r0), (1, vI a1), (2, vI a2)] [vI z2075] _ H2069 _
      refine wp_of e279 c279_14 (rw_istore_n (pc' := 15) (z := z2075) (L' := [(3, vI z2075), (0, .ref r0), (1, vI a1), (2, vI a2)]) rfl rfl rfl ?_)
      refine wp_of e279 c279_15 (rw_iload_n (pc' := 16) (z := z2075) rfl rfl ?_)
      obtain ⟨r2096, q2097, g2098⟩ := (w2073.opt g0 (t' := 54) (n := 33) (j := 3) (p := 0) (q := 0) rfl (by decide) rfl).resolve_left (by omega)
      have h2099 : RB T H2069 r0 e d := (RB_fr w2045 g0 f2074 rfl h2048)
      have _kbb := a2087
      have _kb := _kbb.1
      have _n3 : H2069 r0 3 ≠ -1 := by omega
      have _rp := RB_at h2099 q2097
      have _k := RP_k _rp
      have _nb := xcn_b (f := xwf e d) (xlots d).toNat
      have h2100 : KL T H2069 r0 (xwf e d) (xlots d).toNat := _kbb.2
      have _ar := RB_ar h2099 (by omega)
      have _pk := _ar.1
      have h2101 : MN20 T H2069 r0 24 (e 13) := _ar.2.2.1
      refine wp_of e279 c279_16 (rw_if_le (p1 := 25) (p2 := 19) (by decide) rfl ⟨by omega, by omega⟩ (fun c2102 => ?_) (fun c2102 => ?_))
      · refine wp_of e279 c279_25 (rw_iconst (pc' := 26) rfl ?_)
        refine wp_of e279 c279_26 (rw_istore (pc' := 28) (z := 0) (L' := [(4, vI 0), (3, vI z2075), (0, .ref r0), (1, vI a1), (2, vI a2)]) rfl rfl rfl ?_)
        refine wp_of e279 c279_28 (rw_iconst (pc' := 29) rfl ?_)
        refine wp_of e279 c279_29 (rw_istore (pc' := 31) (z := 0) (L' := [(5, vI 0), (4, vI 0), (3, vI z2075), (0, .ref r0), (1, vI a1), (2, vI a2)]) rfl rfl rfl ?_)
        have b2507 : 0 ≤ H2069 r0 29 ∧ H2069 r0 29 ≤ 20000 := w2073.box g0 (n := 33) rfl (by decide) rfl
        have lp2500 : ∀ (n2501 : Nat) (v2503 : Int) (v2504 : Int) (H2505 : wq_H) (u2506 : Nat), WT T H2505 → wfr [(51, 999)] T H2069 H2505 → (0 ≤ v2503 ∧ v2503 ≤ 20000) → ((-200) ≤ v2504 ∧ v2504 ≤ 200) → KL T H2505 r0 (xwf e d) (xlots d).toNat → (v2503 ≤ H2505 r0 29) → (u2506 ≤ (xlots d).toNat) → (xcn (xwf e d) u2506 = v2503) → (v2504 = xtr (decide (a2 ≠ 0)) (xwf e d) (fun n => e 13 (a1).toNat - 1 - ((xdue d (xlot d ((n : Nat) : Int)) (a1).toNat : Nat) : Int)) u2506) → (20000 - v2503).toNat = n2501 → wp kt 8 279 31 [(5, vI v2503), (4, vI v2504), (0, .ref r0), (1, vI a1), (2, vI a2)] [] T H2505 (uq_279 r0 a1 a2 e d T H) := by
          intro n2501
          induction n2501 using Nat.strongRecOn with
          | _ n2501 ih2502 =>
            intro v2503 v2504 H2505 u2506 w2508 f2509 b2510 b2511 h2513 x2514 x2515 x2516 x2517 m2512
            have f2518 := f2095.tr f2509 rfl
            have k2519 : H2505 r0 29 = H2069 r0 29 := (f2509 r0 29 _ g0 rfl)
            refine wp_of e279 c279_31 (rw_iload (pc' := 33) (z := v2503) rfl rfl ?_)
            refine wp_of e279 c279_33 (rw_aload_n (pc' := 34) (v := .ref r0) rfl rfl rfl ?_)
            refine wp_of e279 c279_34 (xg_I (pc' := 37) lf_9_422 w2508 g0 sh_42 (by decide) (by decide) ty_42_29 rfl rfl (fun b2520 b2521 => ?_))
            refine wp_of e279 c279_37 (rw_icmp_ge (p1 := 112) (p2 := 40) (by decide) rfl ⟨by omega, by omega⟩ ⟨by omega, by omega⟩ (fun c2522 => ?_) (fun c2522 => ?_))
            · refine wp_of e279 c279_112 (rw_aload_n (pc' := 113) (v := .ref r0) rfl rfl rfl ?_)
              refine wp_of e279 c279_113 (rw_iload (pc' := 115) (z := v2504) rfl rfl ?_)
              refine wp_of e279 c279_115 (xc_V (pc' := 118) (r := r0) (as := [vI v2504]) (st := []) (lm_9_58) rfl rfl (Nat.le_of_ble_eq_true rfl) w2508 g0 sh_42 (by decide) rfl (by decide) (u_209  w2508 g0 ⟨by omega, by omega⟩) (fun R2523 T2524 H2525 p2526 => ?_))
              obtain ⟨e2527, w2529, f2530, z2531, e2528, b2532, p2533⟩ := p2526
              subst e2527
              subst e2528
              obtain ⟨a2534, a2535, a2536⟩ := p2533
              have f2537 := f2518.tr f2530 rfl
              show wp _ _ 279 118 [(5, vI v2503), (4, vI v2504), (0, .ref r0), (1, vI a1), (2, vI a2)] [vI z2531] _ H2525 _
              have k2538 : wKI H2525 r0 = wKI H2069 r0 := ((wKI_fr w2508 g0 f2530 rfl).trans (wKI_fr w2073 g0 f2509 rfl))
              have h2539 : KNN T H2525 r0 e d := (KNN_fr w2508 g0 f2530 rfl (KNN_fr w2073 g0 f2509 rfl a2086))
              exact wp_ireturn e279 c279_118 rfl ⟨rfl, w2529, f2537, z2531, rfl, ⟨by omega, by omega⟩, (Or.inr ⟨by omega, by omega, by
                rw [show z2531 = xtr (decide (a2 ≠ 0)) (xwf e d) (fun n => e 13 (a1).toNat - 1 - ((xdue d (xlot d ((n : Nat) : Int)) (a1).toNat : Nat) : Int)) (xlots d).toNat by rw [xtr_end (u := u2506) (by omega) (by omega)]; assumption]
                exact xtr_ex _ (by omega), h2539⟩)⟩
            · obtain ⟨h9, _a, _b, _c, _e, _f⟩ := xcn_nx (f := xwf e d) (u := u2506) (xlots d).toNat (by omega) (by omega)
              have _n9 : xcn (xwf e d) (h9 + 1) = xcn (xwf e d) h9 + 1 := by
                show xcn (xwf e d) h9 + (if xwf e d h9 > 0 then 1 else 0) = _
                rw [if_pos _c]
              refine wp_of e279 c279_40 (rw_aload_n (pc' := 41) (v := .ref r0) rfl rfl rfl ?_)
              refine wp_of e279 c279_41 (rw_aload_n (pc' := 42) (v := .ref r0) rfl rfl rfl ?_)
              refine wp_of e279 c279_42 (xg_R (pc' := 45) lf_9_42 w2508 g0 sh_42 (by decide) (by decide) ty_42_30 rfl rfl (fun r2540 q2541 g2542 => ?_))
              refine wp_of e279 c279_45 (rw_iload (pc' := 47) (z := v2503) rfl rfl ?_)
              refine wp_of e279 c279_47 (xa_I (so := 0) (pc' := 48) w2508 g2542 sh_52 (by decide) (ty_52 _) (by omega) (by omega) rfl (fun b2543 b2544 => ?_))
              have _kl := KL_at h2513 q2541 (n := h9) (s := (v2503).toNat) (by omega) _c (by omega)
              have _t9 : H2505 r2540 (v2503.toNat) = ((h9 : Nat) : Int) := by omega
              have _slw : SL d (xlot d ((h9 : Nat) : Int)) := SL_lot _xw.1 (by omega) (by omega)
              have k2545 : H2505 r0 3 = H2069 r0 3 := (f2509 r0 3 _ g0 rfl)
              have q2546 : H2505 r0 3 = (r2096 : Int) := k2545.trans q2097
              have h2547 : RB T H2505 r0 e d := (RB_fr w2073 g0 f2509 rfl h2099)
              refine wp_of e279 c279_48 (xc_V (pc' := 51) (r := r0) (as := [vI (H2505 r2540 (v2503.toNat))]) (st := []) (lm_9_425) rfl rfl (Nat.le_of_ble_eq_true rfl) w2508 g0 sh_42 (by decide) rfl (by decide) (u_243 (e := e) (d := d) w2508 g0 ⟨by omega, by omega⟩ q2546 g2098 (by omega) h2547) (fun R2548 T2549 H2550 p2551 => ?_))
              obtain ⟨e2552, w2554, f2555, e2553, p2556⟩ := p2551
              subst e2552
              subst e2553
              have f2558 := f2518.tr f2555 rfl
              have f2559 := f2509.tr f2555 rfl
              show wp _ _ 279 51 [(5, vI v2503), (4, vI v2504), (0, .ref r0), (1, vI a1), (2, vI a2)] [] _ H2550 _
              have h2560 : LQ27 T H2550 r0 0 (d 0 3) (xlot d ((h9 : Nat) : Int)) := by rw [← _t9]; exact p2556
              refine wp_of e279 c279_51 (rw_aload_n (pc' := 52) (v := .ref r0) rfl rfl rfl ?_)
              refine wp_of e279 c279_52 (xg_R (pc' := 55) lf_9_17 w2554 g0 sh_42 (by decide) (by decide) ty_42_20 rfl rfl (fun r2561 q2562 g2563 => ?_))
              refine wp_of e279 c279_55 (rw_iload_n (pc' := 56) (z := a1) rfl rfl ?_)
              refine wp_of e279 c279_56 (xa_I (so := 0) (pc' := 57) w2554 g2563 sh_44 (by decide) (ty_44 _) (by omega) (by omega) rfl (fun b2564 b2565 => ?_))
              have h2566 : MN20 T H2550 r0 24 (e 13) := (MN20_fr w2508 g0 f2555 rfl (MN20_fr w2073 g0 f2509 rfl h2101))
              have := DA_at h2566 q2562 (k := (a1.toNat)) (by omega)
              refine wp_of e279 c279_57 (rw_iconst (pc' := 58) rfl ?_)
              refine wp_of e279 c279_58 (rw_isubw (pc' := 59) rfl ?_)
              obtain ⟨v2567, e2568⟩ : ∃ x : Int, x = wq_w ((H2550 r2561 (a1.toNat)) - 1) := ⟨_, rfl⟩
              rw [← e2568]
              have b2569 : -2147483648 ≤ v2567 ∧ v2567 ≤ 2147483647 := by
                rw [e2568]
                exact wI_w _
              have b2570 : (-2147483648 ≤ (H2550 r2561 (a1.toNat)) - 1 ∧ (H2550 r2561 (a1.toNat)) - 1 ≤ 2147483647) → v2567 = (H2550 r2561 (a1.toNat)) - 1 := fun h => by rw [e2568]; exact wq_w_id h
              refine wp_of e279 c279_59 (rw_aload_n (pc' := 60) (v := .ref r0) rfl rfl rfl ?_)
              refine wp_of e279 c279_60 (rw_aload_n (pc' := 61) (v := .ref r0) rfl rfl rfl ?_)
              refine wp_of e279 c279_61 (xg_R (pc' := 64) lf_9_39 w2554 g0 sh_42 (by decide) (by decide) ty_42_27 rfl rfl (fun r2571 q2572 g2573 => ?_))
              have h2574 : RR T H2550 r2571 (d 0 3) (xlot d ((h9 : Nat) : Int)) := RR_27 h2560 q2572 g2573 (by omega)
              refine wp_of e279 c279_64 (rw_iload_n (pc' := 65) (z := a1) rfl rfl ?_)
              have k2575 : H2550 r0 3 = H2505 r0 3 := (f2555 r0 3 _ g0 rfl)
              have q2576 : H2550 r0 3 = (r2096 : Int) := k2575.trans q2546
              have h2577 : RB T H2550 r0 e d := (RB_fr w2508 g0 f2555 rfl h2547)
              refine wp_of e279 c279_65 (xc_V (pc' := 68) (r := r0) (as := [.ref r2571, vI a1]) (st := [vI v2567]) (lm_9_386) rfl rfl (Nat.le_of_ble_eq_true rfl) w2554 g0 sh_42 (by decide) rfl (by decide) (u_228_l (e := e) (d := d) (g := ((xlot d ((h9 : Nat) : Int)))) w2554 g0 g2573 ⟨by omega, by omega⟩ q2576 g2098 (by assumption) (by assumption) h2577 h2574) (fun R2578 T2579 H2580 p2581 => ?_))
              obtain ⟨e2582, e2584, z2585, e2583, b2586, p2587⟩ := p2581
              subst e2582
              subst e2583
              subst e2584
              show wp _ _ 279 68 [(5, vI v2503), (4, vI v2504), (0, .ref r0), (1, vI a1), (2, vI a2)] [vI z2585, vI v2567] _ H2550 _
              refine wp_of e279 c279_68 (rw_isubw (pc' := 69) rfl ?_)
              obtain ⟨v2589, e2590⟩ : ∃ x : Int, x = wq_w (v2567 - z2585) := ⟨_, rfl⟩
              rw [← e2590]
              have b2591 : -2147483648 ≤ v2589 ∧ v2589 ≤ 2147483647 := by
                rw [e2590]
                exact wI_w _
              have b2592 : (-2147483648 ≤ v2567 - z2585 ∧ v2567 - z2585 ≤ 2147483647) → v2589 = v2567 - z2585 := fun h => by rw [e2590]; exact wq_w_id h
              refine wp_of e279 c279_69 (rw_istore (pc' := 71) (z := v2589) (L' := [(6, vI v2589), (5, vI v2503), (4, vI v2504), (0, .ref r0), (1, vI a1), (2, vI a2)]) rfl rfl rfl ?_)
              refine wp_of e279 c279_71 (rw_iload (pc' := 73) (z := v2503) rfl rfl ?_)
              refine wp_of e279 c279_73 (rw_if_eq (p1 := 97) (p2 := 76) (by decide) rfl ⟨by omega, by omega⟩ (fun c2593 => ?_) (fun c2593 => ?_))
              · refine wp_of e279 c279_97 (rw_iload (pc' := 99) (z := v2589) rfl rfl ?_)
                refine wp_of e279 c279_99 (rw_goto (p1 := 104) (by decide) ?_)
                refine wp_of e279 c279_104 (rw_istore (pc' := 106) (z := v2589) (L' := [(4, vI v2589), (6, vI v2589), (5, vI v2503), (0, .ref r0), (1, vI a1), (2, vI a2)]) rfl rfl rfl ?_)
                have _gp : xtr (decide (a2 ≠ 0)) (xwf e d) (fun n => e 13 (a1).toNat - 1 - ((xdue d (xlot d ((n : Nat) : Int)) (a1).toNat : Nat) : Int)) h9 = v2504 := by
                  rw [xtr_gap _a _f]
                  exact (‹v2504 = xtr (decide (a2 ≠ 0)) (xwf e d) (fun n => e 13 (a1).toNat - 1 - ((xdue d (xlot d ((n : Nat) : Int)) (a1).toNat : Nat) : Int)) u2506›).symm
                have _vv : v2589 = (fun n => e 13 (a1).toNat - 1 - ((xdue d (xlot d ((n : Nat) : Int)) (a1).toNat : Nat) : Int)) h9 := by show _ = e 13 (a1).toNat - 1 - ((xdue d (xlot d ((h9 : Nat) : Int)) (a1).toNat : Nat) : Int); omega
                have _q : v2589 = xtr (decide (a2 ≠ 0)) (xwf e d) (fun n => e 13 (a1).toNat - 1 - ((xdue d (xlot d ((n : Nat) : Int)) (a1).toNat : Nat) : Int)) (h9 + 1) := by
                  rw [xtr_y _c, _gp, ← _vv]
                  first
                  | rw [if_pos (Or.inl (by omega))]
                  | rw [if_pos (Or.inr (by rw [if_pos (decide_eq_true (by omega))]; omega))]
                  | rw [if_pos (Or.inr (by rw [if_neg (fun c9 => of_decide_eq_true c9 (by omega))]; omega))]
                  | rw [if_neg (fun c8 => by
                      rcases c8 with c8 | c8
                      · omega
                      · first
                        | (rw [if_pos (decide_eq_true (by omega))] at c8; omega)
                        | (rw [if_neg (fun c9 => of_decide_eq_true c9 (by omega))] at c8; omega))]
                refine wp_of e279 c279_106 (rw_iinc (pc' := 109) (z := v2503) (L' := [(5, vI (v2503 + 1)), (4, vI v2589), (6, vI v2589), (0, .ref r0), (1, vI a1), (2, vI a2)]) rfl rfl rfl rfl ?_)
                refine wp_of e279 c279_109 (rw_goto (p1 := 31) (by decide) ?_)
                have k2594 : H2550 r0 29 = H2505 r0 29 := (f2555 r0 29 _ g0 rfl)
                have h2595 : KL T H2550 r0 (xwf e d) (xlots d).toNat := (KL_fr w2508 g0 f2555 rfl h2513)
                exact wp_lc (ks := [5, 4, 6, 0, 1, 2]) (wl_c rfl (wl_c rfl (wl_c rfl (wl_c rfl (wl_c rfl wl_n))))) rfl (by decide) (ih2502 _ (by omega) (v2503 + 1) v2589 H2550 ((h9 + 1)) w2554 f2559 ⟨by omega, by omega⟩ ⟨by omega, by omega⟩ h2595 (by omega) (by omega) (by omega) (_q) rfl)
              · refine wp_of e279 c279_76 (rw_iload_n (pc' := 77) (z := a2) rfl rfl ?_)
                refine wp_of e279 c279_77 (rw_if_eq (p1 := 90) (p2 := 80) (by decide) rfl ⟨by omega, by omega⟩ (fun c2596 => ?_) (fun c2596 => ?_))
                · refine wp_of e279 c279_90 (rw_iload (pc' := 92) (z := v2589) rfl rfl ?_)
                  refine wp_of e279 c279_92 (rw_iload (pc' := 94) (z := v2504) rfl rfl ?_)
                  refine wp_of e279 c279_94 (rw_icmp_ge (p1 := 102) (p2 := 97) (by decide) rfl ⟨by omega, by omega⟩ ⟨by omega, by omega⟩ (fun c2597 => ?_) (fun c2597 => ?_))
                  · refine wp_of e279 c279_102 (rw_iload (pc' := 104) (z := v2504) rfl rfl ?_)
                    refine wp_of e279 c279_104 (rw_istore (pc' := 106) (z := v2504) (L' := [(4, vI v2504), (6, vI v2589), (5, vI v2503), (0, .ref r0), (1, vI a1), (2, vI a2)]) rfl rfl rfl ?_)
                    have _gp : xtr (decide (a2 ≠ 0)) (xwf e d) (fun n => e 13 (a1).toNat - 1 - ((xdue d (xlot d ((n : Nat) : Int)) (a1).toNat : Nat) : Int)) h9 = v2504 := by
                      rw [xtr_gap _a _f]
                      exact (‹v2504 = xtr (decide (a2 ≠ 0)) (xwf e d) (fun n => e 13 (a1).toNat - 1 - ((xdue d (xlot d ((n : Nat) : Int)) (a1).toNat : Nat) : Int)) u2506›).symm
                    have _vv : v2589 = (fun n => e 13 (a1).toNat - 1 - ((xdue d (xlot d ((n : Nat) : Int)) (a1).toNat : Nat) : Int)) h9 := by show _ = e 13 (a1).toNat - 1 - ((xdue d (xlot d ((h9 : Nat) : Int)) (a1).toNat : Nat) : Int); omega
                    have _q : v2504 = xtr (decide (a2 ≠ 0)) (xwf e d) (fun n => e 13 (a1).toNat - 1 - ((xdue d (xlot d ((n : Nat) : Int)) (a1).toNat : Nat) : Int)) (h9 + 1) := by
                      rw [xtr_y _c, _gp, ← _vv]
                      first
                      | rw [if_pos (Or.inl (by omega))]
                      | rw [if_pos (Or.inr (by rw [if_pos (decide_eq_true (by omega))]; omega))]
                      | rw [if_pos (Or.inr (by rw [if_neg (fun c9 => of_decide_eq_true c9 (by omega))]; omega))]
                      | rw [if_neg (fun c8 => by
                          rcases c8 with c8 | c8
                          · omega
                          · first
                            | (rw [if_pos (decide_eq_true (by omega))] at c8; omega)
                            | (rw [if_neg (fun c9 => of_decide_eq_true c9 (by omega))] at c8; omega))]
                    refine wp_of e279 c279_106 (rw_iinc (pc' := 109) (z := v2503) (L' := [(5, vI (v2503 + 1)), (4, vI v2504), (6, vI v2589), (0, .ref r0), (1, vI a1), (2, vI a2)]) rfl rfl rfl rfl ?_)
                    refine wp_of e279 c279_109 (rw_goto (p1 := 31) (by decide) ?_)
                    have k2598 : H2550 r0 29 = H2505 r0 29 := (f2555 r0 29 _ g0 rfl)
                    have h2599 : KL T H2550 r0 (xwf e d) (xlots d).toNat := (KL_fr w2508 g0 f2555 rfl h2513)
                    exact wp_lc (ks := [5, 4, 6, 0, 1, 2]) (wl_c rfl (wl_c rfl (wl_c rfl (wl_c rfl (wl_c rfl wl_n))))) rfl (by decide) (ih2502 _ (by omega) (v2503 + 1) v2504 H2550 ((h9 + 1)) w2554 f2559 ⟨by omega, by omega⟩ ⟨by omega, by omega⟩ h2599 (by omega) (by omega) (by omega) (_q) rfl)
                  · refine wp_of e279 c279_97 (rw_iload (pc' := 99) (z := v2589) rfl rfl ?_)
                    refine wp_of e279 c279_99 (rw_goto (p1 := 104) (by decide) ?_)
                    refine wp_of e279 c279_104 (rw_istore (pc' := 106) (z := v2589) (L' := [(4, vI v2589), (6, vI v2589), (5, vI v2503), (0, .ref r0), (1, vI a1), (2, vI a2)]) rfl rfl rfl ?_)
                    have _gp : xtr (decide (a2 ≠ 0)) (xwf e d) (fun n => e 13 (a1).toNat - 1 - ((xdue d (xlot d ((n : Nat) : Int)) (a1).toNat : Nat) : Int)) h9 = v2504 := by
                      rw [xtr_gap _a _f]
                      exact (‹v2504 = xtr (decide (a2 ≠ 0)) (xwf e d) (fun n => e 13 (a1).toNat - 1 - ((xdue d (xlot d ((n : Nat) : Int)) (a1).toNat : Nat) : Int)) u2506›).symm
                    have _vv : v2589 = (fun n => e 13 (a1).toNat - 1 - ((xdue d (xlot d ((n : Nat) : Int)) (a1).toNat : Nat) : Int)) h9 := by show _ = e 13 (a1).toNat - 1 - ((xdue d (xlot d ((h9 : Nat) : Int)) (a1).toNat : Nat) : Int); omega
                    have _q : v2589 = xtr (decide (a2 ≠ 0)) (xwf e d) (fun n => e 13 (a1).toNat - 1 - ((xdue d (xlot d ((n : Nat) : Int)) (a1).toNat : Nat) : Int)) (h9 + 1) := by
                      rw [xtr_y _c, _gp, ← _vv]
                      first
                      | rw [if_pos (Or.inl (by omega))]
                      | rw [if_pos (Or.inr (by rw [if_pos (decide_eq_true (by omega))]; omega))]
                      | rw [if_pos (Or.inr (by rw [if_neg (fun c9 => of_decide_eq_true c9 (by omega))]; omega))]
                      | rw [if_neg (fun c8 => by
                          rcases c8 with c8 | c8
                          · omega
                          · first
                            | (rw [if_pos (decide_eq_true (by omega))] at c8; omega)
                            | (rw [if_neg (fun c9 => of_decide_eq_true c9 (by omega))] at c8; omega))]
                    refine wp_of e279 c279_106 (rw_iinc (pc' := 109) (z := v2503) (L' := [(5, vI (v2503 + 1)), (4, vI v2589), (6, vI v2589), (0, .ref r0), (1, vI a1), (2, vI a2)]) rfl rfl rfl rfl ?_)
                    refine wp_of e279 c279_109 (rw_goto (p1 := 31) (by decide) ?_)
                    have k2600 : H2550 r0 29 = H2505 r0 29 := (f2555 r0 29 _ g0 rfl)
                    have h2601 : KL T H2550 r0 (xwf e d) (xlots d).toNat := (KL_fr w2508 g0 f2555 rfl h2513)
                    exact wp_lc (ks := [5, 4, 6, 0, 1, 2]) (wl_c rfl (wl_c rfl (wl_c rfl (wl_c rfl (wl_c rfl wl_n))))) rfl (by decide) (ih2502 _ (by omega) (v2503 + 1) v2589 H2550 ((h9 + 1)) w2554 f2559 ⟨by omega, by omega⟩ ⟨by omega, by omega⟩ h2601 (by omega) (by omega) (by omega) (_q) rfl)
                · refine wp_of e279 c279_80 (rw_iload (pc' := 82) (z := v2589) rfl rfl ?_)
                  refine wp_of e279 c279_82 (rw_iload (pc' := 84) (z := v2504) rfl rfl ?_)
                  refine wp_of e279 c279_84 (rw_icmp_le (p1 := 102) (p2 := 87) (by decide) rfl ⟨by omega, by omega⟩ ⟨by omega, by omega⟩ (fun c2602 => ?_) (fun c2602 => ?_))
                  · refine wp_of e279 c279_102 (rw_iload (pc' := 104) (z := v2504) rfl rfl ?_)
                    refine wp_of e279 c279_104 (rw_istore (pc' := 106) (z := v2504) (L' := [(4, vI v2504), (6, vI v2589), (5, vI v2503), (0, .ref r0), (1, vI a1), (2, vI a2)]) rfl rfl rfl ?_)
                    have _gp : xtr (decide (a2 ≠ 0)) (xwf e d) (fun n => e 13 (a1).toNat - 1 - ((xdue d (xlot d ((n : Nat) : Int)) (a1).toNat : Nat) : Int)) h9 = v2504 := by
                      rw [xtr_gap _a _f]
                      exact (‹v2504 = xtr (decide (a2 ≠ 0)) (xwf e d) (fun n => e 13 (a1).toNat - 1 - ((xdue d (xlot d ((n : Nat) : Int)) (a1).toNat : Nat) : Int)) u2506›).symm
                    have _vv : v2589 = (fun n => e 13 (a1).toNat - 1 - ((xdue d (xlot d ((n : Nat) : Int)) (a1).toNat : Nat) : Int)) h9 := by show _ = e 13 (a1).toNat - 1 - ((xdue d (xlot d ((h9 : Nat) : Int)) (a1).toNat : Nat) : Int); omega
                    have _q : v2504 = xtr (decide (a2 ≠ 0)) (xwf e d) (fun n => e 13 (a1).toNat - 1 - ((xdue d (xlot d ((n : Nat) : Int)) (a1).toNat : Nat) : Int)) (h9 + 1) := by
                      rw [xtr_y _c, _gp, ← _vv]
                      first
                      | rw [if_pos (Or.inl (by omega))]
                      | rw [if_pos (Or.inr (by rw [if_pos (decide_eq_true (by omega))]; omega))]
                      | rw [if_pos (Or.inr (by rw [if_neg (fun c9 => of_decide_eq_true c9 (by omega))]; omega))]
                      | rw [if_neg (fun c8 => by
                          rcases c8 with c8 | c8
                          · omega
                          · first
                            | (rw [if_pos (decide_eq_true (by omega))] at c8; omega)
                            | (rw [if_neg (fun c9 => of_decide_eq_true c9 (by omega))] at c8; omega))]
                    refine wp_of e279 c279_106 (rw_iinc (pc' := 109) (z := v2503) (L' := [(5, vI (v2503 + 1)), (4, vI v2504), (6, vI v2589), (0, .ref r0), (1, vI a1), (2, vI a2)]) rfl rfl rfl rfl ?_)
                    refine wp_of e279 c279_109 (rw_goto (p1 := 31) (by decide) ?_)
                    have k2603 : H2550 r0 29 = H2505 r0 29 := (f2555 r0 29 _ g0 rfl)
                    have h2604 : KL T H2550 r0 (xwf e d) (xlots d).toNat := (KL_fr w2508 g0 f2555 rfl h2513)
                    exact wp_lc (ks := [5, 4, 6, 0, 1, 2]) (wl_c rfl (wl_c rfl (wl_c rfl (wl_c rfl (wl_c rfl wl_n))))) rfl (by decide) (ih2502 _ (by omega) (v2503 + 1) v2504 H2550 ((h9 + 1)) w2554 f2559 ⟨by omega, by omega⟩ ⟨by omega, by omega⟩ h2604 (by omega) (by omega) (by omega) (_q) rfl)
                  · refine wp_of e279 c279_87 (rw_goto (p1 := 97) (by decide) ?_)
                    refine wp_of e279 c279_97 (rw_iload (pc' := 99) (z := v2589) rfl rfl ?_)
                    refine wp_of e279 c279_99 (rw_goto (p1 := 104) (by decide) ?_)
                    refine wp_of e279 c279_104 (rw_istore (pc' := 106) (z := v2589) (L' := [(4, vI v2589), (6, vI v2589), (5, vI v2503), (0, .ref r0), (1, vI a1), (2, vI a2)]) rfl rfl rfl ?_)
                    have _gp : xtr (decide (a2 ≠ 0)) (xwf e d) (fun n => e 13 (a1).toNat - 1 - ((xdue d (xlot d ((n : Nat) : Int)) (a1).toNat : Nat) : Int)) h9 = v2504 := by
                      rw [xtr_gap _a _f]
                      exact (‹v2504 = xtr (decide (a2 ≠ 0)) (xwf e d) (fun n => e 13 (a1).toNat - 1 - ((xdue d (xlot d ((n : Nat) : Int)) (a1).toNat : Nat) : Int)) u2506›).symm
                    have _vv : v2589 = (fun n => e 13 (a1).toNat - 1 - ((xdue d (xlot d ((n : Nat) : Int)) (a1).toNat : Nat) : Int)) h9 := by show _ = e 13 (a1).toNat - 1 - ((xdue d (xlot d ((h9 : Nat) : Int)) (a1).toNat : Nat) : Int); omega
                    have _q : v2589 = xtr (decide (a2 ≠ 0)) (xwf e d) (fun n => e 13 (a1).toNat - 1 - ((xdue d (xlot d ((n : Nat) : Int)) (a1).toNat : Nat) : Int)) (h9 + 1) := by
                      rw [xtr_y _c, _gp, ← _vv]
                      first
                      | rw [if_pos (Or.inl (by omega))]
                      | rw [if_pos (Or.inr (by rw [if_pos (decide_eq_true (by omega))]; omega))]
                      | rw [if_pos (Or.inr (by rw [if_neg (fun c9 => of_decide_eq_true c9 (by omega))]; omega))]
                      | rw [if_neg (fun c8 => by
                          rcases c8 with c8 | c8
                          · omega
                          · first
                            | (rw [if_pos (decide_eq_true (by omega))] at c8; omega)
                            | (rw [if_neg (fun c9 => of_decide_eq_true c9 (by omega))] at c8; omega))]
                    refine wp_of e279 c279_106 (rw_iinc (pc' := 109) (z := v2503) (L' := [(5, vI (v2503 + 1)), (4, vI v2589), (6, vI v2589), (0, .ref r0), (1, vI a1), (2, vI a2)]) rfl rfl rfl rfl ?_)
                    refine wp_of e279 c279_109 (rw_goto (p1 := 31) (by decide) ?_)
                    have k2605 : H2550 r0 29 = H2505 r0 29 := (f2555 r0 29 _ g0 rfl)
                    have h2606 : KL T H2550 r0 (xwf e d) (xlots d).toNat := (KL_fr w2508 g0 f2555 rfl h2513)
                    exact wp_lc (ks := [5, 4, 6, 0, 1, 2]) (wl_c rfl (wl_c rfl (wl_c rfl (wl_c rfl (wl_c rfl wl_n))))) rfl (by decide) (ih2502 _ (by omega) (v2503 + 1) v2589 H2550 ((h9 + 1)) w2554 f2559 ⟨by omega, by omega⟩ ⟨by omega, by omega⟩ h2606 (by omega) (by omega) (by omega) (_q) rfl)
        exact wp_lc (ks := [5, 4, 3, 0, 1, 2]) (wl_c rfl (wl_c rfl (wl_c rfl (wl_c rfl (wl_c rfl wl_n))))) rfl (by decide) (lp2500 _ 0 0 H2069 0 w2073 wfr.rf ⟨by omega, by omega⟩ ⟨by omega, by omega⟩ h2100 (by omega) (by omega) (rfl) (rfl) rfl)
      · exfalso
        omega
    · have f2607 := f2046.tr f2074 rfl
      show wp _ _ 279 14 [(0, .ref r0), (1, vI a1), (2, vI a2)] [vI z2075] _ H2069 _
      refine wp_of e279 c279_14 (rw_istore_n (pc' := 15) (z := z2075) (L' := [(3, vI z2075), (0, .ref r0), (1, vI a1), (2, vI a2)]) rfl rfl rfl ?_)
      refine wp_of e279 c279_15 (rw_iload_n (pc' := 16) (z := z2075) rfl rfl ?_)
      refine wp_of e279 c279_16 (rw_if_le (p1 := 25) (p2 := 19) (by decide) rfl ⟨by omega, by omega⟩ (fun c2608 => ?_) (fun c2608 => ?_))
      · exfalso
        omega
      · refine wp_of e279 c279_19 (rw_aload_n (pc' := 20) (v := .ref r0) rfl rfl rfl ?_)
        refine wp_of e279 c279_20 (rw_iload_n (pc' := 21) (z := z2075) rfl rfl ?_)
        refine wp_of e279 c279_21 (xc_V (pc' := 24) (r := r0) (as := [vI z2075]) (st := []) (lm_9_490) rfl rfl (Nat.le_of_ble_eq_true rfl) w2073 g0 sh_42 (by decide) rfl (by decide) (s_281 w2073 g0 ⟨by omega, by omega⟩) (fun R2609 T2610 H2611 p2612 => ?_))
        obtain ⟨e2613, w2615, f2616, z2617, e2614, b2618⟩ := p2612
        subst e2613
        subst e2614
        have f2619 := f2607.tr f2616 rfl
        show wp _ _ 279 24 [(3, vI z2075), (0, .ref r0), (1, vI a1), (2, vI a2)] [vI z2617] _ H2611 _
        have k2620 : wKI H2611 r0 = wKI H2069 r0 := (wKI_fr w2073 g0 f2616 rfl)
        have h2621 : KNN T H2611 r0 e d := (KNN_fr w2073 g0 f2616 rfl a2094)
        exact wp_ireturn e279 c279_24 rfl ⟨rfl, w2615, f2619, z2617, rfl, ⟨by omega, by omega⟩, (Or.inr ⟨by omega, by omega, by
          rw [show z2617 = xtr (decide (a2 ≠ 0)) (xwf e d) (fun n => e 13 (a1).toNat - 1 - ((xdue d (xlot d ((n : Nat) : Int)) (a1).toNat : Nat) : Int)) (xlots d).toNat by rw [xtr_end (u := 0) (by omega) (by omega)]; assumption]
          exact xtr_ex _ (by omega), h2621⟩)⟩
  · show wp _ _ 279 11 [(0, .ref r0), (1, vI a1), (2, vI a2)] [vI z2056, .ref r0] _ H2043 _
    have k2622 : H2043 r0 3 = H r0 3 := (wq_u_j e2044 rfl)
    have k2623 : wKI H2043 r0 = wKI H r0 := (wKI_fr hW g0 ((wfr.rf (l := [(42, 0)])).put' e2044 g0 rfl) rfl)
    have h2624 : KNN T H2043 r0 e d := (KNN_fr hW g0 ((wfr.rf (l := [(42, 0)])).put' e2044 g0 rfl) rfl hKNN_r0)
    refine wp_of e279 c279_11 (xc_V (pc' := 14) (r := r0) (as := [vI z2056]) (st := []) (lm_9_447) rfl rfl (Nat.le_of_ble_eq_true rfl) w2045 g0 sh_42 (by decide) rfl (by decide) (u_253 (e := e) (d := d) w2045 g0 ⟨by omega, by omega⟩ (by omega) (by omega) (by assumption) (by assumption) (by assumption) (by assumption) h2048 h2624) (fun R2625 T2626 H2627 p2628 => ?_))
    obtain ⟨e2629, w2631, f2632, z2633, e2630, b2634, p2635⟩ := p2628
    subst e2629
    subst e2630
    rcases p2635 with ⟨a2636, a2637, a2638, a2639, a2640, a2641, a2642, a2643, a2644, a2645⟩ | ⟨a2646, a2647, a2648, a2649, a2650, a2651, a2652⟩
    · have f2653 := f2046.tr f2632 rfl
      show wp _ _ 279 14 [(0, .ref r0), (1, vI a1), (2, vI a2)] [vI z2633] _ H2627 _
      refine wp_of e279 c279_14 (rw_istore_n (pc' := 15) (z := z2633) (L' := [(3, vI z2633), (0, .ref r0), (1, vI a1), (2, vI a2)]) rfl rfl rfl ?_)
      refine wp_of e279 c279_15 (rw_iload_n (pc' := 16) (z := z2633) rfl rfl ?_)
      obtain ⟨r2654, q2655, g2656⟩ := (w2631.opt g0 (t' := 54) (n := 33) (j := 3) (p := 0) (q := 0) rfl (by decide) rfl).resolve_left (by omega)
      have h2657 : RB T H2627 r0 e d := (RB_fr w2045 g0 f2632 rfl h2048)
      have _kbb := a2645
      have _kb := _kbb.1
      have _n3 : H2627 r0 3 ≠ -1 := by omega
      have _rp := RB_at h2657 q2655
      have _k := RP_k _rp
      have _nb := xcn_b (f := xwf e d) (xlots d).toNat
      have h2658 : KL T H2627 r0 (xwf e d) (xlots d).toNat := _kbb.2
      have _ar := RB_ar h2657 (by omega)
      have _pk := _ar.1
      have h2659 : MN20 T H2627 r0 24 (e 13) := _ar.2.2.1
      refine wp_of e279 c279_16 (rw_if_le (p1 := 25) (p2 := 19) (by decide) rfl ⟨by omega, by omega⟩ (fun c2660 => ?_) (fun c2660 => ?_))
      · refine wp_of e279 c279_25 (rw_iconst (pc' := 26) rfl ?_)
        refine wp_of e279 c279_26 (rw_istore (pc' := 28) (z := 0) (L' := [(4, vI 0), (3, vI z2633), (0, .ref r0), (1, vI a1), (2, vI a2)]) rfl rfl rfl ?_)
        refine wp_of e279 c279_28 (rw_iconst (pc' := 29) rfl ?_)
        refine wp_of e279 c279_29 (rw_istore (pc' := 31) (z := 0) (L' := [(5, vI 0), (4, vI 0), (3, vI z2633), (0, .ref r0), (1, vI a1), (2, vI a2)]) rfl rfl rfl ?_)
        have b3065 : 0 ≤ H2627 r0 29 ∧ H2627 r0 29 ≤ 20000 := w2631.box g0 (n := 33) rfl (by decide) rfl
        have lp3058 : ∀ (n3059 : Nat) (v3061 : Int) (v3062 : Int) (H3063 : wq_H) (u3064 : Nat), WT T H3063 → wfr [(51, 999)] T H2627 H3063 → (0 ≤ v3061 ∧ v3061 ≤ 20000) → ((-200) ≤ v3062 ∧ v3062 ≤ 200) → KL T H3063 r0 (xwf e d) (xlots d).toNat → (v3061 ≤ H3063 r0 29) → (u3064 ≤ (xlots d).toNat) → (xcn (xwf e d) u3064 = v3061) → (v3062 = xtr (decide (a2 ≠ 0)) (xwf e d) (fun n => e 13 (a1).toNat - 1 - ((xdue d (xlot d ((n : Nat) : Int)) (a1).toNat : Nat) : Int)) u3064) → (20000 - v3061).toNat = n3059 → wp kt 8 279 31 [(5, vI v3061), (4, vI v3062), (0, .ref r0), (1, vI a1), (2, vI a2)] [] T H3063 (uq_279 r0 a1 a2 e d T H) := by
          intro n3059
          induction n3059 using Nat.strongRecOn with
          | _ n3059 ih3060 =>
            intro v3061 v3062 H3063 u3064 w3066 f3067 b3068 b3069 h3071 x3072 x3073 x3074 x3075 m3070
            have f3076 := f2653.tr f3067 rfl
            have k3077 : H3063 r0 29 = H2627 r0 29 := (f3067 r0 29 _ g0 rfl)
            refine wp_of e279 c279_31 (rw_iload (pc' := 33) (z := v3061) rfl rfl ?_)
            refine wp_of e279 c279_33 (rw_aload_n (pc' := 34) (v := .ref r0) rfl rfl rfl ?_)
            refine wp_of e279 c279_34 (xg_I (pc' := 37) lf_9_422 w3066 g0 sh_42 (by decide) (by decide) ty_42_29 rfl rfl (fun b3078 b3079 => ?_))
            refine wp_of e279 c279_37 (rw_icmp_ge (p1 := 112) (p2 := 40) (by decide) rfl ⟨by omega, by omega⟩ ⟨by omega, by omega⟩ (fun c3080 => ?_) (fun c3080 => ?_))
            · refine wp_of e279 c279_112 (rw_aload_n (pc' := 113) (v := .ref r0) rfl rfl rfl ?_)
              refine wp_of e279 c279_113 (rw_iload (pc' := 115) (z := v3062) rfl rfl ?_)
              refine wp_of e279 c279_115 (xc_V (pc' := 118) (r := r0) (as := [vI v3062]) (st := []) (lm_9_58) rfl rfl (Nat.le_of_ble_eq_true rfl) w3066 g0 sh_42 (by decide) rfl (by decide) (u_209  w3066 g0 ⟨by omega, by omega⟩) (fun R3081 T3082 H3083 p3084 => ?_))
              obtain ⟨e3085, w3087, f3088, z3089, e3086, b3090, p3091⟩ := p3084
              subst e3085
              subst e3086
              obtain ⟨a3092, a3093, a3094⟩ := p3091
              have f3095 := f3076.tr f3088 rfl
              show wp _ _ 279 118 [(5, vI v3061), (4, vI v3062), (0, .ref r0), (1, vI a1), (2, vI a2)] [vI z3089] _ H3083 _
              have k3096 : wKI H3083 r0 = wKI H2627 r0 := ((wKI_fr w3066 g0 f3088 rfl).trans (wKI_fr w2631 g0 f3067 rfl))
              have h3097 : KNN T H3083 r0 e d := (KNN_fr w3066 g0 f3088 rfl (KNN_fr w2631 g0 f3067 rfl a2644))
              exact wp_ireturn e279 c279_118 rfl ⟨rfl, w3087, f3095, z3089, rfl, ⟨by omega, by omega⟩, (Or.inr ⟨by omega, by omega, by
                rw [show z3089 = xtr (decide (a2 ≠ 0)) (xwf e d) (fun n => e 13 (a1).toNat - 1 - ((xdue d (xlot d ((n : Nat) : Int)) (a1).toNat : Nat) : Int)) (xlots d).toNat by rw [xtr_end (u := u3064) (by omega) (by omega)]; assumption]
                exact xtr_ex _ (by omega), h3097⟩)⟩
            · obtain ⟨h9, _a, _b, _c, _e, _f⟩ := xcn_nx (f := xwf e d) (u := u3064) (xlots d).toNat (by omega) (by omega)
              have _n9 : xcn (xwf e d) (h9 + 1) = xcn (xwf e d) h9 + 1 := by
                show xcn (xwf e d) h9 + (if xwf e d h9 > 0 then 1 else 0) = _
                rw [if_pos _c]
              refine wp_of e279 c279_40 (rw_aload_n (pc' := 41) (v := .ref r0) rfl rfl rfl ?_)
              refine wp_of e279 c279_41 (rw_aload_n (pc' := 42) (v := .ref r0) rfl rfl rfl ?_)
              refine wp_of e279 c279_42 (xg_R (pc' := 45) lf_9_42 w3066 g0 sh_42 (by decide) (by decide) ty_42_30 rfl rfl (fun r3098 q3099 g3100 => ?_))
              refine wp_of e279 c279_45 (rw_iload (pc' := 47) (z := v3061) rfl rfl ?_)
              refine wp_of e279 c279_47 (xa_I (so := 0) (pc' := 48) w3066 g3100 sh_52 (by decide) (ty_52 _) (by omega) (by omega) rfl (fun b3101 b3102 => ?_))
              have _kl := KL_at h3071 q3099 (n := h9) (s := (v3061).toNat) (by omega) _c (by omega)
              have _t9 : H3063 r3098 (v3061.toNat) = ((h9 : Nat) : Int) := by omega
              have _slw : SL d (xlot d ((h9 : Nat) : Int)) := SL_lot _xw.1 (by omega) (by omega)
              have k3103 : H3063 r0 3 = H2627 r0 3 := (f3067 r0 3 _ g0 rfl)
              have q3104 : H3063 r0 3 = (r2654 : Int) := k3103.trans q2655
              have h3105 : RB T H3063 r0 e d := (RB_fr w2631 g0 f3067 rfl h2657)
              refine wp_of e279 c279_48 (xc_V (pc' := 51) (r := r0) (as := [vI (H3063 r3098 (v3061.toNat))]) (st := []) (lm_9_425) rfl rfl (Nat.le_of_ble_eq_true rfl) w3066 g0 sh_42 (by decide) rfl (by decide) (u_243 (e := e) (d := d) w3066 g0 ⟨by omega, by omega⟩ q3104 g2656 (by omega) h3105) (fun R3106 T3107 H3108 p3109 => ?_))
              obtain ⟨e3110, w3112, f3113, e3111, p3114⟩ := p3109
              subst e3110
              subst e3111
              have f3116 := f3076.tr f3113 rfl
              have f3117 := f3067.tr f3113 rfl
              show wp _ _ 279 51 [(5, vI v3061), (4, vI v3062), (0, .ref r0), (1, vI a1), (2, vI a2)] [] _ H3108 _
              have h3118 : LQ27 T H3108 r0 0 (d 0 3) (xlot d ((h9 : Nat) : Int)) := by rw [← _t9]; exact p3114
              refine wp_of e279 c279_51 (rw_aload_n (pc' := 52) (v := .ref r0) rfl rfl rfl ?_)
              refine wp_of e279 c279_52 (xg_R (pc' := 55) lf_9_17 w3112 g0 sh_42 (by decide) (by decide) ty_42_20 rfl rfl (fun r3119 q3120 g3121 => ?_))
              refine wp_of e279 c279_55 (rw_iload_n (pc' := 56) (z := a1) rfl rfl ?_)
              refine wp_of e279 c279_56 (xa_I (so := 0) (pc' := 57) w3112 g3121 sh_44 (by decide) (ty_44 _) (by omega) (by omega) rfl (fun b3122 b3123 => ?_))
              have h3124 : MN20 T H3108 r0 24 (e 13) := (MN20_fr w3066 g0 f3113 rfl (MN20_fr w2631 g0 f3067 rfl h2659))
              have := DA_at h3124 q3120 (k := (a1.toNat)) (by omega)
              refine wp_of e279 c279_57 (rw_iconst (pc' := 58) rfl ?_)
              refine wp_of e279 c279_58 (rw_isubw (pc' := 59) rfl ?_)
              obtain ⟨v3125, e3126⟩ : ∃ x : Int, x = wq_w ((H3108 r3119 (a1.toNat)) - 1) := ⟨_, rfl⟩
              rw [← e3126]
              have b3127 : -2147483648 ≤ v3125 ∧ v3125 ≤ 2147483647 := by
                rw [e3126]
                exact wI_w _
              have b3128 : (-2147483648 ≤ (H3108 r3119 (a1.toNat)) - 1 ∧ (H3108 r3119 (a1.toNat)) - 1 ≤ 2147483647) → v3125 = (H3108 r3119 (a1.toNat)) - 1 := fun h => by rw [e3126]; exact wq_w_id h
              refine wp_of e279 c279_59 (rw_aload_n (pc' := 60) (v := .ref r0) rfl rfl rfl ?_)
              refine wp_of e279 c279_60 (rw_aload_n (pc' := 61) (v := .ref r0) rfl rfl rfl ?_)
              refine wp_of e279 c279_61 (xg_R (pc' := 64) lf_9_39 w3112 g0 sh_42 (by decide) (by decide) ty_42_27 rfl rfl (fun r3129 q3130 g3131 => ?_))
              have h3132 : RR T H3108 r3129 (d 0 3) (xlot d ((h9 : Nat) : Int)) := RR_27 h3118 q3130 g3131 (by omega)
              refine wp_of e279 c279_64 (rw_iload_n (pc' := 65) (z := a1) rfl rfl ?_)
              have k3133 : H3108 r0 3 = H3063 r0 3 := (f3113 r0 3 _ g0 rfl)
              have q3134 : H3108 r0 3 = (r2654 : Int) := k3133.trans q3104
              have h3135 : RB T H3108 r0 e d := (RB_fr w3066 g0 f3113 rfl h3105)
              refine wp_of e279 c279_65 (xc_V (pc' := 68) (r := r0) (as := [.ref r3129, vI a1]) (st := [vI v3125]) (lm_9_386) rfl rfl (Nat.le_of_ble_eq_true rfl) w3112 g0 sh_42 (by decide) rfl (by decide) (u_228_l (e := e) (d := d) (g := ((xlot d ((h9 : Nat) : Int)))) w3112 g0 g3131 ⟨by omega, by omega⟩ q3134 g2656 (by assumption) (by assumption) h3135 h3132) (fun R3136 T3137 H3138 p3139 => ?_))
              obtain ⟨e3140, e3142, z3143, e3141, b3144, p3145⟩ := p3139
              subst e3140
              subst e3141
              subst e3142
              show wp _ _ 279 68 [(5, vI v3061), (4, vI v3062), (0, .ref r0), (1, vI a1), (2, vI a2)] [vI z3143, vI v3125] _ H3108 _
              refine wp_of e279 c279_68 (rw_isubw (pc' := 69) rfl ?_)
              obtain ⟨v3147, e3148⟩ : ∃ x : Int, x = wq_w (v3125 - z3143) := ⟨_, rfl⟩
              rw [← e3148]
              have b3149 : -2147483648 ≤ v3147 ∧ v3147 ≤ 2147483647 := by
                rw [e3148]
                exact wI_w _
              have b3150 : (-2147483648 ≤ v3125 - z3143 ∧ v3125 - z3143 ≤ 2147483647) → v3147 = v3125 - z3143 := fun h => by rw [e3148]; exact wq_w_id h
              refine wp_of e279 c279_69 (rw_istore (pc' := 71) (z := v3147) (L' := [(6, vI v3147), (5, vI v3061), (4, vI v3062), (0, .ref r0), (1, vI a1), (2, vI a2)]) rfl rfl rfl ?_)
              refine wp_of e279 c279_71 (rw_iload (pc' := 73) (z := v3061) rfl rfl ?_)
              refine wp_of e279 c279_73 (rw_if_eq (p1 := 97) (p2 := 76) (by decide) rfl ⟨by omega, by omega⟩ (fun c3151 => ?_) (fun c3151 => ?_))
              · refine wp_of e279 c279_97 (rw_iload (pc' := 99) (z := v3147) rfl rfl ?_)
                refine wp_of e279 c279_99 (rw_goto (p1 := 104) (by decide) ?_)
                refine wp_of e279 c279_104 (rw_istore (pc' := 106) (z := v3147) (L' := [(4, vI v3147), (6, vI v3147), (5, vI v3061), (0, .ref r0), (1, vI a1), (2, vI a2)]) rfl rfl rfl ?_)
                have _gp : xtr (decide (a2 ≠ 0)) (xwf e d) (fun n => e 13 (a1).toNat - 1 - ((xdue d (xlot d ((n : Nat) : Int)) (a1).toNat : Nat) : Int)) h9 = v3062 := by
                  rw [xtr_gap _a _f]
                  exact (‹v3062 = xtr (decide (a2 ≠ 0)) (xwf e d) (fun n => e 13 (a1).toNat - 1 - ((xdue d (xlot d ((n : Nat) : Int)) (a1).toNat : Nat) : Int)) u3064›).symm
                have _vv : v3147 = (fun n => e 13 (a1).toNat - 1 - ((xdue d (xlot d ((n : Nat) : Int)) (a1).toNat : Nat) : Int)) h9 := by show _ = e 13 (a1).toNat - 1 - ((xdue d (xlot d ((h9 : Nat) : Int)) (a1).toNat : Nat) : Int); omega
                have _q : v3147 = xtr (decide (a2 ≠ 0)) (xwf e d) (fun n => e 13 (a1).toNat - 1 - ((xdue d (xlot d ((n : Nat) : Int)) (a1).toNat : Nat) : Int)) (h9 + 1) := by
                  rw [xtr_y _c, _gp, ← _vv]
                  first
                  | rw [if_pos (Or.inl (by omega))]
                  | rw [if_pos (Or.inr (by rw [if_pos (decide_eq_true (by omega))]; omega))]
                  | rw [if_pos (Or.inr (by rw [if_neg (fun c9 => of_decide_eq_true c9 (by omega))]; omega))]
                  | rw [if_neg (fun c8 => by
                      rcases c8 with c8 | c8
                      · omega
                      · first
                        | (rw [if_pos (decide_eq_true (by omega))] at c8; omega)
                        | (rw [if_neg (fun c9 => of_decide_eq_true c9 (by omega))] at c8; omega))]
                refine wp_of e279 c279_106 (rw_iinc (pc' := 109) (z := v3061) (L' := [(5, vI (v3061 + 1)), (4, vI v3147), (6, vI v3147), (0, .ref r0), (1, vI a1), (2, vI a2)]) rfl rfl rfl rfl ?_)
                refine wp_of e279 c279_109 (rw_goto (p1 := 31) (by decide) ?_)
                have k3152 : H3108 r0 29 = H3063 r0 29 := (f3113 r0 29 _ g0 rfl)
                have h3153 : KL T H3108 r0 (xwf e d) (xlots d).toNat := (KL_fr w3066 g0 f3113 rfl h3071)
                exact wp_lc (ks := [5, 4, 6, 0, 1, 2]) (wl_c rfl (wl_c rfl (wl_c rfl (wl_c rfl (wl_c rfl wl_n))))) rfl (by decide) (ih3060 _ (by omega) (v3061 + 1) v3147 H3108 ((h9 + 1)) w3112 f3117 ⟨by omega, by omega⟩ ⟨by omega, by omega⟩ h3153 (by omega) (by omega) (by omega) (_q) rfl)
              · refine wp_of e279 c279_76 (rw_iload_n (pc' := 77) (z := a2) rfl rfl ?_)
                refine wp_of e279 c279_77 (rw_if_eq (p1 := 90) (p2 := 80) (by decide) rfl ⟨by omega, by omega⟩ (fun c3154 => ?_) (fun c3154 => ?_))
                · refine wp_of e279 c279_90 (rw_iload (pc' := 92) (z := v3147) rfl rfl ?_)
                  refine wp_of e279 c279_92 (rw_iload (pc' := 94) (z := v3062) rfl rfl ?_)
                  refine wp_of e279 c279_94 (rw_icmp_ge (p1 := 102) (p2 := 97) (by decide) rfl ⟨by omega, by omega⟩ ⟨by omega, by omega⟩ (fun c3155 => ?_) (fun c3155 => ?_))
                  · refine wp_of e279 c279_102 (rw_iload (pc' := 104) (z := v3062) rfl rfl ?_)
                    refine wp_of e279 c279_104 (rw_istore (pc' := 106) (z := v3062) (L' := [(4, vI v3062), (6, vI v3147), (5, vI v3061), (0, .ref r0), (1, vI a1), (2, vI a2)]) rfl rfl rfl ?_)
                    have _gp : xtr (decide (a2 ≠ 0)) (xwf e d) (fun n => e 13 (a1).toNat - 1 - ((xdue d (xlot d ((n : Nat) : Int)) (a1).toNat : Nat) : Int)) h9 = v3062 := by
                      rw [xtr_gap _a _f]
                      exact (‹v3062 = xtr (decide (a2 ≠ 0)) (xwf e d) (fun n => e 13 (a1).toNat - 1 - ((xdue d (xlot d ((n : Nat) : Int)) (a1).toNat : Nat) : Int)) u3064›).symm
                    have _vv : v3147 = (fun n => e 13 (a1).toNat - 1 - ((xdue d (xlot d ((n : Nat) : Int)) (a1).toNat : Nat) : Int)) h9 := by show _ = e 13 (a1).toNat - 1 - ((xdue d (xlot d ((h9 : Nat) : Int)) (a1).toNat : Nat) : Int); omega
                    have _q : v3062 = xtr (decide (a2 ≠ 0)) (xwf e d) (fun n => e 13 (a1).toNat - 1 - ((xdue d (xlot d ((n : Nat) : Int)) (a1).toNat : Nat) : Int)) (h9 + 1) := by
                      rw [xtr_y _c, _gp, ← _vv]
                      first
                      | rw [if_pos (Or.inl (by omega))]
                      | rw [if_pos (Or.inr (by rw [if_pos (decide_eq_true (by omega))]; omega))]
                      | rw [if_pos (Or.inr (by rw [if_neg (fun c9 => of_decide_eq_true c9 (by omega))]; omega))]
                      | rw [if_neg (fun c8 => by
                          rcases c8 with c8 | c8
                          · omega
                          · first
                            | (rw [if_pos (decide_eq_true (by omega))] at c8; omega)
                            | (rw [if_neg (fun c9 => of_decide_eq_true c9 (by omega))] at c8; omega))]
                    refine wp_of e279 c279_106 (rw_iinc (pc' := 109) (z := v3061) (L' := [(5, vI (v3061 + 1)), (4, vI v3062), (6, vI v3147), (0, .ref r0), (1, vI a1), (2, vI a2)]) rfl rfl rfl rfl ?_)
                    refine wp_of e279 c279_109 (rw_goto (p1 := 31) (by decide) ?_)
                    have k3156 : H3108 r0 29 = H3063 r0 29 := (f3113 r0 29 _ g0 rfl)
                    have h3157 : KL T H3108 r0 (xwf e d) (xlots d).toNat := (KL_fr w3066 g0 f3113 rfl h3071)
                    exact wp_lc (ks := [5, 4, 6, 0, 1, 2]) (wl_c rfl (wl_c rfl (wl_c rfl (wl_c rfl (wl_c rfl wl_n))))) rfl (by decide) (ih3060 _ (by omega) (v3061 + 1) v3062 H3108 ((h9 + 1)) w3112 f3117 ⟨by omega, by omega⟩ ⟨by omega, by omega⟩ h3157 (by omega) (by omega) (by omega) (_q) rfl)
                  · refine wp_of e279 c279_97 (rw_iload (pc' := 99) (z := v3147) rfl rfl ?_)
                    refine wp_of e279 c279_99 (rw_goto (p1 := 104) (by decide) ?_)
                    refine wp_of e279 c279_104 (rw_istore (pc' := 106) (z := v3147) (L' := [(4, vI v3147), (6, vI v3147), (5, vI v3061), (0, .ref r0), (1, vI a1), (2, vI a2)]) rfl rfl rfl ?_)
                    have _gp : xtr (decide (a2 ≠ 0)) (xwf e d) (fun n => e 13 (a1).toNat - 1 - ((xdue d (xlot d ((n : Nat) : Int)) (a1).toNat : Nat) : Int)) h9 = v3062 := by
                      rw [xtr_gap _a _f]
                      exact (‹v3062 = xtr (decide (a2 ≠ 0)) (xwf e d) (fun n => e 13 (a1).toNat - 1 - ((xdue d (xlot d ((n : Nat) : Int)) (a1).toNat : Nat) : Int)) u3064›).symm
                    have _vv : v3147 = (fun n => e 13 (a1).toNat - 1 - ((xdue d (xlot d ((n : Nat) : Int)) (a1).toNat : Nat) : Int)) h9 := by show _ = e 13 (a1).toNat - 1 - ((xdue d (xlot d ((h9 : Nat) : Int)) (a1).toNat : Nat) : Int); omega
                    have _q : v3147 = xtr (decide (a2 ≠ 0)) (xwf e d) (fun n => e 13 (a1).toNat - 1 - ((xdue d (xlot d ((n : Nat) : Int)) (a1).toNat : Nat) : Int)) (h9 + 1) := by
                      rw [xtr_y _c, _gp, ← _vv]
                      first
                      | rw [if_pos (Or.inl (by omega))]
                      | rw [if_pos (Or.inr (by rw [if_pos (decide_eq_true (by omega))]; omega))]
                      | rw [if_pos (Or.inr (by rw [if_neg (fun c9 => of_decide_eq_true c9 (by omega))]; omega))]
                      | rw [if_neg (fun c8 => by
                          rcases c8 with c8 | c8
                          · omega
                          · first
                            | (rw [if_pos (decide_eq_true (by omega))] at c8; omega)
                            | (rw [if_neg (fun c9 => of_decide_eq_true c9 (by omega))] at c8; omega))]
                    refine wp_of e279 c279_106 (rw_iinc (pc' := 109) (z := v3061) (L' := [(5, vI (v3061 + 1)), (4, vI v3147), (6, vI v3147), (0, .ref r0), (1, vI a1), (2, vI a2)]) rfl rfl rfl rfl ?_)
                    refine wp_of e279 c279_109 (rw_goto (p1 := 31) (by decide) ?_)
                    have k3158 : H3108 r0 29 = H3063 r0 29 := (f3113 r0 29 _ g0 rfl)
                    have h3159 : KL T H3108 r0 (xwf e d) (xlots d).toNat := (KL_fr w3066 g0 f3113 rfl h3071)
                    exact wp_lc (ks := [5, 4, 6, 0, 1, 2]) (wl_c rfl (wl_c rfl (wl_c rfl (wl_c rfl (wl_c rfl wl_n))))) rfl (by decide) (ih3060 _ (by omega) (v3061 + 1) v3147 H3108 ((h9 + 1)) w3112 f3117 ⟨by omega, by omega⟩ ⟨by omega, by omega⟩ h3159 (by omega) (by omega) (by omega) (_q) rfl)
                · refine wp_of e279 c279_80 (rw_iload (pc' := 82) (z := v3147) rfl rfl ?_)
                  refine wp_of e279 c279_82 (rw_iload (pc' := 84) (z := v3062) rfl rfl ?_)
                  refine wp_of e279 c279_84 (rw_icmp_le (p1 := 102) (p2 := 87) (by decide) rfl ⟨by omega, by omega⟩ ⟨by omega, by omega⟩ (fun c3160 => ?_) (fun c3160 => ?_))
                  · refine wp_of e279 c279_102 (rw_iload (pc' := 104) (z := v3062) rfl rfl ?_)
                    refine wp_of e279 c279_104 (rw_istore (pc' := 106) (z := v3062) (L' := [(4, vI v3062), (6, vI v3147), (5, vI v3061), (0, .ref r0), (1, vI a1), (2, vI a2)]) rfl rfl rfl ?_)
                    have _gp : xtr (decide (a2 ≠ 0)) (xwf e d) (fun n => e 13 (a1).toNat - 1 - ((xdue d (xlot d ((n : Nat) : Int)) (a1).toNat : Nat) : Int)) h9 = v3062 := by
                      rw [xtr_gap _a _f]
                      exact (‹v3062 = xtr (decide (a2 ≠ 0)) (xwf e d) (fun n => e 13 (a1).toNat - 1 - ((xdue d (xlot d ((n : Nat) : Int)) (a1).toNat : Nat) : Int)) u3064›).symm
                    have _vv : v3147 = (fun n => e 13 (a1).toNat - 1 - ((xdue d (xlot d ((n : Nat) : Int)) (a1).toNat : Nat) : Int)) h9 := by show _ = e 13 (a1).toNat - 1 - ((xdue d (xlot d ((h9 : Nat) : Int)) (a1).toNat : Nat) : Int); omega
                    have _q : v3062 = xtr (decide (a2 ≠ 0)) (xwf e d) (fun n => e 13 (a1).toNat - 1 - ((xdue d (xlot d ((n : Nat) : Int)) (a1).toNat : Nat) : Int)) (h9 + 1) := by
                      rw [xtr_y _c, _gp, ← _vv]
                      first
                      | rw [if_pos (Or.inl (by omega))]
                      | rw [if_pos (Or.inr (by rw [if_pos (decide_eq_true (by omega))]; omega))]
                      | rw [if_pos (Or.inr (by rw [if_neg (fun c9 => of_decide_eq_true c9 (by omega))]; omega))]
                      | rw [if_neg (fun c8 => by
                          rcases c8 with c8 | c8
                          · omega
                          · first
                            | (rw [if_pos (decide_eq_true (by omega))] at c8; omega)
                            | (rw [if_neg (fun c9 => of_decide_eq_true c9 (by omega))] at c8; omega))]
                    refine wp_of e279 c279_106 (rw_iinc (pc' := 109) (z := v3061) (L' := [(5, vI (v3061 + 1)), (4, vI v3062), (6, vI v3147), (0, .ref r0), (1, vI a1), (2, vI a2)]) rfl rfl rfl rfl ?_)
                    refine wp_of e279 c279_109 (rw_goto (p1 := 31) (by decide) ?_)
                    have k3161 : H3108 r0 29 = H3063 r0 29 := (f3113 r0 29 _ g0 rfl)
                    have h3162 : KL T H3108 r0 (xwf e d) (xlots d).toNat := (KL_fr w3066 g0 f3113 rfl h3071)
                    exact wp_lc (ks := [5, 4, 6, 0, 1, 2]) (wl_c rfl (wl_c rfl (wl_c rfl (wl_c rfl (wl_c rfl wl_n))))) rfl (by decide) (ih3060 _ (by omega) (v3061 + 1) v3062 H3108 ((h9 + 1)) w3112 f3117 ⟨by omega, by omega⟩ ⟨by omega, by omega⟩ h3162 (by omega) (by omega) (by omega) (_q) rfl)
                  · refine wp_of e279 c279_87 (rw_goto (p1 := 97) (by decide) ?_)
                    refine wp_of e279 c279_97 (rw_iload (pc' := 99) (z := v3147) rfl rfl ?_)
                    refine wp_of e279 c279_99 (rw_goto (p1 := 104) (by decide) ?_)
                    refine wp_of e279 c279_104 (rw_istore (pc' := 106) (z := v3147) (L' := [(4, vI v3147), (6, vI v3147), (5, vI v3061), (0, .ref r0), (1, vI a1), (2, vI a2)]) rfl rfl rfl ?_)
                    have _gp : xtr (decide (a2 ≠ 0)) (xwf e d) (fun n => e 13 (a1).toNat - 1 - ((xdue d (xlot d ((n : Nat) : Int)) (a1).toNat : Nat) : Int)) h9 = v3062 := by
                      rw [xtr_gap _a _f]
                      exact (‹v3062 = xtr (decide (a2 ≠ 0)) (xwf e d) (fun n => e 13 (a1).toNat - 1 - ((xdue d (xlot d ((n : Nat) : Int)) (a1).toNat : Nat) : Int)) u3064›).symm
                    have _vv : v3147 = (fun n => e 13 (a1).toNat - 1 - ((xdue d (xlot d ((n : Nat) : Int)) (a1).toNat : Nat) : Int)) h9 := by show _ = e 13 (a1).toNat - 1 - ((xdue d (xlot d ((h9 : Nat) : Int)) (a1).toNat : Nat) : Int); omega
                    have _q : v3147 = xtr (decide (a2 ≠ 0)) (xwf e d) (fun n => e 13 (a1).toNat - 1 - ((xdue d (xlot d ((n : Nat) : Int)) (a1).toNat : Nat) : Int)) (h9 + 1) := by
                      rw [xtr_y _c, _gp, ← _vv]
                      first
                      | rw [if_pos (Or.inl (by omega))]
                      | rw [if_pos (Or.inr (by rw [if_pos (decide_eq_true (by omega))]; omega))]
                      | rw [if_pos (Or.inr (by rw [if_neg (fun c9 => of_decide_eq_true c9 (by omega))]; omega))]
                      | rw [if_neg (fun c8 => by
                          rcases c8 with c8 | c8
                          · omega
                          · first
                            | (rw [if_pos (decide_eq_true (by omega))] at c8; omega)
                            | (rw [if_neg (fun c9 => of_decide_eq_true c9 (by omega))] at c8; omega))]
                    refine wp_of e279 c279_106 (rw_iinc (pc' := 109) (z := v3061) (L' := [(5, vI (v3061 + 1)), (4, vI v3147), (6, vI v3147), (0, .ref r0), (1, vI a1), (2, vI a2)]) rfl rfl rfl rfl ?_)
                    refine wp_of e279 c279_109 (rw_goto (p1 := 31) (by decide) ?_)
                    have k3163 : H3108 r0 29 = H3063 r0 29 := (f3113 r0 29 _ g0 rfl)
                    have h3164 : KL T H3108 r0 (xwf e d) (xlots d).toNat := (KL_fr w3066 g0 f3113 rfl h3071)
                    exact wp_lc (ks := [5, 4, 6, 0, 1, 2]) (wl_c rfl (wl_c rfl (wl_c rfl (wl_c rfl (wl_c rfl wl_n))))) rfl (by decide) (ih3060 _ (by omega) (v3061 + 1) v3147 H3108 ((h9 + 1)) w3112 f3117 ⟨by omega, by omega⟩ ⟨by omega, by omega⟩ h3164 (by omega) (by omega) (by omega) (_q) rfl)
        exact wp_lc (ks := [5, 4, 3, 0, 1, 2]) (wl_c rfl (wl_c rfl (wl_c rfl (wl_c rfl (wl_c rfl wl_n))))) rfl (by decide) (lp3058 _ 0 0 H2627 0 w2631 wfr.rf ⟨by omega, by omega⟩ ⟨by omega, by omega⟩ h2658 (by omega) (by omega) (rfl) (rfl) rfl)
      · exfalso
        omega
    · have f3165 := f2046.tr f2632 rfl
      show wp _ _ 279 14 [(0, .ref r0), (1, vI a1), (2, vI a2)] [vI z2633] _ H2627 _
      refine wp_of e279 c279_14 (rw_istore_n (pc' := 15) (z := z2633) (L' := [(3, vI z2633), (0, .ref r0), (1, vI a1), (2, vI a2)]) rfl rfl rfl ?_)
      refine wp_of e279 c279_15 (rw_iload_n (pc' := 16) (z := z2633) rfl rfl ?_)
      refine wp_of e279 c279_16 (rw_if_le (p1 := 25) (p2 := 19) (by decide) rfl ⟨by omega, by omega⟩ (fun c3166 => ?_) (fun c3166 => ?_))
      · exfalso
        omega
      · refine wp_of e279 c279_19 (rw_aload_n (pc' := 20) (v := .ref r0) rfl rfl rfl ?_)
        refine wp_of e279 c279_20 (rw_iload_n (pc' := 21) (z := z2633) rfl rfl ?_)
        refine wp_of e279 c279_21 (xc_V (pc' := 24) (r := r0) (as := [vI z2633]) (st := []) (lm_9_490) rfl rfl (Nat.le_of_ble_eq_true rfl) w2631 g0 sh_42 (by decide) rfl (by decide) (s_281 w2631 g0 ⟨by omega, by omega⟩) (fun R3167 T3168 H3169 p3170 => ?_))
        obtain ⟨e3171, w3173, f3174, z3175, e3172, b3176⟩ := p3170
        subst e3171
        subst e3172
        have f3177 := f3165.tr f3174 rfl
        show wp _ _ 279 24 [(3, vI z2633), (0, .ref r0), (1, vI a1), (2, vI a2)] [vI z3175] _ H3169 _
        have k3178 : wKI H3169 r0 = wKI H2627 r0 := (wKI_fr w2631 g0 f3174 rfl)
        have h3179 : KNN T H3169 r0 e d := (KNN_fr w2631 g0 f3174 rfl a2652)
        exact wp_ireturn e279 c279_24 rfl ⟨rfl, w3173, f3177, z3175, rfl, ⟨by omega, by omega⟩, (Or.inr ⟨by omega, by omega, by
          rw [show z3175 = xtr (decide (a2 ≠ 0)) (xwf e d) (fun n => e 13 (a1).toNat - 1 - ((xdue d (xlot d ((n : Nat) : Int)) (a1).toNat : Nat) : Int)) (xlots d).toNat by rw [xtr_end (u := 0) (by omega) (by omega)]; assumption]
          exact xtr_ex _ (by omega), h3179⟩)⟩
/-! StrikeAwakeModel.nothing()I  -/
abbrev uq_282 (r0 : Nat) (e : xD) (d : xD) (T : wq_T) (H : wq_H) : Option Value → wq_T → wq_H → Prop := fun r T' H' => T = T' ∧ WT T H' ∧ wfr [(42, 0), (42, 1), (42, 2), (42, 28), (42, 29), (51, 999), (52, 999)] T H H' ∧ ∃ z : Int, some (vI z) = r ∧ ((-2147483648) ≤ z ∧ z ≤ 2147483647) ∧ (((wKI H' r0 = 1) ∧ KNN T H' r0 e d))
set_option maxHeartbeats 4000000 in
theorem u_282 {kt : Nat → Option mc_E} {T : wq_T} {H : wq_H} {r0 : Nat} {e : xD} {d : xD} (hW : WT T H) (g0 : T.2.2.2 r0 = some 42) (p0 : wKI H r0 = 1) (p1 : XW d) (p2 : ∀ h : Nat, d 0 0 ≤ (h : Int) → h < 24 → e 13 h = 0) (p3 : XN d) (p4 : ∀ h : Nat, h < 24 → 0 ≤ e 13 h ∧ e 13 h ≤ 100) (hRB_r0 : RB T H r0 e d) (hKNN_r0 : KNN T H r0 e d) : wpc kt 8 282 [.ref r0] T H (uq_282 r0 e d T H) := by
  refine wp_enter e282 (Nat.le_of_ble_eq_true rfl) rfl ?_
  have f0 : wfr [(42, 0), (42, 1), (42, 2), (42, 28), (42, 29), (51, 999), (52, 999)] T H H := wfr.rf
  show wp _ _ 282 0 [(0, .ref r0)] [] _ H _
  have _b := RB_b hW hRB_r0
  have _nu := RB_n3 hRB_r0
  have _lm := RB_lm hRB_r0
  refine wp_of e282 c282_0 (rw_aload_n (pc' := 1) (v := .ref r0) rfl rfl rfl ?_)
  refine wp_of e282 c282_1 (rw_iconst (pc' := 2) rfl ?_)
  refine wp_of e282 c282_2 (xp_I (pc' := 5) lf_9_48 hW g0 sh_42 (by decide) (by decide) ty_42_0 rfl rfl (by omega) (by omega) ⟨by omega, by omega⟩ rfl (fun H5503 e5504 w5505 => ?_))
  have f5506 := f0.put' e5504 g0 rfl
  have k5507 : H5503 r0 0 = 0 := wq_u_s e5504
  refine wp_of e282 c282_5 (rw_aload_n (pc' := 6) (v := .ref r0) rfl rfl rfl ?_)
  refine wp_of e282 c282_6 (rw_aload_n (pc' := 7) (v := .ref r0) rfl rfl rfl ?_)
  have k5508 : H5503 r0 3 = H r0 3 := (wq_u_j e5504 rfl)
  refine wp_of e282 c282_7 (xg_O (pc' := 10) lf_9_337 w5505 g0 sh_42 (by decide) (by decide) ty_42_3 rfl rfl (fun q5510 => ?_) (fun r5509 q5510 g5511 => ?_))
  · refine wp_of e282 c282_10 (rw_ifnull_n (p1 := 17) (p2 := 13) (by decide) rfl ?_)
    refine wp_of e282 c282_17 (rw_iconst (pc' := 18) rfl ?_)
    have k5512 : wKI H5503 r0 = wKI H r0 := (wKI_fr hW g0 ((wfr.rf (l := [(42, 0)])).put' e5504 g0 rfl) rfl)
    have h5513 : RB T H5503 r0 e d := (RB_fr hW g0 ((wfr.rf (l := [(42, 0)])).put' e5504 g0 rfl) rfl hRB_r0)
    have h5514 : KNN T H5503 r0 e d := (KNN_fr hW g0 ((wfr.rf (l := [(42, 0)])).put' e5504 g0 rfl) rfl hKNN_r0)
    refine wp_of e282 c282_18 (xc_V (pc' := 21) (r := r0) (as := [vI 0]) (st := []) (lm_9_433) rfl rfl (Nat.le_of_ble_eq_true rfl) w5505 g0 sh_42 (by decide) rfl (by decide) (u_241 (e := e) (d := d) w5505 g0 ⟨by omega, by omega⟩ (by omega) (by omega) (by assumption) (by assumption) (by assumption) (by assumption) h5513 h5514) (fun R5515 T5516 H5517 p5518 => ?_))
    obtain ⟨e5519, w5521, f5522, z5523, e5520, b5524, p5525⟩ := p5518
    subst e5519
    subst e5520
    rcases p5525 with ⟨a5526, a5527, a5528, a5529, a5530, a5531, a5532, a5533, a5534⟩ | ⟨a5535, a5536, a5537, a5538, a5539, a5540, a5541⟩
    · have f5542 := f5506.tr f5522 rfl
      show wp _ _ 282 21 [(0, .ref r0)] [vI z5523] _ H5517 _
      refine wp_of e282 c282_21 (rw_istore_n (pc' := 22) (z := z5523) (L' := [(1, vI z5523), (0, .ref r0)]) rfl rfl rfl ?_)
      refine wp_of e282 c282_22 (rw_iload_n (pc' := 23) (z := z5523) rfl rfl ?_)
      refine wp_of e282 c282_23 (rw_if_le (p1 := 32) (p2 := 26) (by decide) rfl ⟨by omega, by omega⟩ (fun c5543 => ?_) (fun c5543 => ?_))
      · refine wp_of e282 c282_32 (rw_iconst (pc' := 33) rfl ?_)
        refine wp_of e282 c282_33 (rw_istore_n (pc' := 34) (z := 0) (L' := [(2, vI 0), (1, vI z5523), (0, .ref r0)]) rfl rfl rfl ?_)
        refine wp_of e282 c282_34 (rw_iconst (pc' := 35) rfl ?_)
        refine wp_of e282 c282_35 (rw_istore_n (pc' := 36) (z := 0) (L' := [(3, vI 0), (2, vI 0), (1, vI z5523), (0, .ref r0)]) rfl rfl rfl ?_)
        have lp7504 : ∀ (n7505 : Nat) (v7507 : Int) (v7508 : Int) (H7509 : wq_H), WT T H7509 → wfr [(51, 999)] T H5517 H7509 → (0 ≤ v7507 ∧ v7507 ≤ 20000) → (0 ≤ v7508 ∧ v7508 ≤ 16777215) → (20000 - v7507).toNat = n7505 → wp kt 7 282 36 [(3, vI v7507), (2, vI v7508), (0, .ref r0)] [] T H7509 (uq_282 r0 e d T H) := by
          intro n7505
          induction n7505 using Nat.strongRecOn with
          | _ n7505 ih7506 =>
            intro v7507 v7508 H7509 w7510 f7511 b7512 b7513 m7514
            have f7515 := f5542.tr f7511 rfl
            refine wp_of e282 c282_36 (rw_iload_n (pc' := 37) (z := v7507) rfl rfl ?_)
            refine wp_of e282 c282_37 (rw_i2l (pc' := 38) rfl ⟨by omega, by omega⟩ ?_)
            refine wp_of e282 c282_38 (rw_aload_n (pc' := 39) (v := .ref r0) rfl rfl rfl ?_)
            have k7516 : H7509 r0 3 = H5503 r0 3 := ((f7511 r0 3 _ g0 rfl).trans (f5522 r0 3 _ g0 rfl))
            have q7517 : H7509 r0 3 = -1 := k7516.trans q5510
            obtain ⟨r7518, q7519, g7520⟩ := (w7510.opt g0 (t' := 54) (n := 33) (j := 3) (p := 0) (q := 0) rfl (by decide) rfl).resolve_left (by omega)
            refine wp_of e282 c282_39 (xc_V (pc' := 42) (r := r0) (as := []) (st := [vL v7507]) (lm_9_376) rfl rfl (Nat.le_of_ble_eq_true rfl) w7510 g0 sh_42 (by decide) rfl (by decide) (s_220 w7510 g0 q7519 g7520) (fun R7521 T7522 H7523 p7524 => ?_))
            obtain ⟨e7525, e7527, z7529, e7526, b7530, p7528⟩ := p7524
            subst e7525
            subst e7526
            subst e7527
            show wp _ _ 282 42 [(3, vI v7507), (2, vI v7508), (0, .ref r0)] [vL z7529, vL v7507] _ H7509 _
            refine wp_of e282 c282_42 (rw_lcmp (pc' := 43) rfl ⟨by omega, by omega⟩ ⟨by omega, by omega⟩ ?_)
            have b7531 := wq_cmp_b v7507 z7529
            refine wp_of e282 c282_43 (rw_if_ge (p1 := 116) (p2 := 46) (by decide) rfl ⟨by omega, by omega⟩ (fun c7532 => ?_) (fun c7532 => ?_))
            · refine wp_of e282 c282_116 (rw_aload_n (pc' := 117) (v := .ref r0) rfl rfl rfl ?_)
              refine wp_of e282 c282_117 (rw_iload_n (pc' := 118) (z := v7508) rfl rfl ?_)
              refine wp_of e282 c282_118 (xc_V (pc' := 121) (r := r0) (as := [vI v7508]) (st := []) (lm_9_58) rfl rfl (Nat.le_of_ble_eq_true rfl) w7510 g0 sh_42 (by decide) rfl (by decide) (s_209 w7510 g0 ⟨by omega, by omega⟩) (fun R7533 T7534 H7535 p7536 => ?_))
              obtain ⟨e7537, w7539, f7540, z7541, e7538, b7542⟩ := p7536
              subst e7537
              subst e7538
              have f7543 := f7515.tr f7540 rfl
              show wp _ _ 282 121 [(3, vI v7507), (2, vI v7508), (0, .ref r0)] [vI z7541] _ H7535 _
              have k7544 : wKI H7535 r0 = wKI H5517 r0 := ((wKI_fr w7510 g0 f7540 rfl).trans (wKI_fr w5521 g0 f7511 rfl))
              have h7545 : KNN T H7535 r0 e d := (KNN_fr w7510 g0 f7540 rfl (KNN_fr w5521 g0 f7511 rfl a5533))
              exact wp_ireturn e282 c282_121 rfl ⟨rfl, w7539, f7543, z7541, rfl, ⟨by omega, by omega⟩, ⟨by omega, h7545⟩⟩
            · refine wp_of e282 c282_46 (rw_aload_n (pc' := 47) (v := .ref r0) rfl rfl rfl ?_)
              refine wp_of e282 c282_47 (rw_iload_n (pc' := 48) (z := v7507) rfl rfl ?_)
              refine wp_of e282 c282_48 (xc_V (pc' := 51) (r := r0) (as := [vI v7507]) (st := []) (lm_9_425) rfl rfl (Nat.le_of_ble_eq_true rfl) w7510 g0 sh_42 (by decide) rfl (by decide) (s_243 w7510 g0 ⟨by omega, by omega⟩ q7519 g7520 (by omega)) (fun R7546 T7547 H7548 p7549 => ?_))
              obtain ⟨e7550, w7552, f7553, e7551⟩ := p7549
              subst e7550
              subst e7551
              have f7554 := f7515.tr f7553 rfl
              have f7555 := f7511.tr f7553 rfl
              show wp _ _ 282 51 [(3, vI v7507), (2, vI v7508), (0, .ref r0)] [] _ H7548 _
              refine wp_of e282 c282_51 (rw_aload_n (pc' := 52) (v := .ref r0) rfl rfl rfl ?_)
              refine wp_of e282 c282_52 (rw_aload_n (pc' := 53) (v := .ref r0) rfl rfl rfl ?_)
              refine wp_of e282 c282_53 (xg_R (pc' := 56) lf_9_39 w7552 g0 sh_42 (by decide) (by decide) ty_42_27 rfl rfl (fun r7556 q7557 g7558 => ?_))
              have k7559 : H7548 r0 3 = H7509 r0 3 := (f7553 r0 3 _ g0 rfl)
              have q7560 : H7548 r0 3 = (r7518 : Int) := k7559.trans q7519
              refine wp_of e282 c282_56 (xc_V (pc' := 59) (r := r0) (as := [.ref r7556]) (st := []) (lm_9_393) rfl rfl (Nat.le_of_ble_eq_true rfl) w7552 g0 sh_42 (by decide) rfl (by decide) (s_235_m_lot w7552 g0 g7558 q7560 g7520) (fun R7561 T7562 H7563 p7564 => ?_))
              obtain ⟨e7565, e7567, z7568, e7566, b7569⟩ := p7564
              subst e7565
              subst e7566
              subst e7567
              show wp _ _ 282 59 [(3, vI v7507), (2, vI v7508), (0, .ref r0)] [vI z7568] _ H7548 _
              refine wp_of e282 c282_59 (rw_if_eq (p1 := 65) (p2 := 62) (by decide) rfl ⟨by omega, by omega⟩ (fun c7570 => ?_) (fun c7570 => ?_))
              · refine wp_of e282 c282_65 (rw_iconst (pc' := 66) rfl ?_)
                refine wp_of e282 c282_66 (rw_istore (pc' := 68) (z := 0) (L' := [(4, vI 0), (3, vI v7507), (2, vI v7508), (0, .ref r0)]) rfl rfl rfl ?_)
                have lp7755 : ∀ (n7756 : Nat) (v7758 : Int) (v7759 : Int), (0 ≤ v7758 ∧ v7758 ≤ 24) → (0 ≤ v7759 ∧ v7759 ≤ 16777215) → (24 - v7758).toNat = n7756 → wp kt 7 282 68 [(4, vI v7758), (2, vI v7759), (3, vI v7507), (0, .ref r0)] [] T H7548 (uq_282 r0 e d T H) := by
                  intro n7756
                  induction n7756 using Nat.strongRecOn with
                  | _ n7756 ih7757 =>
                    intro v7758 v7759 b7762 b7763 m7764
                    refine wp_of e282 c282_68 (rw_iload (pc' := 70) (z := v7758) rfl rfl ?_)
                    refine wp_of e282 c282_70 (rw_aload_n (pc' := 71) (v := .ref r0) rfl rfl rfl ?_)
                    refine wp_of e282 c282_71 (xg_K (pc' := 74) lf_9_337 w7552 g0 sh_42 (by decide) (by decide) rfl q7560 rfl ?_)
                    refine wp_of e282 c282_74 (xg_I (pc' := 77) lf_9_185 w7552 g7520 sh_54 (by decide) (by decide) ty_54_0 rfl rfl (fun b7765 b7766 => ?_))
                    refine wp_of e282 c282_77 (rw_icmp_ge (p1 := 110) (p2 := 80) (by decide) rfl ⟨by omega, by omega⟩ ⟨by omega, by omega⟩ (fun c7767 => ?_) (fun c7767 => ?_))
                    · refine wp_of e282 c282_110 (rw_iinc (pc' := 113) (z := v7507) (L' := [(3, vI (v7507 + 1)), (4, vI v7758), (2, vI v7759), (0, .ref r0)]) rfl rfl rfl rfl ?_)
                      refine wp_of e282 c282_113 (rw_goto (p1 := 36) (by decide) ?_)
                      exact wp_lc (ks := [3, 4, 2, 0]) (wl_c rfl (wl_c rfl (wl_c rfl wl_n))) rfl (by decide) (ih7506 _ (by omega) (v7507 + 1) v7759 H7548 w7552 f7555 ⟨by omega, by omega⟩ ⟨by omega, by omega⟩ rfl)
                    · refine wp_of e282 c282_80 (rw_iload_n (pc' := 81) (z := v7759) rfl rfl ?_)
                      refine wp_of e282 c282_81 (rw_aload_n (pc' := 82) (v := .ref r0) rfl rfl rfl ?_)
                      refine wp_of e282 c282_82 (rw_aload_n (pc' := 83) (v := .ref r0) rfl rfl rfl ?_)
                      refine wp_of e282 c282_83 (xg_K (pc' := 86) lf_9_39 w7552 g0 sh_42 (by decide) (by decide) rfl q7557 rfl ?_)
                      refine wp_of e282 c282_86 (rw_iload (pc' := 88) (z := v7758) rfl rfl ?_)
                      refine wp_of e282 c282_88 (xc_V (pc' := 91) (r := r0) (as := [.ref r7556, vI v7758]) (st := [vI v7759]) (lm_9_386) rfl rfl (Nat.le_of_ble_eq_true rfl) w7552 g0 sh_42 (by decide) rfl (by decide) (s_228_m_lot w7552 g0 g7558 ⟨by omega, by omega⟩ q7560 g7520) (fun R7768 T7769 H7770 p7771 => ?_))
                      obtain ⟨e7772, e7774, z7775, e7773, b7776⟩ := p7771
                      subst e7772
                      subst e7773
                      subst e7774
                      show wp _ _ 282 91 [(4, vI v7758), (2, vI v7759), (3, vI v7507), (0, .ref r0)] [vI z7775, vI v7759] _ H7548 _
                      refine wp_of e282 c282_91 (rw_if_ne (p1 := 101) (p2 := 94) (by decide) rfl ⟨by omega, by omega⟩ (fun c7777 => ?_) (fun c7777 => ?_))
                      · refine wp_of e282 c282_101 (rw_iconst (pc' := 102) rfl ?_)
                        refine wp_of e282 c282_102 (rw_ior (pc' := 103) rfl ?_)
                        obtain ⟨v7778, e7779⟩ : ∃ x : Int, x = wq_or v7759 0 := ⟨_, rfl⟩
                        rw [← e7779]
                        have b7780 : 0 ≤ v7778 ∧ v7778 ≤ 16777215 := by
                          rw [e7779]
                          exact wq_or_24 ⟨by omega, by omega⟩ ⟨by omega, by omega⟩
                        refine wp_of e282 c282_103 (rw_istore_n (pc' := 104) (z := v7778) (L' := [(2, vI v7778), (4, vI v7758), (3, vI v7507), (0, .ref r0)]) rfl rfl rfl ?_)
                        refine wp_of e282 c282_104 (rw_iinc (pc' := 107) (z := v7758) (L' := [(4, vI (v7758 + 1)), (2, vI v7778), (3, vI v7507), (0, .ref r0)]) rfl rfl rfl rfl ?_)
                        refine wp_of e282 c282_107 (rw_goto (p1 := 68) (by decide) ?_)
                        exact wp_lc (ks := [4, 2, 3, 0]) (wl_c rfl (wl_c rfl (wl_c rfl (wl_c rfl wl_n)))) rfl (by decide) (ih7757 _ (by omega) (v7758 + 1) v7778 ⟨by omega, by omega⟩ ⟨by omega, by omega⟩ rfl)
                      · refine wp_of e282 c282_94 (rw_iconst (pc' := 95) rfl ?_)
                        refine wp_of e282 c282_95 (rw_iload (pc' := 97) (z := v7758) rfl rfl ?_)
                        refine wp_of e282 c282_97 (rw_ishl (pc' := 98) rfl ?_)
                        obtain ⟨v7781, e7782⟩ : ∃ x : Int, x = wq_shl 1 v7758 := ⟨_, rfl⟩
                        rw [← e7782]
                        have b7783 : 1 ≤ v7781 ∧ v7781 ≤ 8388608 := by
                          rw [e7782]
                          exact wq_shl1_24 ⟨by omega, by omega⟩
                        refine wp_of e282 c282_98 (rw_goto (p1 := 102) (by decide) ?_)
                        refine wp_of e282 c282_102 (rw_ior (pc' := 103) rfl ?_)
                        obtain ⟨v7784, e7785⟩ : ∃ x : Int, x = wq_or v7759 v7781 := ⟨_, rfl⟩
                        rw [← e7785]
                        have b7786 : 0 ≤ v7784 ∧ v7784 ≤ 16777215 := by
                          rw [e7785]
                          exact wq_or_24 ⟨by omega, by omega⟩ ⟨by omega, by omega⟩
                        refine wp_of e282 c282_103 (rw_istore_n (pc' := 104) (z := v7784) (L' := [(2, vI v7784), (4, vI v7758), (3, vI v7507), (0, .ref r0)]) rfl rfl rfl ?_)
                        refine wp_of e282 c282_104 (rw_iinc (pc' := 107) (z := v7758) (L' := [(4, vI (v7758 + 1)), (2, vI v7784), (3, vI v7507), (0, .ref r0)]) rfl rfl rfl rfl ?_)
                        refine wp_of e282 c282_107 (rw_goto (p1 := 68) (by decide) ?_)
                        exact wp_lc (ks := [4, 2, 3, 0]) (wl_c rfl (wl_c rfl (wl_c rfl (wl_c rfl wl_n)))) rfl (by decide) (ih7757 _ (by omega) (v7758 + 1) v7784 ⟨by omega, by omega⟩ ⟨by omega, by omega⟩ rfl)
                exact wp_lc (ks := [4, 3, 2, 0]) (wl_c rfl (wl_c rfl (wl_c rfl (wl_c rfl wl_n)))) rfl (by decide) (lp7755 _ 0 v7508 ⟨by omega, by omega⟩ ⟨by omega, by omega⟩ rfl)
              · refine wp_of e282 c282_62 (rw_goto (p1 := 110) (by decide) ?_)
                refine wp_of e282 c282_110 (rw_iinc (pc' := 113) (z := v7507) (L' := [(3, vI (v7507 + 1)), (2, vI v7508), (0, .ref r0)]) rfl rfl rfl rfl ?_)
                refine wp_of e282 c282_113 (rw_goto (p1 := 36) (by decide) ?_)
                exact wp_lc (ks := [3, 2, 0]) (wl_c rfl (wl_c rfl (wl_c rfl wl_n))) rfl (by decide) (ih7506 _ (by omega) (v7507 + 1) v7508 H7548 w7552 f7555 ⟨by omega, by omega⟩ ⟨by omega, by omega⟩ rfl)
        exact wp_lc (ks := [3, 2, 1, 0]) (wl_c rfl (wl_c rfl (wl_c rfl wl_n))) rfl (by decide) (lp7504 _ 0 0 H5517 w5521 wfr.rf ⟨by omega, by omega⟩ ⟨by omega, by omega⟩ rfl)
      · exfalso
        omega
    · have f7787 := f5506.tr f5522 rfl
      show wp _ _ 282 21 [(0, .ref r0)] [vI z5523] _ H5517 _
      refine wp_of e282 c282_21 (rw_istore_n (pc' := 22) (z := z5523) (L' := [(1, vI z5523), (0, .ref r0)]) rfl rfl rfl ?_)
      refine wp_of e282 c282_22 (rw_iload_n (pc' := 23) (z := z5523) rfl rfl ?_)
      refine wp_of e282 c282_23 (rw_if_le (p1 := 32) (p2 := 26) (by decide) rfl ⟨by omega, by omega⟩ (fun c7788 => ?_) (fun c7788 => ?_))
      · exfalso
        omega
      · refine wp_of e282 c282_26 (rw_aload_n (pc' := 27) (v := .ref r0) rfl rfl rfl ?_)
        refine wp_of e282 c282_27 (rw_iload_n (pc' := 28) (z := z5523) rfl rfl ?_)
        refine wp_of e282 c282_28 (xc_V (pc' := 31) (r := r0) (as := [vI z5523]) (st := []) (lm_9_54) rfl rfl (Nat.le_of_ble_eq_true rfl) w5521 g0 sh_42 (by decide) rfl (by decide) (s_170 w5521 g0 ⟨by omega, by omega⟩) (fun R7789 T7790 H7791 p7792 => ?_))
        obtain ⟨e7793, w7795, f7796, z7797, e7794, b7798⟩ := p7792
        subst e7793
        subst e7794
        have f7799 := f7787.tr f7796 rfl
        show wp _ _ 282 31 [(1, vI z5523), (0, .ref r0)] [vI z7797] _ H7791 _
        have k7800 : wKI H7791 r0 = wKI H5517 r0 := (wKI_fr w5521 g0 f7796 rfl)
        have h7801 : KNN T H7791 r0 e d := (KNN_fr w5521 g0 f7796 rfl a5541)
        exact wp_ireturn e282 c282_31 rfl ⟨rfl, w7795, f7799, z7797, rfl, ⟨by omega, by omega⟩, ⟨by omega, h7801⟩⟩
  · refine wp_of e282 c282_10 (rw_ifnull_r (p1 := 17) (p2 := 13) (by decide) rfl ?_)
    refine wp_of e282 c282_13 (rw_iconst (pc' := 14) rfl ?_)
    refine wp_of e282 c282_14 (rw_goto (p1 := 18) (by decide) ?_)
    have k7802 : wKI H5503 r0 = wKI H r0 := (wKI_fr hW g0 ((wfr.rf (l := [(42, 0)])).put' e5504 g0 rfl) rfl)
    have h7803 : RB T H5503 r0 e d := (RB_fr hW g0 ((wfr.rf (l := [(42, 0)])).put' e5504 g0 rfl) rfl hRB_r0)
    have h7804 : KNN T H5503 r0 e d := (KNN_fr hW g0 ((wfr.rf (l := [(42, 0)])).put' e5504 g0 rfl) rfl hKNN_r0)
    refine wp_of e282 c282_18 (xc_V (pc' := 21) (r := r0) (as := [vI 1]) (st := []) (lm_9_433) rfl rfl (Nat.le_of_ble_eq_true rfl) w5505 g0 sh_42 (by decide) rfl (by decide) (u_241 (e := e) (d := d) w5505 g0 ⟨by omega, by omega⟩ (by omega) (by omega) (by assumption) (by assumption) (by assumption) (by assumption) h7803 h7804) (fun R7805 T7806 H7807 p7808 => ?_))
    obtain ⟨e7809, w7811, f7812, z7813, e7810, b7814, p7815⟩ := p7808
    subst e7809
    subst e7810
    rcases p7815 with ⟨a7816, a7817, a7818, a7819, a7820, a7821, a7822, a7823, a7824⟩ | ⟨a7825, a7826, a7827, a7828, a7829, a7830, a7831⟩
    · have f7832 := f5506.tr f7812 rfl
      show wp _ _ 282 21 [(0, .ref r0)] [vI z7813] _ H7807 _
      refine wp_of e282 c282_21 (rw_istore_n (pc' := 22) (z := z7813) (L' := [(1, vI z7813), (0, .ref r0)]) rfl rfl rfl ?_)
      refine wp_of e282 c282_22 (rw_iload_n (pc' := 23) (z := z7813) rfl rfl ?_)
      refine wp_of e282 c282_23 (rw_if_le (p1 := 32) (p2 := 26) (by decide) rfl ⟨by omega, by omega⟩ (fun c7833 => ?_) (fun c7833 => ?_))
      · refine wp_of e282 c282_32 (rw_iconst (pc' := 33) rfl ?_)
        refine wp_of e282 c282_33 (rw_istore_n (pc' := 34) (z := 0) (L' := [(2, vI 0), (1, vI z7813), (0, .ref r0)]) rfl rfl rfl ?_)
        refine wp_of e282 c282_34 (rw_iconst (pc' := 35) rfl ?_)
        refine wp_of e282 c282_35 (rw_istore_n (pc' := 36) (z := 0) (L' := [(3, vI 0), (2, vI 0), (1, vI z7813), (0, .ref r0)]) rfl rfl rfl ?_)
        have lp9770 : ∀ (n9771 : Nat) (v9773 : Int) (v9774 : Int) (H9775 : wq_H), WT T H9775 → wfr [(51, 999)] T H7807 H9775 → (0 ≤ v9773 ∧ v9773 ≤ 20000) → (0 ≤ v9774 ∧ v9774 ≤ 16777215) → (20000 - v9773).toNat = n9771 → wp kt 7 282 36 [(3, vI v9773), (2, vI v9774), (0, .ref r0)] [] T H9775 (uq_282 r0 e d T H) := by
          intro n9771
          induction n9771 using Nat.strongRecOn with
          | _ n9771 ih9772 =>
            intro v9773 v9774 H9775 w9776 f9777 b9778 b9779 m9780
            have f9781 := f7832.tr f9777 rfl
            refine wp_of e282 c282_36 (rw_iload_n (pc' := 37) (z := v9773) rfl rfl ?_)
            refine wp_of e282 c282_37 (rw_i2l (pc' := 38) rfl ⟨by omega, by omega⟩ ?_)
            refine wp_of e282 c282_38 (rw_aload_n (pc' := 39) (v := .ref r0) rfl rfl rfl ?_)
            have k9782 : H9775 r0 3 = H5503 r0 3 := ((f9777 r0 3 _ g0 rfl).trans (f7812 r0 3 _ g0 rfl))
            have q9783 : H9775 r0 3 = (r5509 : Int) := k9782.trans q5510
            refine wp_of e282 c282_39 (xc_V (pc' := 42) (r := r0) (as := []) (st := [vL v9773]) (lm_9_376) rfl rfl (Nat.le_of_ble_eq_true rfl) w9776 g0 sh_42 (by decide) rfl (by decide) (s_220 w9776 g0 q9783 g5511) (fun R9784 T9785 H9786 p9787 => ?_))
            obtain ⟨e9788, e9790, z9792, e9789, b9793, p9791⟩ := p9787
            subst e9788
            subst e9789
            subst e9790
            show wp _ _ 282 42 [(3, vI v9773), (2, vI v9774), (0, .ref r0)] [vL z9792, vL v9773] _ H9775 _
            refine wp_of e282 c282_42 (rw_lcmp (pc' := 43) rfl ⟨by omega, by omega⟩ ⟨by omega, by omega⟩ ?_)
            have b9794 := wq_cmp_b v9773 z9792
            refine wp_of e282 c282_43 (rw_if_ge (p1 := 116) (p2 := 46) (by decide) rfl ⟨by omega, by omega⟩ (fun c9795 => ?_) (fun c9795 => ?_))
            · refine wp_of e282 c282_116 (rw_aload_n (pc' := 117) (v := .ref r0) rfl rfl rfl ?_)
              refine wp_of e282 c282_117 (rw_iload_n (pc' := 118) (z := v9774) rfl rfl ?_)
              refine wp_of e282 c282_118 (xc_V (pc' := 121) (r := r0) (as := [vI v9774]) (st := []) (lm_9_58) rfl rfl (Nat.le_of_ble_eq_true rfl) w9776 g0 sh_42 (by decide) rfl (by decide) (s_209 w9776 g0 ⟨by omega, by omega⟩) (fun R9796 T9797 H9798 p9799 => ?_))
              obtain ⟨e9800, w9802, f9803, z9804, e9801, b9805⟩ := p9799
              subst e9800
              subst e9801
              have f9806 := f9781.tr f9803 rfl
              show wp _ _ 282 121 [(3, vI v9773), (2, vI v9774), (0, .ref r0)] [vI z9804] _ H9798 _
              have k9807 : wKI H9798 r0 = wKI H7807 r0 := ((wKI_fr w9776 g0 f9803 rfl).trans (wKI_fr w7811 g0 f9777 rfl))
              have h9808 : KNN T H9798 r0 e d := (KNN_fr w9776 g0 f9803 rfl (KNN_fr w7811 g0 f9777 rfl a7823))
              exact wp_ireturn e282 c282_121 rfl ⟨rfl, w9802, f9806, z9804, rfl, ⟨by omega, by omega⟩, ⟨by omega, h9808⟩⟩
            · refine wp_of e282 c282_46 (rw_aload_n (pc' := 47) (v := .ref r0) rfl rfl rfl ?_)
              refine wp_of e282 c282_47 (rw_iload_n (pc' := 48) (z := v9773) rfl rfl ?_)
              refine wp_of e282 c282_48 (xc_V (pc' := 51) (r := r0) (as := [vI v9773]) (st := []) (lm_9_425) rfl rfl (Nat.le_of_ble_eq_true rfl) w9776 g0 sh_42 (by decide) rfl (by decide) (s_243 w9776 g0 ⟨by omega, by omega⟩ q9783 g5511 (by omega)) (fun R9809 T9810 H9811 p9812 => ?_))
              obtain ⟨e9813, w9815, f9816, e9814⟩ := p9812
              subst e9813
              subst e9814
              have f9817 := f9781.tr f9816 rfl
              have f9818 := f9777.tr f9816 rfl
              show wp _ _ 282 51 [(3, vI v9773), (2, vI v9774), (0, .ref r0)] [] _ H9811 _
              refine wp_of e282 c282_51 (rw_aload_n (pc' := 52) (v := .ref r0) rfl rfl rfl ?_)
              refine wp_of e282 c282_52 (rw_aload_n (pc' := 53) (v := .ref r0) rfl rfl rfl ?_)
              refine wp_of e282 c282_53 (xg_R (pc' := 56) lf_9_39 w9815 g0 sh_42 (by decide) (by decide) ty_42_27 rfl rfl (fun r9819 q9820 g9821 => ?_))
              have k9822 : H9811 r0 3 = H9775 r0 3 := (f9816 r0 3 _ g0 rfl)
              have q9823 : H9811 r0 3 = (r5509 : Int) := k9822.trans q9783
              refine wp_of e282 c282_56 (xc_V (pc' := 59) (r := r0) (as := [.ref r9819]) (st := []) (lm_9_393) rfl rfl (Nat.le_of_ble_eq_true rfl) w9815 g0 sh_42 (by decide) rfl (by decide) (s_235_m_lot w9815 g0 g9821 q9823 g5511) (fun R9824 T9825 H9826 p9827 => ?_))
              obtain ⟨e9828, e9830, z9831, e9829, b9832⟩ := p9827
              subst e9828
              subst e9829
              subst e9830
              show wp _ _ 282 59 [(3, vI v9773), (2, vI v9774), (0, .ref r0)] [vI z9831] _ H9811 _
              refine wp_of e282 c282_59 (rw_if_eq (p1 := 65) (p2 := 62) (by decide) rfl ⟨by omega, by omega⟩ (fun c9833 => ?_) (fun c9833 => ?_))
              · refine wp_of e282 c282_65 (rw_iconst (pc' := 66) rfl ?_)
                refine wp_of e282 c282_66 (rw_istore (pc' := 68) (z := 0) (L' := [(4, vI 0), (3, vI v9773), (2, vI v9774), (0, .ref r0)]) rfl rfl rfl ?_)
                have lp10018 : ∀ (n10019 : Nat) (v10021 : Int) (v10022 : Int), (0 ≤ v10021 ∧ v10021 ≤ 24) → (0 ≤ v10022 ∧ v10022 ≤ 16777215) → (24 - v10021).toNat = n10019 → wp kt 7 282 68 [(4, vI v10021), (2, vI v10022), (3, vI v9773), (0, .ref r0)] [] T H9811 (uq_282 r0 e d T H) := by
                  intro n10019
                  induction n10019 using Nat.strongRecOn with
                  | _ n10019 ih10020 =>
                    intro v10021 v10022 b10025 b10026 m10027
                    refine wp_of e282 c282_68 (rw_iload (pc' := 70) (z := v10021) rfl rfl ?_)
                    refine wp_of e282 c282_70 (rw_aload_n (pc' := 71) (v := .ref r0) rfl rfl rfl ?_)
                    refine wp_of e282 c282_71 (xg_K (pc' := 74) lf_9_337 w9815 g0 sh_42 (by decide) (by decide) rfl q9823 rfl ?_)
                    refine wp_of e282 c282_74 (xg_I (pc' := 77) lf_9_185 w9815 g5511 sh_54 (by decide) (by decide) ty_54_0 rfl rfl (fun b10028 b10029 => ?_))
                    refine wp_of e282 c282_77 (rw_icmp_ge (p1 := 110) (p2 := 80) (by decide) rfl ⟨by omega, by omega⟩ ⟨by omega, by omega⟩ (fun c10030 => ?_) (fun c10030 => ?_))
                    · refine wp_of e282 c282_110 (rw_iinc (pc' := 113) (z := v9773) (L' := [(3, vI (v9773 + 1)), (4, vI v10021), (2, vI v10022), (0, .ref r0)]) rfl rfl rfl rfl ?_)
                      refine wp_of e282 c282_113 (rw_goto (p1 := 36) (by decide) ?_)
                      exact wp_lc (ks := [3, 4, 2, 0]) (wl_c rfl (wl_c rfl (wl_c rfl wl_n))) rfl (by decide) (ih9772 _ (by omega) (v9773 + 1) v10022 H9811 w9815 f9818 ⟨by omega, by omega⟩ ⟨by omega, by omega⟩ rfl)
                    · refine wp_of e282 c282_80 (rw_iload_n (pc' := 81) (z := v10022) rfl rfl ?_)
                      refine wp_of e282 c282_81 (rw_aload_n (pc' := 82) (v := .ref r0) rfl rfl rfl ?_)
                      refine wp_of e282 c282_82 (rw_aload_n (pc' := 83) (v := .ref r0) rfl rfl rfl ?_)
                      refine wp_of e282 c282_83 (xg_K (pc' := 86) lf_9_39 w9815 g0 sh_42 (by decide) (by decide) rfl q9820 rfl ?_)
                      refine wp_of e282 c282_86 (rw_iload (pc' := 88) (z := v10021) rfl rfl ?_)
                      refine wp_of e282 c282_88 (xc_V (pc' := 91) (r := r0) (as := [.ref r9819, vI v10021]) (st := [vI v10022]) (lm_9_386) rfl rfl (Nat.le_of_ble_eq_true rfl) w9815 g0 sh_42 (by decide) rfl (by decide) (s_228_m_lot w9815 g0 g9821 ⟨by omega, by omega⟩ q9823 g5511) (fun R10031 T10032 H10033 p10034 => ?_))
                      obtain ⟨e10035, e10037, z10038, e10036, b10039⟩ := p10034
                      subst e10035
                      subst e10036
                      subst e10037
                      show wp _ _ 282 91 [(4, vI v10021), (2, vI v10022), (3, vI v9773), (0, .ref r0)] [vI z10038, vI v10022] _ H9811 _
                      refine wp_of e282 c282_91 (rw_if_ne (p1 := 101) (p2 := 94) (by decide) rfl ⟨by omega, by omega⟩ (fun c10040 => ?_) (fun c10040 => ?_))
                      · refine wp_of e282 c282_101 (rw_iconst (pc' := 102) rfl ?_)
                        refine wp_of e282 c282_102 (rw_ior (pc' := 103) rfl ?_)
                        obtain ⟨v10041, e10042⟩ : ∃ x : Int, x = wq_or v10022 0 := ⟨_, rfl⟩
                        rw [← e10042]
                        have b10043 : 0 ≤ v10041 ∧ v10041 ≤ 16777215 := by
                          rw [e10042]
                          exact wq_or_24 ⟨by omega, by omega⟩ ⟨by omega, by omega⟩
                        refine wp_of e282 c282_103 (rw_istore_n (pc' := 104) (z := v10041) (L' := [(2, vI v10041), (4, vI v10021), (3, vI v9773), (0, .ref r0)]) rfl rfl rfl ?_)
                        refine wp_of e282 c282_104 (rw_iinc (pc' := 107) (z := v10021) (L' := [(4, vI (v10021 + 1)), (2, vI v10041), (3, vI v9773), (0, .ref r0)]) rfl rfl rfl rfl ?_)
                        refine wp_of e282 c282_107 (rw_goto (p1 := 68) (by decide) ?_)
                        exact wp_lc (ks := [4, 2, 3, 0]) (wl_c rfl (wl_c rfl (wl_c rfl (wl_c rfl wl_n)))) rfl (by decide) (ih10020 _ (by omega) (v10021 + 1) v10041 ⟨by omega, by omega⟩ ⟨by omega, by omega⟩ rfl)
                      · refine wp_of e282 c282_94 (rw_iconst (pc' := 95) rfl ?_)
                        refine wp_of e282 c282_95 (rw_iload (pc' := 97) (z := v10021) rfl rfl ?_)
                        refine wp_of e282 c282_97 (rw_ishl (pc' := 98) rfl ?_)
                        obtain ⟨v10044, e10045⟩ : ∃ x : Int, x = wq_shl 1 v10021 := ⟨_, rfl⟩
                        rw [← e10045]
                        have b10046 : 1 ≤ v10044 ∧ v10044 ≤ 8388608 := by
                          rw [e10045]
                          exact wq_shl1_24 ⟨by omega, by omega⟩
                        refine wp_of e282 c282_98 (rw_goto (p1 := 102) (by decide) ?_)
                        refine wp_of e282 c282_102 (rw_ior (pc' := 103) rfl ?_)
                        obtain ⟨v10047, e10048⟩ : ∃ x : Int, x = wq_or v10022 v10044 := ⟨_, rfl⟩
                        rw [← e10048]
                        have b10049 : 0 ≤ v10047 ∧ v10047 ≤ 16777215 := by
                          rw [e10048]
                          exact wq_or_24 ⟨by omega, by omega⟩ ⟨by omega, by omega⟩
                        refine wp_of e282 c282_103 (rw_istore_n (pc' := 104) (z := v10047) (L' := [(2, vI v10047), (4, vI v10021), (3, vI v9773), (0, .ref r0)]) rfl rfl rfl ?_)
                        refine wp_of e282 c282_104 (rw_iinc (pc' := 107) (z := v10021) (L' := [(4, vI (v10021 + 1)), (2, vI v10047), (3, vI v9773), (0, .ref r0)]) rfl rfl rfl rfl ?_)
                        refine wp_of e282 c282_107 (rw_goto (p1 := 68) (by decide) ?_)
                        exact wp_lc (ks := [4, 2, 3, 0]) (wl_c rfl (wl_c rfl (wl_c rfl (wl_c rfl wl_n)))) rfl (by decide) (ih10020 _ (by omega) (v10021 + 1) v10047 ⟨by omega, by omega⟩ ⟨by omega, by omega⟩ rfl)
                exact wp_lc (ks := [4, 3, 2, 0]) (wl_c rfl (wl_c rfl (wl_c rfl (wl_c rfl wl_n)))) rfl (by decide) (lp10018 _ 0 v9774 ⟨by omega, by omega⟩ ⟨by omega, by omega⟩ rfl)
              · refine wp_of e282 c282_62 (rw_goto (p1 := 110) (by decide) ?_)
                refine wp_of e282 c282_110 (rw_iinc (pc' := 113) (z := v9773) (L' := [(3, vI (v9773 + 1)), (2, vI v9774), (0, .ref r0)]) rfl rfl rfl rfl ?_)
                refine wp_of e282 c282_113 (rw_goto (p1 := 36) (by decide) ?_)
                exact wp_lc (ks := [3, 2, 0]) (wl_c rfl (wl_c rfl (wl_c rfl wl_n))) rfl (by decide) (ih9772 _ (by omega) (v9773 + 1) v9774 H9811 w9815 f9818 ⟨by omega, by omega⟩ ⟨by omega, by omega⟩ rfl)
        exact wp_lc (ks := [3, 2, 1, 0]) (wl_c rfl (wl_c rfl (wl_c rfl wl_n))) rfl (by decide) (lp9770 _ 0 0 H7807 w7811 wfr.rf ⟨by omega, by omega⟩ ⟨by omega, by omega⟩ rfl)
      · exfalso
        omega
    · have f10050 := f5506.tr f7812 rfl
      show wp _ _ 282 21 [(0, .ref r0)] [vI z7813] _ H7807 _
      refine wp_of e282 c282_21 (rw_istore_n (pc' := 22) (z := z7813) (L' := [(1, vI z7813), (0, .ref r0)]) rfl rfl rfl ?_)
      refine wp_of e282 c282_22 (rw_iload_n (pc' := 23) (z := z7813) rfl rfl ?_)
      refine wp_of e282 c282_23 (rw_if_le (p1 := 32) (p2 := 26) (by decide) rfl ⟨by omega, by omega⟩ (fun c10051 => ?_) (fun c10051 => ?_))
      · exfalso
        omega
      · refine wp_of e282 c282_26 (rw_aload_n (pc' := 27) (v := .ref r0) rfl rfl rfl ?_)
        refine wp_of e282 c282_27 (rw_iload_n (pc' := 28) (z := z7813) rfl rfl ?_)
        refine wp_of e282 c282_28 (xc_V (pc' := 31) (r := r0) (as := [vI z7813]) (st := []) (lm_9_54) rfl rfl (Nat.le_of_ble_eq_true rfl) w7811 g0 sh_42 (by decide) rfl (by decide) (s_170 w7811 g0 ⟨by omega, by omega⟩) (fun R10052 T10053 H10054 p10055 => ?_))
        obtain ⟨e10056, w10058, f10059, z10060, e10057, b10061⟩ := p10055
        subst e10056
        subst e10057
        have f10062 := f10050.tr f10059 rfl
        show wp _ _ 282 31 [(1, vI z7813), (0, .ref r0)] [vI z10060] _ H10054 _
        have k10063 : wKI H10054 r0 = wKI H7807 r0 := (wKI_fr w7811 g0 f10059 rfl)
        have h10064 : KNN T H10054 r0 e d := (KNN_fr w7811 g0 f10059 rfl a7831)
        exact wp_ireturn e282 c282_31 rfl ⟨rfl, w10058, f10062, z10060, rfl, ⟨by omega, by omega⟩, ⟨by omega, h10064⟩⟩
/-! StrikeAwakeModel.seek()I  -/
abbrev uq_288 (r0 : Nat) (e : xD) (d : xD) (T : wq_T) (H : wq_H) : Option Value → wq_T → wq_H → Prop := fun r T' H' => T = T' ∧ WT T H' ∧ wfr [(42, 0), (42, 1), (42, 2), (42, 28), (42, 29), (42, 32), (51, 999), (52, 999)] T H H' ∧ ∃ z : Int, some (vI z) = r ∧ ((-2147483648) ≤ z ∧ z ≤ 2147483647) ∧ (((wKI H' r0 = 1) ∧ KNN T H' r0 e d))
set_option maxHeartbeats 4000000 in
theorem u_288 {kt : Nat → Option mc_E} {T : wq_T} {H : wq_H} {r0 : Nat} {e : xD} {d : xD} (hW : WT T H) (g0 : T.2.2.2 r0 = some 42) (p0 : wKI H r0 = 1) (p1 : XW d) (p2 : ∀ h : Nat, d 0 0 ≤ (h : Int) → h < 24 → e 13 h = 0) (p3 : XN d) (p4 : ∀ h : Nat, h < 24 → 0 ≤ e 13 h ∧ e 13 h ≤ 100) (hRB_r0 : RB T H r0 e d) (hKNN_r0 : KNN T H r0 e d) : wpc kt 8 288 [.ref r0] T H (uq_288 r0 e d T H) := by
  refine wp_enter e288 (Nat.le_of_ble_eq_true rfl) rfl ?_
  have f0 : wfr [(42, 0), (42, 1), (42, 2), (42, 28), (42, 29), (42, 32), (51, 999), (52, 999)] T H H := wfr.rf
  show wp _ _ 288 0 [(0, .ref r0)] [] _ H _
  have _b := RB_b hW hRB_r0
  have _nu := RB_n3 hRB_r0
  have _lm := RB_lm hRB_r0
  refine wp_of e288 c288_0 (rw_aload_n (pc' := 1) (v := .ref r0) rfl rfl rfl ?_)
  refine wp_of e288 c288_1 (rw_iconst (pc' := 2) rfl ?_)
  refine wp_of e288 c288_2 (xp_I (pc' := 5) lf_9_48 hW g0 sh_42 (by decide) (by decide) ty_42_0 rfl rfl (by omega) (by omega) ⟨by omega, by omega⟩ rfl (fun H1364 e1365 w1366 => ?_))
  have f1367 := f0.put' e1365 g0 rfl
  have k1368 : H1364 r0 0 = 0 := wq_u_s e1365
  refine wp_of e288 c288_5 (rw_aload_n (pc' := 6) (v := .ref r0) rfl rfl rfl ?_)
  refine wp_of e288 c288_6 (rw_aload_n (pc' := 7) (v := .ref r0) rfl rfl rfl ?_)
  have k1369 : H1364 r0 3 = H r0 3 := (wq_u_j e1365 rfl)
  refine wp_of e288 c288_7 (xg_O (pc' := 10) lf_9_337 w1366 g0 sh_42 (by decide) (by decide) ty_42_3 rfl rfl (fun q1371 => ?_) (fun r1370 q1371 g1372 => ?_))
  · refine wp_of e288 c288_10 (rw_ifnull_n (p1 := 17) (p2 := 13) (by decide) rfl ?_)
    refine wp_of e288 c288_17 (rw_iconst (pc' := 18) rfl ?_)
    have k1373 : wKI H1364 r0 = wKI H r0 := (wKI_fr hW g0 ((wfr.rf (l := [(42, 0)])).put' e1365 g0 rfl) rfl)
    have h1374 : RB T H1364 r0 e d := (RB_fr hW g0 ((wfr.rf (l := [(42, 0)])).put' e1365 g0 rfl) rfl hRB_r0)
    have h1375 : KNN T H1364 r0 e d := (KNN_fr hW g0 ((wfr.rf (l := [(42, 0)])).put' e1365 g0 rfl) rfl hKNN_r0)
    refine wp_of e288 c288_18 (xc_V (pc' := 21) (r := r0) (as := [vI 0]) (st := []) (lm_9_433) rfl rfl (Nat.le_of_ble_eq_true rfl) w1366 g0 sh_42 (by decide) rfl (by decide) (u_241 (e := e) (d := d) w1366 g0 ⟨by omega, by omega⟩ (by omega) (by omega) (by assumption) (by assumption) (by assumption) (by assumption) h1374 h1375) (fun R1376 T1377 H1378 p1379 => ?_))
    obtain ⟨e1380, w1382, f1383, z1384, e1381, b1385, p1386⟩ := p1379
    subst e1380
    subst e1381
    rcases p1386 with ⟨a1387, a1388, a1389, a1390, a1391, a1392, a1393, a1394, a1395⟩ | ⟨a1396, a1397, a1398, a1399, a1400, a1401, a1402⟩
    · have f1403 := f1367.tr f1383 rfl
      show wp _ _ 288 21 [(0, .ref r0)] [vI z1384] _ H1378 _
      refine wp_of e288 c288_21 (rw_istore_n (pc' := 22) (z := z1384) (L' := [(1, vI z1384), (0, .ref r0)]) rfl rfl rfl ?_)
      refine wp_of e288 c288_22 (rw_iload_n (pc' := 23) (z := z1384) rfl rfl ?_)
      refine wp_of e288 c288_23 (rw_if_le (p1 := 32) (p2 := 26) (by decide) rfl ⟨by omega, by omega⟩ (fun c1404 => ?_) (fun c1404 => ?_))
      · refine wp_of e288 c288_32 (rw_iconst (pc' := 33) rfl ?_)
        refine wp_of e288 c288_33 (rw_istore_n (pc' := 34) (z := 0) (L' := [(2, vI 0), (1, vI z1384), (0, .ref r0)]) rfl rfl rfl ?_)
        have lp1493 : ∀ (n1494 : Nat) (v1496 : Int), (0 ≤ v1496 ∧ v1496 ≤ 20000) → (20000 - v1496).toNat = n1494 → wp kt 7 288 34 [(2, vI v1496), (0, .ref r0)] [] T H1378 (uq_288 r0 e d T H) := by
          intro n1494
          induction n1494 using Nat.strongRecOn with
          | _ n1494 ih1495 =>
            intro v1496 b1499 m1500
            refine wp_of e288 c288_34 (rw_iload_n (pc' := 35) (z := v1496) rfl rfl ?_)
            refine wp_of e288 c288_35 (rw_aload_n (pc' := 36) (v := .ref r0) rfl rfl rfl ?_)
            refine wp_of e288 c288_36 (xg_I (pc' := 39) lf_9_422 w1382 g0 sh_42 (by decide) (by decide) ty_42_29 rfl rfl (fun b1501 b1502 => ?_))
            refine wp_of e288 c288_39 (rw_icmp_ge (p1 := 87) (p2 := 42) (by decide) rfl ⟨by omega, by omega⟩ ⟨by omega, by omega⟩ (fun c1503 => ?_) (fun c1503 => ?_))
            · refine wp_of e288 c288_87 (rw_aload_n (pc' := 88) (v := .ref r0) rfl rfl rfl ?_)
              refine wp_of e288 c288_88 (rw_bipush (pc' := 90) (z := 6) rfl (by decide) ?_)
              refine wp_of e288 c288_90 (xc_V (pc' := 93) (r := r0) (as := [vI 6]) (st := []) (lm_9_54) rfl rfl (Nat.le_of_ble_eq_true rfl) w1382 g0 sh_42 (by decide) rfl (by decide) (s_170 w1382 g0 ⟨by omega, by omega⟩) (fun R1504 T1505 H1506 p1507 => ?_))
              obtain ⟨e1508, w1510, f1511, z1512, e1509, b1513⟩ := p1507
              subst e1508
              subst e1509
              have f1514 := f1403.tr f1511 rfl
              show wp _ _ 288 93 [(2, vI v1496), (0, .ref r0)] [vI z1512] _ H1506 _
              have k1515 : wKI H1506 r0 = wKI H1378 r0 := (wKI_fr w1382 g0 f1511 rfl)
              have h1516 : KNN T H1506 r0 e d := (KNN_fr w1382 g0 f1511 rfl a1394)
              exact wp_ireturn e288 c288_93 rfl ⟨rfl, w1510, f1514, z1512, rfl, ⟨by omega, by omega⟩, ⟨by omega, h1516⟩⟩
            · refine wp_of e288 c288_42 (rw_aload_n (pc' := 43) (v := .ref r0) rfl rfl rfl ?_)
              refine wp_of e288 c288_43 (xg_R (pc' := 46) lf_9_42 w1382 g0 sh_42 (by decide) (by decide) ty_42_30 rfl rfl (fun r1517 q1518 g1519 => ?_))
              refine wp_of e288 c288_46 (rw_iload_n (pc' := 47) (z := v1496) rfl rfl ?_)
              refine wp_of e288 c288_47 (xa_I (so := 0) (pc' := 48) w1382 g1519 sh_52 (by decide) (ty_52 _) (by omega) (by omega) rfl (fun b1520 b1521 => ?_))
              refine wp_of e288 c288_48 (rw_aload_n (pc' := 49) (v := .ref r0) rfl rfl rfl ?_)
              refine wp_of e288 c288_49 (xg_I (pc' := 52) lf_9_340 w1382 g0 sh_42 (by decide) (by decide) ty_42_32 rfl rfl (fun b1522 b1523 => ?_))
              refine wp_of e288 c288_52 (rw_icmp_ge (p1 := 58) (p2 := 55) (by decide) rfl ⟨by omega, by omega⟩ ⟨by omega, by omega⟩ (fun c1524 => ?_) (fun c1524 => ?_))
              · refine wp_of e288 c288_58 (rw_aload_n (pc' := 59) (v := .ref r0) rfl rfl rfl ?_)
                refine wp_of e288 c288_59 (rw_aload_n (pc' := 60) (v := .ref r0) rfl rfl rfl ?_)
                refine wp_of e288 c288_60 (xg_K (pc' := 63) lf_9_42 w1382 g0 sh_42 (by decide) (by decide) rfl q1518 rfl ?_)
                refine wp_of e288 c288_63 (rw_iload_n (pc' := 64) (z := v1496) rfl rfl ?_)
                refine wp_of e288 c288_64 (xa_I (so := 0) (pc' := 65) w1382 g1519 sh_52 (by decide) (ty_52 _) (by omega) (by omega) rfl (fun b1525 b1526 => ?_))
                refine wp_of e288 c288_65 (rw_iconst (pc' := 66) rfl ?_)
                refine wp_of e288 c288_66 (rw_iadd (pc' := 67) rfl ?_)
                refine wp_of e288 c288_67 (xp_I (pc' := 70) lf_9_340 w1382 g0 sh_42 (by decide) (by decide) ty_42_32 rfl rfl (by omega) (by omega) ⟨by omega, by omega⟩ rfl (fun H1527 e1528 w1529 => ?_))
                have f1530 := f1403.put' e1528 g0 rfl
                have k1531 : H1527 r0 32 = (H1378 r1517 (v1496.toNat)) + 1 := wq_u_s e1528
                refine wp_of e288 c288_70 (rw_aload_n (pc' := 71) (v := .ref r0) rfl rfl rfl ?_)
                refine wp_of e288 c288_71 (rw_aload_n (pc' := 72) (v := .ref r0) rfl rfl rfl ?_)
                have k1532 : H1527 r0 30 = H1378 r0 30 := (wq_u_j e1528 rfl)
                have q1533 : H1527 r0 30 = (r1517 : Int) := k1532.trans q1518
                refine wp_of e288 c288_72 (xg_K (pc' := 75) lf_9_42 w1529 g0 sh_42 (by decide) (by decide) rfl q1533 rfl ?_)
                refine wp_of e288 c288_75 (rw_iload_n (pc' := 76) (z := v1496) rfl rfl ?_)
                have k1534 : H1527 r1517 (v1496.toNat) = H1378 r1517 (v1496.toNat) := (wq_u_t e1528 g0 g1519 rfl (v1496.toNat))
                refine wp_of e288 c288_76 (xa_I (so := 0) (pc' := 77) w1529 g1519 sh_52 (by decide) (ty_52 _) (by omega) (by omega) rfl (fun b1535 b1536 => ?_))
                refine wp_of e288 c288_77 (xc_V (pc' := 80) (r := r0) (as := [vI (H1527 r1517 (v1496.toNat))]) (st := []) (lm_9_58) rfl rfl (Nat.le_of_ble_eq_true rfl) w1529 g0 sh_42 (by decide) rfl (by decide) (s_209 w1529 g0 ⟨by omega, by omega⟩) (fun R1537 T1538 H1539 p1540 => ?_))
                obtain ⟨e1541, w1543, f1544, z1545, e1542, b1546⟩ := p1540
                subst e1541
                subst e1542
                have f1547 := f1530.tr f1544 rfl
                show wp _ _ 288 80 [(2, vI v1496), (0, .ref r0)] [vI z1545] _ H1539 _
                have k1548 : wKI H1539 r0 = wKI H1378 r0 := ((wKI_fr w1529 g0 f1544 rfl).trans (wKI_fr w1382 g0 ((wfr.rf (l := [(42, 32)])).put' e1528 g0 rfl) rfl))
                have h1549 : KNN T H1539 r0 e d := (KNN_fr w1529 g0 f1544 rfl (KNN_fr w1382 g0 ((wfr.rf (l := [(42, 32)])).put' e1528 g0 rfl) rfl a1394))
                exact wp_ireturn e288 c288_80 rfl ⟨rfl, w1543, f1547, z1545, rfl, ⟨by omega, by omega⟩, ⟨by omega, h1549⟩⟩
              · refine wp_of e288 c288_55 (rw_goto (p1 := 81) (by decide) ?_)
                refine wp_of e288 c288_81 (rw_iinc (pc' := 84) (z := v1496) (L' := [(2, vI (v1496 + 1)), (0, .ref r0)]) rfl rfl rfl rfl ?_)
                refine wp_of e288 c288_84 (rw_goto (p1 := 34) (by decide) ?_)
                exact wp_lc (ks := [2, 0]) (wl_c rfl (wl_c rfl wl_n)) rfl (by decide) (ih1495 _ (by omega) (v1496 + 1) ⟨by omega, by omega⟩ rfl)
        exact wp_lc (ks := [2, 1, 0]) (wl_c rfl (wl_c rfl wl_n)) rfl (by decide) (lp1493 _ 0 ⟨by omega, by omega⟩ rfl)
      · exfalso
        omega
    · have f1550 := f1367.tr f1383 rfl
      show wp _ _ 288 21 [(0, .ref r0)] [vI z1384] _ H1378 _
      refine wp_of e288 c288_21 (rw_istore_n (pc' := 22) (z := z1384) (L' := [(1, vI z1384), (0, .ref r0)]) rfl rfl rfl ?_)
      refine wp_of e288 c288_22 (rw_iload_n (pc' := 23) (z := z1384) rfl rfl ?_)
      refine wp_of e288 c288_23 (rw_if_le (p1 := 32) (p2 := 26) (by decide) rfl ⟨by omega, by omega⟩ (fun c1551 => ?_) (fun c1551 => ?_))
      · exfalso
        omega
      · refine wp_of e288 c288_26 (rw_aload_n (pc' := 27) (v := .ref r0) rfl rfl rfl ?_)
        refine wp_of e288 c288_27 (rw_iload_n (pc' := 28) (z := z1384) rfl rfl ?_)
        refine wp_of e288 c288_28 (xc_V (pc' := 31) (r := r0) (as := [vI z1384]) (st := []) (lm_9_54) rfl rfl (Nat.le_of_ble_eq_true rfl) w1382 g0 sh_42 (by decide) rfl (by decide) (s_170 w1382 g0 ⟨by omega, by omega⟩) (fun R1552 T1553 H1554 p1555 => ?_))
        obtain ⟨e1556, w1558, f1559, z1560, e1557, b1561⟩ := p1555
        subst e1556
        subst e1557
        have f1562 := f1550.tr f1559 rfl
        show wp _ _ 288 31 [(1, vI z1384), (0, .ref r0)] [vI z1560] _ H1554 _
        have k1563 : wKI H1554 r0 = wKI H1378 r0 := (wKI_fr w1382 g0 f1559 rfl)
        have h1564 : KNN T H1554 r0 e d := (KNN_fr w1382 g0 f1559 rfl a1402)
        exact wp_ireturn e288 c288_31 rfl ⟨rfl, w1558, f1562, z1560, rfl, ⟨by omega, by omega⟩, ⟨by omega, h1564⟩⟩
  · refine wp_of e288 c288_10 (rw_ifnull_r (p1 := 17) (p2 := 13) (by decide) rfl ?_)
    refine wp_of e288 c288_13 (rw_iconst (pc' := 14) rfl ?_)
    refine wp_of e288 c288_14 (rw_goto (p1 := 18) (by decide) ?_)
    have k1565 : wKI H1364 r0 = wKI H r0 := (wKI_fr hW g0 ((wfr.rf (l := [(42, 0)])).put' e1365 g0 rfl) rfl)
    have h1566 : RB T H1364 r0 e d := (RB_fr hW g0 ((wfr.rf (l := [(42, 0)])).put' e1365 g0 rfl) rfl hRB_r0)
    have h1567 : KNN T H1364 r0 e d := (KNN_fr hW g0 ((wfr.rf (l := [(42, 0)])).put' e1365 g0 rfl) rfl hKNN_r0)
    refine wp_of e288 c288_18 (xc_V (pc' := 21) (r := r0) (as := [vI 1]) (st := []) (lm_9_433) rfl rfl (Nat.le_of_ble_eq_true rfl) w1366 g0 sh_42 (by decide) rfl (by decide) (u_241 (e := e) (d := d) w1366 g0 ⟨by omega, by omega⟩ (by omega) (by omega) (by assumption) (by assumption) (by assumption) (by assumption) h1566 h1567) (fun R1568 T1569 H1570 p1571 => ?_))
    obtain ⟨e1572, w1574, f1575, z1576, e1573, b1577, p1578⟩ := p1571
    subst e1572
    subst e1573
    rcases p1578 with ⟨a1579, a1580, a1581, a1582, a1583, a1584, a1585, a1586, a1587⟩ | ⟨a1588, a1589, a1590, a1591, a1592, a1593, a1594⟩
    · have f1595 := f1367.tr f1575 rfl
      show wp _ _ 288 21 [(0, .ref r0)] [vI z1576] _ H1570 _
      refine wp_of e288 c288_21 (rw_istore_n (pc' := 22) (z := z1576) (L' := [(1, vI z1576), (0, .ref r0)]) rfl rfl rfl ?_)
      refine wp_of e288 c288_22 (rw_iload_n (pc' := 23) (z := z1576) rfl rfl ?_)
      refine wp_of e288 c288_23 (rw_if_le (p1 := 32) (p2 := 26) (by decide) rfl ⟨by omega, by omega⟩ (fun c1596 => ?_) (fun c1596 => ?_))
      · refine wp_of e288 c288_32 (rw_iconst (pc' := 33) rfl ?_)
        refine wp_of e288 c288_33 (rw_istore_n (pc' := 34) (z := 0) (L' := [(2, vI 0), (1, vI z1576), (0, .ref r0)]) rfl rfl rfl ?_)
        have lp1685 : ∀ (n1686 : Nat) (v1688 : Int), (0 ≤ v1688 ∧ v1688 ≤ 20000) → (20000 - v1688).toNat = n1686 → wp kt 7 288 34 [(2, vI v1688), (0, .ref r0)] [] T H1570 (uq_288 r0 e d T H) := by
          intro n1686
          induction n1686 using Nat.strongRecOn with
          | _ n1686 ih1687 =>
            intro v1688 b1691 m1692
            refine wp_of e288 c288_34 (rw_iload_n (pc' := 35) (z := v1688) rfl rfl ?_)
            refine wp_of e288 c288_35 (rw_aload_n (pc' := 36) (v := .ref r0) rfl rfl rfl ?_)
            refine wp_of e288 c288_36 (xg_I (pc' := 39) lf_9_422 w1574 g0 sh_42 (by decide) (by decide) ty_42_29 rfl rfl (fun b1693 b1694 => ?_))
            refine wp_of e288 c288_39 (rw_icmp_ge (p1 := 87) (p2 := 42) (by decide) rfl ⟨by omega, by omega⟩ ⟨by omega, by omega⟩ (fun c1695 => ?_) (fun c1695 => ?_))
            · refine wp_of e288 c288_87 (rw_aload_n (pc' := 88) (v := .ref r0) rfl rfl rfl ?_)
              refine wp_of e288 c288_88 (rw_bipush (pc' := 90) (z := 6) rfl (by decide) ?_)
              refine wp_of e288 c288_90 (xc_V (pc' := 93) (r := r0) (as := [vI 6]) (st := []) (lm_9_54) rfl rfl (Nat.le_of_ble_eq_true rfl) w1574 g0 sh_42 (by decide) rfl (by decide) (s_170 w1574 g0 ⟨by omega, by omega⟩) (fun R1696 T1697 H1698 p1699 => ?_))
              obtain ⟨e1700, w1702, f1703, z1704, e1701, b1705⟩ := p1699
              subst e1700
              subst e1701
              have f1706 := f1595.tr f1703 rfl
              show wp _ _ 288 93 [(2, vI v1688), (0, .ref r0)] [vI z1704] _ H1698 _
              have k1707 : wKI H1698 r0 = wKI H1570 r0 := (wKI_fr w1574 g0 f1703 rfl)
              have h1708 : KNN T H1698 r0 e d := (KNN_fr w1574 g0 f1703 rfl a1586)
              exact wp_ireturn e288 c288_93 rfl ⟨rfl, w1702, f1706, z1704, rfl, ⟨by omega, by omega⟩, ⟨by omega, h1708⟩⟩
            · refine wp_of e288 c288_42 (rw_aload_n (pc' := 43) (v := .ref r0) rfl rfl rfl ?_)
              refine wp_of e288 c288_43 (xg_R (pc' := 46) lf_9_42 w1574 g0 sh_42 (by decide) (by decide) ty_42_30 rfl rfl (fun r1709 q1710 g1711 => ?_))
              refine wp_of e288 c288_46 (rw_iload_n (pc' := 47) (z := v1688) rfl rfl ?_)
              refine wp_of e288 c288_47 (xa_I (so := 0) (pc' := 48) w1574 g1711 sh_52 (by decide) (ty_52 _) (by omega) (by omega) rfl (fun b1712 b1713 => ?_))
              refine wp_of e288 c288_48 (rw_aload_n (pc' := 49) (v := .ref r0) rfl rfl rfl ?_)
              refine wp_of e288 c288_49 (xg_I (pc' := 52) lf_9_340 w1574 g0 sh_42 (by decide) (by decide) ty_42_32 rfl rfl (fun b1714 b1715 => ?_))
              refine wp_of e288 c288_52 (rw_icmp_ge (p1 := 58) (p2 := 55) (by decide) rfl ⟨by omega, by omega⟩ ⟨by omega, by omega⟩ (fun c1716 => ?_) (fun c1716 => ?_))
              · refine wp_of e288 c288_58 (rw_aload_n (pc' := 59) (v := .ref r0) rfl rfl rfl ?_)
                refine wp_of e288 c288_59 (rw_aload_n (pc' := 60) (v := .ref r0) rfl rfl rfl ?_)
                refine wp_of e288 c288_60 (xg_K (pc' := 63) lf_9_42 w1574 g0 sh_42 (by decide) (by decide) rfl q1710 rfl ?_)
                refine wp_of e288 c288_63 (rw_iload_n (pc' := 64) (z := v1688) rfl rfl ?_)
                refine wp_of e288 c288_64 (xa_I (so := 0) (pc' := 65) w1574 g1711 sh_52 (by decide) (ty_52 _) (by omega) (by omega) rfl (fun b1717 b1718 => ?_))
                refine wp_of e288 c288_65 (rw_iconst (pc' := 66) rfl ?_)
                refine wp_of e288 c288_66 (rw_iadd (pc' := 67) rfl ?_)
                refine wp_of e288 c288_67 (xp_I (pc' := 70) lf_9_340 w1574 g0 sh_42 (by decide) (by decide) ty_42_32 rfl rfl (by omega) (by omega) ⟨by omega, by omega⟩ rfl (fun H1719 e1720 w1721 => ?_))
                have f1722 := f1595.put' e1720 g0 rfl
                have k1723 : H1719 r0 32 = (H1570 r1709 (v1688.toNat)) + 1 := wq_u_s e1720
                refine wp_of e288 c288_70 (rw_aload_n (pc' := 71) (v := .ref r0) rfl rfl rfl ?_)
                refine wp_of e288 c288_71 (rw_aload_n (pc' := 72) (v := .ref r0) rfl rfl rfl ?_)
                have k1724 : H1719 r0 30 = H1570 r0 30 := (wq_u_j e1720 rfl)
                have q1725 : H1719 r0 30 = (r1709 : Int) := k1724.trans q1710
                refine wp_of e288 c288_72 (xg_K (pc' := 75) lf_9_42 w1721 g0 sh_42 (by decide) (by decide) rfl q1725 rfl ?_)
                refine wp_of e288 c288_75 (rw_iload_n (pc' := 76) (z := v1688) rfl rfl ?_)
                have k1726 : H1719 r1709 (v1688.toNat) = H1570 r1709 (v1688.toNat) := (wq_u_t e1720 g0 g1711 rfl (v1688.toNat))
                refine wp_of e288 c288_76 (xa_I (so := 0) (pc' := 77) w1721 g1711 sh_52 (by decide) (ty_52 _) (by omega) (by omega) rfl (fun b1727 b1728 => ?_))
                refine wp_of e288 c288_77 (xc_V (pc' := 80) (r := r0) (as := [vI (H1719 r1709 (v1688.toNat))]) (st := []) (lm_9_58) rfl rfl (Nat.le_of_ble_eq_true rfl) w1721 g0 sh_42 (by decide) rfl (by decide) (s_209 w1721 g0 ⟨by omega, by omega⟩) (fun R1729 T1730 H1731 p1732 => ?_))
                obtain ⟨e1733, w1735, f1736, z1737, e1734, b1738⟩ := p1732
                subst e1733
                subst e1734
                have f1739 := f1722.tr f1736 rfl
                show wp _ _ 288 80 [(2, vI v1688), (0, .ref r0)] [vI z1737] _ H1731 _
                have k1740 : wKI H1731 r0 = wKI H1570 r0 := ((wKI_fr w1721 g0 f1736 rfl).trans (wKI_fr w1574 g0 ((wfr.rf (l := [(42, 32)])).put' e1720 g0 rfl) rfl))
                have h1741 : KNN T H1731 r0 e d := (KNN_fr w1721 g0 f1736 rfl (KNN_fr w1574 g0 ((wfr.rf (l := [(42, 32)])).put' e1720 g0 rfl) rfl a1586))
                exact wp_ireturn e288 c288_80 rfl ⟨rfl, w1735, f1739, z1737, rfl, ⟨by omega, by omega⟩, ⟨by omega, h1741⟩⟩
              · refine wp_of e288 c288_55 (rw_goto (p1 := 81) (by decide) ?_)
                refine wp_of e288 c288_81 (rw_iinc (pc' := 84) (z := v1688) (L' := [(2, vI (v1688 + 1)), (0, .ref r0)]) rfl rfl rfl rfl ?_)
                refine wp_of e288 c288_84 (rw_goto (p1 := 34) (by decide) ?_)
                exact wp_lc (ks := [2, 0]) (wl_c rfl (wl_c rfl wl_n)) rfl (by decide) (ih1687 _ (by omega) (v1688 + 1) ⟨by omega, by omega⟩ rfl)
        exact wp_lc (ks := [2, 1, 0]) (wl_c rfl (wl_c rfl wl_n)) rfl (by decide) (lp1685 _ 0 ⟨by omega, by omega⟩ rfl)
      · exfalso
        omega
    · have f1742 := f1367.tr f1575 rfl
      show wp _ _ 288 21 [(0, .ref r0)] [vI z1576] _ H1570 _
      refine wp_of e288 c288_21 (rw_istore_n (pc' := 22) (z := z1576) (L' := [(1, vI z1576), (0, .ref r0)]) rfl rfl rfl ?_)
      refine wp_of e288 c288_22 (rw_iload_n (pc' := 23) (z := z1576) rfl rfl ?_)
      refine wp_of e288 c288_23 (rw_if_le (p1 := 32) (p2 := 26) (by decide) rfl ⟨by omega, by omega⟩ (fun c1743 => ?_) (fun c1743 => ?_))
      · exfalso
        omega
      · refine wp_of e288 c288_26 (rw_aload_n (pc' := 27) (v := .ref r0) rfl rfl rfl ?_)
        refine wp_of e288 c288_27 (rw_iload_n (pc' := 28) (z := z1576) rfl rfl ?_)
        refine wp_of e288 c288_28 (xc_V (pc' := 31) (r := r0) (as := [vI z1576]) (st := []) (lm_9_54) rfl rfl (Nat.le_of_ble_eq_true rfl) w1574 g0 sh_42 (by decide) rfl (by decide) (s_170 w1574 g0 ⟨by omega, by omega⟩) (fun R1744 T1745 H1746 p1747 => ?_))
        obtain ⟨e1748, w1750, f1751, z1752, e1749, b1753⟩ := p1747
        subst e1748
        subst e1749
        have f1754 := f1742.tr f1751 rfl
        show wp _ _ 288 31 [(1, vI z1576), (0, .ref r0)] [vI z1752] _ H1746 _
        have k1755 : wKI H1746 r0 = wKI H1570 r0 := (wKI_fr w1574 g0 f1751 rfl)
        have h1756 : KNN T H1746 r0 e d := (KNN_fr w1574 g0 f1751 rfl a1594)
        exact wp_ireturn e288 c288_31 rfl ⟨rfl, w1750, f1754, z1752, rfl, ⟨by omega, by omega⟩, ⟨by omega, h1756⟩⟩
