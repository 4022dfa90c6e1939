/-! what methods do (own work, written by wip/gen3/sx3.py) -/
/-! StrikeAwake$Reader.readsCustoms(LStrikeAwake$Parish;)Z  -/
abbrev uq_30 (r0 : Nat) (r1 : Nat) (tk : Nat) (rb : Nat) (B : Nat → Int) (n : Int) (q : Int) (d : xD) (y : Int) (T : wq_T) (H : wq_H) : Option Value → wq_T → wq_H → Prop := fun r T' H' => T = T' ∧ WT T H' ∧ wfr [(27, 10), (35, 11), (35, 12), (35, 13), (3, 1), (3, 2), (3, 3), (3, 4), (4, 2), (4, 3), (4, 4), (4, 5), (4, 6)] T H H' ∧ ∃ z : Int, some (vI z) = r ∧ (0 ≤ z ∧ z ≤ 1) ∧ (((z = 1) ∧ ((xcs B n q).1 = 0) ∧ (q ≤ (xcs B n q).2.2) ∧ (H' r0 3 = H r0 3) ∧ TC T H' tk B n (xcs B n q).2.2 ∧ DC T H' r1 (xdper B n y d)) ∨ ((z = 0) ∧ ((xcs B n q).1 ≠ 0) ∧ ((xcs B n q).2.2 = (xcs B n q).2.1) ∧ (H' r0 3 = (xcs B n q).1) ∧ (H' r0 4 = (xcs B n q).2.1)))
set_option maxHeartbeats 4000000 in
theorem u_30 {kt : Nat → Option mc_E} {T : wq_T} {H : wq_H} {r0 : Nat} {r1 : Nat} {tk : Nat} {rb : Nat} {B : Nat → Int} {n : Int} {q : Int} {d : xD} {y : Int} (hW : WT T H) (g0 : T.2.2.2 r0 = some 3) (g1 : T.2.2.2 r1 = some 27) (qtk : H r0 0 = (tk : Int)) (gtk : T.2.2.2 tk = some 4) (qrb : H tk 0 = (rb : Int)) (grb : T.2.2.2 rb = some 2) (p0 : d 0 3 ≤ 5) (p1 : q = (xN B n (xN B n (xN B n (xN B n (xN B n (xN B n (xN B n (xN B n (xN B n y)))))))))) (hTC_tk : TC T H tk B n q) (hDC_r1 : DC T H r1 d) (hDD_r1 : DD T H r1 ) (hPK_r1 : PK T H r1 B n y d) : wpc kt 4 30 [.ref r0, .ref r1] T H (uq_30 r0 r1 tk rb B n q d y T H) := by
  refine wp_enter e30 (Nat.le_of_ble_eq_true rfl) rfl ?_
  have f0 : wfr [(27, 10), (35, 11), (35, 12), (35, 13), (3, 1), (3, 2), (3, 3), (3, 4), (4, 2), (4, 3), (4, 4), (4, 5), (4, 6)] T H H := wfr.rf
  show wp _ _ 30 0 [(0, .ref r0), (1, .ref r1)] [] _ H _
  have u1523 := TC_k hTC_tk
  have u1524 := DC_k hDC_r1
  have h1525 : ST T H r1 (d 13) := hDC_r1.2.2.1
  have h1526 : SV T H r1 (d 13) 24 := hDC_r1.2.2.2.1
  have h1527 : DA3 T H r1 (d 0 5) (d 12) := hDC_r1.2.2.2.2.1
  have h1528 : DA4 T H r1 (d 0 6) (d 14) := hDC_r1.2.2.2.2.2.1
  have h1529 : DA5 T H r1 (d 0 6) (d 15) := hDC_r1.2.2.2.2.2.2.1
  have h1530 : DA6 T H r1 (d 0 7) (d 16) := hDC_r1.2.2.2.2.2.2.2
  have _z : xhs 0 0 = 0 := by decide
  have _l0 := p1
  refine wp_of e30 c30_0 (rw_aload_n (pc' := 1) (v := .ref r1) rfl rfl rfl ?_)
  refine wp_of e30 c30_1 (xg_R (pc' := 4) lf_1_143 hW g1 sh_27 (by decide) (by decide) ty_27_0 rfl rfl (fun r1531 q1532 g1533 => ?_))
  refine wp_of e30 c30_4 (rw_aload_n (pc' := 5) (v := .ref r1) rfl rfl rfl ?_)
  refine wp_of e30 c30_5 (xg_I (pc' := 8) lf_1_44 hW g1 sh_27 (by decide) (by decide) ty_27_10 rfl rfl (fun b1534 b1535 => ?_))
  refine wp_of e30 c30_8 (xa_R (pc' := 9) (by decide) hW g1533 sh_28 (by decide) (ty_28 _) (by omega) (by omega) rfl (fun r1536 q1537 g1538 => ?_))
  refine wp_of e30 c30_9 (rw_astore_n (pc' := 10) (v := .ref r1536) (L' := [(2, .ref r1536), (0, .ref r0), (1, .ref r1)]) rfl rfl rfl rfl ?_)
  have _p := PK_k hPK_r1 q1532 q1537 (by omega)
  refine wp_of e30 c30_10 (rw_aload_n (pc' := 11) (v := .ref r0) rfl rfl rfl ?_)
  refine wp_of e30 c30_11 (xg_K (pc' := 14) lf_1_12 hW g0 sh_3 (by decide) (by decide) rfl qtk rfl ?_)
  refine wp_of e30 c30_14 (rw_gs (pc' := 17) (k := 24) rfl rfl rfl rfl ?_)
  have k1539 : H 24 0 = ((40 : Nat) : Int) := (hW.2 24 _ (hW.1.2.2 8 (by decide))).2.2 0 (by decide) |> fun z => by have z1 : (40 : Int) ≤ H 24 0 ∧ H 24 0 ≤ 40 := z; omega
  refine wp_of e30 c30_17 (rw_getR (pc' := 20) (n := 2) (b := 40) (e := _) (lf_1_181).choose_spec.1 (lf_1_181).choose_spec.2.1 (hW.sh (hW.1.2.2 8 (by decide)) rfl) (by decide) rfl k1539 rfl ?_)
  refine wp_of e30 c30_20 (xc_V (pc' := 23) (r := tk) (as := [.ref 40]) (st := []) (lm_1_185) rfl rfl (Nat.le_of_ble_eq_true rfl) hW gtk sh_4 (by decide) rfl (by decide) (u_19_t (B := B) (n := n) (q := q) (kk := 8423732) hW gtk rfl (by decide +kernel) hTC_tk) (fun R1540 T1541 H1542 p1543 => ?_))
  obtain ⟨e1544, e1546, z1547, e1545, b1548, p1549⟩ := p1543
  subst e1544
  subst e1545
  subst e1546
  rcases p1549 with ⟨a1550, a1551⟩ | ⟨a1552, a1553⟩
  · show wp _ _ 30 23 [(2, .ref r1536), (0, .ref r0), (1, .ref r1)] [vI z1547] _ H _
    refine wp_of e30 c30_23 (rw_if_eq (p1 := 53) (p2 := 26) (by decide) rfl ⟨by omega, by omega⟩ (fun c1554 => ?_) (fun c1554 => ?_))
    · exfalso
      omega
    · refine wp_of e30 c30_26 (rw_aload_n (pc' := 27) (v := .ref r0) rfl rfl rfl ?_)
      refine wp_of e30 c30_27 (xg_K (pc' := 30) lf_1_12 hW g0 sh_3 (by decide) (by decide) rfl qtk rfl ?_)
      have h1555 : TP T H rb B := TC_tp hTC_tk qrb
      refine wp_of e30 c30_30 (xc_V (pc' := 33) (r := tk) (as := []) (st := []) (lm_1_74) rfl rfl (Nat.le_of_ble_eq_true rfl) hW gtk sh_4 (by decide) rfl (by decide) (u_16 (B := B) (n := n) (a := (xE B n q)) (q := (xN B n q)) hW gtk qrb grb (by omega) (by omega) (by omega) (rfl) h1555) (fun R1556 T1557 H1558 p1559 => ?_))
      obtain ⟨e1560, w1562, f1563, e1561, p1564⟩ := p1559
      subst e1560
      subst e1561
      have f1566 := f0.tr f1563 rfl
      show wp _ _ 30 33 [(2, .ref r1536), (0, .ref r0), (1, .ref r1)] [] _ H1558 _
      have u1567 := TC_k p1564
      refine wp_of e30 c30_33 (rw_aload_n (pc' := 34) (v := .ref r1536) rfl rfl rfl ?_)
      refine wp_of e30 c30_34 (rw_aload_n (pc' := 35) (v := .ref r0) rfl rfl rfl ?_)
      refine wp_of e30 c30_35 (rw_iconst (pc' := 36) rfl ?_)
      refine wp_of e30 c30_36 (rw_bipush (pc' := 38) (z := 23) rfl (by decide) ?_)
      have k1568 : H1558 r0 0 = H r0 0 := (f1563 r0 0 _ g0 rfl)
      have q1569 : H1558 r0 0 = (tk : Int) := k1568.trans qtk
      have k1570 : H1558 tk 0 = H tk 0 := (f1563 tk 0 _ gtk rfl)
      have q1571 : H1558 tk 0 = (rb : Int) := k1570.trans qrb
      have k1572 : H1558 r0 3 = H r0 3 := (f1563 r0 3 _ g0 rfl)
      refine wp_of e30 c30_38 (xc_V (pc' := 41) (r := r0) (as := [vI 0, vI 23]) (st := [.ref r1536]) (lm_1_119) rfl rfl (Nat.le_of_ble_eq_true rfl) w1562 g0 sh_3 (by decide) rfl (by decide) (u_24 (B := B) (n := n) (q := ((xN B n q))) (lo := 0) (hi := 23) w1562 g0 ⟨by omega, by omega⟩ ⟨by omega, by omega⟩ q1569 gtk q1571 grb (by omega) (by omega) p1564) (fun R1573 T1574 H1575 p1576 => ?_))
      obtain ⟨e1577, w1579, f1580, z1581, e1578, b1582, p1583⟩ := p1576
      subst e1577
      subst e1578
      rcases p1583 with ⟨a1584, a1585, a1586, a1587, a1588⟩ | ⟨a1589, a1590, a1591, a1592⟩
      · have f1593 := f1566.tr f1580 rfl
        show wp _ _ 30 41 [(2, .ref r1536), (0, .ref r0), (1, .ref r1)] [vI z1581, .ref r1536] _ H1575 _
        have u1594 := TC_k a1588
        refine wp_of e30 c30_41 (xp_I (pc' := 44) lf_1_188 w1579 g1538 sh_35 (by decide) (by decide) ty_35_11 rfl rfl (by omega) (by omega) ⟨by omega, by omega⟩ rfl (fun H1595 e1596 w1597 => ?_))
        have f1598 := f1593.put' e1596 g1538 rfl
        have k1599 : H1595 r1536 11 = z1581 := wq_u_s e1596
        refine wp_of e30 c30_44 (rw_aload_n (pc' := 45) (v := .ref r1536) rfl rfl rfl ?_)
        refine wp_of e30 c30_45 (xg_I (pc' := 48) lf_1_188 w1597 g1538 sh_35 (by decide) (by decide) ty_35_11 rfl rfl (fun b1600 b1601 => ?_))
        refine wp_of e30 c30_48 (rw_if_ge (p1 := 53) (p2 := 51) (by decide) rfl ⟨by omega, by omega⟩ (fun c1602 => ?_) (fun c1602 => ?_))
        · have _ea : xqa B n q = ((xN B n ((xN B n q)))) := by
            unfold xqa
            first | rw [if_pos (by omega)] | rw [if_neg (by omega)]
          have k1603 : H1595 r1536 6 = H r1536 6 := ((wq_u_j e1596 rfl).trans ((f1580 r1536 6 _ g1538 rfl).trans (f1563 r1536 6 _ g1538 rfl)))
          have k1604 : H1595 r1536 7 = H r1536 7 := ((wq_u_j e1596 rfl).trans ((f1580 r1536 7 _ g1538 rfl).trans (f1563 r1536 7 _ g1538 rfl)))
          have k1605 : H1595 r1536 8 = H r1536 8 := ((wq_u_j e1596 rfl).trans ((f1580 r1536 8 _ g1538 rfl).trans (f1563 r1536 8 _ g1538 rfl)))
          have k1606 : H1595 r1536 9 = H r1536 9 := ((wq_u_j e1596 rfl).trans ((f1580 r1536 9 _ g1538 rfl).trans (f1563 r1536 9 _ g1538 rfl)))
          have k1607 : H1595 r1536 10 = H r1536 10 := ((wq_u_j e1596 rfl).trans ((f1580 r1536 10 _ g1538 rfl).trans (f1563 r1536 10 _ g1538 rfl)))
          have k1608 : H1595 r1536 12 = H r1536 12 := ((wq_u_j e1596 rfl).trans ((f1580 r1536 12 _ g1538 rfl).trans (f1563 r1536 12 _ g1538 rfl)))
          have k1609 : H1595 r1536 13 = H r1536 13 := ((wq_u_j e1596 rfl).trans ((f1580 r1536 13 _ g1538 rfl).trans (f1563 r1536 13 _ g1538 rfl)))
          have k1610 : H1595 r1536 14 = H r1536 14 := ((wq_u_j e1596 rfl).trans ((f1580 r1536 14 _ g1538 rfl).trans (f1563 r1536 14 _ g1538 rfl)))
          have _eh : xhb B n q = H1595 r1536 11 := by
            unfold xhb
            first | (rw [if_pos (by omega)]; omega) | (rw [if_neg (by omega)]; omega)
          refine wp_of e30 c30_53 (rw_aload_n (pc' := 54) (v := .ref r0) rfl rfl rfl ?_)
          have k1611 : H1595 r0 0 = H1558 r0 0 := ((wq_u_t e1596 g1538 g0 rfl 0).trans (f1580 r0 0 _ g0 rfl))
          have q1612 : H1595 r0 0 = (tk : Int) := k1611.trans q1569
          refine wp_of e30 c30_54 (xg_K (pc' := 57) lf_1_12 w1597 g0 sh_3 (by decide) (by decide) rfl q1612 rfl ?_)
          refine wp_of e30 c30_57 (rw_gs (pc' := 60) (k := 25) rfl rfl rfl rfl ?_)
          have k1613 : H1595 25 0 = ((41 : Nat) : Int) := (w1597.2 25 _ (w1597.1.2.2 9 (by decide))).2.2 0 (by decide) |> fun z => by have z1 : (41 : Int) ≤ H1595 25 0 ∧ H1595 25 0 ≤ 41 := z; omega
          refine wp_of e30 c30_60 (rw_getR (pc' := 63) (n := 2) (b := 41) (e := _) (lf_1_181).choose_spec.1 (lf_1_181).choose_spec.2.1 (w1597.sh (w1597.1.2.2 9 (by decide)) rfl) (by decide) rfl k1613 rfl ?_)
          have h1614 : TC T H1595 tk B n (xN B n ((xN B n q))) := (TC_fr w1579 gtk ((wfr.rf (l := [(35, 11)])).put' e1596 g1538 rfl) rfl a1588)
          refine wp_of e30 c30_63 (xc_V (pc' := 66) (r := tk) (as := [.ref 41]) (st := []) (lm_1_185) rfl rfl (Nat.le_of_ble_eq_true rfl) w1597 gtk sh_4 (by decide) rfl (by decide) (u_19_t (B := B) (n := n) (q := ((xN B n ((xN B n q))))) (kk := 14384) w1597 gtk rfl (by decide +kernel) h1614) (fun R1615 T1616 H1617 p1618 => ?_))
          obtain ⟨e1619, e1621, z1622, e1620, b1623, p1624⟩ := p1618
          subst e1619
          subst e1620
          subst e1621
          rcases p1624 with ⟨a1625, a1626⟩ | ⟨a1627, a1628⟩
          · show wp _ _ 30 66 [(2, .ref r1536), (0, .ref r0), (1, .ref r1)] [vI z1622] _ H1595 _
            refine wp_of e30 c30_66 (rw_if_eq (p1 := 107) (p2 := 69) (by decide) rfl ⟨by omega, by omega⟩ (fun c1629 => ?_) (fun c1629 => ?_))
            · exfalso
              omega
            · refine wp_of e30 c30_69 (rw_aload_n (pc' := 70) (v := .ref r0) rfl rfl rfl ?_)
              refine wp_of e30 c30_70 (xg_K (pc' := 73) lf_1_12 w1597 g0 sh_3 (by decide) (by decide) rfl q1612 rfl ?_)
              have k1630 : H1595 tk 0 = H1558 tk 0 := ((wq_u_t e1596 g1538 gtk rfl 0).trans (f1580 tk 0 _ gtk rfl))
              have q1631 : H1595 tk 0 = (rb : Int) := k1630.trans q1571
              have k1632 : H1595 tk 1 = H1575 tk 1 := (wq_u_t e1596 g1538 gtk rfl 1)
              have k1633 : H1595 tk 2 = H1575 tk 2 := (wq_u_t e1596 g1538 gtk rfl 2)
              have h1634 : TP T H1595 rb B := (TP_fr w1579 grb ((wfr.rf (l := [(35, 11)])).put' e1596 g1538 rfl) rfl (TP_fr w1562 grb f1580 rfl (TP_fr hW grb f1563 rfl h1555)))
              refine wp_of e30 c30_73 (xc_V (pc' := 76) (r := tk) (as := []) (st := []) (lm_1_74) rfl rfl (Nat.le_of_ble_eq_true rfl) w1597 gtk sh_4 (by decide) rfl (by decide) (u_16 (B := B) (n := n) (a := (xE B n ((xN B n ((xN B n q)))))) (q := (xN B n ((xN B n ((xN B n q)))))) w1597 gtk q1631 grb (by omega) (by omega) (by omega) (rfl) h1634) (fun R1635 T1636 H1637 p1638 => ?_))
              obtain ⟨e1639, w1641, f1642, e1640, p1643⟩ := p1638
              subst e1639
              subst e1640
              have f1645 := f1598.tr f1642 rfl
              show wp _ _ 30 76 [(2, .ref r1536), (0, .ref r0), (1, .ref r1)] [] _ H1637 _
              have u1646 := TC_k p1643
              refine wp_of e30 c30_76 (rw_aload_n (pc' := 77) (v := .ref r0) rfl rfl rfl ?_)
              refine wp_of e30 c30_77 (rw_bipush (pc' := 79) (z := 23) rfl (by decide) ?_)
              refine wp_of e30 c30_79 (rw_iconst (pc' := 80) rfl ?_)
              refine wp_of e30 c30_80 (rw_bipush (pc' := 82) (z := 24) rfl (by decide) ?_)
              refine wp_of e30 c30_82 (rw_bipush (pc' := 84) (z := 24) rfl (by decide) ?_)
              have k1647 : H1637 r0 0 = H1595 r0 0 := (f1642 r0 0 _ g0 rfl)
              have q1648 : H1637 r0 0 = (tk : Int) := k1647.trans q1612
              have k1649 : H1637 tk 0 = H1595 tk 0 := (f1642 tk 0 _ gtk rfl)
              have q1650 : H1637 tk 0 = (rb : Int) := k1649.trans q1631
              have k1651 : H1637 r0 3 = H1575 r0 3 := ((f1642 r0 3 _ g0 rfl).trans (wq_u_t e1596 g1538 g0 rfl 3))
              refine wp_of e30 c30_84 (xc_V (pc' := 87) (r := r0) (as := [vI 23, vI 1, vI 24, vI 24]) (st := []) (lm_1_154) rfl rfl (Nat.le_of_ble_eq_true rfl) w1641 g0 sh_3 (by decide) rfl (by decide) (u_29 (B := B) (n := n) (q := ((xN B n ((xN B n ((xN B n q))))))) w1641 g0 ⟨by omega, by omega⟩ ⟨by omega, by omega⟩ ⟨by omega, by omega⟩ ⟨by omega, by omega⟩ q1648 gtk q1650 grb p1643) (fun R1652 T1653 H1654 p1655 => ?_))
              obtain ⟨e1656, w1658, f1659, z1660, e1657, b1661, p1662⟩ := p1655
              subst e1656
              subst e1657
              rcases p1662 with ⟨a1663, a1664, a1665, a1666, a1667, a1668, a1669, a1670, a1671⟩ | ⟨a1672, a1673, a1674, a1675, a1676⟩
              · have f1677 := f1645.tr f1659 rfl
                show wp _ _ 30 87 [(2, .ref r1536), (0, .ref r0), (1, .ref r1)] [vI z1660] _ H1654 _
                have u1678 := TC_k a1671
                refine wp_of e30 c30_87 (rw_if_ne (p1 := 92) (p2 := 90) (by decide) rfl ⟨by omega, by omega⟩ (fun c1679 => ?_) (fun c1679 => ?_))
                · refine wp_of e30 c30_92 (rw_aload_n (pc' := 93) (v := .ref r1536) rfl rfl rfl ?_)
                  refine wp_of e30 c30_93 (rw_aload_n (pc' := 94) (v := .ref r0) rfl rfl rfl ?_)
                  refine wp_of e30 c30_94 (xg_I (pc' := 97) lf_1_158 w1658 g0 sh_3 (by decide) (by decide) ty_3_1 rfl rfl (fun b1680 b1681 => ?_))
                  refine wp_of e30 c30_97 (rw_aload_n (pc' := 98) (v := .ref r0) rfl rfl rfl ?_)
                  refine wp_of e30 c30_98 (xg_I (pc' := 101) lf_1_164 w1658 g0 sh_3 (by decide) (by decide) ty_3_2 rfl rfl (fun b1682 b1683 => ?_))
                  refine wp_of e30 c30_101 (xc_S (pc' := 104) (as := [vI (H1654 r0 1), vI (H1654 r0 2)]) (st := [.ref r1536]) (lm_1_194) rfl rfl (Nat.le_of_ble_eq_true rfl) rfl (by decide) (u_31 (lo := (xV B n (xN B n ((xN B n ((xN B n q))))))) (hi := (xV B n (xN B n (xN B n (xN B n ((xN B n ((xN B n q))))))))) w1658 ⟨by omega, by omega⟩ ⟨by omega, by omega⟩ (by omega) (by omega) (by omega)) (fun R1684 T1685 H1686 p1687 => ?_))
                  obtain ⟨e1688, e1690, z1691, e1689, b1692, p1693⟩ := p1687
                  subst e1688
                  subst e1689
                  subst e1690
                  show wp _ _ 30 104 [(2, .ref r1536), (0, .ref r0), (1, .ref r1)] [vI z1691, .ref r1536] _ H1654 _
                  refine wp_of e30 c30_104 (xp_I (pc' := 107) lf_1_197 w1658 g1538 sh_35 (by decide) (by decide) ty_35_12 rfl rfl (by omega) (by omega) ⟨by omega, by omega⟩ rfl (fun H1695 e1696 w1697 => ?_))
                  have f1698 := f1677.put' e1696 g1538 rfl
                  have k1699 : H1695 r1536 12 = z1691 := wq_u_s e1696
                  have _eb : xqb B n ((xN B n ((xN B n q)))) = ((xN B n (xN B n (xN B n ((xN B n ((xN B n ((xN B n q)))))))))) := by
                    unfold xqb
                    first | rw [if_pos (by omega)] | rw [if_neg (by omega)]
                  have k1700 : H1695 r1536 6 = H1595 r1536 6 := ((wq_u_j e1696 rfl).trans ((f1659 r1536 6 _ g1538 rfl).trans (f1642 r1536 6 _ g1538 rfl)))
                  have k1701 : H1695 r1536 7 = H1595 r1536 7 := ((wq_u_j e1696 rfl).trans ((f1659 r1536 7 _ g1538 rfl).trans (f1642 r1536 7 _ g1538 rfl)))
                  have k1702 : H1695 r1536 8 = H1595 r1536 8 := ((wq_u_j e1696 rfl).trans ((f1659 r1536 8 _ g1538 rfl).trans (f1642 r1536 8 _ g1538 rfl)))
                  have k1703 : H1695 r1536 9 = H1595 r1536 9 := ((wq_u_j e1696 rfl).trans ((f1659 r1536 9 _ g1538 rfl).trans (f1642 r1536 9 _ g1538 rfl)))
                  have k1704 : H1695 r1536 10 = H1595 r1536 10 := ((wq_u_j e1696 rfl).trans ((f1659 r1536 10 _ g1538 rfl).trans (f1642 r1536 10 _ g1538 rfl)))
                  have k1705 : H1695 r1536 11 = H1595 r1536 11 := ((wq_u_j e1696 rfl).trans ((f1659 r1536 11 _ g1538 rfl).trans (f1642 r1536 11 _ g1538 rfl)))
                  have k1706 : H1695 r1536 13 = H1595 r1536 13 := ((wq_u_j e1696 rfl).trans ((f1659 r1536 13 _ g1538 rfl).trans (f1642 r1536 13 _ g1538 rfl)))
                  have k1707 : H1695 r1536 14 = H1595 r1536 14 := ((wq_u_j e1696 rfl).trans ((f1659 r1536 14 _ g1538 rfl).trans (f1642 r1536 14 _ g1538 rfl)))
                  have _en : H1695 r1536 12 = xhs (xnf B n ((xN B n ((xN B n q))))) (xnt B n ((xN B n ((xN B n q))))) := by
                    unfold xnf xnt
                    first | (rw [if_pos (by omega), if_pos (by omega)]; omega) | (rw [if_neg (by omega), if_neg (by omega)]; omega)
                  refine wp_of e30 c30_107 (rw_aload_n (pc' := 108) (v := .ref r0) rfl rfl rfl ?_)
                  have k1708 : H1695 r0 0 = H1637 r0 0 := ((wq_u_t e1696 g1538 g0 rfl 0).trans (f1659 r0 0 _ g0 rfl))
                  have q1709 : H1695 r0 0 = (tk : Int) := k1708.trans q1648
                  refine wp_of e30 c30_108 (xg_K (pc' := 111) lf_1_12 w1697 g0 sh_3 (by decide) (by decide) rfl q1709 rfl ?_)
                  refine wp_of e30 c30_111 (rw_gs (pc' := 114) (k := 26) rfl rfl rfl rfl ?_)
                  have k1710 : H1695 26 0 = ((42 : Nat) : Int) := (w1697.2 26 _ (w1697.1.2.2 10 (by decide))).2.2 0 (by decide) |> fun z => by have z1 : (42 : Int) ≤ H1695 26 0 ∧ H1695 26 0 ≤ 42 := z; omega
                  refine wp_of e30 c30_114 (rw_getR (pc' := 117) (n := 2) (b := 42) (e := _) (lf_1_181).choose_spec.1 (lf_1_181).choose_spec.2.1 (w1697.sh (w1697.1.2.2 10 (by decide)) rfl) (by decide) rfl k1710 rfl ?_)
                  have h1711 : TC T H1695 tk B n (xN B n (xN B n (xN B n ((xN B n ((xN B n ((xN B n q))))))))) := (TC_fr w1658 gtk ((wfr.rf (l := [(35, 12)])).put' e1696 g1538 rfl) rfl a1671)
                  refine wp_of e30 c30_117 (xc_V (pc' := 120) (r := tk) (as := [.ref 42]) (st := []) (lm_1_185) rfl rfl (Nat.le_of_ble_eq_true rfl) w1697 gtk sh_4 (by decide) rfl (by decide) (u_19_t (B := B) (n := n) (q := ((xN B n (xN B n (xN B n ((xN B n ((xN B n ((xN B n q))))))))))) (kk := 56377) w1697 gtk rfl (by decide +kernel) h1711) (fun R1712 T1713 H1714 p1715 => ?_))
                  obtain ⟨e1716, e1718, z1719, e1717, b1720, p1721⟩ := p1715
                  subst e1716
                  subst e1717
                  subst e1718
                  rcases p1721 with ⟨a1722, a1723⟩ | ⟨a1724, a1725⟩
                  · show wp _ _ 30 120 [(2, .ref r1536), (0, .ref r0), (1, .ref r1)] [vI z1719] _ H1695 _
                    refine wp_of e30 c30_120 (rw_if_eq (p1 := 135) (p2 := 123) (by decide) rfl ⟨by omega, by omega⟩ (fun c1726 => ?_) (fun c1726 => ?_))
                    · exfalso
                      omega
                    · refine wp_of e30 c30_123 (rw_aload_n (pc' := 124) (v := .ref r0) rfl rfl rfl ?_)
                      refine wp_of e30 c30_124 (xg_K (pc' := 127) lf_1_12 w1697 g0 sh_3 (by decide) (by decide) rfl q1709 rfl ?_)
                      have k1727 : H1695 tk 0 = H1637 tk 0 := ((wq_u_t e1696 g1538 gtk rfl 0).trans (f1659 tk 0 _ gtk rfl))
                      have q1728 : H1695 tk 0 = (rb : Int) := k1727.trans q1650
                      have k1729 : H1695 tk 1 = H1654 tk 1 := (wq_u_t e1696 g1538 gtk rfl 1)
                      have k1730 : H1695 tk 2 = H1654 tk 2 := (wq_u_t e1696 g1538 gtk rfl 2)
                      have h1731 : TP T H1695 rb B := (TP_fr w1658 grb ((wfr.rf (l := [(35, 12)])).put' e1696 g1538 rfl) rfl (TP_fr w1641 grb f1659 rfl (TP_fr w1597 grb f1642 rfl h1634)))
                      refine wp_of e30 c30_127 (xc_V (pc' := 130) (r := tk) (as := []) (st := []) (lm_1_74) rfl rfl (Nat.le_of_ble_eq_true rfl) w1697 gtk sh_4 (by decide) rfl (by decide) (u_16 (B := B) (n := n) (a := (xE B n ((xN B n (xN B n (xN B n ((xN B n ((xN B n ((xN B n q)))))))))))) (q := (xN B n ((xN B n (xN B n (xN B n ((xN B n ((xN B n ((xN B n q)))))))))))) w1697 gtk q1728 grb (by omega) (by omega) (by omega) (rfl) h1731) (fun R1732 T1733 H1734 p1735 => ?_))
                      obtain ⟨e1736, w1738, f1739, e1737, p1740⟩ := p1735
                      subst e1736
                      subst e1737
                      have f1742 := f1698.tr f1739 rfl
                      show wp _ _ 30 130 [(2, .ref r1536), (0, .ref r0), (1, .ref r1)] [] _ H1734 _
                      have u1743 := TC_k p1740
                      refine wp_of e30 c30_130 (rw_aload_n (pc' := 131) (v := .ref r1536) rfl rfl rfl ?_)
                      refine wp_of e30 c30_131 (rw_iconst (pc' := 132) rfl ?_)
                      refine wp_of e30 c30_132 (xp_Z (pc' := 135) lf_1_203 w1738 g1538 sh_35 (by decide) (by decide) ty_35_13 rfl rfl (by omega) (by omega) rfl (fun H1744 e1745 w1746 => ?_))
                      have f1747 := f1742.put' e1745 g1538 rfl
                      have k1748 : H1744 r1536 13 = 1 := wq_u_s e1745
                      have _ec : xqc B n ((xN B n (xN B n (xN B n ((xN B n ((xN B n ((xN B n q)))))))))) = ((xN B n ((xN B n (xN B n (xN B n ((xN B n ((xN B n ((xN B n q)))))))))))) := by
                        unfold xqc
                        first | rw [if_pos (by omega)] | rw [if_neg (by omega)]
                      have k1749 : H1744 r1536 6 = H1695 r1536 6 := ((wq_u_j e1745 rfl).trans (f1739 r1536 6 _ g1538 rfl))
                      have k1750 : H1744 r1536 7 = H1695 r1536 7 := ((wq_u_j e1745 rfl).trans (f1739 r1536 7 _ g1538 rfl))
                      have k1751 : H1744 r1536 8 = H1695 r1536 8 := ((wq_u_j e1745 rfl).trans (f1739 r1536 8 _ g1538 rfl))
                      have k1752 : H1744 r1536 9 = H1695 r1536 9 := ((wq_u_j e1745 rfl).trans (f1739 r1536 9 _ g1538 rfl))
                      have k1753 : H1744 r1536 10 = H1695 r1536 10 := ((wq_u_j e1745 rfl).trans (f1739 r1536 10 _ g1538 rfl))
                      have k1754 : H1744 r1536 11 = H1695 r1536 11 := ((wq_u_j e1745 rfl).trans (f1739 r1536 11 _ g1538 rfl))
                      have k1755 : H1744 r1536 12 = H1695 r1536 12 := ((wq_u_j e1745 rfl).trans (f1739 r1536 12 _ g1538 rfl))
                      have k1756 : H1744 r1536 14 = H1695 r1536 14 := ((wq_u_j e1745 rfl).trans (f1739 r1536 14 _ g1538 rfl))
                      have _ew : xaw B n ((xN B n (xN B n (xN B n ((xN B n ((xN B n ((xN B n q)))))))))) = H1744 r1536 13 := by
                        unfold xaw
                        first | (rw [if_pos (by omega)]; omega) | (rw [if_neg (by omega)]; omega)
                      refine wp_of e30 c30_135 (rw_aload_n (pc' := 136) (v := .ref r1) rfl rfl rfl ?_)
                      refine wp_of e30 c30_136 (rw_dup (pc' := 137) rfl rfl ?_)
                      have k1757 : H1744 r1 10 = H r1 10 := ((wq_u_t e1745 g1538 g1 rfl 10).trans ((f1739 r1 10 _ g1 rfl).trans ((wq_u_t e1696 g1538 g1 rfl 10).trans ((f1659 r1 10 _ g1 rfl).trans ((f1642 r1 10 _ g1 rfl).trans ((wq_u_t e1596 g1538 g1 rfl 10).trans ((f1580 r1 10 _ g1 rfl).trans (f1563 r1 10 _ g1 rfl))))))))
                      refine wp_of e30 c30_137 (xg_I (pc' := 140) lf_1_44 w1746 g1 sh_27 (by decide) (by decide) ty_27_10 rfl rfl (fun b1758 b1759 => ?_))
                      refine wp_of e30 c30_140 (rw_iconst (pc' := 141) rfl ?_)
                      refine wp_of e30 c30_141 (rw_iadd (pc' := 142) rfl ?_)
                      refine wp_of e30 c30_142 (xp_I (pc' := 145) lf_1_44 w1746 g1 sh_27 (by decide) (by decide) ty_27_10 rfl rfl (by omega) (by omega) ⟨by omega, by omega⟩ rfl (fun H1760 e1761 w1762 => ?_))
                      have f1763 := f1747.put' e1761 g1 rfl
                      have k1764 : H1760 r1 10 = (H1744 r1 10) + 1 := wq_u_s e1761
                      refine wp_of e30 c30_145 (rw_iconst (pc' := 146) rfl ?_)
                      have k1765 : H1760 r0 3 = H1654 r0 3 := ((wq_u_t e1761 g1 g0 rfl 3).trans ((wq_u_t e1745 g1538 g0 rfl 3).trans ((f1739 r0 3 _ g0 rfl).trans (wq_u_t e1696 g1538 g0 rfl 3))))
                      have k1766 : H1760 r1 7 = H r1 7 := ((wq_u_j e1761 rfl).trans ((wq_u_t e1745 g1538 g1 rfl 7).trans ((f1739 r1 7 _ g1 rfl).trans ((wq_u_t e1696 g1538 g1 rfl 7).trans ((f1659 r1 7 _ g1 rfl).trans ((f1642 r1 7 _ g1 rfl).trans ((wq_u_t e1596 g1538 g1 rfl 7).trans ((f1580 r1 7 _ g1 rfl).trans (f1563 r1 7 _ g1 rfl)))))))))
                      have k1767 : H1760 r1 8 = H r1 8 := ((wq_u_j e1761 rfl).trans ((wq_u_t e1745 g1538 g1 rfl 8).trans ((f1739 r1 8 _ g1 rfl).trans ((wq_u_t e1696 g1538 g1 rfl 8).trans ((f1659 r1 8 _ g1 rfl).trans ((f1642 r1 8 _ g1 rfl).trans ((wq_u_t e1596 g1538 g1 rfl 8).trans ((f1580 r1 8 _ g1 rfl).trans (f1563 r1 8 _ g1 rfl)))))))))
                      have k1768 : H1760 r1 9 = H r1 9 := ((wq_u_j e1761 rfl).trans ((wq_u_t e1745 g1538 g1 rfl 9).trans ((f1739 r1 9 _ g1 rfl).trans ((wq_u_t e1696 g1538 g1 rfl 9).trans ((f1659 r1 9 _ g1 rfl).trans ((f1642 r1 9 _ g1 rfl).trans ((wq_u_t e1596 g1538 g1 rfl 9).trans ((f1580 r1 9 _ g1 rfl).trans (f1563 r1 9 _ g1 rfl)))))))))
                      have k1769 : H1760 r1 11 = H r1 11 := ((wq_u_j e1761 rfl).trans ((wq_u_t e1745 g1538 g1 rfl 11).trans ((f1739 r1 11 _ g1 rfl).trans ((wq_u_t e1696 g1538 g1 rfl 11).trans ((f1659 r1 11 _ g1 rfl).trans ((f1642 r1 11 _ g1 rfl).trans ((wq_u_t e1596 g1538 g1 rfl 11).trans ((f1580 r1 11 _ g1 rfl).trans (f1563 r1 11 _ g1 rfl)))))))))
                      have k1770 : H1760 r1 12 = H r1 12 := ((wq_u_j e1761 rfl).trans ((wq_u_t e1745 g1538 g1 rfl 12).trans ((f1739 r1 12 _ g1 rfl).trans ((wq_u_t e1696 g1538 g1 rfl 12).trans ((f1659 r1 12 _ g1 rfl).trans ((f1642 r1 12 _ g1 rfl).trans ((wq_u_t e1596 g1538 g1 rfl 12).trans ((f1580 r1 12 _ g1 rfl).trans (f1563 r1 12 _ g1 rfl)))))))))
                      have k1771 : H1760 r1 13 = H r1 13 := ((wq_u_j e1761 rfl).trans ((wq_u_t e1745 g1538 g1 rfl 13).trans ((f1739 r1 13 _ g1 rfl).trans ((wq_u_t e1696 g1538 g1 rfl 13).trans ((f1659 r1 13 _ g1 rfl).trans ((f1642 r1 13 _ g1 rfl).trans ((wq_u_t e1596 g1538 g1 rfl 13).trans ((f1580 r1 13 _ g1 rfl).trans (f1563 r1 13 _ g1 rfl)))))))))
                      have k1772 : H1760 r1 14 = H r1 14 := ((wq_u_j e1761 rfl).trans ((wq_u_t e1745 g1538 g1 rfl 14).trans ((f1739 r1 14 _ g1 rfl).trans ((wq_u_t e1696 g1538 g1 rfl 14).trans ((f1659 r1 14 _ g1 rfl).trans ((f1642 r1 14 _ g1 rfl).trans ((wq_u_t e1596 g1538 g1 rfl 14).trans ((f1580 r1 14 _ g1 rfl).trans (f1563 r1 14 _ g1 rfl)))))))))
                      have k1773 : H1760 r1 15 = H r1 15 := ((wq_u_j e1761 rfl).trans ((wq_u_t e1745 g1538 g1 rfl 15).trans ((f1739 r1 15 _ g1 rfl).trans ((wq_u_t e1696 g1538 g1 rfl 15).trans ((f1659 r1 15 _ g1 rfl).trans ((f1642 r1 15 _ g1 rfl).trans ((wq_u_t e1596 g1538 g1 rfl 15).trans ((f1580 r1 15 _ g1 rfl).trans (f1563 r1 15 _ g1 rfl)))))))))
                      have k1774 : H1760 r1 16 = H r1 16 := ((wq_u_j e1761 rfl).trans ((wq_u_t e1745 g1538 g1 rfl 16).trans ((f1739 r1 16 _ g1 rfl).trans ((wq_u_t e1696 g1538 g1 rfl 16).trans ((f1659 r1 16 _ g1 rfl).trans ((f1642 r1 16 _ g1 rfl).trans ((wq_u_t e1596 g1538 g1 rfl 16).trans ((f1580 r1 16 _ g1 rfl).trans (f1563 r1 16 _ g1 rfl)))))))))
                      have k1775 : H1760 r1536 6 = H1744 r1536 6 := (wq_u_t e1761 g1 g1538 rfl 6)
                      have k1776 : H1760 r1536 7 = H1744 r1536 7 := (wq_u_t e1761 g1 g1538 rfl 7)
                      have k1777 : H1760 r1536 8 = H1744 r1536 8 := (wq_u_t e1761 g1 g1538 rfl 8)
                      have k1778 : H1760 r1536 9 = H1744 r1536 9 := (wq_u_t e1761 g1 g1538 rfl 9)
                      have k1779 : H1760 r1536 10 = H1744 r1536 10 := (wq_u_t e1761 g1 g1538 rfl 10)
                      have k1780 : H1760 r1536 11 = H1744 r1536 11 := (wq_u_t e1761 g1 g1538 rfl 11)
                      have k1781 : H1760 r1536 12 = H1744 r1536 12 := (wq_u_t e1761 g1 g1538 rfl 12)
                      have k1782 : H1760 r1536 13 = H1744 r1536 13 := (wq_u_t e1761 g1 g1538 rfl 13)
                      have k1783 : H1760 r1536 14 = H1744 r1536 14 := (wq_u_t e1761 g1 g1538 rfl 14)
                      have o1784 : (xcs B n q) = (0, q, (xN B n ((xN B n (xN B n (xN B n ((xN B n ((xN B n ((xN B n q)))))))))))) := by
                        unfold xcs xca xcb
                        try rw [_ea]
                        try rw [_eb]
                        try rw [_ec]
                        repeat first | rw [xs_0 (by omega)] | rw [xs_1 (by omega)] | rw [if_pos (by omega)] | rw [if_neg (by omega)]
                        first | done | rfl | assumption | (exfalso; omega) | (refine Prod.ext ?_ (Prod.ext ?_ ?_) <;> (try dsimp only) <;> omega)
                      have o1784a : ((xcs B n q)).1 = 0 := by rw [o1784]
                      have o1784b : ((xcs B n q)).2.1 = q := by rw [o1784]
                      have o1784c : ((xcs B n q)).2.2 = (xN B n ((xN B n (xN B n (xN B n ((xN B n ((xN B n ((xN B n q))))))))))) := by rw [o1784]
                      have _l := @xdper_v B n y d
                      have _k := @xdper_k (H r1 10).toNat d B n y (by omega)
                      rw [← p1] at _k
                      rw [_ea, _eb] at _k
                      have _f : H1760 r1536 6 = xdper B n y d 1 (H r1 10).toNat ∧ H1760 r1536 7 = xdper B n y d 2 (H r1 10).toNat ∧ H1760 r1536 8 = xdper B n y d 3 (H r1 10).toNat ∧ H1760 r1536 9 = xdper B n y d 4 (H r1 10).toNat ∧ H1760 r1536 10 = xdper B n y d 5 (H r1 10).toNat ∧ H1760 r1536 11 = xdper B n y d 6 (H r1 10).toNat ∧ H1760 r1536 12 = xhs (xdper B n y d 7 (H r1 10).toNat) (xdper B n y d 8 (H r1 10).toNat) ∧ H1760 r1536 13 = xdper B n y d 9 (H r1 10).toNat ∧ H1760 r1536 14 = 0 := ⟨by omega, by omega, by omega, by omega, by omega, by omega, by rw [_k.2.2.2.2.2.2.1, _k.2.2.2.2.2.2.2.1]; omega, by omega, by omega⟩
                      have h1785 : TC T H1760 tk B n (xN B n ((xN B n (xN B n (xN B n ((xN B n ((xN B n ((xN B n q))))))))))) := (TC_fr w1746 gtk ((wfr.rf (l := [(27, 10)])).put' e1761 g1 rfl) rfl (TC_fr w1738 gtk ((wfr.rf (l := [(35, 13)])).put' e1745 g1538 rfl) rfl p1740))
                      have k1786 : H1760 r1 0 = H r1 0 := ((wq_u_j e1761 rfl).trans ((wq_u_t e1745 g1538 g1 rfl 0).trans ((f1739 r1 0 _ g1 rfl).trans ((wq_u_t e1696 g1538 g1 rfl 0).trans ((f1659 r1 0 _ g1 rfl).trans ((f1642 r1 0 _ g1 rfl).trans ((wq_u_t e1596 g1538 g1 rfl 0).trans ((f1580 r1 0 _ g1 rfl).trans (f1563 r1 0 _ g1 rfl)))))))))
                      have q1787 : H1760 r1 0 = (r1531 : Int) := k1786.trans q1532
                      have k1788 : H1760 r1531 ((H r1 10).toNat) = H r1531 ((H r1 10).toNat) := ((wq_u_t e1761 g1 g1533 rfl ((H r1 10).toNat)).trans ((wq_u_t e1745 g1538 g1533 rfl ((H r1 10).toNat)).trans ((f1739 r1531 ((H r1 10).toNat) _ g1533 rfl).trans ((wq_u_t e1696 g1538 g1533 rfl ((H r1 10).toNat)).trans ((f1659 r1531 ((H r1 10).toNat) _ g1533 rfl).trans ((f1642 r1531 ((H r1 10).toNat) _ g1533 rfl).trans ((wq_u_t e1596 g1538 g1533 rfl ((H r1 10).toNat)).trans ((f1580 r1531 ((H r1 10).toNat) _ g1533 rfl).trans (f1563 r1531 ((H r1 10).toNat) _ g1533 rfl)))))))))
                      have q1789 : H1760 r1531 ((H r1 10).toNat) = (r1536 : Int) := k1788.trans q1537
                      have h1790 : ST T H1760 r1 (d 13) := (ST_fr w1746 g1 ((wfr.rf (l := [(27, 10)])).put' e1761 g1 rfl) rfl (ST_fr w1738 g1 ((wfr.rf (l := [(35, 13)])).put' e1745 g1538 rfl) rfl (ST_fr w1697 g1 f1739 rfl (ST_fr w1658 g1 ((wfr.rf (l := [(35, 12)])).put' e1696 g1538 rfl) rfl (ST_fr w1641 g1 f1659 rfl (ST_fr w1597 g1 f1642 rfl (ST_fr w1579 g1 ((wfr.rf (l := [(35, 11)])).put' e1596 g1538 rfl) rfl (ST_fr w1562 g1 f1580 rfl (ST_fr hW g1 f1563 rfl h1525)))))))))
                      have h1791 : SV T H1760 r1 (d 13) 24 := (SV_fr w1746 g1 ((wfr.rf (l := [(27, 10)])).put' e1761 g1 rfl) rfl (SV_fr w1738 g1 ((wfr.rf (l := [(35, 13)])).put' e1745 g1538 rfl) rfl (SV_fr w1697 g1 f1739 rfl (SV_fr w1658 g1 ((wfr.rf (l := [(35, 12)])).put' e1696 g1538 rfl) rfl (SV_fr w1641 g1 f1659 rfl (SV_fr w1597 g1 f1642 rfl (SV_fr w1579 g1 ((wfr.rf (l := [(35, 11)])).put' e1596 g1538 rfl) rfl (SV_fr w1562 g1 f1580 rfl (SV_fr hW g1 f1563 rfl h1526)))))))))
                      have h1792 : DA3 T H1760 r1 (d 0 5) (d 12) := (DA3_fr w1746 g1 ((wfr.rf (l := [(27, 10)])).put' e1761 g1 rfl) rfl (DA3_fr w1738 g1 ((wfr.rf (l := [(35, 13)])).put' e1745 g1538 rfl) rfl (DA3_fr w1697 g1 f1739 rfl (DA3_fr w1658 g1 ((wfr.rf (l := [(35, 12)])).put' e1696 g1538 rfl) rfl (DA3_fr w1641 g1 f1659 rfl (DA3_fr w1597 g1 f1642 rfl (DA3_fr w1579 g1 ((wfr.rf (l := [(35, 11)])).put' e1596 g1538 rfl) rfl (DA3_fr w1562 g1 f1580 rfl (DA3_fr hW g1 f1563 rfl h1527)))))))))
                      have h1793 : DA4 T H1760 r1 (d 0 6) (d 14) := (DA4_fr w1746 g1 ((wfr.rf (l := [(27, 10)])).put' e1761 g1 rfl) rfl (DA4_fr w1738 g1 ((wfr.rf (l := [(35, 13)])).put' e1745 g1538 rfl) rfl (DA4_fr w1697 g1 f1739 rfl (DA4_fr w1658 g1 ((wfr.rf (l := [(35, 12)])).put' e1696 g1538 rfl) rfl (DA4_fr w1641 g1 f1659 rfl (DA4_fr w1597 g1 f1642 rfl (DA4_fr w1579 g1 ((wfr.rf (l := [(35, 11)])).put' e1596 g1538 rfl) rfl (DA4_fr w1562 g1 f1580 rfl (DA4_fr hW g1 f1563 rfl h1528)))))))))
                      have h1794 : DA5 T H1760 r1 (d 0 6) (d 15) := (DA5_fr w1746 g1 ((wfr.rf (l := [(27, 10)])).put' e1761 g1 rfl) rfl (DA5_fr w1738 g1 ((wfr.rf (l := [(35, 13)])).put' e1745 g1538 rfl) rfl (DA5_fr w1697 g1 f1739 rfl (DA5_fr w1658 g1 ((wfr.rf (l := [(35, 12)])).put' e1696 g1538 rfl) rfl (DA5_fr w1641 g1 f1659 rfl (DA5_fr w1597 g1 f1642 rfl (DA5_fr w1579 g1 ((wfr.rf (l := [(35, 11)])).put' e1596 g1538 rfl) rfl (DA5_fr w1562 g1 f1580 rfl (DA5_fr hW g1 f1563 rfl h1529)))))))))
                      have h1795 : DA6 T H1760 r1 (d 0 7) (d 16) := (DA6_fr w1746 g1 ((wfr.rf (l := [(27, 10)])).put' e1761 g1 rfl) rfl (DA6_fr w1738 g1 ((wfr.rf (l := [(35, 13)])).put' e1745 g1538 rfl) rfl (DA6_fr w1697 g1 f1739 rfl (DA6_fr w1658 g1 ((wfr.rf (l := [(35, 12)])).put' e1696 g1538 rfl) rfl (DA6_fr w1641 g1 f1659 rfl (DA6_fr w1597 g1 f1642 rfl (DA6_fr w1579 g1 ((wfr.rf (l := [(35, 11)])).put' e1596 g1538 rfl) rfl (DA6_fr w1562 g1 f1580 rfl (DA6_fr hW g1 f1563 rfl h1530)))))))))
                      exact wp_zreturn e30 c30_146 rfl (by omega) ⟨rfl, w1762, f1763, 1, rfl, ⟨by omega, by omega⟩, (Or.inl ⟨by omega, by omega, by omega, by omega, by rw [o1784]; exact h1785, DC_mk ⟨by omega, by omega, by omega, by omega, by omega, by omega, by omega, by omega, by omega, by omega, by omega, by omega, by omega, by omega, by omega, by omega⟩ (DQ_per g1538 (DQ_oth hW g1 f1763 rfl hDD_r1 q1787 q1789 (by omega) (by omega) (fun a ha ga => ((wq_u_tf e1761 g1 ga (by decide)).trans ((wq_u_nf e1745 ha).trans ((f1739.fn ga rfl).trans ((wq_u_nf e1696 ha).trans ((f1659.fn ga rfl).trans ((f1642.fn ga rfl).trans ((wq_u_nf e1596 ha).trans ((f1580.fn ga rfl).trans (f1563.fn ga rfl)))))))))) hDC_r1.2.1) (by omega) q1787 q1789 (k := (H r1 10).toNat) (by omega) _f) h1790 h1791 h1792 h1793 h1794 h1795 ⟨rfl, rfl, rfl, rfl, rfl⟩ ⟨by omega, by omega, by omega⟩⟩)⟩
                  · show wp _ _ 30 120 [(2, .ref r1536), (0, .ref r0), (1, .ref r1)] [vI z1719] _ H1695 _
                    refine wp_of e30 c30_120 (rw_if_eq (p1 := 135) (p2 := 123) (by decide) rfl ⟨by omega, by omega⟩ (fun c1796 => ?_) (fun c1796 => ?_))
                    · have _ec : xqc B n ((xN B n (xN B n (xN B n ((xN B n ((xN B n ((xN B n q)))))))))) = ((xN B n (xN B n (xN B n ((xN B n ((xN B n ((xN B n q)))))))))) := by
                        unfold xqc
                        first | rw [if_pos (by omega)] | rw [if_neg (by omega)]
                      have _ew : xaw B n ((xN B n (xN B n (xN B n ((xN B n ((xN B n ((xN B n q)))))))))) = H1695 r1536 13 := by
                        unfold xaw
                        first | (rw [if_pos (by omega)]; omega) | (rw [if_neg (by omega)]; omega)
                      refine wp_of e30 c30_135 (rw_aload_n (pc' := 136) (v := .ref r1) rfl rfl rfl ?_)
                      refine wp_of e30 c30_136 (rw_dup (pc' := 137) rfl rfl ?_)
                      have k1797 : H1695 r1 10 = H r1 10 := ((wq_u_t e1696 g1538 g1 rfl 10).trans ((f1659 r1 10 _ g1 rfl).trans ((f1642 r1 10 _ g1 rfl).trans ((wq_u_t e1596 g1538 g1 rfl 10).trans ((f1580 r1 10 _ g1 rfl).trans (f1563 r1 10 _ g1 rfl))))))
                      refine wp_of e30 c30_137 (xg_I (pc' := 140) lf_1_44 w1697 g1 sh_27 (by decide) (by decide) ty_27_10 rfl rfl (fun b1798 b1799 => ?_))
                      refine wp_of e30 c30_140 (rw_iconst (pc' := 141) rfl ?_)
                      refine wp_of e30 c30_141 (rw_iadd (pc' := 142) rfl ?_)
                      refine wp_of e30 c30_142 (xp_I (pc' := 145) lf_1_44 w1697 g1 sh_27 (by decide) (by decide) ty_27_10 rfl rfl (by omega) (by omega) ⟨by omega, by omega⟩ rfl (fun H1800 e1801 w1802 => ?_))
                      have f1803 := f1698.put' e1801 g1 rfl
                      have k1804 : H1800 r1 10 = (H1695 r1 10) + 1 := wq_u_s e1801
                      refine wp_of e30 c30_145 (rw_iconst (pc' := 146) rfl ?_)
                      have k1805 : H1800 r0 3 = H1654 r0 3 := ((wq_u_t e1801 g1 g0 rfl 3).trans (wq_u_t e1696 g1538 g0 rfl 3))
                      have k1806 : H1800 r1 7 = H r1 7 := ((wq_u_j e1801 rfl).trans ((wq_u_t e1696 g1538 g1 rfl 7).trans ((f1659 r1 7 _ g1 rfl).trans ((f1642 r1 7 _ g1 rfl).trans ((wq_u_t e1596 g1538 g1 rfl 7).trans ((f1580 r1 7 _ g1 rfl).trans (f1563 r1 7 _ g1 rfl)))))))
                      have k1807 : H1800 r1 8 = H r1 8 := ((wq_u_j e1801 rfl).trans ((wq_u_t e1696 g1538 g1 rfl 8).trans ((f1659 r1 8 _ g1 rfl).trans ((f1642 r1 8 _ g1 rfl).trans ((wq_u_t e1596 g1538 g1 rfl 8).trans ((f1580 r1 8 _ g1 rfl).trans (f1563 r1 8 _ g1 rfl)))))))
                      have k1808 : H1800 r1 9 = H r1 9 := ((wq_u_j e1801 rfl).trans ((wq_u_t e1696 g1538 g1 rfl 9).trans ((f1659 r1 9 _ g1 rfl).trans ((f1642 r1 9 _ g1 rfl).trans ((wq_u_t e1596 g1538 g1 rfl 9).trans ((f1580 r1 9 _ g1 rfl).trans (f1563 r1 9 _ g1 rfl)))))))
                      have k1809 : H1800 r1 11 = H r1 11 := ((wq_u_j e1801 rfl).trans ((wq_u_t e1696 g1538 g1 rfl 11).trans ((f1659 r1 11 _ g1 rfl).trans ((f1642 r1 11 _ g1 rfl).trans ((wq_u_t e1596 g1538 g1 rfl 11).trans ((f1580 r1 11 _ g1 rfl).trans (f1563 r1 11 _ g1 rfl)))))))
                      have k1810 : H1800 r1 12 = H r1 12 := ((wq_u_j e1801 rfl).trans ((wq_u_t e1696 g1538 g1 rfl 12).trans ((f1659 r1 12 _ g1 rfl).trans ((f1642 r1 12 _ g1 rfl).trans ((wq_u_t e1596 g1538 g1 rfl 12).trans ((f1580 r1 12 _ g1 rfl).trans (f1563 r1 12 _ g1 rfl)))))))
                      have k1811 : H1800 r1 13 = H r1 13 := ((wq_u_j e1801 rfl).trans ((wq_u_t e1696 g1538 g1 rfl 13).trans ((f1659 r1 13 _ g1 rfl).trans ((f1642 r1 13 _ g1 rfl).trans ((wq_u_t e1596 g1538 g1 rfl 13).trans ((f1580 r1 13 _ g1 rfl).trans (f1563 r1 13 _ g1 rfl)))))))
                      have k1812 : H1800 r1 14 = H r1 14 := ((wq_u_j e1801 rfl).trans ((wq_u_t e1696 g1538 g1 rfl 14).trans ((f1659 r1 14 _ g1 rfl).trans ((f1642 r1 14 _ g1 rfl).trans ((wq_u_t e1596 g1538 g1 rfl 14).trans ((f1580 r1 14 _ g1 rfl).trans (f1563 r1 14 _ g1 rfl)))))))
                      have k1813 : H1800 r1 15 = H r1 15 := ((wq_u_j e1801 rfl).trans ((wq_u_t e1696 g1538 g1 rfl 15).trans ((f1659 r1 15 _ g1 rfl).trans ((f1642 r1 15 _ g1 rfl).trans ((wq_u_t e1596 g1538 g1 rfl 15).trans ((f1580 r1 15 _ g1 rfl).trans (f1563 r1 15 _ g1 rfl)))))))
                      have k1814 : H1800 r1 16 = H r1 16 := ((wq_u_j e1801 rfl).trans ((wq_u_t e1696 g1538 g1 rfl 16).trans ((f1659 r1 16 _ g1 rfl).trans ((f1642 r1 16 _ g1 rfl).trans ((wq_u_t e1596 g1538 g1 rfl 16).trans ((f1580 r1 16 _ g1 rfl).trans (f1563 r1 16 _ g1 rfl)))))))
                      have k1815 : H1800 r1536 6 = H1695 r1536 6 := (wq_u_t e1801 g1 g1538 rfl 6)
                      have k1816 : H1800 r1536 7 = H1695 r1536 7 := (wq_u_t e1801 g1 g1538 rfl 7)
                      have k1817 : H1800 r1536 8 = H1695 r1536 8 := (wq_u_t e1801 g1 g1538 rfl 8)
                      have k1818 : H1800 r1536 9 = H1695 r1536 9 := (wq_u_t e1801 g1 g1538 rfl 9)
                      have k1819 : H1800 r1536 10 = H1695 r1536 10 := (wq_u_t e1801 g1 g1538 rfl 10)
                      have k1820 : H1800 r1536 11 = H1695 r1536 11 := (wq_u_t e1801 g1 g1538 rfl 11)
                      have k1821 : H1800 r1536 12 = H1695 r1536 12 := (wq_u_t e1801 g1 g1538 rfl 12)
                      have k1822 : H1800 r1536 13 = H1695 r1536 13 := (wq_u_t e1801 g1 g1538 rfl 13)
                      have k1823 : H1800 r1536 14 = H1695 r1536 14 := (wq_u_t e1801 g1 g1538 rfl 14)
                      have o1824 : (xcs B n q) = (0, q, (xN B n (xN B n (xN B n ((xN B n ((xN B n ((xN B n q)))))))))) := by
                        unfold xcs xca xcb
                        try rw [_ea]
                        try rw [_eb]
                        try rw [_ec]
                        repeat first | rw [xs_0 (by omega)] | rw [xs_1 (by omega)] | rw [if_pos (by omega)] | rw [if_neg (by omega)]
                        first | done | rfl | assumption | (exfalso; omega) | (refine Prod.ext ?_ (Prod.ext ?_ ?_) <;> (try dsimp only) <;> omega)
                      have o1824a : ((xcs B n q)).1 = 0 := by rw [o1824]
                      have o1824b : ((xcs B n q)).2.1 = q := by rw [o1824]
                      have o1824c : ((xcs B n q)).2.2 = (xN B n (xN B n (xN B n ((xN B n ((xN B n ((xN B n q))))))))) := by rw [o1824]
                      have _l := @xdper_v B n y d
                      have _k := @xdper_k (H r1 10).toNat d B n y (by omega)
                      rw [← p1] at _k
                      rw [_ea, _eb] at _k
                      have _f : H1800 r1536 6 = xdper B n y d 1 (H r1 10).toNat ∧ H1800 r1536 7 = xdper B n y d 2 (H r1 10).toNat ∧ H1800 r1536 8 = xdper B n y d 3 (H r1 10).toNat ∧ H1800 r1536 9 = xdper B n y d 4 (H r1 10).toNat ∧ H1800 r1536 10 = xdper B n y d 5 (H r1 10).toNat ∧ H1800 r1536 11 = xdper B n y d 6 (H r1 10).toNat ∧ H1800 r1536 12 = xhs (xdper B n y d 7 (H r1 10).toNat) (xdper B n y d 8 (H r1 10).toNat) ∧ H1800 r1536 13 = xdper B n y d 9 (H r1 10).toNat ∧ H1800 r1536 14 = 0 := ⟨by omega, by omega, by omega, by omega, by omega, by omega, by rw [_k.2.2.2.2.2.2.1, _k.2.2.2.2.2.2.2.1]; omega, by omega, by omega⟩
                      have h1825 : TC T H1800 tk B n (xN B n (xN B n (xN B n ((xN B n ((xN B n ((xN B n q))))))))) := (TC_fr w1697 gtk ((wfr.rf (l := [(27, 10)])).put' e1801 g1 rfl) rfl h1711)
                      have k1826 : H1800 r1 0 = H r1 0 := ((wq_u_j e1801 rfl).trans ((wq_u_t e1696 g1538 g1 rfl 0).trans ((f1659 r1 0 _ g1 rfl).trans ((f1642 r1 0 _ g1 rfl).trans ((wq_u_t e1596 g1538 g1 rfl 0).trans ((f1580 r1 0 _ g1 rfl).trans (f1563 r1 0 _ g1 rfl)))))))
                      have q1827 : H1800 r1 0 = (r1531 : Int) := k1826.trans q1532
                      have k1828 : H1800 r1531 ((H r1 10).toNat) = H r1531 ((H r1 10).toNat) := ((wq_u_t e1801 g1 g1533 rfl ((H r1 10).toNat)).trans ((wq_u_t e1696 g1538 g1533 rfl ((H r1 10).toNat)).trans ((f1659 r1531 ((H r1 10).toNat) _ g1533 rfl).trans ((f1642 r1531 ((H r1 10).toNat) _ g1533 rfl).trans ((wq_u_t e1596 g1538 g1533 rfl ((H r1 10).toNat)).trans ((f1580 r1531 ((H r1 10).toNat) _ g1533 rfl).trans (f1563 r1531 ((H r1 10).toNat) _ g1533 rfl)))))))
                      have q1829 : H1800 r1531 ((H r1 10).toNat) = (r1536 : Int) := k1828.trans q1537
                      have h1830 : ST T H1800 r1 (d 13) := (ST_fr w1697 g1 ((wfr.rf (l := [(27, 10)])).put' e1801 g1 rfl) rfl (ST_fr w1658 g1 ((wfr.rf (l := [(35, 12)])).put' e1696 g1538 rfl) rfl (ST_fr w1641 g1 f1659 rfl (ST_fr w1597 g1 f1642 rfl (ST_fr w1579 g1 ((wfr.rf (l := [(35, 11)])).put' e1596 g1538 rfl) rfl (ST_fr w1562 g1 f1580 rfl (ST_fr hW g1 f1563 rfl h1525)))))))
                      have h1831 : SV T H1800 r1 (d 13) 24 := (SV_fr w1697 g1 ((wfr.rf (l := [(27, 10)])).put' e1801 g1 rfl) rfl (SV_fr w1658 g1 ((wfr.rf (l := [(35, 12)])).put' e1696 g1538 rfl) rfl (SV_fr w1641 g1 f1659 rfl (SV_fr w1597 g1 f1642 rfl (SV_fr w1579 g1 ((wfr.rf (l := [(35, 11)])).put' e1596 g1538 rfl) rfl (SV_fr w1562 g1 f1580 rfl (SV_fr hW g1 f1563 rfl h1526)))))))
                      have h1832 : DA3 T H1800 r1 (d 0 5) (d 12) := (DA3_fr w1697 g1 ((wfr.rf (l := [(27, 10)])).put' e1801 g1 rfl) rfl (DA3_fr w1658 g1 ((wfr.rf (l := [(35, 12)])).put' e1696 g1538 rfl) rfl (DA3_fr w1641 g1 f1659 rfl (DA3_fr w1597 g1 f1642 rfl (DA3_fr w1579 g1 ((wfr.rf (l := [(35, 11)])).put' e1596 g1538 rfl) rfl (DA3_fr w1562 g1 f1580 rfl (DA3_fr hW g1 f1563 rfl h1527)))))))
                      have h1833 : DA4 T H1800 r1 (d 0 6) (d 14) := (DA4_fr w1697 g1 ((wfr.rf (l := [(27, 10)])).put' e1801 g1 rfl) rfl (DA4_fr w1658 g1 ((wfr.rf (l := [(35, 12)])).put' e1696 g1538 rfl) rfl (DA4_fr w1641 g1 f1659 rfl (DA4_fr w1597 g1 f1642 rfl (DA4_fr w1579 g1 ((wfr.rf (l := [(35, 11)])).put' e1596 g1538 rfl) rfl (DA4_fr w1562 g1 f1580 rfl (DA4_fr hW g1 f1563 rfl h1528)))))))
                      have h1834 : DA5 T H1800 r1 (d 0 6) (d 15) := (DA5_fr w1697 g1 ((wfr.rf (l := [(27, 10)])).put' e1801 g1 rfl) rfl (DA5_fr w1658 g1 ((wfr.rf (l := [(35, 12)])).put' e1696 g1538 rfl) rfl (DA5_fr w1641 g1 f1659 rfl (DA5_fr w1597 g1 f1642 rfl (DA5_fr w1579 g1 ((wfr.rf (l := [(35, 11)])).put' e1596 g1538 rfl) rfl (DA5_fr w1562 g1 f1580 rfl (DA5_fr hW g1 f1563 rfl h1529)))))))
                      have h1835 : DA6 T H1800 r1 (d 0 7) (d 16) := (DA6_fr w1697 g1 ((wfr.rf (l := [(27, 10)])).put' e1801 g1 rfl) rfl (DA6_fr w1658 g1 ((wfr.rf (l := [(35, 12)])).put' e1696 g1538 rfl) rfl (DA6_fr w1641 g1 f1659 rfl (DA6_fr w1597 g1 f1642 rfl (DA6_fr w1579 g1 ((wfr.rf (l := [(35, 11)])).put' e1596 g1538 rfl) rfl (DA6_fr w1562 g1 f1580 rfl (DA6_fr hW g1 f1563 rfl h1530)))))))
                      exact wp_zreturn e30 c30_146 rfl (by omega) ⟨rfl, w1802, f1803, 1, rfl, ⟨by omega, by omega⟩, (Or.inl ⟨by omega, by omega, by omega, by omega, by rw [o1824]; exact h1825, DC_mk ⟨by omega, by omega, by omega, by omega, by omega, by omega, by omega, by omega, by omega, by omega, by omega, by omega, by omega, by omega, by omega, by omega⟩ (DQ_per g1538 (DQ_oth hW g1 f1803 rfl hDD_r1 q1827 q1829 (by omega) (by omega) (fun a ha ga => ((wq_u_tf e1801 g1 ga (by decide)).trans ((wq_u_nf e1696 ha).trans ((f1659.fn ga rfl).trans ((f1642.fn ga rfl).trans ((wq_u_nf e1596 ha).trans ((f1580.fn ga rfl).trans (f1563.fn ga rfl)))))))) hDC_r1.2.1) (by omega) q1827 q1829 (k := (H r1 10).toNat) (by omega) _f) h1830 h1831 h1832 h1833 h1834 h1835 ⟨rfl, rfl, rfl, rfl, rfl⟩ ⟨by omega, by omega, by omega⟩⟩)⟩
                    · exfalso
                      omega
                · exfalso
                  omega
              · have f1836 := f1645.tr f1659 rfl
                show wp _ _ 30 87 [(2, .ref r1536), (0, .ref r0), (1, .ref r1)] [vI z1660] _ H1654 _
                refine wp_of e30 c30_87 (rw_if_ne (p1 := 92) (p2 := 90) (by decide) rfl ⟨by omega, by omega⟩ (fun c1837 => ?_) (fun c1837 => ?_))
                · exfalso
                  omega
                · refine wp_of e30 c30_90 (rw_iconst (pc' := 91) rfl ?_)
                  have o1838 : (xcs B n q) = ((xrg B n ((xN B n ((xN B n ((xN B n q)))))) 23 1 24 24).1, (xrg B n ((xN B n ((xN B n ((xN B n q)))))) 23 1 24 24).2.1, (xrg B n ((xN B n ((xN B n ((xN B n q)))))) 23 1 24 24).2.2) := by
                    unfold xcs xca xcb
                    try rw [_ea]
                    try rw [_eb]
                    try rw [_ec]
                    repeat first | rw [xs_0 (by omega)] | rw [xs_1 (by omega)] | rw [if_pos (by omega)] | rw [if_neg (by omega)]
                    first | done | rfl | assumption | (exfalso; omega) | (refine Prod.ext ?_ (Prod.ext ?_ ?_) <;> (try dsimp only) <;> omega)
                  have o1838a : ((xcs B n q)).1 = (xrg B n ((xN B n ((xN B n ((xN B n q)))))) 23 1 24 24).1 := by rw [o1838]
                  have o1838b : ((xcs B n q)).2.1 = (xrg B n ((xN B n ((xN B n ((xN B n q)))))) 23 1 24 24).2.1 := by rw [o1838]
                  have o1838c : ((xcs B n q)).2.2 = (xrg B n ((xN B n ((xN B n ((xN B n q)))))) 23 1 24 24).2.2 := by rw [o1838]
                  exact wp_zreturn e30 c30_91 rfl (by omega) ⟨rfl, w1658, f1836, 0, rfl, ⟨by omega, by omega⟩, (Or.inr ⟨by omega, by omega, by omega, by omega, by omega⟩)⟩
          · show wp _ _ 30 66 [(2, .ref r1536), (0, .ref r0), (1, .ref r1)] [vI z1622] _ H1595 _
            refine wp_of e30 c30_66 (rw_if_eq (p1 := 107) (p2 := 69) (by decide) rfl ⟨by omega, by omega⟩ (fun c1839 => ?_) (fun c1839 => ?_))
            · have _eb : xqb B n ((xN B n ((xN B n q)))) = ((xN B n ((xN B n q)))) := by
                unfold xqb
                first | rw [if_pos (by omega)] | rw [if_neg (by omega)]
              have _en : H1595 r1536 12 = xhs (xnf B n ((xN B n ((xN B n q))))) (xnt B n ((xN B n ((xN B n q))))) := by
                unfold xnf xnt
                first | (rw [if_pos (by omega), if_pos (by omega)]; omega) | (rw [if_neg (by omega), if_neg (by omega)]; omega)
              refine wp_of e30 c30_107 (rw_aload_n (pc' := 108) (v := .ref r0) rfl rfl rfl ?_)
              refine wp_of e30 c30_108 (xg_K (pc' := 111) lf_1_12 w1597 g0 sh_3 (by decide) (by decide) rfl q1612 rfl ?_)
              refine wp_of e30 c30_111 (rw_gs (pc' := 114) (k := 26) rfl rfl rfl rfl ?_)
              have k1840 : H1595 26 0 = ((42 : Nat) : Int) := (w1597.2 26 _ (w1597.1.2.2 10 (by decide))).2.2 0 (by decide) |> fun z => by have z1 : (42 : Int) ≤ H1595 26 0 ∧ H1595 26 0 ≤ 42 := z; omega
              refine wp_of e30 c30_114 (rw_getR (pc' := 117) (n := 2) (b := 42) (e := _) (lf_1_181).choose_spec.1 (lf_1_181).choose_spec.2.1 (w1597.sh (w1597.1.2.2 10 (by decide)) rfl) (by decide) rfl k1840 rfl ?_)
              refine wp_of e30 c30_117 (xc_V (pc' := 120) (r := tk) (as := [.ref 42]) (st := []) (lm_1_185) rfl rfl (Nat.le_of_ble_eq_true rfl) w1597 gtk sh_4 (by decide) rfl (by decide) (u_19_t (B := B) (n := n) (q := ((xN B n ((xN B n q))))) (kk := 56377) w1597 gtk rfl (by decide +kernel) h1614) (fun R1841 T1842 H1843 p1844 => ?_))
              obtain ⟨e1845, e1847, z1848, e1846, b1849, p1850⟩ := p1844
              subst e1845
              subst e1846
              subst e1847
              rcases p1850 with ⟨a1851, a1852⟩ | ⟨a1853, a1854⟩
              · show wp _ _ 30 120 [(2, .ref r1536), (0, .ref r0), (1, .ref r1)] [vI z1848] _ H1595 _
                refine wp_of e30 c30_120 (rw_if_eq (p1 := 135) (p2 := 123) (by decide) rfl ⟨by omega, by omega⟩ (fun c1855 => ?_) (fun c1855 => ?_))
                · exfalso
                  omega
                · refine wp_of e30 c30_123 (rw_aload_n (pc' := 124) (v := .ref r0) rfl rfl rfl ?_)
                  refine wp_of e30 c30_124 (xg_K (pc' := 127) lf_1_12 w1597 g0 sh_3 (by decide) (by decide) rfl q1612 rfl ?_)
                  have k1856 : H1595 tk 0 = H1558 tk 0 := ((wq_u_t e1596 g1538 gtk rfl 0).trans (f1580 tk 0 _ gtk rfl))
                  have q1857 : H1595 tk 0 = (rb : Int) := k1856.trans q1571
                  have k1858 : H1595 tk 1 = H1575 tk 1 := (wq_u_t e1596 g1538 gtk rfl 1)
                  have k1859 : H1595 tk 2 = H1575 tk 2 := (wq_u_t e1596 g1538 gtk rfl 2)
                  have h1860 : TP T H1595 rb B := (TP_fr w1579 grb ((wfr.rf (l := [(35, 11)])).put' e1596 g1538 rfl) rfl (TP_fr w1562 grb f1580 rfl (TP_fr hW grb f1563 rfl h1555)))
                  refine wp_of e30 c30_127 (xc_V (pc' := 130) (r := tk) (as := []) (st := []) (lm_1_74) rfl rfl (Nat.le_of_ble_eq_true rfl) w1597 gtk sh_4 (by decide) rfl (by decide) (u_16 (B := B) (n := n) (a := (xE B n ((xN B n ((xN B n q)))))) (q := (xN B n ((xN B n ((xN B n q)))))) w1597 gtk q1857 grb (by omega) (by omega) (by omega) (rfl) h1860) (fun R1861 T1862 H1863 p1864 => ?_))
                  obtain ⟨e1865, w1867, f1868, e1866, p1869⟩ := p1864
                  subst e1865
                  subst e1866
                  have f1871 := f1598.tr f1868 rfl
                  show wp _ _ 30 130 [(2, .ref r1536), (0, .ref r0), (1, .ref r1)] [] _ H1863 _
                  have u1872 := TC_k p1869
                  refine wp_of e30 c30_130 (rw_aload_n (pc' := 131) (v := .ref r1536) rfl rfl rfl ?_)
                  refine wp_of e30 c30_131 (rw_iconst (pc' := 132) rfl ?_)
                  refine wp_of e30 c30_132 (xp_Z (pc' := 135) lf_1_203 w1867 g1538 sh_35 (by decide) (by decide) ty_35_13 rfl rfl (by omega) (by omega) rfl (fun H1873 e1874 w1875 => ?_))
                  have f1876 := f1871.put' e1874 g1538 rfl
                  have k1877 : H1873 r1536 13 = 1 := wq_u_s e1874
                  have _ec : xqc B n ((xN B n ((xN B n q)))) = ((xN B n ((xN B n ((xN B n q)))))) := by
                    unfold xqc
                    first | rw [if_pos (by omega)] | rw [if_neg (by omega)]
                  have k1878 : H1873 r1536 6 = H1595 r1536 6 := ((wq_u_j e1874 rfl).trans (f1868 r1536 6 _ g1538 rfl))
                  have k1879 : H1873 r1536 7 = H1595 r1536 7 := ((wq_u_j e1874 rfl).trans (f1868 r1536 7 _ g1538 rfl))
                  have k1880 : H1873 r1536 8 = H1595 r1536 8 := ((wq_u_j e1874 rfl).trans (f1868 r1536 8 _ g1538 rfl))
                  have k1881 : H1873 r1536 9 = H1595 r1536 9 := ((wq_u_j e1874 rfl).trans (f1868 r1536 9 _ g1538 rfl))
                  have k1882 : H1873 r1536 10 = H1595 r1536 10 := ((wq_u_j e1874 rfl).trans (f1868 r1536 10 _ g1538 rfl))
                  have k1883 : H1873 r1536 11 = H1595 r1536 11 := ((wq_u_j e1874 rfl).trans (f1868 r1536 11 _ g1538 rfl))
                  have k1884 : H1873 r1536 12 = H1595 r1536 12 := ((wq_u_j e1874 rfl).trans (f1868 r1536 12 _ g1538 rfl))
                  have k1885 : H1873 r1536 14 = H1595 r1536 14 := ((wq_u_j e1874 rfl).trans (f1868 r1536 14 _ g1538 rfl))
                  have _ew : xaw B n ((xN B n ((xN B n q)))) = H1873 r1536 13 := by
                    unfold xaw
                    first | (rw [if_pos (by omega)]; omega) | (rw [if_neg (by omega)]; omega)
                  refine wp_of e30 c30_135 (rw_aload_n (pc' := 136) (v := .ref r1) rfl rfl rfl ?_)
                  refine wp_of e30 c30_136 (rw_dup (pc' := 137) rfl rfl ?_)
                  have k1886 : H1873 r1 10 = H r1 10 := ((wq_u_t e1874 g1538 g1 rfl 10).trans ((f1868 r1 10 _ g1 rfl).trans ((wq_u_t e1596 g1538 g1 rfl 10).trans ((f1580 r1 10 _ g1 rfl).trans (f1563 r1 10 _ g1 rfl)))))
                  refine wp_of e30 c30_137 (xg_I (pc' := 140) lf_1_44 w1875 g1 sh_27 (by decide) (by decide) ty_27_10 rfl rfl (fun b1887 b1888 => ?_))
                  refine wp_of e30 c30_140 (rw_iconst (pc' := 141) rfl ?_)
                  refine wp_of e30 c30_141 (rw_iadd (pc' := 142) rfl ?_)
                  refine wp_of e30 c30_142 (xp_I (pc' := 145) lf_1_44 w1875 g1 sh_27 (by decide) (by decide) ty_27_10 rfl rfl (by omega) (by omega) ⟨by omega, by omega⟩ rfl (fun H1889 e1890 w1891 => ?_))
                  have f1892 := f1876.put' e1890 g1 rfl
                  have k1893 : H1889 r1 10 = (H1873 r1 10) + 1 := wq_u_s e1890
                  refine wp_of e30 c30_145 (rw_iconst (pc' := 146) rfl ?_)
                  have k1894 : H1889 r0 3 = H1575 r0 3 := ((wq_u_t e1890 g1 g0 rfl 3).trans ((wq_u_t e1874 g1538 g0 rfl 3).trans ((f1868 r0 3 _ g0 rfl).trans (wq_u_t e1596 g1538 g0 rfl 3))))
                  have k1895 : H1889 r1 7 = H r1 7 := ((wq_u_j e1890 rfl).trans ((wq_u_t e1874 g1538 g1 rfl 7).trans ((f1868 r1 7 _ g1 rfl).trans ((wq_u_t e1596 g1538 g1 rfl 7).trans ((f1580 r1 7 _ g1 rfl).trans (f1563 r1 7 _ g1 rfl))))))
                  have k1896 : H1889 r1 8 = H r1 8 := ((wq_u_j e1890 rfl).trans ((wq_u_t e1874 g1538 g1 rfl 8).trans ((f1868 r1 8 _ g1 rfl).trans ((wq_u_t e1596 g1538 g1 rfl 8).trans ((f1580 r1 8 _ g1 rfl).trans (f1563 r1 8 _ g1 rfl))))))
                  have k1897 : H1889 r1 9 = H r1 9 := ((wq_u_j e1890 rfl).trans ((wq_u_t e1874 g1538 g1 rfl 9).trans ((f1868 r1 9 _ g1 rfl).trans ((wq_u_t e1596 g1538 g1 rfl 9).trans ((f1580 r1 9 _ g1 rfl).trans (f1563 r1 9 _ g1 rfl))))))
                  have k1898 : H1889 r1 11 = H r1 11 := ((wq_u_j e1890 rfl).trans ((wq_u_t e1874 g1538 g1 rfl 11).trans ((f1868 r1 11 _ g1 rfl).trans ((wq_u_t e1596 g1538 g1 rfl 11).trans ((f1580 r1 11 _ g1 rfl).trans (f1563 r1 11 _ g1 rfl))))))
                  have k1899 : H1889 r1 12 = H r1 12 := ((wq_u_j e1890 rfl).trans ((wq_u_t e1874 g1538 g1 rfl 12).trans ((f1868 r1 12 _ g1 rfl).trans ((wq_u_t e1596 g1538 g1 rfl 12).trans ((f1580 r1 12 _ g1 rfl).trans (f1563 r1 12 _ g1 rfl))))))
                  have k1900 : H1889 r1 13 = H r1 13 := ((wq_u_j e1890 rfl).trans ((wq_u_t e1874 g1538 g1 rfl 13).trans ((f1868 r1 13 _ g1 rfl).trans ((wq_u_t e1596 g1538 g1 rfl 13).trans ((f1580 r1 13 _ g1 rfl).trans (f1563 r1 13 _ g1 rfl))))))
                  have k1901 : H1889 r1 14 = H r1 14 := ((wq_u_j e1890 rfl).trans ((wq_u_t e1874 g1538 g1 rfl 14).trans ((f1868 r1 14 _ g1 rfl).trans ((wq_u_t e1596 g1538 g1 rfl 14).trans ((f1580 r1 14 _ g1 rfl).trans (f1563 r1 14 _ g1 rfl))))))
                  have k1902 : H1889 r1 15 = H r1 15 := ((wq_u_j e1890 rfl).trans ((wq_u_t e1874 g1538 g1 rfl 15).trans ((f1868 r1 15 _ g1 rfl).trans ((wq_u_t e1596 g1538 g1 rfl 15).trans ((f1580 r1 15 _ g1 rfl).trans (f1563 r1 15 _ g1 rfl))))))
                  have k1903 : H1889 r1 16 = H r1 16 := ((wq_u_j e1890 rfl).trans ((wq_u_t e1874 g1538 g1 rfl 16).trans ((f1868 r1 16 _ g1 rfl).trans ((wq_u_t e1596 g1538 g1 rfl 16).trans ((f1580 r1 16 _ g1 rfl).trans (f1563 r1 16 _ g1 rfl))))))
                  have k1904 : H1889 r1536 6 = H1873 r1536 6 := (wq_u_t e1890 g1 g1538 rfl 6)
                  have k1905 : H1889 r1536 7 = H1873 r1536 7 := (wq_u_t e1890 g1 g1538 rfl 7)
                  have k1906 : H1889 r1536 8 = H1873 r1536 8 := (wq_u_t e1890 g1 g1538 rfl 8)
                  have k1907 : H1889 r1536 9 = H1873 r1536 9 := (wq_u_t e1890 g1 g1538 rfl 9)
                  have k1908 : H1889 r1536 10 = H1873 r1536 10 := (wq_u_t e1890 g1 g1538 rfl 10)
                  have k1909 : H1889 r1536 11 = H1873 r1536 11 := (wq_u_t e1890 g1 g1538 rfl 11)
                  have k1910 : H1889 r1536 12 = H1873 r1536 12 := (wq_u_t e1890 g1 g1538 rfl 12)
                  have k1911 : H1889 r1536 13 = H1873 r1536 13 := (wq_u_t e1890 g1 g1538 rfl 13)
                  have k1912 : H1889 r1536 14 = H1873 r1536 14 := (wq_u_t e1890 g1 g1538 rfl 14)
                  have o1913 : (xcs B n q) = (0, q, (xN B n ((xN B n ((xN B n q)))))) := by
                    unfold xcs xca xcb
                    try rw [_ea]
                    try rw [_eb]
                    try rw [_ec]
                    repeat first | rw [xs_0 (by omega)] | rw [xs_1 (by omega)] | rw [if_pos (by omega)] | rw [if_neg (by omega)]
                    first | done | rfl | assumption | (exfalso; omega) | (refine Prod.ext ?_ (Prod.ext ?_ ?_) <;> (try dsimp only) <;> omega)
                  have o1913a : ((xcs B n q)).1 = 0 := by rw [o1913]
                  have o1913b : ((xcs B n q)).2.1 = q := by rw [o1913]
                  have o1913c : ((xcs B n q)).2.2 = (xN B n ((xN B n ((xN B n q))))) := by rw [o1913]
                  have _l := @xdper_v B n y d
                  have _k := @xdper_k (H r1 10).toNat d B n y (by omega)
                  rw [← p1] at _k
                  rw [_ea, _eb] at _k
                  have _f : H1889 r1536 6 = xdper B n y d 1 (H r1 10).toNat ∧ H1889 r1536 7 = xdper B n y d 2 (H r1 10).toNat ∧ H1889 r1536 8 = xdper B n y d 3 (H r1 10).toNat ∧ H1889 r1536 9 = xdper B n y d 4 (H r1 10).toNat ∧ H1889 r1536 10 = xdper B n y d 5 (H r1 10).toNat ∧ H1889 r1536 11 = xdper B n y d 6 (H r1 10).toNat ∧ H1889 r1536 12 = xhs (xdper B n y d 7 (H r1 10).toNat) (xdper B n y d 8 (H r1 10).toNat) ∧ H1889 r1536 13 = xdper B n y d 9 (H r1 10).toNat ∧ H1889 r1536 14 = 0 := ⟨by omega, by omega, by omega, by omega, by omega, by omega, by rw [_k.2.2.2.2.2.2.1, _k.2.2.2.2.2.2.2.1]; omega, by omega, by omega⟩
                  have h1914 : TC T H1889 tk B n (xN B n ((xN B n ((xN B n q))))) := (TC_fr w1875 gtk ((wfr.rf (l := [(27, 10)])).put' e1890 g1 rfl) rfl (TC_fr w1867 gtk ((wfr.rf (l := [(35, 13)])).put' e1874 g1538 rfl) rfl p1869))
                  have k1915 : H1889 r1 0 = H r1 0 := ((wq_u_j e1890 rfl).trans ((wq_u_t e1874 g1538 g1 rfl 0).trans ((f1868 r1 0 _ g1 rfl).trans ((wq_u_t e1596 g1538 g1 rfl 0).trans ((f1580 r1 0 _ g1 rfl).trans (f1563 r1 0 _ g1 rfl))))))
                  have q1916 : H1889 r1 0 = (r1531 : Int) := k1915.trans q1532
                  have k1917 : H1889 r1531 ((H r1 10).toNat) = H r1531 ((H r1 10).toNat) := ((wq_u_t e1890 g1 g1533 rfl ((H r1 10).toNat)).trans ((wq_u_t e1874 g1538 g1533 rfl ((H r1 10).toNat)).trans ((f1868 r1531 ((H r1 10).toNat) _ g1533 rfl).trans ((wq_u_t e1596 g1538 g1533 rfl ((H r1 10).toNat)).trans ((f1580 r1531 ((H r1 10).toNat) _ g1533 rfl).trans (f1563 r1531 ((H r1 10).toNat) _ g1533 rfl))))))
                  have q1918 : H1889 r1531 ((H r1 10).toNat) = (r1536 : Int) := k1917.trans q1537
                  have h1919 : ST T H1889 r1 (d 13) := (ST_fr w1875 g1 ((wfr.rf (l := [(27, 10)])).put' e1890 g1 rfl) rfl (ST_fr w1867 g1 ((wfr.rf (l := [(35, 13)])).put' e1874 g1538 rfl) rfl (ST_fr w1597 g1 f1868 rfl (ST_fr w1579 g1 ((wfr.rf (l := [(35, 11)])).put' e1596 g1538 rfl) rfl (ST_fr w1562 g1 f1580 rfl (ST_fr hW g1 f1563 rfl h1525))))))
                  have h1920 : SV T H1889 r1 (d 13) 24 := (SV_fr w1875 g1 ((wfr.rf (l := [(27, 10)])).put' e1890 g1 rfl) rfl (SV_fr w1867 g1 ((wfr.rf (l := [(35, 13)])).put' e1874 g1538 rfl) rfl (SV_fr w1597 g1 f1868 rfl (SV_fr w1579 g1 ((wfr.rf (l := [(35, 11)])).put' e1596 g1538 rfl) rfl (SV_fr w1562 g1 f1580 rfl (SV_fr hW g1 f1563 rfl h1526))))))
                  have h1921 : DA3 T H1889 r1 (d 0 5) (d 12) := (DA3_fr w1875 g1 ((wfr.rf (l := [(27, 10)])).put' e1890 g1 rfl) rfl (DA3_fr w1867 g1 ((wfr.rf (l := [(35, 13)])).put' e1874 g1538 rfl) rfl (DA3_fr w1597 g1 f1868 rfl (DA3_fr w1579 g1 ((wfr.rf (l := [(35, 11)])).put' e1596 g1538 rfl) rfl (DA3_fr w1562 g1 f1580 rfl (DA3_fr hW g1 f1563 rfl h1527))))))
                  have h1922 : DA4 T H1889 r1 (d 0 6) (d 14) := (DA4_fr w1875 g1 ((wfr.rf (l := [(27, 10)])).put' e1890 g1 rfl) rfl (DA4_fr w1867 g1 ((wfr.rf (l := [(35, 13)])).put' e1874 g1538 rfl) rfl (DA4_fr w1597 g1 f1868 rfl (DA4_fr w1579 g1 ((wfr.rf (l := [(35, 11)])).put' e1596 g1538 rfl) rfl (DA4_fr w1562 g1 f1580 rfl (DA4_fr hW g1 f1563 rfl h1528))))))
                  have h1923 : DA5 T H1889 r1 (d 0 6) (d 15) := (DA5_fr w1875 g1 ((wfr.rf (l := [(27, 10)])).put' e1890 g1 rfl) rfl (DA5_fr w1867 g1 ((wfr.rf (l := [(35, 13)])).put' e1874 g1538 rfl) rfl (DA5_fr w1597 g1 f1868 rfl (DA5_fr w1579 g1 ((wfr.rf (l := [(35, 11)])).put' e1596 g1538 rfl) rfl (DA5_fr w1562 g1 f1580 rfl (DA5_fr hW g1 f1563 rfl h1529))))))
                  have h1924 : DA6 T H1889 r1 (d 0 7) (d 16) := (DA6_fr w1875 g1 ((wfr.rf (l := [(27, 10)])).put' e1890 g1 rfl) rfl (DA6_fr w1867 g1 ((wfr.rf (l := [(35, 13)])).put' e1874 g1538 rfl) rfl (DA6_fr w1597 g1 f1868 rfl (DA6_fr w1579 g1 ((wfr.rf (l := [(35, 11)])).put' e1596 g1538 rfl) rfl (DA6_fr w1562 g1 f1580 rfl (DA6_fr hW g1 f1563 rfl h1530))))))
                  exact wp_zreturn e30 c30_146 rfl (by omega) ⟨rfl, w1891, f1892, 1, rfl, ⟨by omega, by omega⟩, (Or.inl ⟨by omega, by omega, by omega, by omega, by rw [o1913]; exact h1914, DC_mk ⟨by omega, by omega, by omega, by omega, by omega, by omega, by omega, by omega, by omega, by omega, by omega, by omega, by omega, by omega, by omega, by omega⟩ (DQ_per g1538 (DQ_oth hW g1 f1892 rfl hDD_r1 q1916 q1918 (by omega) (by omega) (fun a ha ga => ((wq_u_tf e1890 g1 ga (by decide)).trans ((wq_u_nf e1874 ha).trans ((f1868.fn ga rfl).trans ((wq_u_nf e1596 ha).trans ((f1580.fn ga rfl).trans (f1563.fn ga rfl))))))) hDC_r1.2.1) (by omega) q1916 q1918 (k := (H r1 10).toNat) (by omega) _f) h1919 h1920 h1921 h1922 h1923 h1924 ⟨rfl, rfl, rfl, rfl, rfl⟩ ⟨by omega, by omega, by omega⟩⟩)⟩
              · show wp _ _ 30 120 [(2, .ref r1536), (0, .ref r0), (1, .ref r1)] [vI z1848] _ H1595 _
                refine wp_of e30 c30_120 (rw_if_eq (p1 := 135) (p2 := 123) (by decide) rfl ⟨by omega, by omega⟩ (fun c1925 => ?_) (fun c1925 => ?_))
                · have _ec : xqc B n ((xN B n ((xN B n q)))) = ((xN B n ((xN B n q)))) := by
                    unfold xqc
                    first | rw [if_pos (by omega)] | rw [if_neg (by omega)]
                  have _ew : xaw B n ((xN B n ((xN B n q)))) = H1595 r1536 13 := by
                    unfold xaw
                    first | (rw [if_pos (by omega)]; omega) | (rw [if_neg (by omega)]; omega)
                  refine wp_of e30 c30_135 (rw_aload_n (pc' := 136) (v := .ref r1) rfl rfl rfl ?_)
                  refine wp_of e30 c30_136 (rw_dup (pc' := 137) rfl rfl ?_)
                  have k1926 : H1595 r1 10 = H r1 10 := ((wq_u_t e1596 g1538 g1 rfl 10).trans ((f1580 r1 10 _ g1 rfl).trans (f1563 r1 10 _ g1 rfl)))
                  refine wp_of e30 c30_137 (xg_I (pc' := 140) lf_1_44 w1597 g1 sh_27 (by decide) (by decide) ty_27_10 rfl rfl (fun b1927 b1928 => ?_))
                  refine wp_of e30 c30_140 (rw_iconst (pc' := 141) rfl ?_)
                  refine wp_of e30 c30_141 (rw_iadd (pc' := 142) rfl ?_)
                  refine wp_of e30 c30_142 (xp_I (pc' := 145) lf_1_44 w1597 g1 sh_27 (by decide) (by decide) ty_27_10 rfl rfl (by omega) (by omega) ⟨by omega, by omega⟩ rfl (fun H1929 e1930 w1931 => ?_))
                  have f1932 := f1598.put' e1930 g1 rfl
                  have k1933 : H1929 r1 10 = (H1595 r1 10) + 1 := wq_u_s e1930
                  refine wp_of e30 c30_145 (rw_iconst (pc' := 146) rfl ?_)
                  have k1934 : H1929 r0 3 = H1575 r0 3 := ((wq_u_t e1930 g1 g0 rfl 3).trans (wq_u_t e1596 g1538 g0 rfl 3))
                  have k1935 : H1929 r1 7 = H r1 7 := ((wq_u_j e1930 rfl).trans ((wq_u_t e1596 g1538 g1 rfl 7).trans ((f1580 r1 7 _ g1 rfl).trans (f1563 r1 7 _ g1 rfl))))
                  have k1936 : H1929 r1 8 = H r1 8 := ((wq_u_j e1930 rfl).trans ((wq_u_t e1596 g1538 g1 rfl 8).trans ((f1580 r1 8 _ g1 rfl).trans (f1563 r1 8 _ g1 rfl))))
                  have k1937 : H1929 r1 9 = H r1 9 := ((wq_u_j e1930 rfl).trans ((wq_u_t e1596 g1538 g1 rfl 9).trans ((f1580 r1 9 _ g1 rfl).trans (f1563 r1 9 _ g1 rfl))))
                  have k1938 : H1929 r1 11 = H r1 11 := ((wq_u_j e1930 rfl).trans ((wq_u_t e1596 g1538 g1 rfl 11).trans ((f1580 r1 11 _ g1 rfl).trans (f1563 r1 11 _ g1 rfl))))
                  have k1939 : H1929 r1 12 = H r1 12 := ((wq_u_j e1930 rfl).trans ((wq_u_t e1596 g1538 g1 rfl 12).trans ((f1580 r1 12 _ g1 rfl).trans (f1563 r1 12 _ g1 rfl))))
                  have k1940 : H1929 r1 13 = H r1 13 := ((wq_u_j e1930 rfl).trans ((wq_u_t e1596 g1538 g1 rfl 13).trans ((f1580 r1 13 _ g1 rfl).trans (f1563 r1 13 _ g1 rfl))))
                  have k1941 : H1929 r1 14 = H r1 14 := ((wq_u_j e1930 rfl).trans ((wq_u_t e1596 g1538 g1 rfl 14).trans ((f1580 r1 14 _ g1 rfl).trans (f1563 r1 14 _ g1 rfl))))
                  have k1942 : H1929 r1 15 = H r1 15 := ((wq_u_j e1930 rfl).trans ((wq_u_t e1596 g1538 g1 rfl 15).trans ((f1580 r1 15 _ g1 rfl).trans (f1563 r1 15 _ g1 rfl))))
                  have k1943 : H1929 r1 16 = H r1 16 := ((wq_u_j e1930 rfl).trans ((wq_u_t e1596 g1538 g1 rfl 16).trans ((f1580 r1 16 _ g1 rfl).trans (f1563 r1 16 _ g1 rfl))))
                  have k1944 : H1929 r1536 6 = H1595 r1536 6 := (wq_u_t e1930 g1 g1538 rfl 6)
                  have k1945 : H1929 r1536 7 = H1595 r1536 7 := (wq_u_t e1930 g1 g1538 rfl 7)
                  have k1946 : H1929 r1536 8 = H1595 r1536 8 := (wq_u_t e1930 g1 g1538 rfl 8)
                  have k1947 : H1929 r1536 9 = H1595 r1536 9 := (wq_u_t e1930 g1 g1538 rfl 9)
                  have k1948 : H1929 r1536 10 = H1595 r1536 10 := (wq_u_t e1930 g1 g1538 rfl 10)
                  have k1949 : H1929 r1536 11 = H1595 r1536 11 := (wq_u_t e1930 g1 g1538 rfl 11)
                  have k1950 : H1929 r1536 12 = H1595 r1536 12 := (wq_u_t e1930 g1 g1538 rfl 12)
                  have k1951 : H1929 r1536 13 = H1595 r1536 13 := (wq_u_t e1930 g1 g1538 rfl 13)
                  have k1952 : H1929 r1536 14 = H1595 r1536 14 := (wq_u_t e1930 g1 g1538 rfl 14)
                  have o1953 : (xcs B n q) = (0, q, (xN B n ((xN B n q)))) := by
                    unfold xcs xca xcb
                    try rw [_ea]
                    try rw [_eb]
                    try rw [_ec]
                    repeat first | rw [xs_0 (by omega)] | rw [xs_1 (by omega)] | rw [if_pos (by omega)] | rw [if_neg (by omega)]
                    first | done | rfl | assumption | (exfalso; omega) | (refine Prod.ext ?_ (Prod.ext ?_ ?_) <;> (try dsimp only) <;> omega)
                  have o1953a : ((xcs B n q)).1 = 0 := by rw [o1953]
                  have o1953b : ((xcs B n q)).2.1 = q := by rw [o1953]
                  have o1953c : ((xcs B n q)).2.2 = (xN B n ((xN B n q))) := by rw [o1953]
                  have _l := @xdper_v B n y d
                  have _k := @xdper_k (H r1 10).toNat d B n y (by omega)
                  rw [← p1] at _k
                  rw [_ea, _eb] at _k
                  have _f : H1929 r1536 6 = xdper B n y d 1 (H r1 10).toNat ∧ H1929 r1536 7 = xdper B n y d 2 (H r1 10).toNat ∧ H1929 r1536 8 = xdper B n y d 3 (H r1 10).toNat ∧ H1929 r1536 9 = xdper B n y d 4 (H r1 10).toNat ∧ H1929 r1536 10 = xdper B n y d 5 (H r1 10).toNat ∧ H1929 r1536 11 = xdper B n y d 6 (H r1 10).toNat ∧ H1929 r1536 12 = xhs (xdper B n y d 7 (H r1 10).toNat) (xdper B n y d 8 (H r1 10).toNat) ∧ H1929 r1536 13 = xdper B n y d 9 (H r1 10).toNat ∧ H1929 r1536 14 = 0 := ⟨by omega, by omega, by omega, by omega, by omega, by omega, by rw [_k.2.2.2.2.2.2.1, _k.2.2.2.2.2.2.2.1]; omega, by omega, by omega⟩
                  have h1954 : TC T H1929 tk B n (xN B n ((xN B n q))) := (TC_fr w1597 gtk ((wfr.rf (l := [(27, 10)])).put' e1930 g1 rfl) rfl h1614)
                  have k1955 : H1929 r1 0 = H r1 0 := ((wq_u_j e1930 rfl).trans ((wq_u_t e1596 g1538 g1 rfl 0).trans ((f1580 r1 0 _ g1 rfl).trans (f1563 r1 0 _ g1 rfl))))
                  have q1956 : H1929 r1 0 = (r1531 : Int) := k1955.trans q1532
                  have k1957 : H1929 r1531 ((H r1 10).toNat) = H r1531 ((H r1 10).toNat) := ((wq_u_t e1930 g1 g1533 rfl ((H r1 10).toNat)).trans ((wq_u_t e1596 g1538 g1533 rfl ((H r1 10).toNat)).trans ((f1580 r1531 ((H r1 10).toNat) _ g1533 rfl).trans (f1563 r1531 ((H r1 10).toNat) _ g1533 rfl))))
                  have q1958 : H1929 r1531 ((H r1 10).toNat) = (r1536 : Int) := k1957.trans q1537
                  have h1959 : ST T H1929 r1 (d 13) := (ST_fr w1597 g1 ((wfr.rf (l := [(27, 10)])).put' e1930 g1 rfl) rfl (ST_fr w1579 g1 ((wfr.rf (l := [(35, 11)])).put' e1596 g1538 rfl) rfl (ST_fr w1562 g1 f1580 rfl (ST_fr hW g1 f1563 rfl h1525))))
                  have h1960 : SV T H1929 r1 (d 13) 24 := (SV_fr w1597 g1 ((wfr.rf (l := [(27, 10)])).put' e1930 g1 rfl) rfl (SV_fr w1579 g1 ((wfr.rf (l := [(35, 11)])).put' e1596 g1538 rfl) rfl (SV_fr w1562 g1 f1580 rfl (SV_fr hW g1 f1563 rfl h1526))))
                  have h1961 : DA3 T H1929 r1 (d 0 5) (d 12) := (DA3_fr w1597 g1 ((wfr.rf (l := [(27, 10)])).put' e1930 g1 rfl) rfl (DA3_fr w1579 g1 ((wfr.rf (l := [(35, 11)])).put' e1596 g1538 rfl) rfl (DA3_fr w1562 g1 f1580 rfl (DA3_fr hW g1 f1563 rfl h1527))))
                  have h1962 : DA4 T H1929 r1 (d 0 6) (d 14) := (DA4_fr w1597 g1 ((wfr.rf (l := [(27, 10)])).put' e1930 g1 rfl) rfl (DA4_fr w1579 g1 ((wfr.rf (l := [(35, 11)])).put' e1596 g1538 rfl) rfl (DA4_fr w1562 g1 f1580 rfl (DA4_fr hW g1 f1563 rfl h1528))))
                  have h1963 : DA5 T H1929 r1 (d 0 6) (d 15) := (DA5_fr w1597 g1 ((wfr.rf (l := [(27, 10)])).put' e1930 g1 rfl) rfl (DA5_fr w1579 g1 ((wfr.rf (l := [(35, 11)])).put' e1596 g1538 rfl) rfl (DA5_fr w1562 g1 f1580 rfl (DA5_fr hW g1 f1563 rfl h1529))))
                  have h1964 : DA6 T H1929 r1 (d 0 7) (d 16) := (DA6_fr w1597 g1 ((wfr.rf (l := [(27, 10)])).put' e1930 g1 rfl) rfl (DA6_fr w1579 g1 ((wfr.rf (l := [(35, 11)])).put' e1596 g1538 rfl) rfl (DA6_fr w1562 g1 f1580 rfl (DA6_fr hW g1 f1563 rfl h1530))))
                  exact wp_zreturn e30 c30_146 rfl (by omega) ⟨rfl, w1931, f1932, 1, rfl, ⟨by omega, by omega⟩, (Or.inl ⟨by omega, by omega, by omega, by omega, by rw [o1953]; exact h1954, DC_mk ⟨by omega, by omega, by omega, by omega, by omega, by omega, by omega, by omega, by omega, by omega, by omega, by omega, by omega, by omega, by omega, by omega⟩ (DQ_per g1538 (DQ_oth hW g1 f1932 rfl hDD_r1 q1956 q1958 (by omega) (by omega) (fun a ha ga => ((wq_u_tf e1930 g1 ga (by decide)).trans ((wq_u_nf e1596 ha).trans ((f1580.fn ga rfl).trans (f1563.fn ga rfl))))) hDC_r1.2.1) (by omega) q1956 q1958 (k := (H r1 10).toNat) (by omega) _f) h1959 h1960 h1961 h1962 h1963 h1964 ⟨rfl, rfl, rfl, rfl, rfl⟩ ⟨by omega, by omega, by omega⟩⟩)⟩
                · exfalso
                  omega
            · exfalso
              omega
        · exfalso
          omega
      · have f1965 := f1566.tr f1580 rfl
        show wp _ _ 30 41 [(2, .ref r1536), (0, .ref r0), (1, .ref r1)] [vI z1581, .ref r1536] _ H1575 _
        refine wp_of e30 c30_41 (xp_I (pc' := 44) lf_1_188 w1579 g1538 sh_35 (by decide) (by decide) ty_35_11 rfl rfl (by omega) (by omega) ⟨by omega, by omega⟩ rfl (fun H1966 e1967 w1968 => ?_))
        have f1969 := f1965.put' e1967 g1538 rfl
        have k1970 : H1966 r1536 11 = z1581 := wq_u_s e1967
        refine wp_of e30 c30_44 (rw_aload_n (pc' := 45) (v := .ref r1536) rfl rfl rfl ?_)
        refine wp_of e30 c30_45 (xg_I (pc' := 48) lf_1_188 w1968 g1538 sh_35 (by decide) (by decide) ty_35_11 rfl rfl (fun b1971 b1972 => ?_))
        refine wp_of e30 c30_48 (rw_if_ge (p1 := 53) (p2 := 51) (by decide) rfl ⟨by omega, by omega⟩ (fun c1973 => ?_) (fun c1973 => ?_))
        · exfalso
          omega
        · refine wp_of e30 c30_51 (rw_iconst (pc' := 52) rfl ?_)
          have k1974 : H1966 r0 3 = H1575 r0 3 := (wq_u_t e1967 g1538 g0 rfl 3)
          have k1975 : H1966 r0 4 = H1575 r0 4 := (wq_u_t e1967 g1538 g0 rfl 4)
          have o1976 : (xcs B n q) = (xh B n ((xN B n q)) 0 23, ((xN B n q)), ((xN B n q))) := by
            unfold xcs xca xcb
            try rw [_ea]
            try rw [_eb]
            try rw [_ec]
            repeat first | rw [xs_0 (by omega)] | rw [xs_1 (by omega)] | rw [if_pos (by omega)] | rw [if_neg (by omega)]
            first | done | rfl | assumption | (exfalso; omega) | (refine Prod.ext ?_ (Prod.ext ?_ ?_) <;> (try dsimp only) <;> omega)
          have o1976a : ((xcs B n q)).1 = xh B n ((xN B n q)) 0 23 := by rw [o1976]
          have o1976b : ((xcs B n q)).2.1 = ((xN B n q)) := by rw [o1976]
          have o1976c : ((xcs B n q)).2.2 = ((xN B n q)) := by rw [o1976]
          exact wp_zreturn e30 c30_52 rfl (by omega) ⟨rfl, w1968, f1969, 0, rfl, ⟨by omega, by omega⟩, (Or.inr ⟨by omega, by omega, by omega, by omega, by omega⟩)⟩
  · show wp _ _ 30 23 [(2, .ref r1536), (0, .ref r0), (1, .ref r1)] [vI z1547] _ H _
    refine wp_of e30 c30_23 (rw_if_eq (p1 := 53) (p2 := 26) (by decide) rfl ⟨by omega, by omega⟩ (fun c1977 => ?_) (fun c1977 => ?_))
    · have _ea : xqa B n q = q := by
        unfold xqa
        first | rw [if_pos (by omega)] | rw [if_neg (by omega)]
      have _eh : xhb B n q = H r1536 11 := by
        unfold xhb
        first | (rw [if_pos (by omega)]; omega) | (rw [if_neg (by omega)]; omega)
      refine wp_of e30 c30_53 (rw_aload_n (pc' := 54) (v := .ref r0) rfl rfl rfl ?_)
      refine wp_of e30 c30_54 (xg_K (pc' := 57) lf_1_12 hW g0 sh_3 (by decide) (by decide) rfl qtk rfl ?_)
      refine wp_of e30 c30_57 (rw_gs (pc' := 60) (k := 25) rfl rfl rfl rfl ?_)
      have k1978 : H 25 0 = ((41 : Nat) : Int) := (hW.2 25 _ (hW.1.2.2 9 (by decide))).2.2 0 (by decide) |> fun z => by have z1 : (41 : Int) ≤ H 25 0 ∧ H 25 0 ≤ 41 := z; omega
      refine wp_of e30 c30_60 (rw_getR (pc' := 63) (n := 2) (b := 41) (e := _) (lf_1_181).choose_spec.1 (lf_1_181).choose_spec.2.1 (hW.sh (hW.1.2.2 9 (by decide)) rfl) (by decide) rfl k1978 rfl ?_)
      refine wp_of e30 c30_63 (xc_V (pc' := 66) (r := tk) (as := [.ref 41]) (st := []) (lm_1_185) rfl rfl (Nat.le_of_ble_eq_true rfl) hW gtk sh_4 (by decide) rfl (by decide) (u_19_t (B := B) (n := n) (q := q) (kk := 14384) hW gtk rfl (by decide +kernel) hTC_tk) (fun R1979 T1980 H1981 p1982 => ?_))
      obtain ⟨e1983, e1985, z1986, e1984, b1987, p1988⟩ := p1982
      subst e1983
      subst e1984
      subst e1985
      rcases p1988 with ⟨a1989, a1990⟩ | ⟨a1991, a1992⟩
      · show wp _ _ 30 66 [(2, .ref r1536), (0, .ref r0), (1, .ref r1)] [vI z1986] _ H _
        refine wp_of e30 c30_66 (rw_if_eq (p1 := 107) (p2 := 69) (by decide) rfl ⟨by omega, by omega⟩ (fun c1993 => ?_) (fun c1993 => ?_))
        · exfalso
          omega
        · refine wp_of e30 c30_69 (rw_aload_n (pc' := 70) (v := .ref r0) rfl rfl rfl ?_)
          refine wp_of e30 c30_70 (xg_K (pc' := 73) lf_1_12 hW g0 sh_3 (by decide) (by decide) rfl qtk rfl ?_)
          have h1994 : TP T H rb B := TC_tp hTC_tk qrb
          refine wp_of e30 c30_73 (xc_V (pc' := 76) (r := tk) (as := []) (st := []) (lm_1_74) rfl rfl (Nat.le_of_ble_eq_true rfl) hW gtk sh_4 (by decide) rfl (by decide) (u_16 (B := B) (n := n) (a := (xE B n q)) (q := (xN B n q)) hW gtk qrb grb (by omega) (by omega) (by omega) (rfl) h1994) (fun R1995 T1996 H1997 p1998 => ?_))
          obtain ⟨e1999, w2001, f2002, e2000, p2003⟩ := p1998
          subst e1999
          subst e2000
          have f2005 := f0.tr f2002 rfl
          show wp _ _ 30 76 [(2, .ref r1536), (0, .ref r0), (1, .ref r1)] [] _ H1997 _
          have u2006 := TC_k p2003
          refine wp_of e30 c30_76 (rw_aload_n (pc' := 77) (v := .ref r0) rfl rfl rfl ?_)
          refine wp_of e30 c30_77 (rw_bipush (pc' := 79) (z := 23) rfl (by decide) ?_)
          refine wp_of e30 c30_79 (rw_iconst (pc' := 80) rfl ?_)
          refine wp_of e30 c30_80 (rw_bipush (pc' := 82) (z := 24) rfl (by decide) ?_)
          refine wp_of e30 c30_82 (rw_bipush (pc' := 84) (z := 24) rfl (by decide) ?_)
          have k2007 : H1997 r0 0 = H r0 0 := (f2002 r0 0 _ g0 rfl)
          have q2008 : H1997 r0 0 = (tk : Int) := k2007.trans qtk
          have k2009 : H1997 tk 0 = H tk 0 := (f2002 tk 0 _ gtk rfl)
          have q2010 : H1997 tk 0 = (rb : Int) := k2009.trans qrb
          have k2011 : H1997 r0 3 = H r0 3 := (f2002 r0 3 _ g0 rfl)
          refine wp_of e30 c30_84 (xc_V (pc' := 87) (r := r0) (as := [vI 23, vI 1, vI 24, vI 24]) (st := []) (lm_1_154) rfl rfl (Nat.le_of_ble_eq_true rfl) w2001 g0 sh_3 (by decide) rfl (by decide) (u_29 (B := B) (n := n) (q := ((xN B n q))) w2001 g0 ⟨by omega, by omega⟩ ⟨by omega, by omega⟩ ⟨by omega, by omega⟩ ⟨by omega, by omega⟩ q2008 gtk q2010 grb p2003) (fun R2012 T2013 H2014 p2015 => ?_))
          obtain ⟨e2016, w2018, f2019, z2020, e2017, b2021, p2022⟩ := p2015
          subst e2016
          subst e2017
          rcases p2022 with ⟨a2023, a2024, a2025, a2026, a2027, a2028, a2029, a2030, a2031⟩ | ⟨a2032, a2033, a2034, a2035, a2036⟩
          · have f2037 := f2005.tr f2019 rfl
            show wp _ _ 30 87 [(2, .ref r1536), (0, .ref r0), (1, .ref r1)] [vI z2020] _ H2014 _
            have u2038 := TC_k a2031
            refine wp_of e30 c30_87 (rw_if_ne (p1 := 92) (p2 := 90) (by decide) rfl ⟨by omega, by omega⟩ (fun c2039 => ?_) (fun c2039 => ?_))
            · refine wp_of e30 c30_92 (rw_aload_n (pc' := 93) (v := .ref r1536) rfl rfl rfl ?_)
              refine wp_of e30 c30_93 (rw_aload_n (pc' := 94) (v := .ref r0) rfl rfl rfl ?_)
              refine wp_of e30 c30_94 (xg_I (pc' := 97) lf_1_158 w2018 g0 sh_3 (by decide) (by decide) ty_3_1 rfl rfl (fun b2040 b2041 => ?_))
              refine wp_of e30 c30_97 (rw_aload_n (pc' := 98) (v := .ref r0) rfl rfl rfl ?_)
              refine wp_of e30 c30_98 (xg_I (pc' := 101) lf_1_164 w2018 g0 sh_3 (by decide) (by decide) ty_3_2 rfl rfl (fun b2042 b2043 => ?_))
              refine wp_of e30 c30_101 (xc_S (pc' := 104) (as := [vI (H2014 r0 1), vI (H2014 r0 2)]) (st := [.ref r1536]) (lm_1_194) rfl rfl (Nat.le_of_ble_eq_true rfl) rfl (by decide) (u_31 (lo := (xV B n (xN B n q))) (hi := (xV B n (xN B n (xN B n (xN B n q))))) w2018 ⟨by omega, by omega⟩ ⟨by omega, by omega⟩ (by omega) (by omega) (by omega)) (fun R2044 T2045 H2046 p2047 => ?_))
              obtain ⟨e2048, e2050, z2051, e2049, b2052, p2053⟩ := p2047
              subst e2048
              subst e2049
              subst e2050
              show wp _ _ 30 104 [(2, .ref r1536), (0, .ref r0), (1, .ref r1)] [vI z2051, .ref r1536] _ H2014 _
              refine wp_of e30 c30_104 (xp_I (pc' := 107) lf_1_197 w2018 g1538 sh_35 (by decide) (by decide) ty_35_12 rfl rfl (by omega) (by omega) ⟨by omega, by omega⟩ rfl (fun H2055 e2056 w2057 => ?_))
              have f2058 := f2037.put' e2056 g1538 rfl
              have k2059 : H2055 r1536 12 = z2051 := wq_u_s e2056
              have _eb : xqb B n q = ((xN B n (xN B n (xN B n ((xN B n q)))))) := by
                unfold xqb
                first | rw [if_pos (by omega)] | rw [if_neg (by omega)]
              have k2060 : H2055 r1536 6 = H r1536 6 := ((wq_u_j e2056 rfl).trans ((f2019 r1536 6 _ g1538 rfl).trans (f2002 r1536 6 _ g1538 rfl)))
              have k2061 : H2055 r1536 7 = H r1536 7 := ((wq_u_j e2056 rfl).trans ((f2019 r1536 7 _ g1538 rfl).trans (f2002 r1536 7 _ g1538 rfl)))
              have k2062 : H2055 r1536 8 = H r1536 8 := ((wq_u_j e2056 rfl).trans ((f2019 r1536 8 _ g1538 rfl).trans (f2002 r1536 8 _ g1538 rfl)))
              have k2063 : H2055 r1536 9 = H r1536 9 := ((wq_u_j e2056 rfl).trans ((f2019 r1536 9 _ g1538 rfl).trans (f2002 r1536 9 _ g1538 rfl)))
              have k2064 : H2055 r1536 10 = H r1536 10 := ((wq_u_j e2056 rfl).trans ((f2019 r1536 10 _ g1538 rfl).trans (f2002 r1536 10 _ g1538 rfl)))
              have k2065 : H2055 r1536 11 = H r1536 11 := ((wq_u_j e2056 rfl).trans ((f2019 r1536 11 _ g1538 rfl).trans (f2002 r1536 11 _ g1538 rfl)))
              have k2066 : H2055 r1536 13 = H r1536 13 := ((wq_u_j e2056 rfl).trans ((f2019 r1536 13 _ g1538 rfl).trans (f2002 r1536 13 _ g1538 rfl)))
              have k2067 : H2055 r1536 14 = H r1536 14 := ((wq_u_j e2056 rfl).trans ((f2019 r1536 14 _ g1538 rfl).trans (f2002 r1536 14 _ g1538 rfl)))
              have _en : H2055 r1536 12 = xhs (xnf B n q) (xnt B n q) := by
                unfold xnf xnt
                first | (rw [if_pos (by omega), if_pos (by omega)]; omega) | (rw [if_neg (by omega), if_neg (by omega)]; omega)
              refine wp_of e30 c30_107 (rw_aload_n (pc' := 108) (v := .ref r0) rfl rfl rfl ?_)
              have k2068 : H2055 r0 0 = H1997 r0 0 := ((wq_u_t e2056 g1538 g0 rfl 0).trans (f2019 r0 0 _ g0 rfl))
              have q2069 : H2055 r0 0 = (tk : Int) := k2068.trans q2008
              refine wp_of e30 c30_108 (xg_K (pc' := 111) lf_1_12 w2057 g0 sh_3 (by decide) (by decide) rfl q2069 rfl ?_)
              refine wp_of e30 c30_111 (rw_gs (pc' := 114) (k := 26) rfl rfl rfl rfl ?_)
              have k2070 : H2055 26 0 = ((42 : Nat) : Int) := (w2057.2 26 _ (w2057.1.2.2 10 (by decide))).2.2 0 (by decide) |> fun z => by have z1 : (42 : Int) ≤ H2055 26 0 ∧ H2055 26 0 ≤ 42 := z; omega
              refine wp_of e30 c30_114 (rw_getR (pc' := 117) (n := 2) (b := 42) (e := _) (lf_1_181).choose_spec.1 (lf_1_181).choose_spec.2.1 (w2057.sh (w2057.1.2.2 10 (by decide)) rfl) (by decide) rfl k2070 rfl ?_)
              have h2071 : TC T H2055 tk B n (xN B n (xN B n (xN B n ((xN B n q))))) := (TC_fr w2018 gtk ((wfr.rf (l := [(35, 12)])).put' e2056 g1538 rfl) rfl a2031)
              refine wp_of e30 c30_117 (xc_V (pc' := 120) (r := tk) (as := [.ref 42]) (st := []) (lm_1_185) rfl rfl (Nat.le_of_ble_eq_true rfl) w2057 gtk sh_4 (by decide) rfl (by decide) (u_19_t (B := B) (n := n) (q := ((xN B n (xN B n (xN B n ((xN B n q))))))) (kk := 56377) w2057 gtk rfl (by decide +kernel) h2071) (fun R2072 T2073 H2074 p2075 => ?_))
              obtain ⟨e2076, e2078, z2079, e2077, b2080, p2081⟩ := p2075
              subst e2076
              subst e2077
              subst e2078
              rcases p2081 with ⟨a2082, a2083⟩ | ⟨a2084, a2085⟩
              · show wp _ _ 30 120 [(2, .ref r1536), (0, .ref r0), (1, .ref r1)] [vI z2079] _ H2055 _
                refine wp_of e30 c30_120 (rw_if_eq (p1 := 135) (p2 := 123) (by decide) rfl ⟨by omega, by omega⟩ (fun c2086 => ?_) (fun c2086 => ?_))
                · exfalso
                  omega
                · refine wp_of e30 c30_123 (rw_aload_n (pc' := 124) (v := .ref r0) rfl rfl rfl ?_)
                  refine wp_of e30 c30_124 (xg_K (pc' := 127) lf_1_12 w2057 g0 sh_3 (by decide) (by decide) rfl q2069 rfl ?_)
                  have k2087 : H2055 tk 0 = H1997 tk 0 := ((wq_u_t e2056 g1538 gtk rfl 0).trans (f2019 tk 0 _ gtk rfl))
                  have q2088 : H2055 tk 0 = (rb : Int) := k2087.trans q2010
                  have k2089 : H2055 tk 1 = H2014 tk 1 := (wq_u_t e2056 g1538 gtk rfl 1)
                  have k2090 : H2055 tk 2 = H2014 tk 2 := (wq_u_t e2056 g1538 gtk rfl 2)
                  have h2091 : TP T H2055 rb B := (TP_fr w2018 grb ((wfr.rf (l := [(35, 12)])).put' e2056 g1538 rfl) rfl (TP_fr w2001 grb f2019 rfl (TP_fr hW grb f2002 rfl h1994)))
                  refine wp_of e30 c30_127 (xc_V (pc' := 130) (r := tk) (as := []) (st := []) (lm_1_74) rfl rfl (Nat.le_of_ble_eq_true rfl) w2057 gtk sh_4 (by decide) rfl (by decide) (u_16 (B := B) (n := n) (a := (xE B n ((xN B n (xN B n (xN B n ((xN B n q)))))))) (q := (xN B n ((xN B n (xN B n (xN B n ((xN B n q)))))))) w2057 gtk q2088 grb (by omega) (by omega) (by omega) (rfl) h2091) (fun R2092 T2093 H2094 p2095 => ?_))
                  obtain ⟨e2096, w2098, f2099, e2097, p2100⟩ := p2095
                  subst e2096
                  subst e2097
                  have f2102 := f2058.tr f2099 rfl
                  show wp _ _ 30 130 [(2, .ref r1536), (0, .ref r0), (1, .ref r1)] [] _ H2094 _
                  have u2103 := TC_k p2100
                  refine wp_of e30 c30_130 (rw_aload_n (pc' := 131) (v := .ref r1536) rfl rfl rfl ?_)
                  refine wp_of e30 c30_131 (rw_iconst (pc' := 132) rfl ?_)
                  refine wp_of e30 c30_132 (xp_Z (pc' := 135) lf_1_203 w2098 g1538 sh_35 (by decide) (by decide) ty_35_13 rfl rfl (by omega) (by omega) rfl (fun H2104 e2105 w2106 => ?_))
                  have f2107 := f2102.put' e2105 g1538 rfl
                  have k2108 : H2104 r1536 13 = 1 := wq_u_s e2105
                  have _ec : xqc B n ((xN B n (xN B n (xN B n ((xN B n q)))))) = ((xN B n ((xN B n (xN B n (xN B n ((xN B n q)))))))) := by
                    unfold xqc
                    first | rw [if_pos (by omega)] | rw [if_neg (by omega)]
                  have k2109 : H2104 r1536 6 = H2055 r1536 6 := ((wq_u_j e2105 rfl).trans (f2099 r1536 6 _ g1538 rfl))
                  have k2110 : H2104 r1536 7 = H2055 r1536 7 := ((wq_u_j e2105 rfl).trans (f2099 r1536 7 _ g1538 rfl))
                  have k2111 : H2104 r1536 8 = H2055 r1536 8 := ((wq_u_j e2105 rfl).trans (f2099 r1536 8 _ g1538 rfl))
                  have k2112 : H2104 r1536 9 = H2055 r1536 9 := ((wq_u_j e2105 rfl).trans (f2099 r1536 9 _ g1538 rfl))
                  have k2113 : H2104 r1536 10 = H2055 r1536 10 := ((wq_u_j e2105 rfl).trans (f2099 r1536 10 _ g1538 rfl))
                  have k2114 : H2104 r1536 11 = H2055 r1536 11 := ((wq_u_j e2105 rfl).trans (f2099 r1536 11 _ g1538 rfl))
                  have k2115 : H2104 r1536 12 = H2055 r1536 12 := ((wq_u_j e2105 rfl).trans (f2099 r1536 12 _ g1538 rfl))
                  have k2116 : H2104 r1536 14 = H2055 r1536 14 := ((wq_u_j e2105 rfl).trans (f2099 r1536 14 _ g1538 rfl))
                  have _ew : xaw B n ((xN B n (xN B n (xN B n ((xN B n q)))))) = H2104 r1536 13 := by
                    unfold xaw
                    first | (rw [if_pos (by omega)]; omega) | (rw [if_neg (by omega)]; omega)
                  refine wp_of e30 c30_135 (rw_aload_n (pc' := 136) (v := .ref r1) rfl rfl rfl ?_)
                  refine wp_of e30 c30_136 (rw_dup (pc' := 137) rfl rfl ?_)
                  have k2117 : H2104 r1 10 = H r1 10 := ((wq_u_t e2105 g1538 g1 rfl 10).trans ((f2099 r1 10 _ g1 rfl).trans ((wq_u_t e2056 g1538 g1 rfl 10).trans ((f2019 r1 10 _ g1 rfl).trans (f2002 r1 10 _ g1 rfl)))))
                  refine wp_of e30 c30_137 (xg_I (pc' := 140) lf_1_44 w2106 g1 sh_27 (by decide) (by decide) ty_27_10 rfl rfl (fun b2118 b2119 => ?_))
                  refine wp_of e30 c30_140 (rw_iconst (pc' := 141) rfl ?_)
                  refine wp_of e30 c30_141 (rw_iadd (pc' := 142) rfl ?_)
                  refine wp_of e30 c30_142 (xp_I (pc' := 145) lf_1_44 w2106 g1 sh_27 (by decide) (by decide) ty_27_10 rfl rfl (by omega) (by omega) ⟨by omega, by omega⟩ rfl (fun H2120 e2121 w2122 => ?_))
                  have f2123 := f2107.put' e2121 g1 rfl
                  have k2124 : H2120 r1 10 = (H2104 r1 10) + 1 := wq_u_s e2121
                  refine wp_of e30 c30_145 (rw_iconst (pc' := 146) rfl ?_)
                  have k2125 : H2120 r0 3 = H2014 r0 3 := ((wq_u_t e2121 g1 g0 rfl 3).trans ((wq_u_t e2105 g1538 g0 rfl 3).trans ((f2099 r0 3 _ g0 rfl).trans (wq_u_t e2056 g1538 g0 rfl 3))))
                  have k2126 : H2120 r1 7 = H r1 7 := ((wq_u_j e2121 rfl).trans ((wq_u_t e2105 g1538 g1 rfl 7).trans ((f2099 r1 7 _ g1 rfl).trans ((wq_u_t e2056 g1538 g1 rfl 7).trans ((f2019 r1 7 _ g1 rfl).trans (f2002 r1 7 _ g1 rfl))))))
                  have k2127 : H2120 r1 8 = H r1 8 := ((wq_u_j e2121 rfl).trans ((wq_u_t e2105 g1538 g1 rfl 8).trans ((f2099 r1 8 _ g1 rfl).trans ((wq_u_t e2056 g1538 g1 rfl 8).trans ((f2019 r1 8 _ g1 rfl).trans (f2002 r1 8 _ g1 rfl))))))
                  have k2128 : H2120 r1 9 = H r1 9 := ((wq_u_j e2121 rfl).trans ((wq_u_t e2105 g1538 g1 rfl 9).trans ((f2099 r1 9 _ g1 rfl).trans ((wq_u_t e2056 g1538 g1 rfl 9).trans ((f2019 r1 9 _ g1 rfl).trans (f2002 r1 9 _ g1 rfl))))))
                  have k2129 : H2120 r1 11 = H r1 11 := ((wq_u_j e2121 rfl).trans ((wq_u_t e2105 g1538 g1 rfl 11).trans ((f2099 r1 11 _ g1 rfl).trans ((wq_u_t e2056 g1538 g1 rfl 11).trans ((f2019 r1 11 _ g1 rfl).trans (f2002 r1 11 _ g1 rfl))))))
                  have k2130 : H2120 r1 12 = H r1 12 := ((wq_u_j e2121 rfl).trans ((wq_u_t e2105 g1538 g1 rfl 12).trans ((f2099 r1 12 _ g1 rfl).trans ((wq_u_t e2056 g1538 g1 rfl 12).trans ((f2019 r1 12 _ g1 rfl).trans (f2002 r1 12 _ g1 rfl))))))
                  have k2131 : H2120 r1 13 = H r1 13 := ((wq_u_j e2121 rfl).trans ((wq_u_t e2105 g1538 g1 rfl 13).trans ((f2099 r1 13 _ g1 rfl).trans ((wq_u_t e2056 g1538 g1 rfl 13).trans ((f2019 r1 13 _ g1 rfl).trans (f2002 r1 13 _ g1 rfl))))))
                  have k2132 : H2120 r1 14 = H r1 14 := ((wq_u_j e2121 rfl).trans ((wq_u_t e2105 g1538 g1 rfl 14).trans ((f2099 r1 14 _ g1 rfl).trans ((wq_u_t e2056 g1538 g1 rfl 14).trans ((f2019 r1 14 _ g1 rfl).trans (f2002 r1 14 _ g1 rfl))))))
                  have k2133 : H2120 r1 15 = H r1 15 := ((wq_u_j e2121 rfl).trans ((wq_u_t e2105 g1538 g1 rfl 15).trans ((f2099 r1 15 _ g1 rfl).trans ((wq_u_t e2056 g1538 g1 rfl 15).trans ((f2019 r1 15 _ g1 rfl).trans (f2002 r1 15 _ g1 rfl))))))
                  have k2134 : H2120 r1 16 = H r1 16 := ((wq_u_j e2121 rfl).trans ((wq_u_t e2105 g1538 g1 rfl 16).trans ((f2099 r1 16 _ g1 rfl).trans ((wq_u_t e2056 g1538 g1 rfl 16).trans ((f2019 r1 16 _ g1 rfl).trans (f2002 r1 16 _ g1 rfl))))))
                  have k2135 : H2120 r1536 6 = H2104 r1536 6 := (wq_u_t e2121 g1 g1538 rfl 6)
                  have k2136 : H2120 r1536 7 = H2104 r1536 7 := (wq_u_t e2121 g1 g1538 rfl 7)
                  have k2137 : H2120 r1536 8 = H2104 r1536 8 := (wq_u_t e2121 g1 g1538 rfl 8)
                  have k2138 : H2120 r1536 9 = H2104 r1536 9 := (wq_u_t e2121 g1 g1538 rfl 9)
                  have k2139 : H2120 r1536 10 = H2104 r1536 10 := (wq_u_t e2121 g1 g1538 rfl 10)
                  have k2140 : H2120 r1536 11 = H2104 r1536 11 := (wq_u_t e2121 g1 g1538 rfl 11)
                  have k2141 : H2120 r1536 12 = H2104 r1536 12 := (wq_u_t e2121 g1 g1538 rfl 12)
                  have k2142 : H2120 r1536 13 = H2104 r1536 13 := (wq_u_t e2121 g1 g1538 rfl 13)
                  have k2143 : H2120 r1536 14 = H2104 r1536 14 := (wq_u_t e2121 g1 g1538 rfl 14)
                  have o2144 : (xcs B n q) = (0, q, (xN B n ((xN B n (xN B n (xN B n ((xN B n q)))))))) := by
                    unfold xcs xca xcb
                    try rw [_ea]
                    try rw [_eb]
                    try rw [_ec]
                    repeat first | rw [xs_0 (by omega)] | rw [xs_1 (by omega)] | rw [if_pos (by omega)] | rw [if_neg (by omega)]
                    first | done | rfl | assumption | (exfalso; omega) | (refine Prod.ext ?_ (Prod.ext ?_ ?_) <;> (try dsimp only) <;> omega)
                  have o2144a : ((xcs B n q)).1 = 0 := by rw [o2144]
                  have o2144b : ((xcs B n q)).2.1 = q := by rw [o2144]
                  have o2144c : ((xcs B n q)).2.2 = (xN B n ((xN B n (xN B n (xN B n ((xN B n q))))))) := by rw [o2144]
                  have _l := @xdper_v B n y d
                  have _k := @xdper_k (H r1 10).toNat d B n y (by omega)
                  rw [← p1] at _k
                  rw [_ea, _eb] at _k
                  have _f : H2120 r1536 6 = xdper B n y d 1 (H r1 10).toNat ∧ H2120 r1536 7 = xdper B n y d 2 (H r1 10).toNat ∧ H2120 r1536 8 = xdper B n y d 3 (H r1 10).toNat ∧ H2120 r1536 9 = xdper B n y d 4 (H r1 10).toNat ∧ H2120 r1536 10 = xdper B n y d 5 (H r1 10).toNat ∧ H2120 r1536 11 = xdper B n y d 6 (H r1 10).toNat ∧ H2120 r1536 12 = xhs (xdper B n y d 7 (H r1 10).toNat) (xdper B n y d 8 (H r1 10).toNat) ∧ H2120 r1536 13 = xdper B n y d 9 (H r1 10).toNat ∧ H2120 r1536 14 = 0 := ⟨by omega, by omega, by omega, by omega, by omega, by omega, by rw [_k.2.2.2.2.2.2.1, _k.2.2.2.2.2.2.2.1]; omega, by omega, by omega⟩
                  have h2145 : TC T H2120 tk B n (xN B n ((xN B n (xN B n (xN B n ((xN B n q))))))) := (TC_fr w2106 gtk ((wfr.rf (l := [(27, 10)])).put' e2121 g1 rfl) rfl (TC_fr w2098 gtk ((wfr.rf (l := [(35, 13)])).put' e2105 g1538 rfl) rfl p2100))
                  have k2146 : H2120 r1 0 = H r1 0 := ((wq_u_j e2121 rfl).trans ((wq_u_t e2105 g1538 g1 rfl 0).trans ((f2099 r1 0 _ g1 rfl).trans ((wq_u_t e2056 g1538 g1 rfl 0).trans ((f2019 r1 0 _ g1 rfl).trans (f2002 r1 0 _ g1 rfl))))))
                  have q2147 : H2120 r1 0 = (r1531 : Int) := k2146.trans q1532
                  have k2148 : H2120 r1531 ((H r1 10).toNat) = H r1531 ((H r1 10).toNat) := ((wq_u_t e2121 g1 g1533 rfl ((H r1 10).toNat)).trans ((wq_u_t e2105 g1538 g1533 rfl ((H r1 10).toNat)).trans ((f2099 r1531 ((H r1 10).toNat) _ g1533 rfl).trans ((wq_u_t e2056 g1538 g1533 rfl ((H r1 10).toNat)).trans ((f2019 r1531 ((H r1 10).toNat) _ g1533 rfl).trans (f2002 r1531 ((H r1 10).toNat) _ g1533 rfl))))))
                  have q2149 : H2120 r1531 ((H r1 10).toNat) = (r1536 : Int) := k2148.trans q1537
                  have h2150 : ST T H2120 r1 (d 13) := (ST_fr w2106 g1 ((wfr.rf (l := [(27, 10)])).put' e2121 g1 rfl) rfl (ST_fr w2098 g1 ((wfr.rf (l := [(35, 13)])).put' e2105 g1538 rfl) rfl (ST_fr w2057 g1 f2099 rfl (ST_fr w2018 g1 ((wfr.rf (l := [(35, 12)])).put' e2056 g1538 rfl) rfl (ST_fr w2001 g1 f2019 rfl (ST_fr hW g1 f2002 rfl h1525))))))
                  have h2151 : SV T H2120 r1 (d 13) 24 := (SV_fr w2106 g1 ((wfr.rf (l := [(27, 10)])).put' e2121 g1 rfl) rfl (SV_fr w2098 g1 ((wfr.rf (l := [(35, 13)])).put' e2105 g1538 rfl) rfl (SV_fr w2057 g1 f2099 rfl (SV_fr w2018 g1 ((wfr.rf (l := [(35, 12)])).put' e2056 g1538 rfl) rfl (SV_fr w2001 g1 f2019 rfl (SV_fr hW g1 f2002 rfl h1526))))))
                  have h2152 : DA3 T H2120 r1 (d 0 5) (d 12) := (DA3_fr w2106 g1 ((wfr.rf (l := [(27, 10)])).put' e2121 g1 rfl) rfl (DA3_fr w2098 g1 ((wfr.rf (l := [(35, 13)])).put' e2105 g1538 rfl) rfl (DA3_fr w2057 g1 f2099 rfl (DA3_fr w2018 g1 ((wfr.rf (l := [(35, 12)])).put' e2056 g1538 rfl) rfl (DA3_fr w2001 g1 f2019 rfl (DA3_fr hW g1 f2002 rfl h1527))))))
                  have h2153 : DA4 T H2120 r1 (d 0 6) (d 14) := (DA4_fr w2106 g1 ((wfr.rf (l := [(27, 10)])).put' e2121 g1 rfl) rfl (DA4_fr w2098 g1 ((wfr.rf (l := [(35, 13)])).put' e2105 g1538 rfl) rfl (DA4_fr w2057 g1 f2099 rfl (DA4_fr w2018 g1 ((wfr.rf (l := [(35, 12)])).put' e2056 g1538 rfl) rfl (DA4_fr w2001 g1 f2019 rfl (DA4_fr hW g1 f2002 rfl h1528))))))
                  have h2154 : DA5 T H2120 r1 (d 0 6) (d 15) := (DA5_fr w2106 g1 ((wfr.rf (l := [(27, 10)])).put' e2121 g1 rfl) rfl (DA5_fr w2098 g1 ((wfr.rf (l := [(35, 13)])).put' e2105 g1538 rfl) rfl (DA5_fr w2057 g1 f2099 rfl (DA5_fr w2018 g1 ((wfr.rf (l := [(35, 12)])).put' e2056 g1538 rfl) rfl (DA5_fr w2001 g1 f2019 rfl (DA5_fr hW g1 f2002 rfl h1529))))))
                  have h2155 : DA6 T H2120 r1 (d 0 7) (d 16) := (DA6_fr w2106 g1 ((wfr.rf (l := [(27, 10)])).put' e2121 g1 rfl) rfl (DA6_fr w2098 g1 ((wfr.rf (l := [(35, 13)])).put' e2105 g1538 rfl) rfl (DA6_fr w2057 g1 f2099 rfl (DA6_fr w2018 g1 ((wfr.rf (l := [(35, 12)])).put' e2056 g1538 rfl) rfl (DA6_fr w2001 g1 f2019 rfl (DA6_fr hW g1 f2002 rfl h1530))))))
                  exact wp_zreturn e30 c30_146 rfl (by omega) ⟨rfl, w2122, f2123, 1, rfl, ⟨by omega, by omega⟩, (Or.inl ⟨by omega, by omega, by omega, by omega, by rw [o2144]; exact h2145, DC_mk ⟨by omega, by omega, by omega, by omega, by omega, by omega, by omega, by omega, by omega, by omega, by omega, by omega, by omega, by omega, by omega, by omega⟩ (DQ_per g1538 (DQ_oth hW g1 f2123 rfl hDD_r1 q2147 q2149 (by omega) (by omega) (fun a ha ga => ((wq_u_tf e2121 g1 ga (by decide)).trans ((wq_u_nf e2105 ha).trans ((f2099.fn ga rfl).trans ((wq_u_nf e2056 ha).trans ((f2019.fn ga rfl).trans (f2002.fn ga rfl))))))) hDC_r1.2.1) (by omega) q2147 q2149 (k := (H r1 10).toNat) (by omega) _f) h2150 h2151 h2152 h2153 h2154 h2155 ⟨rfl, rfl, rfl, rfl, rfl⟩ ⟨by omega, by omega, by omega⟩⟩)⟩
              · show wp _ _ 30 120 [(2, .ref r1536), (0, .ref r0), (1, .ref r1)] [vI z2079] _ H2055 _
                refine wp_of e30 c30_120 (rw_if_eq (p1 := 135) (p2 := 123) (by decide) rfl ⟨by omega, by omega⟩ (fun c2156 => ?_) (fun c2156 => ?_))
                · have _ec : xqc B n ((xN B n (xN B n (xN B n ((xN B n q)))))) = ((xN B n (xN B n (xN B n ((xN B n q)))))) := by
                    unfold xqc
                    first | rw [if_pos (by omega)] | rw [if_neg (by omega)]
                  have _ew : xaw B n ((xN B n (xN B n (xN B n ((xN B n q)))))) = H2055 r1536 13 := by
                    unfold xaw
                    first | (rw [if_pos (by omega)]; omega) | (rw [if_neg (by omega)]; omega)
                  refine wp_of e30 c30_135 (rw_aload_n (pc' := 136) (v := .ref r1) rfl rfl rfl ?_)
                  refine wp_of e30 c30_136 (rw_dup (pc' := 137) rfl rfl ?_)
                  have k2157 : H2055 r1 10 = H r1 10 := ((wq_u_t e2056 g1538 g1 rfl 10).trans ((f2019 r1 10 _ g1 rfl).trans (f2002 r1 10 _ g1 rfl)))
                  refine wp_of e30 c30_137 (xg_I (pc' := 140) lf_1_44 w2057 g1 sh_27 (by decide) (by decide) ty_27_10 rfl rfl (fun b2158 b2159 => ?_))
                  refine wp_of e30 c30_140 (rw_iconst (pc' := 141) rfl ?_)
                  refine wp_of e30 c30_141 (rw_iadd (pc' := 142) rfl ?_)
                  refine wp_of e30 c30_142 (xp_I (pc' := 145) lf_1_44 w2057 g1 sh_27 (by decide) (by decide) ty_27_10 rfl rfl (by omega) (by omega) ⟨by omega, by omega⟩ rfl (fun H2160 e2161 w2162 => ?_))
                  have f2163 := f2058.put' e2161 g1 rfl
                  have k2164 : H2160 r1 10 = (H2055 r1 10) + 1 := wq_u_s e2161
                  refine wp_of e30 c30_145 (rw_iconst (pc' := 146) rfl ?_)
                  have k2165 : H2160 r0 3 = H2014 r0 3 := ((wq_u_t e2161 g1 g0 rfl 3).trans (wq_u_t e2056 g1538 g0 rfl 3))
                  have k2166 : H2160 r1 7 = H r1 7 := ((wq_u_j e2161 rfl).trans ((wq_u_t e2056 g1538 g1 rfl 7).trans ((f2019 r1 7 _ g1 rfl).trans (f2002 r1 7 _ g1 rfl))))
                  have k2167 : H2160 r1 8 = H r1 8 := ((wq_u_j e2161 rfl).trans ((wq_u_t e2056 g1538 g1 rfl 8).trans ((f2019 r1 8 _ g1 rfl).trans (f2002 r1 8 _ g1 rfl))))
                  have k2168 : H2160 r1 9 = H r1 9 := ((wq_u_j e2161 rfl).trans ((wq_u_t e2056 g1538 g1 rfl 9).trans ((f2019 r1 9 _ g1 rfl).trans (f2002 r1 9 _ g1 rfl))))
                  have k2169 : H2160 r1 11 = H r1 11 := ((wq_u_j e2161 rfl).trans ((wq_u_t e2056 g1538 g1 rfl 11).trans ((f2019 r1 11 _ g1 rfl).trans (f2002 r1 11 _ g1 rfl))))
                  have k2170 : H2160 r1 12 = H r1 12 := ((wq_u_j e2161 rfl).trans ((wq_u_t e2056 g1538 g1 rfl 12).trans ((f2019 r1 12 _ g1 rfl).trans (f2002 r1 12 _ g1 rfl))))
                  have k2171 : H2160 r1 13 = H r1 13 := ((wq_u_j e2161 rfl).trans ((wq_u_t e2056 g1538 g1 rfl 13).trans ((f2019 r1 13 _ g1 rfl).trans (f2002 r1 13 _ g1 rfl))))
                  have k2172 : H2160 r1 14 = H r1 14 := ((wq_u_j e2161 rfl).trans ((wq_u_t e2056 g1538 g1 rfl 14).trans ((f2019 r1 14 _ g1 rfl).trans (f2002 r1 14 _ g1 rfl))))
                  have k2173 : H2160 r1 15 = H r1 15 := ((wq_u_j e2161 rfl).trans ((wq_u_t e2056 g1538 g1 rfl 15).trans ((f2019 r1 15 _ g1 rfl).trans (f2002 r1 15 _ g1 rfl))))
                  have k2174 : H2160 r1 16 = H r1 16 := ((wq_u_j e2161 rfl).trans ((wq_u_t e2056 g1538 g1 rfl 16).trans ((f2019 r1 16 _ g1 rfl).trans (f2002 r1 16 _ g1 rfl))))
                  have k2175 : H2160 r1536 6 = H2055 r1536 6 := (wq_u_t e2161 g1 g1538 rfl 6)
                  have k2176 : H2160 r1536 7 = H2055 r1536 7 := (wq_u_t e2161 g1 g1538 rfl 7)
                  have k2177 : H2160 r1536 8 = H2055 r1536 8 := (wq_u_t e2161 g1 g1538 rfl 8)
                  have k2178 : H2160 r1536 9 = H2055 r1536 9 := (wq_u_t e2161 g1 g1538 rfl 9)
                  have k2179 : H2160 r1536 10 = H2055 r1536 10 := (wq_u_t e2161 g1 g1538 rfl 10)
                  have k2180 : H2160 r1536 11 = H2055 r1536 11 := (wq_u_t e2161 g1 g1538 rfl 11)
                  have k2181 : H2160 r1536 12 = H2055 r1536 12 := (wq_u_t e2161 g1 g1538 rfl 12)
                  have k2182 : H2160 r1536 13 = H2055 r1536 13 := (wq_u_t e2161 g1 g1538 rfl 13)
                  have k2183 : H2160 r1536 14 = H2055 r1536 14 := (wq_u_t e2161 g1 g1538 rfl 14)
                  have o2184 : (xcs B n q) = (0, q, (xN B n (xN B n (xN B n ((xN B n q)))))) := by
                    unfold xcs xca xcb
                    try rw [_ea]
                    try rw [_eb]
                    try rw [_ec]
                    repeat first | rw [xs_0 (by omega)] | rw [xs_1 (by omega)] | rw [if_pos (by omega)] | rw [if_neg (by omega)]
                    first | done | rfl | assumption | (exfalso; omega) | (refine Prod.ext ?_ (Prod.ext ?_ ?_) <;> (try dsimp only) <;> omega)
                  have o2184a : ((xcs B n q)).1 = 0 := by rw [o2184]
                  have o2184b : ((xcs B n q)).2.1 = q := by rw [o2184]
                  have o2184c : ((xcs B n q)).2.2 = (xN B n (xN B n (xN B n ((xN B n q))))) := by rw [o2184]
                  have _l := @xdper_v B n y d
                  have _k := @xdper_k (H r1 10).toNat d B n y (by omega)
                  rw [← p1] at _k
                  rw [_ea, _eb] at _k
                  have _f : H2160 r1536 6 = xdper B n y d 1 (H r1 10).toNat ∧ H2160 r1536 7 = xdper B n y d 2 (H r1 10).toNat ∧ H2160 r1536 8 = xdper B n y d 3 (H r1 10).toNat ∧ H2160 r1536 9 = xdper B n y d 4 (H r1 10).toNat ∧ H2160 r1536 10 = xdper B n y d 5 (H r1 10).toNat ∧ H2160 r1536 11 = xdper B n y d 6 (H r1 10).toNat ∧ H2160 r1536 12 = xhs (xdper B n y d 7 (H r1 10).toNat) (xdper B n y d 8 (H r1 10).toNat) ∧ H2160 r1536 13 = xdper B n y d 9 (H r1 10).toNat ∧ H2160 r1536 14 = 0 := ⟨by omega, by omega, by omega, by omega, by omega, by omega, by rw [_k.2.2.2.2.2.2.1, _k.2.2.2.2.2.2.2.1]; omega, by omega, by omega⟩
                  have h2185 : TC T H2160 tk B n (xN B n (xN B n (xN B n ((xN B n q))))) := (TC_fr w2057 gtk ((wfr.rf (l := [(27, 10)])).put' e2161 g1 rfl) rfl h2071)
                  have k2186 : H2160 r1 0 = H r1 0 := ((wq_u_j e2161 rfl).trans ((wq_u_t e2056 g1538 g1 rfl 0).trans ((f2019 r1 0 _ g1 rfl).trans (f2002 r1 0 _ g1 rfl))))
                  have q2187 : H2160 r1 0 = (r1531 : Int) := k2186.trans q1532
                  have k2188 : H2160 r1531 ((H r1 10).toNat) = H r1531 ((H r1 10).toNat) := ((wq_u_t e2161 g1 g1533 rfl ((H r1 10).toNat)).trans ((wq_u_t e2056 g1538 g1533 rfl ((H r1 10).toNat)).trans ((f2019 r1531 ((H r1 10).toNat) _ g1533 rfl).trans (f2002 r1531 ((H r1 10).toNat) _ g1533 rfl))))
                  have q2189 : H2160 r1531 ((H r1 10).toNat) = (r1536 : Int) := k2188.trans q1537
                  have h2190 : ST T H2160 r1 (d 13) := (ST_fr w2057 g1 ((wfr.rf (l := [(27, 10)])).put' e2161 g1 rfl) rfl (ST_fr w2018 g1 ((wfr.rf (l := [(35, 12)])).put' e2056 g1538 rfl) rfl (ST_fr w2001 g1 f2019 rfl (ST_fr hW g1 f2002 rfl h1525))))
                  have h2191 : SV T H2160 r1 (d 13) 24 := (SV_fr w2057 g1 ((wfr.rf (l := [(27, 10)])).put' e2161 g1 rfl) rfl (SV_fr w2018 g1 ((wfr.rf (l := [(35, 12)])).put' e2056 g1538 rfl) rfl (SV_fr w2001 g1 f2019 rfl (SV_fr hW g1 f2002 rfl h1526))))
                  have h2192 : DA3 T H2160 r1 (d 0 5) (d 12) := (DA3_fr w2057 g1 ((wfr.rf (l := [(27, 10)])).put' e2161 g1 rfl) rfl (DA3_fr w2018 g1 ((wfr.rf (l := [(35, 12)])).put' e2056 g1538 rfl) rfl (DA3_fr w2001 g1 f2019 rfl (DA3_fr hW g1 f2002 rfl h1527))))
                  have h2193 : DA4 T H2160 r1 (d 0 6) (d 14) := (DA4_fr w2057 g1 ((wfr.rf (l := [(27, 10)])).put' e2161 g1 rfl) rfl (DA4_fr w2018 g1 ((wfr.rf (l := [(35, 12)])).put' e2056 g1538 rfl) rfl (DA4_fr w2001 g1 f2019 rfl (DA4_fr hW g1 f2002 rfl h1528))))
                  have h2194 : DA5 T H2160 r1 (d 0 6) (d 15) := (DA5_fr w2057 g1 ((wfr.rf (l := [(27, 10)])).put' e2161 g1 rfl) rfl (DA5_fr w2018 g1 ((wfr.rf (l := [(35, 12)])).put' e2056 g1538 rfl) rfl (DA5_fr w2001 g1 f2019 rfl (DA5_fr hW g1 f2002 rfl h1529))))
                  have h2195 : DA6 T H2160 r1 (d 0 7) (d 16) := (DA6_fr w2057 g1 ((wfr.rf (l := [(27, 10)])).put' e2161 g1 rfl) rfl (DA6_fr w2018 g1 ((wfr.rf (l := [(35, 12)])).put' e2056 g1538 rfl) rfl (DA6_fr w2001 g1 f2019 rfl (DA6_fr hW g1 f2002 rfl h1530))))
                  exact wp_zreturn e30 c30_146 rfl (by omega) ⟨rfl, w2162, f2163, 1, rfl, ⟨by omega, by omega⟩, (Or.inl ⟨by omega, by omega, by omega, by omega, by rw [o2184]; exact h2185, DC_mk ⟨by omega, by omega, by omega, by omega, by omega, by omega, by omega, by omega, by omega, by omega, by omega, by omega, by omega, by omega, by omega, by omega⟩ (DQ_per g1538 (DQ_oth hW g1 f2163 rfl hDD_r1 q2187 q2189 (by omega) (by omega) (fun a ha ga => ((wq_u_tf e2161 g1 ga (by decide)).trans ((wq_u_nf e2056 ha).trans ((f2019.fn ga rfl).trans (f2002.fn ga rfl))))) hDC_r1.2.1) (by omega) q2187 q2189 (k := (H r1 10).toNat) (by omega) _f) h2190 h2191 h2192 h2193 h2194 h2195 ⟨rfl, rfl, rfl, rfl, rfl⟩ ⟨by omega, by omega, by omega⟩⟩)⟩
                · exfalso
                  omega
            · exfalso
              omega
          · have f2196 := f2005.tr f2019 rfl
            show wp _ _ 30 87 [(2, .ref r1536), (0, .ref r0), (1, .ref r1)] [vI z2020] _ H2014 _
            refine wp_of e30 c30_87 (rw_if_ne (p1 := 92) (p2 := 90) (by decide) rfl ⟨by omega, by omega⟩ (fun c2197 => ?_) (fun c2197 => ?_))
            · exfalso
              omega
            · refine wp_of e30 c30_90 (rw_iconst (pc' := 91) rfl ?_)
              have o2198 : (xcs B n q) = ((xrg B n ((xN B n q)) 23 1 24 24).1, (xrg B n ((xN B n q)) 23 1 24 24).2.1, (xrg B n ((xN B n q)) 23 1 24 24).2.2) := by
                unfold xcs xca xcb
                try rw [_ea]
                try rw [_eb]
                try rw [_ec]
                repeat first | rw [xs_0 (by omega)] | rw [xs_1 (by omega)] | rw [if_pos (by omega)] | rw [if_neg (by omega)]
                first | done | rfl | assumption | (exfalso; omega) | (refine Prod.ext ?_ (Prod.ext ?_ ?_) <;> (try dsimp only) <;> omega)
              have o2198a : ((xcs B n q)).1 = (xrg B n ((xN B n q)) 23 1 24 24).1 := by rw [o2198]
              have o2198b : ((xcs B n q)).2.1 = (xrg B n ((xN B n q)) 23 1 24 24).2.1 := by rw [o2198]
              have o2198c : ((xcs B n q)).2.2 = (xrg B n ((xN B n q)) 23 1 24 24).2.2 := by rw [o2198]
              exact wp_zreturn e30 c30_91 rfl (by omega) ⟨rfl, w2018, f2196, 0, rfl, ⟨by omega, by omega⟩, (Or.inr ⟨by omega, by omega, by omega, by omega, by omega⟩)⟩
      · show wp _ _ 30 66 [(2, .ref r1536), (0, .ref r0), (1, .ref r1)] [vI z1986] _ H _
        refine wp_of e30 c30_66 (rw_if_eq (p1 := 107) (p2 := 69) (by decide) rfl ⟨by omega, by omega⟩ (fun c2199 => ?_) (fun c2199 => ?_))
        · have _eb : xqb B n q = q := by
            unfold xqb
            first | rw [if_pos (by omega)] | rw [if_neg (by omega)]
          have _en : H r1536 12 = xhs (xnf B n q) (xnt B n q) := by
            unfold xnf xnt
            first | (rw [if_pos (by omega), if_pos (by omega)]; omega) | (rw [if_neg (by omega), if_neg (by omega)]; omega)
          refine wp_of e30 c30_107 (rw_aload_n (pc' := 108) (v := .ref r0) rfl rfl rfl ?_)
          refine wp_of e30 c30_108 (xg_K (pc' := 111) lf_1_12 hW g0 sh_3 (by decide) (by decide) rfl qtk rfl ?_)
          refine wp_of e30 c30_111 (rw_gs (pc' := 114) (k := 26) rfl rfl rfl rfl ?_)
          have k2200 : H 26 0 = ((42 : Nat) : Int) := (hW.2 26 _ (hW.1.2.2 10 (by decide))).2.2 0 (by decide) |> fun z => by have z1 : (42 : Int) ≤ H 26 0 ∧ H 26 0 ≤ 42 := z; omega
          refine wp_of e30 c30_114 (rw_getR (pc' := 117) (n := 2) (b := 42) (e := _) (lf_1_181).choose_spec.1 (lf_1_181).choose_spec.2.1 (hW.sh (hW.1.2.2 10 (by decide)) rfl) (by decide) rfl k2200 rfl ?_)
          refine wp_of e30 c30_117 (xc_V (pc' := 120) (r := tk) (as := [.ref 42]) (st := []) (lm_1_185) rfl rfl (Nat.le_of_ble_eq_true rfl) hW gtk sh_4 (by decide) rfl (by decide) (u_19_t (B := B) (n := n) (q := q) (kk := 56377) hW gtk rfl (by decide +kernel) hTC_tk) (fun R2201 T2202 H2203 p2204 => ?_))
          obtain ⟨e2205, e2207, z2208, e2206, b2209, p2210⟩ := p2204
          subst e2205
          subst e2206
          subst e2207
          rcases p2210 with ⟨a2211, a2212⟩ | ⟨a2213, a2214⟩
          · show wp _ _ 30 120 [(2, .ref r1536), (0, .ref r0), (1, .ref r1)] [vI z2208] _ H _
            refine wp_of e30 c30_120 (rw_if_eq (p1 := 135) (p2 := 123) (by decide) rfl ⟨by omega, by omega⟩ (fun c2215 => ?_) (fun c2215 => ?_))
            · exfalso
              omega
            · refine wp_of e30 c30_123 (rw_aload_n (pc' := 124) (v := .ref r0) rfl rfl rfl ?_)
              refine wp_of e30 c30_124 (xg_K (pc' := 127) lf_1_12 hW g0 sh_3 (by decide) (by decide) rfl qtk rfl ?_)
              have h2216 : TP T H rb B := TC_tp hTC_tk qrb
              refine wp_of e30 c30_127 (xc_V (pc' := 130) (r := tk) (as := []) (st := []) (lm_1_74) rfl rfl (Nat.le_of_ble_eq_true rfl) hW gtk sh_4 (by decide) rfl (by decide) (u_16 (B := B) (n := n) (a := (xE B n q)) (q := (xN B n q)) hW gtk qrb grb (by omega) (by omega) (by omega) (rfl) h2216) (fun R2217 T2218 H2219 p2220 => ?_))
              obtain ⟨e2221, w2223, f2224, e2222, p2225⟩ := p2220
              subst e2221
              subst e2222
              have f2227 := f0.tr f2224 rfl
              show wp _ _ 30 130 [(2, .ref r1536), (0, .ref r0), (1, .ref r1)] [] _ H2219 _
              have u2228 := TC_k p2225
              refine wp_of e30 c30_130 (rw_aload_n (pc' := 131) (v := .ref r1536) rfl rfl rfl ?_)
              refine wp_of e30 c30_131 (rw_iconst (pc' := 132) rfl ?_)
              refine wp_of e30 c30_132 (xp_Z (pc' := 135) lf_1_203 w2223 g1538 sh_35 (by decide) (by decide) ty_35_13 rfl rfl (by omega) (by omega) rfl (fun H2229 e2230 w2231 => ?_))
              have f2232 := f2227.put' e2230 g1538 rfl
              have k2233 : H2229 r1536 13 = 1 := wq_u_s e2230
              have _ec : xqc B n q = ((xN B n q)) := by
                unfold xqc
                first | rw [if_pos (by omega)] | rw [if_neg (by omega)]
              have k2234 : H2229 r1536 6 = H r1536 6 := ((wq_u_j e2230 rfl).trans (f2224 r1536 6 _ g1538 rfl))
              have k2235 : H2229 r1536 7 = H r1536 7 := ((wq_u_j e2230 rfl).trans (f2224 r1536 7 _ g1538 rfl))
              have k2236 : H2229 r1536 8 = H r1536 8 := ((wq_u_j e2230 rfl).trans (f2224 r1536 8 _ g1538 rfl))
              have k2237 : H2229 r1536 9 = H r1536 9 := ((wq_u_j e2230 rfl).trans (f2224 r1536 9 _ g1538 rfl))
              have k2238 : H2229 r1536 10 = H r1536 10 := ((wq_u_j e2230 rfl).trans (f2224 r1536 10 _ g1538 rfl))
              have k2239 : H2229 r1536 11 = H r1536 11 := ((wq_u_j e2230 rfl).trans (f2224 r1536 11 _ g1538 rfl))
              have k2240 : H2229 r1536 12 = H r1536 12 := ((wq_u_j e2230 rfl).trans (f2224 r1536 12 _ g1538 rfl))
              have k2241 : H2229 r1536 14 = H r1536 14 := ((wq_u_j e2230 rfl).trans (f2224 r1536 14 _ g1538 rfl))
              have _ew : xaw B n q = H2229 r1536 13 := by
                unfold xaw
                first | (rw [if_pos (by omega)]; omega) | (rw [if_neg (by omega)]; omega)
              refine wp_of e30 c30_135 (rw_aload_n (pc' := 136) (v := .ref r1) rfl rfl rfl ?_)
              refine wp_of e30 c30_136 (rw_dup (pc' := 137) rfl rfl ?_)
              have k2242 : H2229 r1 10 = H r1 10 := ((wq_u_t e2230 g1538 g1 rfl 10).trans (f2224 r1 10 _ g1 rfl))
              refine wp_of e30 c30_137 (xg_I (pc' := 140) lf_1_44 w2231 g1 sh_27 (by decide) (by decide) ty_27_10 rfl rfl (fun b2243 b2244 => ?_))
              refine wp_of e30 c30_140 (rw_iconst (pc' := 141) rfl ?_)
              refine wp_of e30 c30_141 (rw_iadd (pc' := 142) rfl ?_)
              refine wp_of e30 c30_142 (xp_I (pc' := 145) lf_1_44 w2231 g1 sh_27 (by decide) (by decide) ty_27_10 rfl rfl (by omega) (by omega) ⟨by omega, by omega⟩ rfl (fun H2245 e2246 w2247 => ?_))
              have f2248 := f2232.put' e2246 g1 rfl
              have k2249 : H2245 r1 10 = (H2229 r1 10) + 1 := wq_u_s e2246
              refine wp_of e30 c30_145 (rw_iconst (pc' := 146) rfl ?_)
              have k2250 : H2245 r0 3 = H r0 3 := ((wq_u_t e2246 g1 g0 rfl 3).trans ((wq_u_t e2230 g1538 g0 rfl 3).trans (f2224 r0 3 _ g0 rfl)))
              have k2251 : H2245 r1 7 = H r1 7 := ((wq_u_j e2246 rfl).trans ((wq_u_t e2230 g1538 g1 rfl 7).trans (f2224 r1 7 _ g1 rfl)))
              have k2252 : H2245 r1 8 = H r1 8 := ((wq_u_j e2246 rfl).trans ((wq_u_t e2230 g1538 g1 rfl 8).trans (f2224 r1 8 _ g1 rfl)))
              have k2253 : H2245 r1 9 = H r1 9 := ((wq_u_j e2246 rfl).trans ((wq_u_t e2230 g1538 g1 rfl 9).trans (f2224 r1 9 _ g1 rfl)))
              have k2254 : H2245 r1 11 = H r1 11 := ((wq_u_j e2246 rfl).trans ((wq_u_t e2230 g1538 g1 rfl 11).trans (f2224 r1 11 _ g1 rfl)))
              have k2255 : H2245 r1 12 = H r1 12 := ((wq_u_j e2246 rfl).trans ((wq_u_t e2230 g1538 g1 rfl 12).trans (f2224 r1 12 _ g1 rfl)))
              have k2256 : H2245 r1 13 = H r1 13 := ((wq_u_j e2246 rfl).trans ((wq_u_t e2230 g1538 g1 rfl 13).trans (f2224 r1 13 _ g1 rfl)))
              have k2257 : H2245 r1 14 = H r1 14 := ((wq_u_j e2246 rfl).trans ((wq_u_t e2230 g1538 g1 rfl 14).trans (f2224 r1 14 _ g1 rfl)))
              have k2258 : H2245 r1 15 = H r1 15 := ((wq_u_j e2246 rfl).trans ((wq_u_t e2230 g1538 g1 rfl 15).trans (f2224 r1 15 _ g1 rfl)))
              have k2259 : H2245 r1 16 = H r1 16 := ((wq_u_j e2246 rfl).trans ((wq_u_t e2230 g1538 g1 rfl 16).trans (f2224 r1 16 _ g1 rfl)))
              have k2260 : H2245 r1536 6 = H2229 r1536 6 := (wq_u_t e2246 g1 g1538 rfl 6)
              have k2261 : H2245 r1536 7 = H2229 r1536 7 := (wq_u_t e2246 g1 g1538 rfl 7)
              have k2262 : H2245 r1536 8 = H2229 r1536 8 := (wq_u_t e2246 g1 g1538 rfl 8)
              have k2263 : H2245 r1536 9 = H2229 r1536 9 := (wq_u_t e2246 g1 g1538 rfl 9)
              have k2264 : H2245 r1536 10 = H2229 r1536 10 := (wq_u_t e2246 g1 g1538 rfl 10)
              have k2265 : H2245 r1536 11 = H2229 r1536 11 := (wq_u_t e2246 g1 g1538 rfl 11)
              have k2266 : H2245 r1536 12 = H2229 r1536 12 := (wq_u_t e2246 g1 g1538 rfl 12)
              have k2267 : H2245 r1536 13 = H2229 r1536 13 := (wq_u_t e2246 g1 g1538 rfl 13)
              have k2268 : H2245 r1536 14 = H2229 r1536 14 := (wq_u_t e2246 g1 g1538 rfl 14)
              have o2269 : (xcs B n q) = (0, q, (xN B n q)) := by
                unfold xcs xca xcb
                try rw [_ea]
                try rw [_eb]
                try rw [_ec]
                repeat first | rw [xs_0 (by omega)] | rw [xs_1 (by omega)] | rw [if_pos (by omega)] | rw [if_neg (by omega)]
                first | done | rfl | assumption | (exfalso; omega) | (refine Prod.ext ?_ (Prod.ext ?_ ?_) <;> (try dsimp only) <;> omega)
              have o2269a : ((xcs B n q)).1 = 0 := by rw [o2269]
              have o2269b : ((xcs B n q)).2.1 = q := by rw [o2269]
              have o2269c : ((xcs B n q)).2.2 = (xN B n q) := by rw [o2269]
              have _l := @xdper_v B n y d
              have _k := @xdper_k (H r1 10).toNat d B n y (by omega)
              rw [← p1] at _k
              rw [_ea, _eb] at _k
              have _f : H2245 r1536 6 = xdper B n y d 1 (H r1 10).toNat ∧ H2245 r1536 7 = xdper B n y d 2 (H r1 10).toNat ∧ H2245 r1536 8 = xdper B n y d 3 (H r1 10).toNat ∧ H2245 r1536 9 = xdper B n y d 4 (H r1 10).toNat ∧ H2245 r1536 10 = xdper B n y d 5 (H r1 10).toNat ∧ H2245 r1536 11 = xdper B n y d 6 (H r1 10).toNat ∧ H2245 r1536 12 = xhs (xdper B n y d 7 (H r1 10).toNat) (xdper B n y d 8 (H r1 10).toNat) ∧ H2245 r1536 13 = xdper B n y d 9 (H r1 10).toNat ∧ H2245 r1536 14 = 0 := ⟨by omega, by omega, by omega, by omega, by omega, by omega, by rw [_k.2.2.2.2.2.2.1, _k.2.2.2.2.2.2.2.1]; omega, by omega, by omega⟩
              have h2270 : TC T H2245 tk B n (xN B n q) := (TC_fr w2231 gtk ((wfr.rf (l := [(27, 10)])).put' e2246 g1 rfl) rfl (TC_fr w2223 gtk ((wfr.rf (l := [(35, 13)])).put' e2230 g1538 rfl) rfl p2225))
              have k2271 : H2245 r1 0 = H r1 0 := ((wq_u_j e2246 rfl).trans ((wq_u_t e2230 g1538 g1 rfl 0).trans (f2224 r1 0 _ g1 rfl)))
              have q2272 : H2245 r1 0 = (r1531 : Int) := k2271.trans q1532
              have k2273 : H2245 r1531 ((H r1 10).toNat) = H r1531 ((H r1 10).toNat) := ((wq_u_t e2246 g1 g1533 rfl ((H r1 10).toNat)).trans ((wq_u_t e2230 g1538 g1533 rfl ((H r1 10).toNat)).trans (f2224 r1531 ((H r1 10).toNat) _ g1533 rfl)))
              have q2274 : H2245 r1531 ((H r1 10).toNat) = (r1536 : Int) := k2273.trans q1537
              have h2275 : ST T H2245 r1 (d 13) := (ST_fr w2231 g1 ((wfr.rf (l := [(27, 10)])).put' e2246 g1 rfl) rfl (ST_fr w2223 g1 ((wfr.rf (l := [(35, 13)])).put' e2230 g1538 rfl) rfl (ST_fr hW g1 f2224 rfl h1525)))
              have h2276 : SV T H2245 r1 (d 13) 24 := (SV_fr w2231 g1 ((wfr.rf (l := [(27, 10)])).put' e2246 g1 rfl) rfl (SV_fr w2223 g1 ((wfr.rf (l := [(35, 13)])).put' e2230 g1538 rfl) rfl (SV_fr hW g1 f2224 rfl h1526)))
              have h2277 : DA3 T H2245 r1 (d 0 5) (d 12) := (DA3_fr w2231 g1 ((wfr.rf (l := [(27, 10)])).put' e2246 g1 rfl) rfl (DA3_fr w2223 g1 ((wfr.rf (l := [(35, 13)])).put' e2230 g1538 rfl) rfl (DA3_fr hW g1 f2224 rfl h1527)))
              have h2278 : DA4 T H2245 r1 (d 0 6) (d 14) := (DA4_fr w2231 g1 ((wfr.rf (l := [(27, 10)])).put' e2246 g1 rfl) rfl (DA4_fr w2223 g1 ((wfr.rf (l := [(35, 13)])).put' e2230 g1538 rfl) rfl (DA4_fr hW g1 f2224 rfl h1528)))
              have h2279 : DA5 T H2245 r1 (d 0 6) (d 15) := (DA5_fr w2231 g1 ((wfr.rf (l := [(27, 10)])).put' e2246 g1 rfl) rfl (DA5_fr w2223 g1 ((wfr.rf (l := [(35, 13)])).put' e2230 g1538 rfl) rfl (DA5_fr hW g1 f2224 rfl h1529)))
              have h2280 : DA6 T H2245 r1 (d 0 7) (d 16) := (DA6_fr w2231 g1 ((wfr.rf (l := [(27, 10)])).put' e2246 g1 rfl) rfl (DA6_fr w2223 g1 ((wfr.rf (l := [(35, 13)])).put' e2230 g1538 rfl) rfl (DA6_fr hW g1 f2224 rfl h1530)))
              exact wp_zreturn e30 c30_146 rfl (by omega) ⟨rfl, w2247, f2248, 1, rfl, ⟨by omega, by omega⟩, (Or.inl ⟨by omega, by omega, by omega, by omega, by rw [o2269]; exact h2270, DC_mk ⟨by omega, by omega, by omega, by omega, by omega, by omega, by omega, by omega, by omega, by omega, by omega, by omega, by omega, by omega, by omega, by omega⟩ (DQ_per g1538 (DQ_oth hW g1 f2248 rfl hDD_r1 q2272 q2274 (by omega) (by omega) (fun a ha ga => ((wq_u_tf e2246 g1 ga (by decide)).trans ((wq_u_nf e2230 ha).trans (f2224.fn ga rfl)))) hDC_r1.2.1) (by omega) q2272 q2274 (k := (H r1 10).toNat) (by omega) _f) h2275 h2276 h2277 h2278 h2279 h2280 ⟨rfl, rfl, rfl, rfl, rfl⟩ ⟨by omega, by omega, by omega⟩⟩)⟩
          · show wp _ _ 30 120 [(2, .ref r1536), (0, .ref r0), (1, .ref r1)] [vI z2208] _ H _
            refine wp_of e30 c30_120 (rw_if_eq (p1 := 135) (p2 := 123) (by decide) rfl ⟨by omega, by omega⟩ (fun c2281 => ?_) (fun c2281 => ?_))
            · have _ec : xqc B n q = q := by
                unfold xqc
                first | rw [if_pos (by omega)] | rw [if_neg (by omega)]
              have _ew : xaw B n q = H r1536 13 := by
                unfold xaw
                first | (rw [if_pos (by omega)]; omega) | (rw [if_neg (by omega)]; omega)
              refine wp_of e30 c30_135 (rw_aload_n (pc' := 136) (v := .ref r1) rfl rfl rfl ?_)
              refine wp_of e30 c30_136 (rw_dup (pc' := 137) rfl rfl ?_)
              refine wp_of e30 c30_137 (xg_I (pc' := 140) lf_1_44 hW g1 sh_27 (by decide) (by decide) ty_27_10 rfl rfl (fun b2282 b2283 => ?_))
              refine wp_of e30 c30_140 (rw_iconst (pc' := 141) rfl ?_)
              refine wp_of e30 c30_141 (rw_iadd (pc' := 142) rfl ?_)
              refine wp_of e30 c30_142 (xp_I (pc' := 145) lf_1_44 hW g1 sh_27 (by decide) (by decide) ty_27_10 rfl rfl (by omega) (by omega) ⟨by omega, by omega⟩ rfl (fun H2284 e2285 w2286 => ?_))
              have f2287 := f0.put' e2285 g1 rfl
              have k2288 : H2284 r1 10 = (H r1 10) + 1 := wq_u_s e2285
              refine wp_of e30 c30_145 (rw_iconst (pc' := 146) rfl ?_)
              have k2289 : H2284 r0 3 = H r0 3 := (wq_u_t e2285 g1 g0 rfl 3)
              have k2290 : H2284 r1 7 = H r1 7 := (wq_u_j e2285 rfl)
              have k2291 : H2284 r1 8 = H r1 8 := (wq_u_j e2285 rfl)
              have k2292 : H2284 r1 9 = H r1 9 := (wq_u_j e2285 rfl)
              have k2293 : H2284 r1 11 = H r1 11 := (wq_u_j e2285 rfl)
              have k2294 : H2284 r1 12 = H r1 12 := (wq_u_j e2285 rfl)
              have k2295 : H2284 r1 13 = H r1 13 := (wq_u_j e2285 rfl)
              have k2296 : H2284 r1 14 = H r1 14 := (wq_u_j e2285 rfl)
              have k2297 : H2284 r1 15 = H r1 15 := (wq_u_j e2285 rfl)
              have k2298 : H2284 r1 16 = H r1 16 := (wq_u_j e2285 rfl)
              have k2299 : H2284 r1536 6 = H r1536 6 := (wq_u_t e2285 g1 g1538 rfl 6)
              have k2300 : H2284 r1536 7 = H r1536 7 := (wq_u_t e2285 g1 g1538 rfl 7)
              have k2301 : H2284 r1536 8 = H r1536 8 := (wq_u_t e2285 g1 g1538 rfl 8)
              have k2302 : H2284 r1536 9 = H r1536 9 := (wq_u_t e2285 g1 g1538 rfl 9)
              have k2303 : H2284 r1536 10 = H r1536 10 := (wq_u_t e2285 g1 g1538 rfl 10)
              have k2304 : H2284 r1536 11 = H r1536 11 := (wq_u_t e2285 g1 g1538 rfl 11)
              have k2305 : H2284 r1536 12 = H r1536 12 := (wq_u_t e2285 g1 g1538 rfl 12)
              have k2306 : H2284 r1536 13 = H r1536 13 := (wq_u_t e2285 g1 g1538 rfl 13)
              have k2307 : H2284 r1536 14 = H r1536 14 := (wq_u_t e2285 g1 g1538 rfl 14)
              have o2308 : (xcs B n q) = (0, q, q) := by
                unfold xcs xca xcb
                try rw [_ea]
                try rw [_eb]
                try rw [_ec]
                repeat first | rw [xs_0 (by omega)] | rw [xs_1 (by omega)] | rw [if_pos (by omega)] | rw [if_neg (by omega)]
                first | done | rfl | assumption | (exfalso; omega) | (refine Prod.ext ?_ (Prod.ext ?_ ?_) <;> (try dsimp only) <;> omega)
              have o2308a : ((xcs B n q)).1 = 0 := by rw [o2308]
              have o2308b : ((xcs B n q)).2.1 = q := by rw [o2308]
              have o2308c : ((xcs B n q)).2.2 = q := by rw [o2308]
              have _l := @xdper_v B n y d
              have _k := @xdper_k (H r1 10).toNat d B n y (by omega)
              rw [← p1] at _k
              rw [_ea, _eb] at _k
              have _f : H2284 r1536 6 = xdper B n y d 1 (H r1 10).toNat ∧ H2284 r1536 7 = xdper B n y d 2 (H r1 10).toNat ∧ H2284 r1536 8 = xdper B n y d 3 (H r1 10).toNat ∧ H2284 r1536 9 = xdper B n y d 4 (H r1 10).toNat ∧ H2284 r1536 10 = xdper B n y d 5 (H r1 10).toNat ∧ H2284 r1536 11 = xdper B n y d 6 (H r1 10).toNat ∧ H2284 r1536 12 = xhs (xdper B n y d 7 (H r1 10).toNat) (xdper B n y d 8 (H r1 10).toNat) ∧ H2284 r1536 13 = xdper B n y d 9 (H r1 10).toNat ∧ H2284 r1536 14 = 0 := ⟨by omega, by omega, by omega, by omega, by omega, by omega, by rw [_k.2.2.2.2.2.2.1, _k.2.2.2.2.2.2.2.1]; omega, by omega, by omega⟩
              have h2309 : TC T H2284 tk B n q := (TC_fr hW gtk ((wfr.rf (l := [(27, 10)])).put' e2285 g1 rfl) rfl hTC_tk)
              have k2310 : H2284 r1 0 = H r1 0 := (wq_u_j e2285 rfl)
              have q2311 : H2284 r1 0 = (r1531 : Int) := k2310.trans q1532
              have k2312 : H2284 r1531 ((H r1 10).toNat) = H r1531 ((H r1 10).toNat) := (wq_u_t e2285 g1 g1533 rfl ((H r1 10).toNat))
              have q2313 : H2284 r1531 ((H r1 10).toNat) = (r1536 : Int) := k2312.trans q1537
              have h2314 : ST T H2284 r1 (d 13) := (ST_fr hW g1 ((wfr.rf (l := [(27, 10)])).put' e2285 g1 rfl) rfl h1525)
              have h2315 : SV T H2284 r1 (d 13) 24 := (SV_fr hW g1 ((wfr.rf (l := [(27, 10)])).put' e2285 g1 rfl) rfl h1526)
              have h2316 : DA3 T H2284 r1 (d 0 5) (d 12) := (DA3_fr hW g1 ((wfr.rf (l := [(27, 10)])).put' e2285 g1 rfl) rfl h1527)
              have h2317 : DA4 T H2284 r1 (d 0 6) (d 14) := (DA4_fr hW g1 ((wfr.rf (l := [(27, 10)])).put' e2285 g1 rfl) rfl h1528)
              have h2318 : DA5 T H2284 r1 (d 0 6) (d 15) := (DA5_fr hW g1 ((wfr.rf (l := [(27, 10)])).put' e2285 g1 rfl) rfl h1529)
              have h2319 : DA6 T H2284 r1 (d 0 7) (d 16) := (DA6_fr hW g1 ((wfr.rf (l := [(27, 10)])).put' e2285 g1 rfl) rfl h1530)
              exact wp_zreturn e30 c30_146 rfl (by omega) ⟨rfl, w2286, f2287, 1, rfl, ⟨by omega, by omega⟩, (Or.inl ⟨by omega, by omega, by omega, by omega, by rw [o2308]; exact h2309, DC_mk ⟨by omega, by omega, by omega, by omega, by omega, by omega, by omega, by omega, by omega, by omega, by omega, by omega, by omega, by omega, by omega, by omega⟩ (DQ_per g1538 (DQ_oth hW g1 f2287 rfl hDD_r1 q2311 q2313 (by omega) (by omega) (fun a ha ga => (wq_u_tf e2285 g1 ga (by decide))) hDC_r1.2.1) (by omega) q2311 q2313 (k := (H r1 10).toNat) (by omega) _f) h2314 h2315 h2316 h2317 h2318 h2319 ⟨rfl, rfl, rfl, rfl, rfl⟩ ⟨by omega, by omega, by omega⟩⟩)⟩
            · exfalso
              omega
        · exfalso
          omega
    · exfalso
      omega
/-! StrikeAwake$Parish.clear()V  -/
abbrev uq_14 (r0 : Nat) (T : wq_T) (H : wq_H) : Option Value → wq_T → wq_H → Prop := fun r T' H' => T = T' ∧ WT T H' ∧ wfr [(27, 7), (27, 8), (27, 9), (27, 10), (27, 11), (27, 12), (27, 13), (27, 14), (27, 15), (27, 16), (27, 17), (27, 18), (29, 999)] T H H' ∧ none = r ∧ ((DC T H' r0 xD0))
set_option maxHeartbeats 4000000 in
theorem u_14 {kt : Nat → Option mc_E} {T : wq_T} {H : wq_H} {r0 : Nat} (hW : WT T H) (g0 : T.2.2.2 r0 = some 27) : wpc kt 1 14 [.ref r0] T H (uq_14 r0 T H) := by
  refine wp_enter e14 (Nat.le_of_ble_eq_true rfl) rfl ?_
  have f0 : wfr [(27, 7), (27, 8), (27, 9), (27, 10), (27, 11), (27, 12), (27, 13), (27, 14), (27, 15), (27, 16), (27, 17), (27, 18), (29, 999)] T H H := wfr.rf
  show wp _ _ 14 0 [(0, .ref r0)] [] _ H _
  refine wp_of e14 c14_0 (rw_aload_n (pc' := 1) (v := .ref r0) rfl rfl rfl ?_)
  refine wp_of e14 c14_1 (rw_iconst (pc' := 2) rfl ?_)
  refine wp_of e14 c14_2 (xp_I (pc' := 5) lf_7_41 hW g0 sh_27 (by decide) (by decide) ty_27_7 rfl rfl (by omega) (by omega) ⟨by omega, by omega⟩ rfl (fun H1134 e1135 w1136 => ?_))
  have f1137 := f0.put' e1135 g0 rfl
  have k1138 : H1134 r0 7 = 0 := wq_u_s e1135
  refine wp_of e14 c14_5 (rw_aload_n (pc' := 6) (v := .ref r0) rfl rfl rfl ?_)
  refine wp_of e14 c14_6 (rw_iconst (pc' := 7) rfl ?_)
  refine wp_of e14 c14_7 (xp_I (pc' := 10) lf_7_44 w1136 g0 sh_27 (by decide) (by decide) ty_27_8 rfl rfl (by omega) (by omega) ⟨by omega, by omega⟩ rfl (fun H1139 e1140 w1141 => ?_))
  have f1142 := f1137.put' e1140 g0 rfl
  have k1143 : H1139 r0 8 = 0 := wq_u_s e1140
  refine wp_of e14 c14_10 (rw_aload_n (pc' := 11) (v := .ref r0) rfl rfl rfl ?_)
  refine wp_of e14 c14_11 (rw_iconst (pc' := 12) rfl ?_)
  refine wp_of e14 c14_12 (xp_I (pc' := 15) lf_7_47 w1141 g0 sh_27 (by decide) (by decide) ty_27_9 rfl rfl (by omega) (by omega) ⟨by omega, by omega⟩ rfl (fun H1144 e1145 w1146 => ?_))
  have f1147 := f1142.put' e1145 g0 rfl
  have k1148 : H1144 r0 9 = 0 := wq_u_s e1145
  refine wp_of e14 c14_15 (rw_aload_n (pc' := 16) (v := .ref r0) rfl rfl rfl ?_)
  refine wp_of e14 c14_16 (rw_iconst (pc' := 17) rfl ?_)
  refine wp_of e14 c14_17 (xp_I (pc' := 20) lf_7_50 w1146 g0 sh_27 (by decide) (by decide) ty_27_10 rfl rfl (by omega) (by omega) ⟨by omega, by omega⟩ rfl (fun H1149 e1150 w1151 => ?_))
  have f1152 := f1147.put' e1150 g0 rfl
  have k1153 : H1149 r0 10 = 0 := wq_u_s e1150
  refine wp_of e14 c14_20 (rw_aload_n (pc' := 21) (v := .ref r0) rfl rfl rfl ?_)
  refine wp_of e14 c14_21 (rw_iconst (pc' := 22) rfl ?_)
  refine wp_of e14 c14_22 (xp_I (pc' := 25) lf_7_53 w1151 g0 sh_27 (by decide) (by decide) ty_27_11 rfl rfl (by omega) (by omega) ⟨by omega, by omega⟩ rfl (fun H1154 e1155 w1156 => ?_))
  have f1157 := f1152.put' e1155 g0 rfl
  have k1158 : H1154 r0 11 = 0 := wq_u_s e1155
  refine wp_of e14 c14_25 (rw_aload_n (pc' := 26) (v := .ref r0) rfl rfl rfl ?_)
  refine wp_of e14 c14_26 (rw_iconst (pc' := 27) rfl ?_)
  refine wp_of e14 c14_27 (xp_I (pc' := 30) lf_7_56 w1156 g0 sh_27 (by decide) (by decide) ty_27_12 rfl rfl (by omega) (by omega) ⟨by omega, by omega⟩ rfl (fun H1159 e1160 w1161 => ?_))
  have f1162 := f1157.put' e1160 g0 rfl
  have k1163 : H1159 r0 12 = 0 := wq_u_s e1160
  refine wp_of e14 c14_30 (rw_aload_n (pc' := 31) (v := .ref r0) rfl rfl rfl ?_)
  refine wp_of e14 c14_31 (rw_iconst (pc' := 32) rfl ?_)
  refine wp_of e14 c14_32 (xp_I (pc' := 35) lf_7_59 w1161 g0 sh_27 (by decide) (by decide) ty_27_13 rfl rfl (by omega) (by omega) ⟨by omega, by omega⟩ rfl (fun H1164 e1165 w1166 => ?_))
  have f1167 := f1162.put' e1165 g0 rfl
  have k1168 : H1164 r0 13 = 0 := wq_u_s e1165
  refine wp_of e14 c14_35 (rw_aload_n (pc' := 36) (v := .ref r0) rfl rfl rfl ?_)
  refine wp_of e14 c14_36 (rw_iconst (pc' := 37) rfl ?_)
  refine wp_of e14 c14_37 (xp_I (pc' := 40) lf_7_62 w1166 g0 sh_27 (by decide) (by decide) ty_27_14 rfl rfl (by omega) (by omega) ⟨by omega, by omega⟩ rfl (fun H1169 e1170 w1171 => ?_))
  have f1172 := f1167.put' e1170 g0 rfl
  have k1173 : H1169 r0 14 = 0 := wq_u_s e1170
  refine wp_of e14 c14_40 (rw_aload_n (pc' := 41) (v := .ref r0) rfl rfl rfl ?_)
  refine wp_of e14 c14_41 (rw_bipush (pc' := 43) (z := -2) rfl (by decide) ?_)
  refine wp_of e14 c14_43 (xp_I (pc' := 46) lf_7_37 w1171 g0 sh_27 (by decide) (by decide) ty_27_15 rfl rfl (by omega) (by omega) ⟨by omega, by omega⟩ rfl (fun H1174 e1175 w1176 => ?_))
  have f1177 := f1172.put' e1175 g0 rfl
  have k1178 : H1174 r0 15 = -2 := wq_u_s e1175
  refine wp_of e14 c14_46 (rw_aload_n (pc' := 47) (v := .ref r0) rfl rfl rfl ?_)
  refine wp_of e14 c14_47 (rw_iconst (pc' := 48) rfl ?_)
  refine wp_of e14 c14_48 (xp_I (pc' := 51) lf_7_65 w1176 g0 sh_27 (by decide) (by decide) ty_27_16 rfl rfl (by omega) (by omega) ⟨by omega, by omega⟩ rfl (fun H1179 e1180 w1181 => ?_))
  have f1182 := f1177.put' e1180 g0 rfl
  have k1183 : H1179 r0 16 = 0 := wq_u_s e1180
  refine wp_of e14 c14_51 (rw_aload_n (pc' := 52) (v := .ref r0) rfl rfl rfl ?_)
  refine wp_of e14 c14_52 (rw_iconst (pc' := 53) rfl ?_)
  refine wp_of e14 c14_53 (xp_I (pc' := 56) lf_7_68 w1181 g0 sh_27 (by decide) (by decide) ty_27_17 rfl rfl (by omega) (by omega) ⟨by omega, by omega⟩ rfl (fun H1184 e1185 w1186 => ?_))
  have f1187 := f1182.put' e1185 g0 rfl
  have k1188 : H1184 r0 17 = 0 := wq_u_s e1185
  refine wp_of e14 c14_56 (rw_aload_n (pc' := 57) (v := .ref r0) rfl rfl rfl ?_)
  refine wp_of e14 c14_57 (rw_lconst (pc' := 58) (z := 0) rfl rfl ?_)
  refine wp_of e14 c14_58 (xp_L (pc' := 61) lf_7_71 w1186 g0 sh_27 (by decide) (by decide) ty_27_18 rfl rfl (by omega) (by omega) ⟨by omega, by omega⟩ rfl (fun H1189 e1190 w1191 => ?_))
  have f1192 := f1187.put' e1190 g0 rfl
  have k1193 : H1189 r0 18 = 0 := wq_u_s e1190
  refine wp_of e14 c14_61 (rw_iconst (pc' := 62) rfl ?_)
  refine wp_of e14 c14_62 (rw_istore_n (pc' := 63) (z := 0) (L' := [(1, vI 0), (0, .ref r0)]) rfl rfl rfl ?_)
  have lp1258 : ∀ (n1259 : Nat) (v1261 : Int) (H1262 : wq_H), WT T H1262 → wfr [(29, 999)] T H1189 H1262 → (0 ≤ v1261 ∧ v1261 ≤ 24) → SZ T H1262 r0 v1261 → (24 - v1261).toNat = n1259 → wp kt 0 14 63 [(1, vI v1261), (0, .ref r0)] [] T H1262 (uq_14 r0 T H) := by
    intro n1259
    induction n1259 using Nat.strongRecOn with
    | _ n1259 ih1260 =>
      intro v1261 H1262 w1263 f1264 b1265 h1267 m1266
      have f1268 := f1192.tr f1264 rfl
      refine wp_of e14 c14_63 (rw_iload_n (pc' := 64) (z := v1261) rfl rfl ?_)
      refine wp_of e14 c14_64 (rw_bipush (pc' := 66) (z := 24) rfl (by decide) ?_)
      refine wp_of e14 c14_66 (rw_icmp_ge (p1 := 83) (p2 := 69) (by decide) rfl ⟨by omega, by omega⟩ ⟨by omega, by omega⟩ (fun c1269 => ?_) (fun c1269 => ?_))
      · have k1270 : H1262 r0 7 = H1134 r0 7 := ((f1264 r0 7 _ g0 rfl).trans ((wq_u_j e1190 rfl).trans ((wq_u_j e1185 rfl).trans ((wq_u_j e1180 rfl).trans ((wq_u_j e1175 rfl).trans ((wq_u_j e1170 rfl).trans ((wq_u_j e1165 rfl).trans ((wq_u_j e1160 rfl).trans ((wq_u_j e1155 rfl).trans ((wq_u_j e1150 rfl).trans ((wq_u_j e1145 rfl).trans (wq_u_j e1140 rfl))))))))))))
        have k1271 : H1262 r0 8 = H1139 r0 8 := ((f1264 r0 8 _ g0 rfl).trans ((wq_u_j e1190 rfl).trans ((wq_u_j e1185 rfl).trans ((wq_u_j e1180 rfl).trans ((wq_u_j e1175 rfl).trans ((wq_u_j e1170 rfl).trans ((wq_u_j e1165 rfl).trans ((wq_u_j e1160 rfl).trans ((wq_u_j e1155 rfl).trans ((wq_u_j e1150 rfl).trans (wq_u_j e1145 rfl)))))))))))
        have k1272 : H1262 r0 9 = H1144 r0 9 := ((f1264 r0 9 _ g0 rfl).trans ((wq_u_j e1190 rfl).trans ((wq_u_j e1185 rfl).trans ((wq_u_j e1180 rfl).trans ((wq_u_j e1175 rfl).trans ((wq_u_j e1170 rfl).trans ((wq_u_j e1165 rfl).trans ((wq_u_j e1160 rfl).trans ((wq_u_j e1155 rfl).trans (wq_u_j e1150 rfl))))))))))
        have k1273 : H1262 r0 10 = H1149 r0 10 := ((f1264 r0 10 _ g0 rfl).trans ((wq_u_j e1190 rfl).trans ((wq_u_j e1185 rfl).trans ((wq_u_j e1180 rfl).trans ((wq_u_j e1175 rfl).trans ((wq_u_j e1170 rfl).trans ((wq_u_j e1165 rfl).trans ((wq_u_j e1160 rfl).trans (wq_u_j e1155 rfl)))))))))
        have k1274 : H1262 r0 11 = H1154 r0 11 := ((f1264 r0 11 _ g0 rfl).trans ((wq_u_j e1190 rfl).trans ((wq_u_j e1185 rfl).trans ((wq_u_j e1180 rfl).trans ((wq_u_j e1175 rfl).trans ((wq_u_j e1170 rfl).trans ((wq_u_j e1165 rfl).trans (wq_u_j e1160 rfl))))))))
        have k1275 : H1262 r0 12 = H1159 r0 12 := ((f1264 r0 12 _ g0 rfl).trans ((wq_u_j e1190 rfl).trans ((wq_u_j e1185 rfl).trans ((wq_u_j e1180 rfl).trans ((wq_u_j e1175 rfl).trans ((wq_u_j e1170 rfl).trans (wq_u_j e1165 rfl)))))))
        have k1276 : H1262 r0 13 = H1164 r0 13 := ((f1264 r0 13 _ g0 rfl).trans ((wq_u_j e1190 rfl).trans ((wq_u_j e1185 rfl).trans ((wq_u_j e1180 rfl).trans ((wq_u_j e1175 rfl).trans (wq_u_j e1170 rfl))))))
        have k1277 : H1262 r0 14 = H1169 r0 14 := ((f1264 r0 14 _ g0 rfl).trans ((wq_u_j e1190 rfl).trans ((wq_u_j e1185 rfl).trans ((wq_u_j e1180 rfl).trans (wq_u_j e1175 rfl)))))
        have k1278 : H1262 r0 15 = H1174 r0 15 := ((f1264 r0 15 _ g0 rfl).trans ((wq_u_j e1190 rfl).trans ((wq_u_j e1185 rfl).trans (wq_u_j e1180 rfl))))
        have k1279 : H1262 r0 16 = H1179 r0 16 := ((f1264 r0 16 _ g0 rfl).trans ((wq_u_j e1190 rfl).trans (wq_u_j e1185 rfl)))
        have _0 : xD0 0 0 = 0 ∧ xD0 0 1 = 0 ∧ xD0 0 2 = 0 ∧ xD0 0 3 = 0 ∧ xD0 0 4 = 0 ∧ xD0 0 5 = 0 ∧ xD0 0 6 = 0 ∧ xD0 0 7 = 0 ∧ xD0 0 8 = -1 ∧ xsx (xD0 0 8) = -2 ∧ xcn (xD0 13) 24 = 0 := ⟨rfl, rfl, rfl, rfl, rfl, rfl, rfl, rfl, rfl, rfl, rfl⟩
        exact wp_return e14 c14_83 rfl ⟨rfl, w1263, f1268, rfl, (DC_mk ⟨by omega, by omega, by omega, by omega, by omega, by omega, by omega, by omega, by omega, by omega, by omega, by omega, by omega, by omega, by omega, by omega⟩ (DQ_0 (by omega) (by omega)) (ST_z h1267 (by omega) (fun k _ => rfl)) (SV_z w1263 g0 (fun k => Int.le_refl _)) (DA_0 (n := 19) w1263 g0 rfl (by decide) rfl (Int.le_refl _)) (DA_0 (n := 19) w1263 g0 rfl (by decide) rfl (Int.le_refl _)) (DA_0 (n := 19) w1263 g0 rfl (by decide) rfl (Int.le_refl _)) (DA_0 (n := 19) w1263 g0 rfl (by decide) rfl (Int.le_refl _)) ⟨rfl, rfl, rfl, rfl, rfl⟩ ⟨rfl, rfl, rfl⟩)⟩
      · refine wp_of e14 c14_69 (rw_aload_n (pc' := 70) (v := .ref r0) rfl rfl rfl ?_)
        refine wp_of e14 c14_70 (xg_R (pc' := 73) lf_7_17 w1263 g0 sh_27 (by decide) (by decide) ty_27_1 rfl rfl (fun r1280 q1281 g1282 => ?_))
        refine wp_of e14 c14_73 (rw_iload_n (pc' := 74) (z := v1261) rfl rfl ?_)
        refine wp_of e14 c14_74 (rw_bipush (pc' := 76) (z := -2) rfl (by decide) ?_)
        refine wp_of e14 c14_76 (xs_I (pc' := 77) w1263 g1282 (by decide) sh_29 (by decide) (ty_29 _) (by omega) (by omega) ⟨by omega, by omega⟩ (by omega) (by omega) rfl (fun H1283 e1284 w1285 => ?_))
        have f1286 := f1268.put' e1284 g1282 rfl
        have f1287 := f1264.put' e1284 g1282 rfl
        have h1288 : SZ T H1283 r0 (v1261 + 1) := SZ_put h1267 q1281 g0 g1282 e1284 (by omega) rfl
        refine wp_of e14 c14_77 (rw_iinc (pc' := 80) (z := v1261) (L' := [(1, vI (v1261 + 1)), (0, .ref r0)]) rfl rfl rfl rfl ?_)
        refine wp_of e14 c14_80 (rw_goto (p1 := 63) (by decide) ?_)
        exact wp_lc (ks := [1, 0]) (wl_c rfl (wl_c rfl wl_n)) rfl (by decide) (ih1260 _ (by omega) (v1261 + 1) H1283 w1285 f1287 ⟨by omega, by omega⟩ h1288 rfl)
  have h1289 : SZ T H1189 r0 0 := SZ_0 w1191 g0
  exact wp_lc (ks := [1, 0]) (wl_c rfl (wl_c rfl wl_n)) rfl (by decide) (lp1258 _ 0 H1189 w1191 wfr.rf ⟨by omega, by omega⟩ h1289 rfl)
