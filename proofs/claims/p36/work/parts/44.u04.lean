/-! what methods do (own work, written by wip/gen3/sx3.py) -/
/-! StrikeAwake$Reader.readsCustoms(LStrikeAwake$Parish;)Z  -/
abbrev uq_30 (r0 : Nat) (r1 : Nat) (tk : Nat) (rb : Nat) (B : Nat → Int) (n : Int) (q : Int) (d : xD) (y : Int) (T : wq_T) (H : wq_H) : Option Value → wq_T → wq_H → Prop := fun r T' H' => T = T' ∧ WT T H' ∧ wfr [(27, 10), (35, 11), (35, 12), (35, 13), (3, 1), (3, 2), (3, 3), (3, 4), (4, 2), (4, 3), (4, 4), (4, 5), (4, 6)] T H H' ∧ ∃ z : Int, some (vI z) = r ∧ (0 ≤ z ∧ z ≤ 1) ∧ (((z = 1) ∧ ((xcs B n q).1 = 0) ∧ (q ≤ (xcs B n q).2.2) ∧ (H' r0 3 = H r0 3) ∧ TC T H' tk B n (xcs B n q).2.2 ∧ DC T H' r1 (xdper B n y d) ∧ CZ T H' r1 ((xdper B n y d) 0 3)) ∨ ((z = 0) ∧ ((xcs B n q).1 ≠ 0) ∧ ((xcs B n q).2.2 = (xcs B n q).2.1) ∧ (H' r0 3 = (xcs B n q).1) ∧ (H' r0 4 = (xcs B n q).2.1)))
set_option maxHeartbeats 4000000 in
theorem u_30 {kt : Nat → Option mc_E} {T : wq_T} {H : wq_H} {r0 : Nat} {r1 : Nat} {tk : Nat} {rb : Nat} {B : Nat → Int} {n : Int} {q : Int} {d : xD} {y : Int} (hW : WT T H) (g0 : T.2.2.2 r0 = some 3) (g1 : T.2.2.2 r1 = some 27) (qtk : H r0 0 = (tk : Int)) (gtk : T.2.2.2 tk = some 4) (qrb : H tk 0 = (rb : Int)) (grb : T.2.2.2 rb = some 2) (p0 : d 0 3 ≤ 5) (p1 : q = (xN B n (xN B n (xN B n (xN B n (xN B n (xN B n (xN B n (xN B n (xN B n y)))))))))) (hTC_tk : TC T H tk B n q) (hDC_r1 : DC T H r1 d) (hDD_r1 : DD T H r1 ) (hPK_r1 : PK T H r1 B n y d) (hCZ_r1 : CZ T H r1 (d 0 3 + 1)) : wpc kt 4 30 [.ref r0, .ref r1] T H (uq_30 r0 r1 tk rb B n q d y T H) := by
  refine wp_enter e30 (Nat.le_of_ble_eq_true rfl) rfl ?_
  have f0 : wfr [(27, 10), (35, 11), (35, 12), (35, 13), (3, 1), (3, 2), (3, 3), (3, 4), (4, 2), (4, 3), (4, 4), (4, 5), (4, 6)] T H H := wfr.rf
  show wp _ _ 30 0 [(0, .ref r0), (1, .ref r1)] [] _ H _
  have u1523 := TC_k hTC_tk
  have u1524 := DC_k hDC_r1
  have h1525 : ST T H r1 (d 13) := hDC_r1.2.2.1
  have h1526 : SV T H r1 (d 13) 24 := hDC_r1.2.2.2.1
  have h1527 : DA3 T H r1 (d 0 5) (d 12) := hDC_r1.2.2.2.2.1
  have h1528 : DA4 T H r1 (d 0 6) (d 14) := hDC_r1.2.2.2.2.2.1
  have h1529 : DA5 T H r1 (d 0 6) (d 15) := hDC_r1.2.2.2.2.2.2.1
  have h1530 : DA6 T H r1 (d 0 7) (d 16) := hDC_r1.2.2.2.2.2.2.2
  have _z : xhs 0 0 = 0 := by decide
  have _l0 := p1
  refine wp_of e30 c30_0 (rw_aload_n (pc' := 1) (v := .ref r1) rfl rfl rfl ?_)
  refine wp_of e30 c30_1 (xg_R (pc' := 4) lf_1_143 hW g1 sh_27 (by decide) (by decide) ty_27_0 rfl rfl (fun r1531 q1532 g1533 => ?_))
  refine wp_of e30 c30_4 (rw_aload_n (pc' := 5) (v := .ref r1) rfl rfl rfl ?_)
  refine wp_of e30 c30_5 (xg_I (pc' := 8) lf_1_44 hW g1 sh_27 (by decide) (by decide) ty_27_10 rfl rfl (fun b1534 b1535 => ?_))
  refine wp_of e30 c30_8 (xa_R (pc' := 9) (by decide) hW g1533 sh_28 (by decide) (ty_28 _) (b1534) (by omega) rfl (fun r1536 q1537 g1538 => ?_))
  refine wp_of e30 c30_9 (rw_astore_n (pc' := 10) (v := .ref r1536) (L' := [(2, .ref r1536), (0, .ref r0), (1, .ref r1)]) rfl rfl rfl rfl ?_)
  have _p := PK_k hPK_r1 q1532 q1537 (by omega)
  refine wp_of e30 c30_10 (rw_aload_n (pc' := 11) (v := .ref r0) rfl rfl rfl ?_)
  refine wp_of e30 c30_11 (xg_K (pc' := 14) lf_1_12 hW g0 sh_3 (by decide) (by decide) rfl qtk rfl ?_)
  refine wp_of e30 c30_14 (rw_gs (pc' := 17) (k := 24) rfl rfl rfl rfl ?_)
  have k1539 : H 24 0 = ((40 : Nat) : Int) := (hW.2 24 _ (hW.1.2.2 8 (by decide))).2.2 0 (by decide) |> fun z => by have z1 : (40 : Int) ≤ H 24 0 ∧ H 24 0 ≤ 40 := z; omega
  refine wp_of e30 c30_17 (rw_getR (pc' := 20) (n := 2) (b := 40) (e := _) (lf_1_181).choose_spec.1 (lf_1_181).choose_spec.2.1 (hW.sh (hW.1.2.2 8 (by decide)) rfl) (by decide) rfl k1539 rfl ?_)
  refine wp_of e30 c30_20 (xc_V (pc' := 23) (r := tk) (as := [.ref 40]) (st := []) (lm_1_185) rfl rfl (Nat.le_of_ble_eq_true rfl) hW gtk sh_4 (by decide) rfl (by decide) (u_19_t (B := B) (n := n) (q := q) (kk := 8423732) hW gtk rfl (by decide +kernel) hTC_tk) (fun R1540 T1541 H1542 p1543 => ?_))
  obtain ⟨e1544, e1546, z1547, e1545, b1548, p1549⟩ := p1543
  subst e1544
  subst e1545
  subst e1546
  rcases p1549 with ⟨a1550, a1551⟩ | ⟨a1552, a1553⟩
  · show wp _ _ 30 23 [(2, .ref r1536), (0, .ref r0), (1, .ref r1)] [vI z1547] _ H _
    refine wp_of e30 c30_23 (rw_if_eq (p1 := 53) (p2 := 26) (by decide) rfl ⟨Int.le_trans (by decide) b1548.1, Int.le_trans b1548.2 (by decide)⟩ (fun c1554 => ?_) (fun c1554 => ?_))
    · exfalso
      omega
    · refine wp_of e30 c30_26 (rw_aload_n (pc' := 27) (v := .ref r0) rfl rfl rfl ?_)
      refine wp_of e30 c30_27 (xg_K (pc' := 30) lf_1_12 hW g0 sh_3 (by decide) (by decide) rfl qtk rfl ?_)
      have h1555 : TP T H rb B := TC_tp hTC_tk qrb
      refine wp_of e30 c30_30 (xc_V (pc' := 33) (r := tk) (as := []) (st := []) (lm_1_74) rfl rfl (Nat.le_of_ble_eq_true rfl) hW gtk sh_4 (by decide) rfl (by decide) (u_16 (B := B) (n := n) (a := (xE B n q)) (q := (xN B n q)) hW gtk qrb grb (by omega) (by omega) (by omega) (rfl) h1555) (fun R1556 T1557 H1558 p1559 => ?_))
      obtain ⟨e1560, w1562, f1563, e1561, p1564⟩ := p1559
      subst e1560
      subst e1561
      have f1566 := f0.tr f1563 rfl
      show wp _ _ 30 33 [(2, .ref r1536), (0, .ref r0), (1, .ref r1)] [] _ H1558 _
      have u1567 := TC_k p1564
      refine wp_of e30 c30_33 (rw_aload_n (pc' := 34) (v := .ref r1536) rfl rfl rfl ?_)
      refine wp_of e30 c30_34 (rw_aload_n (pc' := 35) (v := .ref r0) rfl rfl rfl ?_)
      refine wp_of e30 c30_35 (rw_iconst (pc' := 36) rfl ?_)
      refine wp_of e30 c30_36 (rw_bipush (pc' := 38) (z := 23) rfl (by decide) ?_)
      have k1568 : H1558 r0 0 = H r0 0 := (f1563 r0 0 _ g0 rfl)
      have q1569 : H1558 r0 0 = (tk : Int) := k1568.trans qtk
      have k1570 : H1558 tk 0 = H tk 0 := (f1563 tk 0 _ gtk rfl)
      have q1571 : H1558 tk 0 = (rb : Int) := k1570.trans qrb
      have k1572 : H1558 r0 3 = H r0 3 := (f1563 r0 3 _ g0 rfl)
      refine wp_of e30 c30_38 (xc_V (pc' := 41) (r := r0) (as := [vI 0, vI 23]) (st := [.ref r1536]) (lm_1_119) rfl rfl (Nat.le_of_ble_eq_true rfl) w1562 g0 sh_3 (by decide) rfl (by decide) (u_24 (B := B) (n := n) (q := ((xN B n q))) (lo := 0) (hi := 23) w1562 g0 ⟨by decide, by decide⟩ ⟨by decide, by decide⟩ q1569 gtk q1571 grb (by omega) (by omega) p1564) (fun R1573 T1574 H1575 p1576 => ?_))
      obtain ⟨e1577, w1579, f1580, z1581, e1578, b1582, p1583⟩ := p1576
      subst e1577
      subst e1578
      rcases p1583 with ⟨a1584, a1585, a1586, a1587, a1588⟩ | ⟨a1589, a1590, a1591, a1592⟩
      · have f1593 := f1566.tr f1580 rfl
        show wp _ _ 30 41 [(2, .ref r1536), (0, .ref r0), (1, .ref r1)] [vI z1581, .ref r1536] _ H1575 _
        have u1594 := TC_k a1588
        refine wp_of e30 c30_41 (xp_I (pc' := 44) lf_1_188 w1579 g1538 sh_35 (by decide) (by decide) ty_35_11 rfl rfl (b1582.1) (by omega) ⟨Int.le_trans (by decide) b1582.1, Int.le_trans b1582.2 (by decide)⟩ rfl (fun H1595 e1596 w1597 => ?_))
        have f1598 := f1593.put' e1596 g1538 rfl
        have k1599 : H1595 r1536 11 = z1581 := wq_u_s e1596
        refine wp_of e30 c30_44 (rw_aload_n (pc' := 45) (v := .ref r1536) rfl rfl rfl ?_)
        refine wp_of e30 c30_45 (xg_I (pc' := 48) lf_1_188 w1597 g1538 sh_35 (by decide) (by decide) ty_35_11 rfl rfl (fun b1600 b1601 => ?_))
        refine wp_of e30 c30_48 (rw_if_ge (p1 := 53) (p2 := 51) (by decide) rfl ⟨Int.le_trans (by decide) b1600, Int.le_trans b1601 (by decide)⟩ (fun c1602 => ?_) (fun c1602 => ?_))
        · have _ea : xqa B n q = ((xN B n ((xN B n q)))) := by
            unfold xqa
            first | rw [if_pos (Int.le_antisymm (by omega -splitDisjunctions) (by omega -splitDisjunctions))] | rw [if_pos (by omega -splitDisjunctions)] | rw [if_pos (And.intro (by omega -splitDisjunctions) (by omega -splitDisjunctions))] | rw [if_neg (by omega -splitDisjunctions)] | rw [if_neg (by omega)] | rw [if_pos (by omega)]
          have k1603 : H1595 r1536 6 = H r1536 6 := ((wq_u_j e1596 rfl).trans ((f1580 r1536 6 _ g1538 rfl).trans (f1563 r1536 6 _ g1538 rfl)))
          have k1604 : H1595 r1536 7 = H r1536 7 := ((wq_u_j e1596 rfl).trans ((f1580 r1536 7 _ g1538 rfl).trans (f1563 r1536 7 _ g1538 rfl)))
          have k1605 : H1595 r1536 8 = H r1536 8 := ((wq_u_j e1596 rfl).trans ((f1580 r1536 8 _ g1538 rfl).trans (f1563 r1536 8 _ g1538 rfl)))
          have k1606 : H1595 r1536 9 = H r1536 9 := ((wq_u_j e1596 rfl).trans ((f1580 r1536 9 _ g1538 rfl).trans (f1563 r1536 9 _ g1538 rfl)))
          have k1607 : H1595 r1536 10 = H r1536 10 := ((wq_u_j e1596 rfl).trans ((f1580 r1536 10 _ g1538 rfl).trans (f1563 r1536 10 _ g1538 rfl)))
          have k1608 : H1595 r1536 12 = H r1536 12 := ((wq_u_j e1596 rfl).trans ((f1580 r1536 12 _ g1538 rfl).trans (f1563 r1536 12 _ g1538 rfl)))
          have k1609 : H1595 r1536 13 = H r1536 13 := ((wq_u_j e1596 rfl).trans ((f1580 r1536 13 _ g1538 rfl).trans (f1563 r1536 13 _ g1538 rfl)))
          have k1610 : H1595 r1536 14 = H r1536 14 := ((wq_u_j e1596 rfl).trans ((f1580 r1536 14 _ g1538 rfl).trans (f1563 r1536 14 _ g1538 rfl)))
          have _eh : xhb B n q = H1595 r1536 11 := by
            unfold xhb
            first | (rw [if_pos (Int.le_antisymm (by omega -splitDisjunctions) (by omega -splitDisjunctions))]; omega) | (rw [if_pos (by omega -splitDisjunctions)]; omega) | (rw [if_pos (And.intro (by omega -splitDisjunctions) (by omega -splitDisjunctions))]; omega) | (rw [if_neg (by omega -splitDisjunctions)]; omega) | (rw [if_neg (by omega)]; omega) | (rw [if_pos (by omega)]; omega)
          refine wp_of e30 c30_53 (rw_aload_n (pc' := 54) (v := .ref r0) rfl rfl rfl ?_)
          have k1611 : H1595 r0 0 = H1558 r0 0 := ((wq_u_t e1596 g1538 g0 rfl 0).trans (f1580 r0 0 _ g0 rfl))
          have q1612 : H1595 r0 0 = (tk : Int) := k1611.trans q1569
          refine wp_of e30 c30_54 (xg_K (pc' := 57) lf_1_12 w1597 g0 sh_3 (by decide) (by decide) rfl q1612 rfl ?_)
          refine wp_of e30 c30_57 (rw_gs (pc' := 60) (k := 25) rfl rfl rfl rfl ?_)
          have k1613 : H1595 25 0 = ((41 : Nat) : Int) := (w1597.2 25 _ (w1597.1.2.2 9 (by decide))).2.2 0 (by decide) |> fun z => by have z1 : (41 : Int) ≤ H1595 25 0 ∧ H1595 25 0 ≤ 41 := z; omega
          refine wp_of e30 c30_60 (rw_getR (pc' := 63) (n := 2) (b := 41) (e := _) (lf_1_181).choose_spec.1 (lf_1_181).choose_spec.2.1 (w1597.sh (w1597.1.2.2 9 (by decide)) rfl) (by decide) rfl k1613 rfl ?_)
          have h1614 : TC T H1595 tk B n (xN B n ((xN B n q))) := (TC_fr w1579 gtk ((wfr.rf (l := [(35, 11)])).put' e1596 g1538 rfl) rfl a1588)
          refine wp_of e30 c30_63 (xc_V (pc' := 66) (r := tk) (as := [.ref 41]) (st := []) (lm_1_185) rfl rfl (Nat.le_of_ble_eq_true rfl) w1597 gtk sh_4 (by decide) rfl (by decide) (u_19_t (B := B) (n := n) (q := ((xN B n ((xN B n q))))) (kk := 14384) w1597 gtk rfl (by decide +kernel) h1614) (fun R1615 T1616 H1617 p1618 => ?_))
          obtain ⟨e1619, e1621, z1622, e1620, b1623, p1624⟩ := p1618
          subst e1619
          subst e1620
          subst e1621
          rcases p1624 with ⟨a1625, a1626⟩ | ⟨a1627, a1628⟩
          · show wp _ _ 30 66 [(2, .ref r1536), (0, .ref r0), (1, .ref r1)] [vI z1622] _ H1595 _
            refine wp_of e30 c30_66 (rw_if_eq (p1 := 107) (p2 := 69) (by decide) rfl ⟨Int.le_trans (by decide) b1623.1, Int.le_trans b1623.2 (by decide)⟩ (fun c1629 => ?_) (fun c1629 => ?_))
            · exfalso
              omega
            · refine wp_of e30 c30_69 (rw_aload_n (pc' := 70) (v := .ref r0) rfl rfl rfl ?_)
              refine wp_of e30 c30_70 (xg_K (pc' := 73) lf_1_12 w1597 g0 sh_3 (by decide) (by decide) rfl q1612 rfl ?_)
              have k1630 : H1595 tk 0 = H1558 tk 0 := ((wq_u_t e1596 g1538 gtk rfl 0).trans (f1580 tk 0 _ gtk rfl))
              have q1631 : H1595 tk 0 = (rb : Int) := k1630.trans q1571
              have k1632 : H1595 tk 1 = H1575 tk 1 := (wq_u_t e1596 g1538 gtk rfl 1)
              have k1633 : H1595 tk 2 = H1575 tk 2 := (wq_u_t e1596 g1538 gtk rfl 2)
              have h1634 : TP T H1595 rb B := (TP_fr w1579 grb ((wfr.rf (l := [(35, 11)])).put' e1596 g1538 rfl) rfl (TP_fr w1562 grb f1580 rfl (TP_fr hW grb f1563 rfl h1555)))
              refine wp_of e30 c30_73 (xc_V (pc' := 76) (r := tk) (as := []) (st := []) (lm_1_74) rfl rfl (Nat.le_of_ble_eq_true rfl) w1597 gtk sh_4 (by decide) rfl (by decide) (u_16 (B := B) (n := n) (a := (xE B n ((xN B n ((xN B n q)))))) (q := (xN B n ((xN B n ((xN B n q)))))) w1597 gtk q1631 grb (by omega) (by omega) (by omega) (rfl) h1634) (fun R1635 T1636 H1637 p1638 => ?_))
              obtain ⟨e1639, w1641, f1642, e1640, p1643⟩ := p1638
              subst e1639
              subst e1640
              have f1645 := f1598.tr f1642 rfl
              show wp _ _ 30 76 [(2, .ref r1536), (0, .ref r0), (1, .ref r1)] [] _ H1637 _
              have u1646 := TC_k p1643
              refine wp_of e30 c30_76 (rw_aload_n (pc' := 77) (v := .ref r0) rfl rfl rfl ?_)
              refine wp_of e30 c30_77 (rw_bipush (pc' := 79) (z := 23) rfl (by decide) ?_)
              refine wp_of e30 c30_79 (rw_iconst (pc' := 80) rfl ?_)
              refine wp_of e30 c30_80 (rw_bipush (pc' := 82) (z := 24) rfl (by decide) ?_)
              refine wp_of e30 c30_82 (rw_bipush (pc' := 84) (z := 24) rfl (by decide) ?_)
              have k1647 : H1637 r0 0 = H1595 r0 0 := (f1642 r0 0 _ g0 rfl)
              have q1648 : H1637 r0 0 = (tk : Int) := k1647.trans q1612
              have k1649 : H1637 tk 0 = H1595 tk 0 := (f1642 tk 0 _ gtk rfl)
              have q1650 : H1637 tk 0 = (rb : Int) := k1649.trans q1631
              have k1651 : H1637 r0 3 = H1575 r0 3 := ((f1642 r0 3 _ g0 rfl).trans (wq_u_t e1596 g1538 g0 rfl 3))
              refine wp_of e30 c30_84 (xc_V (pc' := 87) (r := r0) (as := [vI 23, vI 1, vI 24, vI 24]) (st := []) (lm_1_154) rfl rfl (Nat.le_of_ble_eq_true rfl) w1641 g0 sh_3 (by decide) rfl (by decide) (u_29 (B := B) (n := n) (q := ((xN B n ((xN B n ((xN B n q))))))) w1641 g0 ⟨by decide, by decide⟩ ⟨by decide, by decide⟩ ⟨by decide, by decide⟩ ⟨by decide, by decide⟩ q1648 gtk q1650 grb p1643) (fun R1652 T1653 H1654 p1655 => ?_))
              obtain ⟨e1656, w1658, f1659, z1660, e1657, b1661, p1662⟩ := p1655
              subst e1656
              subst e1657
              rcases p1662 with ⟨a1663, a1664, a1665, a1666, a1667, a1668, a1669, a1670, a1671⟩ | ⟨a1672, a1673, a1674, a1675, a1676⟩
              · have f1677 := f1645.tr f1659 rfl
                show wp _ _ 30 87 [(2, .ref r1536), (0, .ref r0), (1, .ref r1)] [vI z1660] _ H1654 _
                have u1678 := TC_k a1671
                refine wp_of e30 c30_87 (rw_if_ne (p1 := 92) (p2 := 90) (by decide) rfl ⟨Int.le_trans (by decide) b1661.1, Int.le_trans b1661.2 (by decide)⟩ (fun c1679 => ?_) (fun c1679 => ?_))
                · refine wp_of e30 c30_92 (rw_aload_n (pc' := 93) (v := .ref r1536) rfl rfl rfl ?_)
                  refine wp_of e30 c30_93 (rw_aload_n (pc' := 94) (v := .ref r0) rfl rfl rfl ?_)
                  refine wp_of e30 c30_94 (xg_I (pc' := 97) lf_1_158 w1658 g0 sh_3 (by decide) (by decide) ty_3_1 rfl rfl (fun b1680 b1681 => ?_))
                  refine wp_of e30 c30_97 (rw_aload_n (pc' := 98) (v := .ref r0) rfl rfl rfl ?_)
                  refine wp_of e30 c30_98 (xg_I (pc' := 101) lf_1_164 w1658 g0 sh_3 (by decide) (by decide) ty_3_2 rfl rfl (fun b1682 b1683 => ?_))
                  refine wp_of e30 c30_101 (xc_S (pc' := 104) (as := [vI (H1654 r0 1), vI (H1654 r0 2)]) (st := [.ref r1536]) (lm_1_194) rfl rfl (Nat.le_of_ble_eq_true rfl) rfl (by decide) (u_31 (lo := (xV B n (xN B n ((xN B n ((xN B n q))))))) (hi := (xV B n (xN B n (xN B n (xN B n ((xN B n ((xN B n q))))))))) w1658 ⟨by omega, b1681⟩ ⟨by omega, Int.le_trans b1683 (by decide)⟩ (by omega) (by omega) (by omega)) (fun R1684 T1685 H1686 p1687 => ?_))
                  obtain ⟨e1688, e1690, z1691, e1689, b1692, p1693⟩ := p1687
                  subst e1688
                  subst e1689
                  subst e1690
                  show wp _ _ 30 104 [(2, .ref r1536), (0, .ref r0), (1, .ref r1)] [vI z1691, .ref r1536] _ H1654 _
                  refine wp_of e30 c30_104 (xp_I (pc' := 107) lf_1_197 w1658 g1538 sh_35 (by decide) (by decide) ty_35_12 rfl rfl (Int.le_trans (by decide) b1692.1) (Int.le_trans b1692.2 (by decide)) ⟨Int.le_trans (by decide) b1692.1, Int.le_trans b1692.2 (by decide)⟩ rfl (fun H1695 e1696 w1697 => ?_))
                  have f1698 := f1677.put' e1696 g1538 rfl
                  have k1699 : H1695 r1536 12 = z1691 := wq_u_s e1696
                  have _eb : xqb B n ((xN B n ((xN B n q)))) = ((xN B n (xN B n (xN B n ((xN B n ((xN B n ((xN B n q)))))))))) := by
                    unfold xqb
                    first | rw [if_pos (Int.le_antisymm (by omega -splitDisjunctions) (by omega -splitDisjunctions))] | rw [if_pos (by omega -splitDisjunctions)] | rw [if_pos (And.intro (by omega -splitDisjunctions) (by omega -splitDisjunctions))] | rw [if_neg (by omega -splitDisjunctions)] | rw [if_neg (by omega)] | rw [if_pos (by omega)]
                  have k1700 : H1695 r1536 6 = H1595 r1536 6 := ((wq_u_j e1696 rfl).trans ((f1659 r1536 6 _ g1538 rfl).trans (f1642 r1536 6 _ g1538 rfl)))
                  have k1701 : H1695 r1536 7 = H1595 r1536 7 := ((wq_u_j e1696 rfl).trans ((f1659 r1536 7 _ g1538 rfl).trans (f1642 r1536 7 _ g1538 rfl)))
                  have k1702 : H1695 r1536 8 = H1595 r1536 8 := ((wq_u_j e1696 rfl).trans ((f1659 r1536 8 _ g1538 rfl).trans (f1642 r1536 8 _ g1538 rfl)))
                  have k1703 : H1695 r1536 9 = H1595 r1536 9 := ((wq_u_j e1696 rfl).trans ((f1659 r1536 9 _ g1538 rfl).trans (f1642 r1536 9 _ g1538 rfl)))
                  have k1704 : H1695 r1536 10 = H1595 r1536 10 := ((wq_u_j e1696 rfl).trans ((f1659 r1536 10 _ g1538 rfl).trans (f1642 r1536 10 _ g1538 rfl)))
                  have k1705 : H1695 r1536 11 = H1595 r1536 11 := ((wq_u_j e1696 rfl).trans ((f1659 r1536 11 _ g1538 rfl).trans (f1642 r1536 11 _ g1538 rfl)))
                  have k1706 : H1695 r1536 13 = H1595 r1536 13 := ((wq_u_j e1696 rfl).trans ((f1659 r1536 13 _ g1538 rfl).trans (f1642 r1536 13 _ g1538 rfl)))
                  have k1707 : H1695 r1536 14 = H1595 r1536 14 := ((wq_u_j e1696 rfl).trans ((f1659 r1536 14 _ g1538 rfl).trans (f1642 r1536 14 _ g1538 rfl)))
                  have _en : H1695 r1536 12 = xhs (xnf B n ((xN B n ((xN B n q))))) (xnt B n ((xN B n ((xN B n q))))) := by
                    unfold xnf xnt
                    first | (rw [if_pos (Int.le_antisymm (by omega -splitDisjunctions) (by omega -splitDisjunctions)), if_pos (Int.le_antisymm (by omega -splitDisjunctions) (by omega -splitDisjunctions))]; omega) | (rw [if_pos (by omega -splitDisjunctions), if_pos (by omega -splitDisjunctions)]; omega) | (rw [if_neg (by omega -splitDisjunctions), if_neg (by omega -splitDisjunctions)]; omega) | (rw [if_pos (by omega), if_pos (by omega)]; omega) | (rw [if_neg (by omega), if_neg (by omega)]; omega)
                  refine wp_of e30 c30_107 (rw_aload_n (pc' := 108) (v := .ref r0) rfl rfl rfl ?_)
                  have k1708 : H1695 r0 0 = H1637 r0 0 := ((wq_u_t e1696 g1538 g0 rfl 0).trans (f1659 r0 0 _ g0 rfl))
                  have q1709 : H1695 r0 0 = (tk : Int) := k1708.trans q1648
                  refine wp_of e30 c30_108 (xg_K (pc' := 111) lf_1_12 w1697 g0 sh_3 (by decide) (by decide) rfl q1709 rfl ?_)
                  refine wp_of e30 c30_111 (rw_gs (pc' := 114) (k := 26) rfl rfl rfl rfl ?_)
                  have k1710 : H1695 26 0 = ((42 : Nat) : Int) := (w1697.2 26 _ (w1697.1.2.2 10 (by decide))).2.2 0 (by decide) |> fun z => by have z1 : (42 : Int) ≤ H1695 26 0 ∧ H1695 26 0 ≤ 42 := z; omega
                  refine wp_of e30 c30_114 (rw_getR (pc' := 117) (n := 2) (b := 42) (e := _) (lf_1_181).choose_spec.1 (lf_1_181).choose_spec.2.1 (w1697.sh (w1697.1.2.2 10 (by decide)) rfl) (by decide) rfl k1710 rfl ?_)
                  have h1711 : TC T H1695 tk B n (xN B n (xN B n (xN B n ((xN B n ((xN B n ((xN B n q))))))))) := (TC_fr w1658 gtk ((wfr.rf (l := [(35, 12)])).put' e1696 g1538 rfl) rfl a1671)
                  refine wp_of e30 c30_117 (xc_V (pc' := 120) (r := tk) (as := [.ref 42]) (st := []) (lm_1_185) rfl rfl (Nat.le_of_ble_eq_true rfl) w1697 gtk sh_4 (by decide) rfl (by decide) (u_19_t (B := B) (n := n) (q := ((xN B n (xN B n (xN B n ((xN B n ((xN B n ((xN B n q))))))))))) (kk := 56377) w1697 gtk rfl (by decide +kernel) h1711) (fun R1712 T1713 H1714 p1715 => ?_))
                  obtain ⟨e1716, e1718, z1719, e1717, b1720, p1721⟩ := p1715
                  subst e1716
                  subst e1717
                  subst e1718
                  rcases p1721 with ⟨a1722, a1723⟩ | ⟨a1724, a1725⟩
                  · show wp _ _ 30 120 [(2, .ref r1536), (0, .ref r0), (1, .ref r1)] [vI z1719] _ H1695 _
                    refine wp_of e30 c30_120 (rw_if_eq (p1 := 135) (p2 := 123) (by decide) rfl ⟨Int.le_trans (by decide) b1720.1, Int.le_trans b1720.2 (by decide)⟩ (fun c1726 => ?_) (fun c1726 => ?_))
                    · exfalso
                      omega
                    · refine wp_of e30 c30_123 (rw_aload_n (pc' := 124) (v := .ref r0) rfl rfl rfl ?_)
                      refine wp_of e30 c30_124 (xg_K (pc' := 127) lf_1_12 w1697 g0 sh_3 (by decide) (by decide) rfl q1709 rfl ?_)
                      have k1727 : H1695 tk 0 = H1637 tk 0 := ((wq_u_t e1696 g1538 gtk rfl 0).trans (f1659 tk 0 _ gtk rfl))
                      have q1728 : H1695 tk 0 = (rb : Int) := k1727.trans q1650
                      have k1729 : H1695 tk 1 = H1654 tk 1 := (wq_u_t e1696 g1538 gtk rfl 1)
                      have k1730 : H1695 tk 2 = H1654 tk 2 := (wq_u_t e1696 g1538 gtk rfl 2)
                      have h1731 : TP T H1695 rb B := (TP_fr w1658 grb ((wfr.rf (l := [(35, 12)])).put' e1696 g1538 rfl) rfl (TP_fr w1641 grb f1659 rfl (TP_fr w1597 grb f1642 rfl h1634)))
                      refine wp_of e30 c30_127 (xc_V (pc' := 130) (r := tk) (as := []) (st := []) (lm_1_74) rfl rfl (Nat.le_of_ble_eq_true rfl) w1697 gtk sh_4 (by decide) rfl (by decide) (u_16 (B := B) (n := n) (a := (xE B n ((xN B n (xN B n (xN B n ((xN B n ((xN B n ((xN B n q)))))))))))) (q := (xN B n ((xN B n (xN B n (xN B n ((xN B n ((xN B n ((xN B n q)))))))))))) w1697 gtk q1728 grb (by omega) (by omega) (by omega) (rfl) h1731) (fun R1732 T1733 H1734 p1735 => ?_))
                      obtain ⟨e1736, w1738, f1739, e1737, p1740⟩ := p1735
                      subst e1736
                      subst e1737
                      have f1742 := f1698.tr f1739 rfl
                      show wp _ _ 30 130 [(2, .ref r1536), (0, .ref r0), (1, .ref r1)] [] _ H1734 _
                      have u1743 := TC_k p1740
                      refine wp_of e30 c30_130 (rw_aload_n (pc' := 131) (v := .ref r1536) rfl rfl rfl ?_)
                      refine wp_of e30 c30_131 (rw_iconst (pc' := 132) rfl ?_)
                      refine wp_of e30 c30_132 (xp_Z (pc' := 135) lf_1_203 w1738 g1538 sh_35 (by decide) (by decide) ty_35_13 rfl rfl (by decide) (by decide) rfl (fun H1744 e1745 w1746 => ?_))
                      have f1747 := f1742.put' e1745 g1538 rfl
                      have k1748 : H1744 r1536 13 = 1 := wq_u_s e1745
                      have _ec : xqc B n ((xN B n (xN B n (xN B n ((xN B n ((xN B n ((xN B n q)))))))))) = ((xN B n ((xN B n (xN B n (xN B n ((xN B n ((xN B n ((xN B n q)))))))))))) := by
                        unfold xqc
                        first | rw [if_pos (Int.le_antisymm (by omega -splitDisjunctions) (by omega -splitDisjunctions))] | rw [if_pos (by omega -splitDisjunctions)] | rw [if_pos (And.intro (by omega -splitDisjunctions) (by omega -splitDisjunctions))] | rw [if_neg (by omega -splitDisjunctions)] | rw [if_neg (by omega)] | rw [if_pos (by omega)]
                      have k1749 : H1744 r1536 6 = H1695 r1536 6 := ((wq_u_j e1745 rfl).trans (f1739 r1536 6 _ g1538 rfl))
                      have k1750 : H1744 r1536 7 = H1695 r1536 7 := ((wq_u_j e1745 rfl).trans (f1739 r1536 7 _ g1538 rfl))
                      have k1751 : H1744 r1536 8 = H1695 r1536 8 := ((wq_u_j e1745 rfl).trans (f1739 r1536 8 _ g1538 rfl))
                      have k1752 : H1744 r1536 9 = H1695 r1536 9 := ((wq_u_j e1745 rfl).trans (f1739 r1536 9 _ g1538 rfl))
                      have k1753 : H1744 r1536 10 = H1695 r1536 10 := ((wq_u_j e1745 rfl).trans (f1739 r1536 10 _ g1538 rfl))
                      have k1754 : H1744 r1536 11 = H1695 r1536 11 := ((wq_u_j e1745 rfl).trans (f1739 r1536 11 _ g1538 rfl))
                      have k1755 : H1744 r1536 12 = H1695 r1536 12 := ((wq_u_j e1745 rfl).trans (f1739 r1536 12 _ g1538 rfl))
                      have k1756 : H1744 r1536 14 = H1695 r1536 14 := ((wq_u_j e1745 rfl).trans (f1739 r1536 14 _ g1538 rfl))
                      have _ew : xaw B n ((xN B n (xN B n (xN B n ((xN B n ((xN B n ((xN B n q)))))))))) = H1744 r1536 13 := by
                        unfold xaw
                        first | (rw [if_pos (Int.le_antisymm (by omega -splitDisjunctions) (by omega -splitDisjunctions))]; omega) | (rw [if_pos (by omega -splitDisjunctions)]; omega) | (rw [if_pos (And.intro (by omega -splitDisjunctions) (by omega -splitDisjunctions))]; omega) | (rw [if_neg (by omega -splitDisjunctions)]; omega) | (rw [if_neg (by omega)]; omega) | (rw [if_pos (by omega)]; omega)
                      refine wp_of e30 c30_135 (rw_aload_n (pc' := 136) (v := .ref r1) rfl rfl rfl ?_)
                      refine wp_of e30 c30_136 (rw_dup (pc' := 137) rfl rfl ?_)
                      have k1757 : H1744 r1 10 = H r1 10 := ((wq_u_t e1745 g1538 g1 rfl 10).trans ((f1739 r1 10 _ g1 rfl).trans ((wq_u_t e1696 g1538 g1 rfl 10).trans ((f1659 r1 10 _ g1 rfl).trans ((f1642 r1 10 _ g1 rfl).trans ((wq_u_t e1596 g1538 g1 rfl 10).trans ((f1580 r1 10 _ g1 rfl).trans (f1563 r1 10 _ g1 rfl))))))))
                      refine wp_of e30 c30_137 (xg_I (pc' := 140) lf_1_44 w1746 g1 sh_27 (by decide) (by decide) ty_27_10 rfl rfl (fun b1758 b1759 => ?_))
                      refine wp_of e30 c30_140 (rw_iconst (pc' := 141) rfl ?_)
                      refine wp_of e30 c30_141 (rw_iadd (pc' := 142) rfl ?_)
                      refine wp_of e30 c30_142 (xp_I (pc' := 145) lf_1_44 w1746 g1 sh_27 (by decide) (by decide) ty_27_10 rfl rfl (by omega) (by omega) ⟨by omega, by omega⟩ rfl (fun H1760 e1761 w1762 => ?_))
                      have f1763 := f1747.put' e1761 g1 rfl
                      have k1764 : H1760 r1 10 = (H1744 r1 10) + 1 := wq_u_s e1761
                      refine wp_of e30 c30_145 (rw_iconst (pc' := 146) rfl ?_)
                      have k1765 : H1760 r0 3 = H1654 r0 3 := ((wq_u_t e1761 g1 g0 rfl 3).trans ((wq_u_t e1745 g1538 g0 rfl 3).trans ((f1739 r0 3 _ g0 rfl).trans (wq_u_t e1696 g1538 g0 rfl 3))))
                      have k1766 : H1760 r1 7 = H r1 7 := ((wq_u_j e1761 rfl).trans ((wq_u_t e1745 g1538 g1 rfl 7).trans ((f1739 r1 7 _ g1 rfl).trans ((wq_u_t e1696 g1538 g1 rfl 7).trans ((f1659 r1 7 _ g1 rfl).trans ((f1642 r1 7 _ g1 rfl).trans ((wq_u_t e1596 g1538 g1 rfl 7).trans ((f1580 r1 7 _ g1 rfl).trans (f1563 r1 7 _ g1 rfl)))))))))
                      have k1767 : H1760 r1 8 = H r1 8 := ((wq_u_j e1761 rfl).trans ((wq_u_t e1745 g1538 g1 rfl 8).trans ((f1739 r1 8 _ g1 rfl).trans ((wq_u_t e1696 g1538 g1 rfl 8).trans ((f1659 r1 8 _ g1 rfl).trans ((f1642 r1 8 _ g1 rfl).trans ((wq_u_t e1596 g1538 g1 rfl 8).trans ((f1580 r1 8 _ g1 rfl).trans (f1563 r1 8 _ g1 rfl)))))))))
                      have k1768 : H1760 r1 9 = H r1 9 := ((wq_u_j e1761 rfl).trans ((wq_u_t e1745 g1538 g1 rfl 9).trans ((f1739 r1 9 _ g1 rfl).trans ((wq_u_t e1696 g1538 g1 rfl 9).trans ((f1659 r1 9 _ g1 rfl).trans ((f1642 r1 9 _ g1 rfl).trans ((wq_u_t e1596 g1538 g1 rfl 9).trans ((f1580 r1 9 _ g1 rfl).trans (f1563 r1 9 _ g1 rfl)))))))))
                      have k1769 : H1760 r1 11 = H r1 11 := ((wq_u_j e1761 rfl).trans ((wq_u_t e1745 g1538 g1 rfl 11).trans ((f1739 r1 11 _ g1 rfl).trans ((wq_u_t e1696 g1538 g1 rfl 11).trans ((f1659 r1 11 _ g1 rfl).trans ((f1642 r1 11 _ g1 rfl).trans ((wq_u_t e1596 g1538 g1 rfl 11).trans ((f1580 r1 11 _ g1 rfl).trans (f1563 r1 11 _ g1 rfl)))))))))
                      have k1770 : H1760 r1 12 = H r1 12 := ((wq_u_j e1761 rfl).trans ((wq_u_t e1745 g1538 g1 rfl 12).trans ((f1739 r1 12 _ g1 rfl).trans ((wq_u_t e1696 g1538 g1 rfl 12).trans ((f1659 r1 12 _ g1 rfl).trans ((f1642 r1 12 _ g1 rfl).trans ((wq_u_t e1596 g1538 g1 rfl 12).trans ((f1580 r1 12 _ g1 rfl).trans (f1563 r1 12 _ g1 rfl)))))))))
                      have k1771 : H1760 r1 13 = H r1 13 := ((wq_u_j e1761 rfl).trans ((wq_u_t e1745 g1538 g1 rfl 13).trans ((f1739 r1 13 _ g1 rfl).trans ((wq_u_t e1696 g1538 g1 rfl 13).trans ((f1659 r1 13 _ g1 rfl).trans ((f1642 r1 13 _ g1 rfl).trans ((wq_u_t e1596 g1538 g1 rfl 13).trans ((f1580 r1 13 _ g1 rfl).trans (f1563 r1 13 _ g1 rfl)))))))))
                      have k1772 : H1760 r1 14 = H r1 14 := ((wq_u_j e1761 rfl).trans ((wq_u_t e1745 g1538 g1 rfl 14).trans ((f1739 r1 14 _ g1 rfl).trans ((wq_u_t e1696 g1538 g1 rfl 14).trans ((f1659 r1 14 _ g1 rfl).trans ((f1642 r1 14 _ g1 rfl).trans ((wq_u_t e1596 g1538 g1 rfl 14).trans ((f1580 r1 14 _ g1 rfl).trans (f1563 r1 14 _ g1 rfl)))))))))
                      have k1773 : H1760 r1 15 = H r1 15 := ((wq_u_j e1761 rfl).trans ((wq_u_t e1745 g1538 g1 rfl 15).trans ((f1739 r1 15 _ g1 rfl).trans ((wq_u_t e1696 g1538 g1 rfl 15).trans ((f1659 r1 15 _ g1 rfl).trans ((f1642 r1 15 _ g1 rfl).trans ((wq_u_t e1596 g1538 g1 rfl 15).trans ((f1580 r1 15 _ g1 rfl).trans (f1563 r1 15 _ g1 rfl)))))))))
                      have k1774 : H1760 r1 16 = H r1 16 := ((wq_u_j e1761 rfl).trans ((wq_u_t e1745 g1538 g1 rfl 16).trans ((f1739 r1 16 _ g1 rfl).trans ((wq_u_t e1696 g1538 g1 rfl 16).trans ((f1659 r1 16 _ g1 rfl).trans ((f1642 r1 16 _ g1 rfl).trans ((wq_u_t e1596 g1538 g1 rfl 16).trans ((f1580 r1 16 _ g1 rfl).trans (f1563 r1 16 _ g1 rfl)))))))))
                      have k1775 : H1760 r1536 6 = H1744 r1536 6 := (wq_u_t e1761 g1 g1538 rfl 6)
                      have k1776 : H1760 r1536 7 = H1744 r1536 7 := (wq_u_t e1761 g1 g1538 rfl 7)
                      have k1777 : H1760 r1536 8 = H1744 r1536 8 := (wq_u_t e1761 g1 g1538 rfl 8)
                      have k1778 : H1760 r1536 9 = H1744 r1536 9 := (wq_u_t e1761 g1 g1538 rfl 9)
                      have k1779 : H1760 r1536 10 = H1744 r1536 10 := (wq_u_t e1761 g1 g1538 rfl 10)
                      have k1780 : H1760 r1536 11 = H1744 r1536 11 := (wq_u_t e1761 g1 g1538 rfl 11)
                      have k1781 : H1760 r1536 12 = H1744 r1536 12 := (wq_u_t e1761 g1 g1538 rfl 12)
                      have k1782 : H1760 r1536 13 = H1744 r1536 13 := (wq_u_t e1761 g1 g1538 rfl 13)
                      have k1783 : H1760 r1536 14 = H1744 r1536 14 := (wq_u_t e1761 g1 g1538 rfl 14)
                      have o1784 : (xcs B n q) = (0, q, (xN B n ((xN B n (xN B n (xN B n ((xN B n ((xN B n ((xN B n q)))))))))))) := by
                        unfold xcs xca xcb
                        try rw [_ea]
                        try rw [_eb]
                        try rw [_ec]
                        repeat first | rw [xs_0 (Int.le_antisymm (by omega -splitDisjunctions) (by omega -splitDisjunctions))] | rw [xs_1 (by omega -splitDisjunctions)] | rw [if_pos (Int.le_antisymm (by omega -splitDisjunctions) (by omega -splitDisjunctions))] | rw [if_pos (by omega -splitDisjunctions)] | rw [if_pos (And.intro (by omega -splitDisjunctions) (by omega -splitDisjunctions))] | rw [if_neg (by omega -splitDisjunctions)] | rw [xs_1 (by omega)] | rw [if_neg (by omega)] | rw [xs_0 (by omega)] | rw [if_pos (by omega)]
                        first | done | rfl | assumption | (exfalso; omega -splitDisjunctions) | (refine Prod.ext ?_ (Prod.ext ?_ ?_) <;> (try dsimp only) <;> omega) | (exfalso; omega)
                      have o1784a : ((xcs B n q)).1 = 0 := by rw [o1784]
                      have o1784b : ((xcs B n q)).2.1 = q := by rw [o1784]
                      have o1784c : ((xcs B n q)).2.2 = (xN B n ((xN B n (xN B n (xN B n ((xN B n ((xN B n ((xN B n q))))))))))) := by rw [o1784]
                      have _l := @xdper_v B n y d
                      have _k := @xdper_k (H r1 10).toNat d B n y (by omega)
                      rw [← p1] at _k
                      rw [_ea, _eb] at _k
                      have _f : H1760 r1536 6 = xdper B n y d 1 (H r1 10).toNat ∧ H1760 r1536 7 = xdper B n y d 2 (H r1 10).toNat ∧ H1760 r1536 8 = xdper B n y d 3 (H r1 10).toNat ∧ H1760 r1536 9 = xdper B n y d 4 (H r1 10).toNat ∧ H1760 r1536 10 = xdper B n y d 5 (H r1 10).toNat ∧ H1760 r1536 11 = xdper B n y d 6 (H r1 10).toNat ∧ H1760 r1536 12 = xhs (xdper B n y d 7 (H r1 10).toNat) (xdper B n y d 8 (H r1 10).toNat) ∧ H1760 r1536 13 = xdper B n y d 9 (H r1 10).toNat ∧ H1760 r1536 14 = 0 := ⟨by omega, by omega, by omega, by omega, by omega, by omega, by rw [_k.2.2.2.2.2.2.1, _k.2.2.2.2.2.2.2.1]; omega, by omega, by omega⟩
                      have h1785 : TC T H1760 tk B n (xN B n ((xN B n (xN B n (xN B n ((xN B n ((xN B n ((xN B n q))))))))))) := (TC_fr w1746 gtk ((wfr.rf (l := [(27, 10)])).put' e1761 g1 rfl) rfl (TC_fr w1738 gtk ((wfr.rf (l := [(35, 13)])).put' e1745 g1538 rfl) rfl p1740))
                      have k1786 : H1760 r1 0 = H r1 0 := ((wq_u_j e1761 rfl).trans ((wq_u_t e1745 g1538 g1 rfl 0).trans ((f1739 r1 0 _ g1 rfl).trans ((wq_u_t e1696 g1538 g1 rfl 0).trans ((f1659 r1 0 _ g1 rfl).trans ((f1642 r1 0 _ g1 rfl).trans ((wq_u_t e1596 g1538 g1 rfl 0).trans ((f1580 r1 0 _ g1 rfl).trans (f1563 r1 0 _ g1 rfl)))))))))
                      have q1787 : H1760 r1 0 = (r1531 : Int) := k1786.trans q1532
                      have k1788 : H1760 r1531 ((H r1 10).toNat) = H r1531 ((H r1 10).toNat) := ((wq_u_t e1761 g1 g1533 rfl ((H r1 10).toNat)).trans ((wq_u_t e1745 g1538 g1533 rfl ((H r1 10).toNat)).trans ((f1739 r1531 ((H r1 10).toNat) _ g1533 rfl).trans ((wq_u_t e1696 g1538 g1533 rfl ((H r1 10).toNat)).trans ((f1659 r1531 ((H r1 10).toNat) _ g1533 rfl).trans ((f1642 r1531 ((H r1 10).toNat) _ g1533 rfl).trans ((wq_u_t e1596 g1538 g1533 rfl ((H r1 10).toNat)).trans ((f1580 r1531 ((H r1 10).toNat) _ g1533 rfl).trans (f1563 r1531 ((H r1 10).toNat) _ g1533 rfl)))))))))
                      have q1789 : H1760 r1531 ((H r1 10).toNat) = (r1536 : Int) := k1788.trans q1537
                      have h1790 : ST T H1760 r1 (d 13) := (ST_fr w1746 g1 ((wfr.rf (l := [(27, 10)])).put' e1761 g1 rfl) rfl (ST_fr w1738 g1 ((wfr.rf (l := [(35, 13)])).put' e1745 g1538 rfl) rfl (ST_fr w1697 g1 f1739 rfl (ST_fr w1658 g1 ((wfr.rf (l := [(35, 12)])).put' e1696 g1538 rfl) rfl (ST_fr w1641 g1 f1659 rfl (ST_fr w1597 g1 f1642 rfl (ST_fr w1579 g1 ((wfr.rf (l := [(35, 11)])).put' e1596 g1538 rfl) rfl (ST_fr w1562 g1 f1580 rfl (ST_fr hW g1 f1563 rfl h1525)))))))))
                      have h1791 : SV T H1760 r1 (d 13) 24 := (SV_fr w1746 g1 ((wfr.rf (l := [(27, 10)])).put' e1761 g1 rfl) rfl (SV_fr w1738 g1 ((wfr.rf (l := [(35, 13)])).put' e1745 g1538 rfl) rfl (SV_fr w1697 g1 f1739 rfl (SV_fr w1658 g1 ((wfr.rf (l := [(35, 12)])).put' e1696 g1538 rfl) rfl (SV_fr w1641 g1 f1659 rfl (SV_fr w1597 g1 f1642 rfl (SV_fr w1579 g1 ((wfr.rf (l := [(35, 11)])).put' e1596 g1538 rfl) rfl (SV_fr w1562 g1 f1580 rfl (SV_fr hW g1 f1563 rfl h1526)))))))))
                      have h1792 : DA3 T H1760 r1 (d 0 5) (d 12) := (DA3_fr w1746 g1 ((wfr.rf (l := [(27, 10)])).put' e1761 g1 rfl) rfl (DA3_fr w1738 g1 ((wfr.rf (l := [(35, 13)])).put' e1745 g1538 rfl) rfl (DA3_fr w1697 g1 f1739 rfl (DA3_fr w1658 g1 ((wfr.rf (l := [(35, 12)])).put' e1696 g1538 rfl) rfl (DA3_fr w1641 g1 f1659 rfl (DA3_fr w1597 g1 f1642 rfl (DA3_fr w1579 g1 ((wfr.rf (l := [(35, 11)])).put' e1596 g1538 rfl) rfl (DA3_fr w1562 g1 f1580 rfl (DA3_fr hW g1 f1563 rfl h1527)))))))))
                      have h1793 : DA4 T H1760 r1 (d 0 6) (d 14) := (DA4_fr w1746 g1 ((wfr.rf (l := [(27, 10)])).put' e1761 g1 rfl) rfl (DA4_fr w1738 g1 ((wfr.rf (l := [(35, 13)])).put' e1745 g1538 rfl) rfl (DA4_fr w1697 g1 f1739 rfl (DA4_fr w1658 g1 ((wfr.rf (l := [(35, 12)])).put' e1696 g1538 rfl) rfl (DA4_fr w1641 g1 f1659 rfl (DA4_fr w1597 g1 f1642 rfl (DA4_fr w1579 g1 ((wfr.rf (l := [(35, 11)])).put' e1596 g1538 rfl) rfl (DA4_fr w1562 g1 f1580 rfl (DA4_fr hW g1 f1563 rfl h1528)))))))))
                      have h1794 : DA5 T H1760 r1 (d 0 6) (d 15) := (DA5_fr w1746 g1 ((wfr.rf (l := [(27, 10)])).put' e1761 g1 rfl) rfl (DA5_fr w1738 g1 ((wfr.rf (l := [(35, 13)])).put' e1745 g1538 rfl) rfl (DA5_fr w1697 g1 f1739 rfl (DA5_fr w1658 g1 ((wfr.rf (l := [(35, 12)])).put' e1696 g1538 rfl) rfl (DA5_fr w1641 g1 f1659 rfl (DA5_fr w1597 g1 f1642 rfl (DA5_fr w1579 g1 ((wfr.rf (l := [(35, 11)])).put' e1596 g1538 rfl) rfl (DA5_fr w1562 g1 f1580 rfl (DA5_fr hW g1 f1563 rfl h1529)))))))))
                      have h1795 : DA6 T H1760 r1 (d 0 7) (d 16) := (DA6_fr w1746 g1 ((wfr.rf (l := [(27, 10)])).put' e1761 g1 rfl) rfl (DA6_fr w1738 g1 ((wfr.rf (l := [(35, 13)])).put' e1745 g1538 rfl) rfl (DA6_fr w1697 g1 f1739 rfl (DA6_fr w1658 g1 ((wfr.rf (l := [(35, 12)])).put' e1696 g1538 rfl) rfl (DA6_fr w1641 g1 f1659 rfl (DA6_fr w1597 g1 f1642 rfl (DA6_fr w1579 g1 ((wfr.rf (l := [(35, 11)])).put' e1596 g1538 rfl) rfl (DA6_fr w1562 g1 f1580 rfl (DA6_fr hW g1 f1563 rfl h1530)))))))))
                      have h1796 : CZ T H1760 r1 (d 0 3 + 1) := (CZ_fr w1746 g1 ((wfr.rf (l := [(27, 10)])).put' e1761 g1 rfl) rfl (CZ_fr w1738 g1 ((wfr.rf (l := [(35, 13)])).put' e1745 g1538 rfl) rfl (CZ_fr w1697 g1 f1739 rfl (CZ_fr w1658 g1 ((wfr.rf (l := [(35, 12)])).put' e1696 g1538 rfl) rfl (CZ_fr w1641 g1 f1659 rfl (CZ_fr w1597 g1 f1642 rfl (CZ_fr w1579 g1 ((wfr.rf (l := [(35, 11)])).put' e1596 g1538 rfl) rfl (CZ_fr w1562 g1 f1580 rfl (CZ_fr hW g1 f1563 rfl hCZ_r1)))))))))
                      exact wp_zreturn e30 c30_146 rfl (by omega) ⟨rfl, w1762, f1763, 1, rfl, ⟨by decide, by decide⟩, (Or.inl ⟨by omega, by omega, by omega, by omega, by rw [o1784]; exact h1785, DC_mk ⟨by omega, by omega, by omega, by omega, by omega, by omega, by omega, by omega, by omega, by omega, by omega, by omega, by omega, by omega, by omega, by omega⟩ (DQ_per g1538 (DQ_oth hW g1 f1763 rfl hDD_r1 q1787 q1789 (by omega) (by omega) (fun a ha ga => ((wq_u_tf e1761 g1 ga (by decide)).trans ((wq_u_nf e1745 ha).trans ((f1739.fn ga rfl).trans ((wq_u_nf e1696 ha).trans ((f1659.fn ga rfl).trans ((f1642.fn ga rfl).trans ((wq_u_nf e1596 ha).trans ((f1580.fn ga rfl).trans (f1563.fn ga rfl)))))))))) hDC_r1.2.1) (by omega) q1787 q1789 (k := (H r1 10).toNat) (by omega) _f) h1790 h1791 h1792 h1793 h1794 h1795 ⟨rfl, rfl, rfl, rfl, rfl⟩ ⟨by omega, by omega, by omega⟩, CZ_le h1796 (by omega)⟩)⟩
                  · show wp _ _ 30 120 [(2, .ref r1536), (0, .ref r0), (1, .ref r1)] [vI z1719] _ H1695 _
                    refine wp_of e30 c30_120 (rw_if_eq (p1 := 135) (p2 := 123) (by decide) rfl ⟨Int.le_trans (by decide) b1720.1, Int.le_trans b1720.2 (by decide)⟩ (fun c1797 => ?_) (fun c1797 => ?_))
                    · have _ec : xqc B n ((xN B n (xN B n (xN B n ((xN B n ((xN B n ((xN B n q)))))))))) = ((xN B n (xN B n (xN B n ((xN B n ((xN B n ((xN B n q)))))))))) := by
                        unfold xqc
                        first | rw [if_pos (Int.le_antisymm (by omega -splitDisjunctions) (by omega -splitDisjunctions))] | rw [if_pos (by omega -splitDisjunctions)] | rw [if_pos (And.intro (by omega -splitDisjunctions) (by omega -splitDisjunctions))] | rw [if_neg (by omega -splitDisjunctions)] | rw [if_neg (by omega)] | rw [if_pos (by omega)]
                      have _ew : xaw B n ((xN B n (xN B n (xN B n ((xN B n ((xN B n ((xN B n q)))))))))) = H1695 r1536 13 := by
                        unfold xaw
                        first | (rw [if_pos (Int.le_antisymm (by omega -splitDisjunctions) (by omega -splitDisjunctions))]; omega) | (rw [if_pos (by omega -splitDisjunctions)]; omega) | (rw [if_pos (And.intro (by omega -splitDisjunctions) (by omega -splitDisjunctions))]; omega) | (rw [if_neg (by omega -splitDisjunctions)]; omega) | (rw [if_neg (by omega)]; omega) | (rw [if_pos (by omega)]; omega)
                      refine wp_of e30 c30_135 (rw_aload_n (pc' := 136) (v := .ref r1) rfl rfl rfl ?_)
                      refine wp_of e30 c30_136 (rw_dup (pc' := 137) rfl rfl ?_)
                      have k1798 : H1695 r1 10 = H r1 10 := ((wq_u_t e1696 g1538 g1 rfl 10).trans ((f1659 r1 10 _ g1 rfl).trans ((f1642 r1 10 _ g1 rfl).trans ((wq_u_t e1596 g1538 g1 rfl 10).trans ((f1580 r1 10 _ g1 rfl).trans (f1563 r1 10 _ g1 rfl))))))
                      refine wp_of e30 c30_137 (xg_I (pc' := 140) lf_1_44 w1697 g1 sh_27 (by decide) (by decide) ty_27_10 rfl rfl (fun b1799 b1800 => ?_))
                      refine wp_of e30 c30_140 (rw_iconst (pc' := 141) rfl ?_)
                      refine wp_of e30 c30_141 (rw_iadd (pc' := 142) rfl ?_)
                      refine wp_of e30 c30_142 (xp_I (pc' := 145) lf_1_44 w1697 g1 sh_27 (by decide) (by decide) ty_27_10 rfl rfl (by omega) (by omega) ⟨by omega, by omega⟩ rfl (fun H1801 e1802 w1803 => ?_))
                      have f1804 := f1698.put' e1802 g1 rfl
                      have k1805 : H1801 r1 10 = (H1695 r1 10) + 1 := wq_u_s e1802
                      refine wp_of e30 c30_145 (rw_iconst (pc' := 146) rfl ?_)
                      have k1806 : H1801 r0 3 = H1654 r0 3 := ((wq_u_t e1802 g1 g0 rfl 3).trans (wq_u_t e1696 g1538 g0 rfl 3))
                      have k1807 : H1801 r1 7 = H r1 7 := ((wq_u_j e1802 rfl).trans ((wq_u_t e1696 g1538 g1 rfl 7).trans ((f1659 r1 7 _ g1 rfl).trans ((f1642 r1 7 _ g1 rfl).trans ((wq_u_t e1596 g1538 g1 rfl 7).trans ((f1580 r1 7 _ g1 rfl).trans (f1563 r1 7 _ g1 rfl)))))))
                      have k1808 : H1801 r1 8 = H r1 8 := ((wq_u_j e1802 rfl).trans ((wq_u_t e1696 g1538 g1 rfl 8).trans ((f1659 r1 8 _ g1 rfl).trans ((f1642 r1 8 _ g1 rfl).trans ((wq_u_t e1596 g1538 g1 rfl 8).trans ((f1580 r1 8 _ g1 rfl).trans (f1563 r1 8 _ g1 rfl)))))))
                      have k1809 : H1801 r1 9 = H r1 9 := ((wq_u_j e1802 rfl).trans ((wq_u_t e1696 g1538 g1 rfl 9).trans ((f1659 r1 9 _ g1 rfl).trans ((f1642 r1 9 _ g1 rfl).trans ((wq_u_t e1596 g1538 g1 rfl 9).trans ((f1580 r1 9 _ g1 rfl).trans (f1563 r1 9 _ g1 rfl)))))))
                      have k1810 : H1801 r1 11 = H r1 11 := ((wq_u_j e1802 rfl).trans ((wq_u_t e1696 g1538 g1 rfl 11).trans ((f1659 r1 11 _ g1 rfl).trans ((f1642 r1 11 _ g1 rfl).trans ((wq_u_t e1596 g1538 g1 rfl 11).trans ((f1580 r1 11 _ g1 rfl).trans (f1563 r1 11 _ g1 rfl)))))))
                      have k1811 : H1801 r1 12 = H r1 12 := ((wq_u_j e1802 rfl).trans ((wq_u_t e1696 g1538 g1 rfl 12).trans ((f1659 r1 12 _ g1 rfl).trans ((f1642 r1 12 _ g1 rfl).trans ((wq_u_t e1596 g1538 g1 rfl 12).trans ((f1580 r1 12 _ g1 rfl).trans (f1563 r1 12 _ g1 rfl)))))))
                      have k1812 : H1801 r1 13 = H r1 13 := ((wq_u_j e1802 rfl).trans ((wq_u_t e1696 g1538 g1 rfl 13).trans ((f1659 r1 13 _ g1 rfl).trans ((f1642 r1 13 _ g1 rfl).trans ((wq_u_t e1596 g1538 g1 rfl 13).trans ((f1580 r1 13 _ g1 rfl).trans (f1563 r1 13 _ g1 rfl)))))))
                      have k1813 : H1801 r1 14 = H r1 14 := ((wq_u_j e1802 rfl).trans ((wq_u_t e1696 g1538 g1 rfl 14).trans ((f1659 r1 14 _ g1 rfl).trans ((f1642 r1 14 _ g1 rfl).trans ((wq_u_t e1596 g1538 g1 rfl 14).trans ((f1580 r1 14 _ g1 rfl).trans (f1563 r1 14 _ g1 rfl)))))))
                      have k1814 : H1801 r1 15 = H r1 15 := ((wq_u_j e1802 rfl).trans ((wq_u_t e1696 g1538 g1 rfl 15).trans ((f1659 r1 15 _ g1 rfl).trans ((f1642 r1 15 _ g1 rfl).trans ((wq_u_t e1596 g1538 g1 rfl 15).trans ((f1580 r1 15 _ g1 rfl).trans (f1563 r1 15 _ g1 rfl)))))))
                      have k1815 : H1801 r1 16 = H r1 16 := ((wq_u_j e1802 rfl).trans ((wq_u_t e1696 g1538 g1 rfl 16).trans ((f1659 r1 16 _ g1 rfl).trans ((f1642 r1 16 _ g1 rfl).trans ((wq_u_t e1596 g1538 g1 rfl 16).trans ((f1580 r1 16 _ g1 rfl).trans (f1563 r1 16 _ g1 rfl)))))))
                      have k1816 : H1801 r1536 6 = H1695 r1536 6 := (wq_u_t e1802 g1 g1538 rfl 6)
                      have k1817 : H1801 r1536 7 = H1695 r1536 7 := (wq_u_t e1802 g1 g1538 rfl 7)
                      have k1818 : H1801 r1536 8 = H1695 r1536 8 := (wq_u_t e1802 g1 g1538 rfl 8)
                      have k1819 : H1801 r1536 9 = H1695 r1536 9 := (wq_u_t e1802 g1 g1538 rfl 9)
                      have k1820 : H1801 r1536 10 = H1695 r1536 10 := (wq_u_t e1802 g1 g1538 rfl 10)
                      have k1821 : H1801 r1536 11 = H1695 r1536 11 := (wq_u_t e1802 g1 g1538 rfl 11)
                      have k1822 : H1801 r1536 12 = H1695 r1536 12 := (wq_u_t e1802 g1 g1538 rfl 12)
                      have k1823 : H1801 r1536 13 = H1695 r1536 13 := (wq_u_t e1802 g1 g1538 rfl 13)
                      have k1824 : H1801 r1536 14 = H1695 r1536 14 := (wq_u_t e1802 g1 g1538 rfl 14)
                      have o1825 : (xcs B n q) = (0, q, (xN B n (xN B n (xN B n ((xN B n ((xN B n ((xN B n q)))))))))) := by
                        unfold xcs xca xcb
                        try rw [_ea]
                        try rw [_eb]
                        try rw [_ec]
                        repeat first | rw [xs_0 (Int.le_antisymm (by omega -splitDisjunctions) (by omega -splitDisjunctions))] | rw [xs_1 (by omega -splitDisjunctions)] | rw [if_pos (Int.le_antisymm (by omega -splitDisjunctions) (by omega -splitDisjunctions))] | rw [if_pos (by omega -splitDisjunctions)] | rw [if_pos (And.intro (by omega -splitDisjunctions) (by omega -splitDisjunctions))] | rw [if_neg (by omega -splitDisjunctions)] | rw [xs_1 (by omega)] | rw [if_neg (by omega)] | rw [xs_0 (by omega)] | rw [if_pos (by omega)]
                        first | done | rfl | assumption | (exfalso; omega -splitDisjunctions) | (refine Prod.ext ?_ (Prod.ext ?_ ?_) <;> (try dsimp only) <;> omega) | (exfalso; omega)
                      have o1825a : ((xcs B n q)).1 = 0 := by rw [o1825]
                      have o1825b : ((xcs B n q)).2.1 = q := by rw [o1825]
                      have o1825c : ((xcs B n q)).2.2 = (xN B n (xN B n (xN B n ((xN B n ((xN B n ((xN B n q))))))))) := by rw [o1825]
                      have _l := @xdper_v B n y d
                      have _k := @xdper_k (H r1 10).toNat d B n y (by omega)
                      rw [← p1] at _k
                      rw [_ea, _eb] at _k
                      have _f : H1801 r1536 6 = xdper B n y d 1 (H r1 10).toNat ∧ H1801 r1536 7 = xdper B n y d 2 (H r1 10).toNat ∧ H1801 r1536 8 = xdper B n y d 3 (H r1 10).toNat ∧ H1801 r1536 9 = xdper B n y d 4 (H r1 10).toNat ∧ H1801 r1536 10 = xdper B n y d 5 (H r1 10).toNat ∧ H1801 r1536 11 = xdper B n y d 6 (H r1 10).toNat ∧ H1801 r1536 12 = xhs (xdper B n y d 7 (H r1 10).toNat) (xdper B n y d 8 (H r1 10).toNat) ∧ H1801 r1536 13 = xdper B n y d 9 (H r1 10).toNat ∧ H1801 r1536 14 = 0 := ⟨by omega, by omega, by omega, by omega, by omega, by omega, by rw [_k.2.2.2.2.2.2.1, _k.2.2.2.2.2.2.2.1]; omega, by omega, by omega⟩
                      have h1826 : TC T H1801 tk B n (xN B n (xN B n (xN B n ((xN B n ((xN B n ((xN B n q))))))))) := (TC_fr w1697 gtk ((wfr.rf (l := [(27, 10)])).put' e1802 g1 rfl) rfl h1711)
                      have k1827 : H1801 r1 0 = H r1 0 := ((wq_u_j e1802 rfl).trans ((wq_u_t e1696 g1538 g1 rfl 0).trans ((f1659 r1 0 _ g1 rfl).trans ((f1642 r1 0 _ g1 rfl).trans ((wq_u_t e1596 g1538 g1 rfl 0).trans ((f1580 r1 0 _ g1 rfl).trans (f1563 r1 0 _ g1 rfl)))))))
                      have q1828 : H1801 r1 0 = (r1531 : Int) := k1827.trans q1532
                      have k1829 : H1801 r1531 ((H r1 10).toNat) = H r1531 ((H r1 10).toNat) := ((wq_u_t e1802 g1 g1533 rfl ((H r1 10).toNat)).trans ((wq_u_t e1696 g1538 g1533 rfl ((H r1 10).toNat)).trans ((f1659 r1531 ((H r1 10).toNat) _ g1533 rfl).trans ((f1642 r1531 ((H r1 10).toNat) _ g1533 rfl).trans ((wq_u_t e1596 g1538 g1533 rfl ((H r1 10).toNat)).trans ((f1580 r1531 ((H r1 10).toNat) _ g1533 rfl).trans (f1563 r1531 ((H r1 10).toNat) _ g1533 rfl)))))))
                      have q1830 : H1801 r1531 ((H r1 10).toNat) = (r1536 : Int) := k1829.trans q1537
                      have h1831 : ST T H1801 r1 (d 13) := (ST_fr w1697 g1 ((wfr.rf (l := [(27, 10)])).put' e1802 g1 rfl) rfl (ST_fr w1658 g1 ((wfr.rf (l := [(35, 12)])).put' e1696 g1538 rfl) rfl (ST_fr w1641 g1 f1659 rfl (ST_fr w1597 g1 f1642 rfl (ST_fr w1579 g1 ((wfr.rf (l := [(35, 11)])).put' e1596 g1538 rfl) rfl (ST_fr w1562 g1 f1580 rfl (ST_fr hW g1 f1563 rfl h1525)))))))
                      have h1832 : SV T H1801 r1 (d 13) 24 := (SV_fr w1697 g1 ((wfr.rf (l := [(27, 10)])).put' e1802 g1 rfl) rfl (SV_fr w1658 g1 ((wfr.rf (l := [(35, 12)])).put' e1696 g1538 rfl) rfl (SV_fr w1641 g1 f1659 rfl (SV_fr w1597 g1 f1642 rfl (SV_fr w1579 g1 ((wfr.rf (l := [(35, 11)])).put' e1596 g1538 rfl) rfl (SV_fr w1562 g1 f1580 rfl (SV_fr hW g1 f1563 rfl h1526)))))))
                      have h1833 : DA3 T H1801 r1 (d 0 5) (d 12) := (DA3_fr w1697 g1 ((wfr.rf (l := [(27, 10)])).put' e1802 g1 rfl) rfl (DA3_fr w1658 g1 ((wfr.rf (l := [(35, 12)])).put' e1696 g1538 rfl) rfl (DA3_fr w1641 g1 f1659 rfl (DA3_fr w1597 g1 f1642 rfl (DA3_fr w1579 g1 ((wfr.rf (l := [(35, 11)])).put' e1596 g1538 rfl) rfl (DA3_fr w1562 g1 f1580 rfl (DA3_fr hW g1 f1563 rfl h1527)))))))
                      have h1834 : DA4 T H1801 r1 (d 0 6) (d 14) := (DA4_fr w1697 g1 ((wfr.rf (l := [(27, 10)])).put' e1802 g1 rfl) rfl (DA4_fr w1658 g1 ((wfr.rf (l := [(35, 12)])).put' e1696 g1538 rfl) rfl (DA4_fr w1641 g1 f1659 rfl (DA4_fr w1597 g1 f1642 rfl (DA4_fr w1579 g1 ((wfr.rf (l := [(35, 11)])).put' e1596 g1538 rfl) rfl (DA4_fr w1562 g1 f1580 rfl (DA4_fr hW g1 f1563 rfl h1528)))))))
                      have h1835 : DA5 T H1801 r1 (d 0 6) (d 15) := (DA5_fr w1697 g1 ((wfr.rf (l := [(27, 10)])).put' e1802 g1 rfl) rfl (DA5_fr w1658 g1 ((wfr.rf (l := [(35, 12)])).put' e1696 g1538 rfl) rfl (DA5_fr w1641 g1 f1659 rfl (DA5_fr w1597 g1 f1642 rfl (DA5_fr w1579 g1 ((wfr.rf (l := [(35, 11)])).put' e1596 g1538 rfl) rfl (DA5_fr w1562 g1 f1580 rfl (DA5_fr hW g1 f1563 rfl h1529)))))))
                      have h1836 : DA6 T H1801 r1 (d 0 7) (d 16) := (DA6_fr w1697 g1 ((wfr.rf (l := [(27, 10)])).put' e1802 g1 rfl) rfl (DA6_fr w1658 g1 ((wfr.rf (l := [(35, 12)])).put' e1696 g1538 rfl) rfl (DA6_fr w1641 g1 f1659 rfl (DA6_fr w1597 g1 f1642 rfl (DA6_fr w1579 g1 ((wfr.rf (l := [(35, 11)])).put' e1596 g1538 rfl) rfl (DA6_fr w1562 g1 f1580 rfl (DA6_fr hW g1 f1563 rfl h1530)))))))
                      have h1837 : CZ T H1801 r1 (d 0 3 + 1) := (CZ_fr w1697 g1 ((wfr.rf (l := [(27, 10)])).put' e1802 g1 rfl) rfl (CZ_fr w1658 g1 ((wfr.rf (l := [(35, 12)])).put' e1696 g1538 rfl) rfl (CZ_fr w1641 g1 f1659 rfl (CZ_fr w1597 g1 f1642 rfl (CZ_fr w1579 g1 ((wfr.rf (l := [(35, 11)])).put' e1596 g1538 rfl) rfl (CZ_fr w1562 g1 f1580 rfl (CZ_fr hW g1 f1563 rfl hCZ_r1)))))))
                      exact wp_zreturn e30 c30_146 rfl (by omega) ⟨rfl, w1803, f1804, 1, rfl, ⟨by decide, by decide⟩, (Or.inl ⟨by omega, by omega, by omega, by omega, by rw [o1825]; exact h1826, DC_mk ⟨by omega, by omega, by omega, by omega, by omega, by omega, by omega, by omega, by omega, by omega, by omega, by omega, by omega, by omega, by omega, by omega⟩ (DQ_per g1538 (DQ_oth hW g1 f1804 rfl hDD_r1 q1828 q1830 (by omega) (by omega) (fun a ha ga => ((wq_u_tf e1802 g1 ga (by decide)).trans ((wq_u_nf e1696 ha).trans ((f1659.fn ga rfl).trans ((f1642.fn ga rfl).trans ((wq_u_nf e1596 ha).trans ((f1580.fn ga rfl).trans (f1563.fn ga rfl)))))))) hDC_r1.2.1) (by omega) q1828 q1830 (k := (H r1 10).toNat) (by omega) _f) h1831 h1832 h1833 h1834 h1835 h1836 ⟨rfl, rfl, rfl, rfl, rfl⟩ ⟨by omega, by omega, by omega⟩, CZ_le h1837 (by omega)⟩)⟩
                    · exfalso
                      omega
                · exfalso
                  omega
              · have f1838 := f1645.tr f1659 rfl
                show wp _ _ 30 87 [(2, .ref r1536), (0, .ref r0), (1, .ref r1)] [vI z1660] _ H1654 _
                refine wp_of e30 c30_87 (rw_if_ne (p1 := 92) (p2 := 90) (by decide) rfl ⟨Int.le_trans (by decide) b1661.1, Int.le_trans b1661.2 (by decide)⟩ (fun c1839 => ?_) (fun c1839 => ?_))
                · exfalso
                  omega
                · refine wp_of e30 c30_90 (rw_iconst (pc' := 91) rfl ?_)
                  have o1840 : (xcs B n q) = ((xrg B n ((xN B n ((xN B n ((xN B n q)))))) 23 1 24 24).1, (xrg B n ((xN B n ((xN B n ((xN B n q)))))) 23 1 24 24).2.1, (xrg B n ((xN B n ((xN B n ((xN B n q)))))) 23 1 24 24).2.2) := by
                    unfold xcs xca xcb
                    try rw [_ea]
                    try rw [_eb]
                    try rw [_ec]
                    repeat first | rw [xs_0 (Int.le_antisymm (by omega -splitDisjunctions) (by omega -splitDisjunctions))] | rw [xs_1 (by omega -splitDisjunctions)] | rw [if_pos (Int.le_antisymm (by omega -splitDisjunctions) (by omega -splitDisjunctions))] | rw [if_pos (by omega -splitDisjunctions)] | rw [if_pos (And.intro (by omega -splitDisjunctions) (by omega -splitDisjunctions))] | rw [if_neg (by omega -splitDisjunctions)] | rw [xs_1 (by omega)] | rw [if_neg (by omega)] | rw [xs_0 (by omega)] | rw [if_pos (by omega)]
                    first | done | rfl | assumption | (exfalso; omega -splitDisjunctions) | (refine Prod.ext ?_ (Prod.ext ?_ ?_) <;> (try dsimp only) <;> omega) | (exfalso; omega)
                  have o1840a : ((xcs B n q)).1 = (xrg B n ((xN B n ((xN B n ((xN B n q)))))) 23 1 24 24).1 := by rw [o1840]
                  have o1840b : ((xcs B n q)).2.1 = (xrg B n ((xN B n ((xN B n ((xN B n q)))))) 23 1 24 24).2.1 := by rw [o1840]
                  have o1840c : ((xcs B n q)).2.2 = (xrg B n ((xN B n ((xN B n ((xN B n q)))))) 23 1 24 24).2.2 := by rw [o1840]
                  exact wp_zreturn e30 c30_91 rfl (by omega) ⟨rfl, w1658, f1838, 0, rfl, ⟨by decide, by decide⟩, (Or.inr ⟨by omega, by omega, by omega, by omega, by omega⟩)⟩
          · show wp _ _ 30 66 [(2, .ref r1536), (0, .ref r0), (1, .ref r1)] [vI z1622] _ H1595 _
            refine wp_of e30 c30_66 (rw_if_eq (p1 := 107) (p2 := 69) (by decide) rfl ⟨Int.le_trans (by decide) b1623.1, Int.le_trans b1623.2 (by decide)⟩ (fun c1841 => ?_) (fun c1841 => ?_))
            · have _eb : xqb B n ((xN B n ((xN B n q)))) = ((xN B n ((xN B n q)))) := by
                unfold xqb
                first | rw [if_pos (Int.le_antisymm (by omega -splitDisjunctions) (by omega -splitDisjunctions))] | rw [if_pos (by omega -splitDisjunctions)] | rw [if_pos (And.intro (by omega -splitDisjunctions) (by omega -splitDisjunctions))] | rw [if_neg (by omega -splitDisjunctions)] | rw [if_neg (by omega)] | rw [if_pos (by omega)]
              have _en : H1595 r1536 12 = xhs (xnf B n ((xN B n ((xN B n q))))) (xnt B n ((xN B n ((xN B n q))))) := by
                unfold xnf xnt
                first | (rw [if_pos (Int.le_antisymm (by omega -splitDisjunctions) (by omega -splitDisjunctions)), if_pos (Int.le_antisymm (by omega -splitDisjunctions) (by omega -splitDisjunctions))]; omega) | (rw [if_pos (by omega -splitDisjunctions), if_pos (by omega -splitDisjunctions)]; omega) | (rw [if_neg (by omega -splitDisjunctions), if_neg (by omega -splitDisjunctions)]; omega) | (rw [if_pos (by omega), if_pos (by omega)]; omega) | (rw [if_neg (by omega), if_neg (by omega)]; omega)
              refine wp_of e30 c30_107 (rw_aload_n (pc' := 108) (v := .ref r0) rfl rfl rfl ?_)
              refine wp_of e30 c30_108 (xg_K (pc' := 111) lf_1_12 w1597 g0 sh_3 (by decide) (by decide) rfl q1612 rfl ?_)
              refine wp_of e30 c30_111 (rw_gs (pc' := 114) (k := 26) rfl rfl rfl rfl ?_)
              have k1842 : H1595 26 0 = ((42 : Nat) : Int) := (w1597.2 26 _ (w1597.1.2.2 10 (by decide))).2.2 0 (by decide) |> fun z => by have z1 : (42 : Int) ≤ H1595 26 0 ∧ H1595 26 0 ≤ 42 := z; omega
              refine wp_of e30 c30_114 (rw_getR (pc' := 117) (n := 2) (b := 42) (e := _) (lf_1_181).choose_spec.1 (lf_1_181).choose_spec.2.1 (w1597.sh (w1597.1.2.2 10 (by decide)) rfl) (by decide) rfl k1842 rfl ?_)
              refine wp_of e30 c30_117 (xc_V (pc' := 120) (r := tk) (as := [.ref 42]) (st := []) (lm_1_185) rfl rfl (Nat.le_of_ble_eq_true rfl) w1597 gtk sh_4 (by decide) rfl (by decide) (u_19_t (B := B) (n := n) (q := ((xN B n ((xN B n q))))) (kk := 56377) w1597 gtk rfl (by decide +kernel) h1614) (fun R1843 T1844 H1845 p1846 => ?_))
              obtain ⟨e1847, e1849, z1850, e1848, b1851, p1852⟩ := p1846
              subst e1847
              subst e1848
              subst e1849
              rcases p1852 with ⟨a1853, a1854⟩ | ⟨a1855, a1856⟩
              · show wp _ _ 30 120 [(2, .ref r1536), (0, .ref r0), (1, .ref r1)] [vI z1850] _ H1595 _
                refine wp_of e30 c30_120 (rw_if_eq (p1 := 135) (p2 := 123) (by decide) rfl ⟨Int.le_trans (by decide) b1851.1, Int.le_trans b1851.2 (by decide)⟩ (fun c1857 => ?_) (fun c1857 => ?_))
                · exfalso
                  omega
                · refine wp_of e30 c30_123 (rw_aload_n (pc' := 124) (v := .ref r0) rfl rfl rfl ?_)
                  refine wp_of e30 c30_124 (xg_K (pc' := 127) lf_1_12 w1597 g0 sh_3 (by decide) (by decide) rfl q1612 rfl ?_)
                  have k1858 : H1595 tk 0 = H1558 tk 0 := ((wq_u_t e1596 g1538 gtk rfl 0).trans (f1580 tk 0 _ gtk rfl))
                  have q1859 : H1595 tk 0 = (rb : Int) := k1858.trans q1571
                  have k1860 : H1595 tk 1 = H1575 tk 1 := (wq_u_t e1596 g1538 gtk rfl 1)
                  have k1861 : H1595 tk 2 = H1575 tk 2 := (wq_u_t e1596 g1538 gtk rfl 2)
                  have h1862 : TP T H1595 rb B := (TP_fr w1579 grb ((wfr.rf (l := [(35, 11)])).put' e1596 g1538 rfl) rfl (TP_fr w1562 grb f1580 rfl (TP_fr hW grb f1563 rfl h1555)))
                  refine wp_of e30 c30_127 (xc_V (pc' := 130) (r := tk) (as := []) (st := []) (lm_1_74) rfl rfl (Nat.le_of_ble_eq_true rfl) w1597 gtk sh_4 (by decide) rfl (by decide) (u_16 (B := B) (n := n) (a := (xE B n ((xN B n ((xN B n q)))))) (q := (xN B n ((xN B n ((xN B n q)))))) w1597 gtk q1859 grb (by omega) (by omega) (by omega) (rfl) h1862) (fun R1863 T1864 H1865 p1866 => ?_))
                  obtain ⟨e1867, w1869, f1870, e1868, p1871⟩ := p1866
                  subst e1867
                  subst e1868
                  have f1873 := f1598.tr f1870 rfl
                  show wp _ _ 30 130 [(2, .ref r1536), (0, .ref r0), (1, .ref r1)] [] _ H1865 _
                  have u1874 := TC_k p1871
                  refine wp_of e30 c30_130 (rw_aload_n (pc' := 131) (v := .ref r1536) rfl rfl rfl ?_)
                  refine wp_of e30 c30_131 (rw_iconst (pc' := 132) rfl ?_)
                  refine wp_of e30 c30_132 (xp_Z (pc' := 135) lf_1_203 w1869 g1538 sh_35 (by decide) (by decide) ty_35_13 rfl rfl (by decide) (by decide) rfl (fun H1875 e1876 w1877 => ?_))
                  have f1878 := f1873.put' e1876 g1538 rfl
                  have k1879 : H1875 r1536 13 = 1 := wq_u_s e1876
                  have _ec : xqc B n ((xN B n ((xN B n q)))) = ((xN B n ((xN B n ((xN B n q)))))) := by
                    unfold xqc
                    first | rw [if_pos (Int.le_antisymm (by omega -splitDisjunctions) (by omega -splitDisjunctions))] | rw [if_pos (by omega -splitDisjunctions)] | rw [if_pos (And.intro (by omega -splitDisjunctions) (by omega -splitDisjunctions))] | rw [if_neg (by omega -splitDisjunctions)] | rw [if_neg (by omega)] | rw [if_pos (by omega)]
                  have k1880 : H1875 r1536 6 = H1595 r1536 6 := ((wq_u_j e1876 rfl).trans (f1870 r1536 6 _ g1538 rfl))
                  have k1881 : H1875 r1536 7 = H1595 r1536 7 := ((wq_u_j e1876 rfl).trans (f1870 r1536 7 _ g1538 rfl))
                  have k1882 : H1875 r1536 8 = H1595 r1536 8 := ((wq_u_j e1876 rfl).trans (f1870 r1536 8 _ g1538 rfl))
                  have k1883 : H1875 r1536 9 = H1595 r1536 9 := ((wq_u_j e1876 rfl).trans (f1870 r1536 9 _ g1538 rfl))
                  have k1884 : H1875 r1536 10 = H1595 r1536 10 := ((wq_u_j e1876 rfl).trans (f1870 r1536 10 _ g1538 rfl))
                  have k1885 : H1875 r1536 11 = H1595 r1536 11 := ((wq_u_j e1876 rfl).trans (f1870 r1536 11 _ g1538 rfl))
                  have k1886 : H1875 r1536 12 = H1595 r1536 12 := ((wq_u_j e1876 rfl).trans (f1870 r1536 12 _ g1538 rfl))
                  have k1887 : H1875 r1536 14 = H1595 r1536 14 := ((wq_u_j e1876 rfl).trans (f1870 r1536 14 _ g1538 rfl))
                  have _ew : xaw B n ((xN B n ((xN B n q)))) = H1875 r1536 13 := by
                    unfold xaw
                    first | (rw [if_pos (Int.le_antisymm (by omega -splitDisjunctions) (by omega -splitDisjunctions))]; omega) | (rw [if_pos (by omega -splitDisjunctions)]; omega) | (rw [if_pos (And.intro (by omega -splitDisjunctions) (by omega -splitDisjunctions))]; omega) | (rw [if_neg (by omega -splitDisjunctions)]; omega) | (rw [if_neg (by omega)]; omega) | (rw [if_pos (by omega)]; omega)
                  refine wp_of e30 c30_135 (rw_aload_n (pc' := 136) (v := .ref r1) rfl rfl rfl ?_)
                  refine wp_of e30 c30_136 (rw_dup (pc' := 137) rfl rfl ?_)
                  have k1888 : H1875 r1 10 = H r1 10 := ((wq_u_t e1876 g1538 g1 rfl 10).trans ((f1870 r1 10 _ g1 rfl).trans ((wq_u_t e1596 g1538 g1 rfl 10).trans ((f1580 r1 10 _ g1 rfl).trans (f1563 r1 10 _ g1 rfl)))))
                  refine wp_of e30 c30_137 (xg_I (pc' := 140) lf_1_44 w1877 g1 sh_27 (by decide) (by decide) ty_27_10 rfl rfl (fun b1889 b1890 => ?_))
                  refine wp_of e30 c30_140 (rw_iconst (pc' := 141) rfl ?_)
                  refine wp_of e30 c30_141 (rw_iadd (pc' := 142) rfl ?_)
                  refine wp_of e30 c30_142 (xp_I (pc' := 145) lf_1_44 w1877 g1 sh_27 (by decide) (by decide) ty_27_10 rfl rfl (by omega) (by omega) ⟨by omega, by omega⟩ rfl (fun H1891 e1892 w1893 => ?_))
                  have f1894 := f1878.put' e1892 g1 rfl
                  have k1895 : H1891 r1 10 = (H1875 r1 10) + 1 := wq_u_s e1892
                  refine wp_of e30 c30_145 (rw_iconst (pc' := 146) rfl ?_)
                  have k1896 : H1891 r0 3 = H1575 r0 3 := ((wq_u_t e1892 g1 g0 rfl 3).trans ((wq_u_t e1876 g1538 g0 rfl 3).trans ((f1870 r0 3 _ g0 rfl).trans (wq_u_t e1596 g1538 g0 rfl 3))))
                  have k1897 : H1891 r1 7 = H r1 7 := ((wq_u_j e1892 rfl).trans ((wq_u_t e1876 g1538 g1 rfl 7).trans ((f1870 r1 7 _ g1 rfl).trans ((wq_u_t e1596 g1538 g1 rfl 7).trans ((f1580 r1 7 _ g1 rfl).trans (f1563 r1 7 _ g1 rfl))))))
                  have k1898 : H1891 r1 8 = H r1 8 := ((wq_u_j e1892 rfl).trans ((wq_u_t e1876 g1538 g1 rfl 8).trans ((f1870 r1 8 _ g1 rfl).trans ((wq_u_t e1596 g1538 g1 rfl 8).trans ((f1580 r1 8 _ g1 rfl).trans (f1563 r1 8 _ g1 rfl))))))
                  have k1899 : H1891 r1 9 = H r1 9 := ((wq_u_j e1892 rfl).trans ((wq_u_t e1876 g1538 g1 rfl 9).trans ((f1870 r1 9 _ g1 rfl).trans ((wq_u_t e1596 g1538 g1 rfl 9).trans ((f1580 r1 9 _ g1 rfl).trans (f1563 r1 9 _ g1 rfl))))))
                  have k1900 : H1891 r1 11 = H r1 11 := ((wq_u_j e1892 rfl).trans ((wq_u_t e1876 g1538 g1 rfl 11).trans ((f1870 r1 11 _ g1 rfl).trans ((wq_u_t e1596 g1538 g1 rfl 11).trans ((f1580 r1 11 _ g1 rfl).trans (f1563 r1 11 _ g1 rfl))))))
                  have k1901 : H1891 r1 12 = H r1 12 := ((wq_u_j e1892 rfl).trans ((wq_u_t e1876 g1538 g1 rfl 12).trans ((f1870 r1 12 _ g1 rfl).trans ((wq_u_t e1596 g1538 g1 rfl 12).trans ((f1580 r1 12 _ g1 rfl).trans (f1563 r1 12 _ g1 rfl))))))
                  have k1902 : H1891 r1 13 = H r1 13 := ((wq_u_j e1892 rfl).trans ((wq_u_t e1876 g1538 g1 rfl 13).trans ((f1870 r1 13 _ g1 rfl).trans ((wq_u_t e1596 g1538 g1 rfl 13).trans ((f1580 r1 13 _ g1 rfl).trans (f1563 r1 13 _ g1 rfl))))))
                  have k1903 : H1891 r1 14 = H r1 14 := ((wq_u_j e1892 rfl).trans ((wq_u_t e1876 g1538 g1 rfl 14).trans ((f1870 r1 14 _ g1 rfl).trans ((wq_u_t e1596 g1538 g1 rfl 14).trans ((f1580 r1 14 _ g1 rfl).trans (f1563 r1 14 _ g1 rfl))))))
                  have k1904 : H1891 r1 15 = H r1 15 := ((wq_u_j e1892 rfl).trans ((wq_u_t e1876 g1538 g1 rfl 15).trans ((f1870 r1 15 _ g1 rfl).trans ((wq_u_t e1596 g1538 g1 rfl 15).trans ((f1580 r1 15 _ g1 rfl).trans (f1563 r1 15 _ g1 rfl))))))
                  have k1905 : H1891 r1 16 = H r1 16 := ((wq_u_j e1892 rfl).trans ((wq_u_t e1876 g1538 g1 rfl 16).trans ((f1870 r1 16 _ g1 rfl).trans ((wq_u_t e1596 g1538 g1 rfl 16).trans ((f1580 r1 16 _ g1 rfl).trans (f1563 r1 16 _ g1 rfl))))))
                  have k1906 : H1891 r1536 6 = H1875 r1536 6 := (wq_u_t e1892 g1 g1538 rfl 6)
                  have k1907 : H1891 r1536 7 = H1875 r1536 7 := (wq_u_t e1892 g1 g1538 rfl 7)
                  have k1908 : H1891 r1536 8 = H1875 r1536 8 := (wq_u_t e1892 g1 g1538 rfl 8)
                  have k1909 : H1891 r1536 9 = H1875 r1536 9 := (wq_u_t e1892 g1 g1538 rfl 9)
                  have k1910 : H1891 r1536 10 = H1875 r1536 10 := (wq_u_t e1892 g1 g1538 rfl 10)
                  have k1911 : H1891 r1536 11 = H1875 r1536 11 := (wq_u_t e1892 g1 g1538 rfl 11)
                  have k1912 : H1891 r1536 12 = H1875 r1536 12 := (wq_u_t e1892 g1 g1538 rfl 12)
                  have k1913 : H1891 r1536 13 = H1875 r1536 13 := (wq_u_t e1892 g1 g1538 rfl 13)
                  have k1914 : H1891 r1536 14 = H1875 r1536 14 := (wq_u_t e1892 g1 g1538 rfl 14)
                  have o1915 : (xcs B n q) = (0, q, (xN B n ((xN B n ((xN B n q)))))) := by
                    unfold xcs xca xcb
                    try rw [_ea]
                    try rw [_eb]
                    try rw [_ec]
                    repeat first | rw [xs_0 (Int.le_antisymm (by omega -splitDisjunctions) (by omega -splitDisjunctions))] | rw [xs_1 (by omega -splitDisjunctions)] | rw [if_pos (Int.le_antisymm (by omega -splitDisjunctions) (by omega -splitDisjunctions))] | rw [if_pos (by omega -splitDisjunctions)] | rw [if_pos (And.intro (by omega -splitDisjunctions) (by omega -splitDisjunctions))] | rw [if_neg (by omega -splitDisjunctions)] | rw [xs_1 (by omega)] | rw [if_neg (by omega)] | rw [xs_0 (by omega)] | rw [if_pos (by omega)]
                    first | done | rfl | assumption | (exfalso; omega -splitDisjunctions) | (refine Prod.ext ?_ (Prod.ext ?_ ?_) <;> (try dsimp only) <;> omega) | (exfalso; omega)
                  have o1915a : ((xcs B n q)).1 = 0 := by rw [o1915]
                  have o1915b : ((xcs B n q)).2.1 = q := by rw [o1915]
                  have o1915c : ((xcs B n q)).2.2 = (xN B n ((xN B n ((xN B n q))))) := by rw [o1915]
                  have _l := @xdper_v B n y d
                  have _k := @xdper_k (H r1 10).toNat d B n y (by omega)
                  rw [← p1] at _k
                  rw [_ea, _eb] at _k
                  have _f : H1891 r1536 6 = xdper B n y d 1 (H r1 10).toNat ∧ H1891 r1536 7 = xdper B n y d 2 (H r1 10).toNat ∧ H1891 r1536 8 = xdper B n y d 3 (H r1 10).toNat ∧ H1891 r1536 9 = xdper B n y d 4 (H r1 10).toNat ∧ H1891 r1536 10 = xdper B n y d 5 (H r1 10).toNat ∧ H1891 r1536 11 = xdper B n y d 6 (H r1 10).toNat ∧ H1891 r1536 12 = xhs (xdper B n y d 7 (H r1 10).toNat) (xdper B n y d 8 (H r1 10).toNat) ∧ H1891 r1536 13 = xdper B n y d 9 (H r1 10).toNat ∧ H1891 r1536 14 = 0 := ⟨by omega, by omega, by omega, by omega, by omega, by omega, by rw [_k.2.2.2.2.2.2.1, _k.2.2.2.2.2.2.2.1]; omega, by omega, by omega⟩
                  have h1916 : TC T H1891 tk B n (xN B n ((xN B n ((xN B n q))))) := (TC_fr w1877 gtk ((wfr.rf (l := [(27, 10)])).put' e1892 g1 rfl) rfl (TC_fr w1869 gtk ((wfr.rf (l := [(35, 13)])).put' e1876 g1538 rfl) rfl p1871))
                  have k1917 : H1891 r1 0 = H r1 0 := ((wq_u_j e1892 rfl).trans ((wq_u_t e1876 g1538 g1 rfl 0).trans ((f1870 r1 0 _ g1 rfl).trans ((wq_u_t e1596 g1538 g1 rfl 0).trans ((f1580 r1 0 _ g1 rfl).trans (f1563 r1 0 _ g1 rfl))))))
                  have q1918 : H1891 r1 0 = (r1531 : Int) := k1917.trans q1532
                  have k1919 : H1891 r1531 ((H r1 10).toNat) = H r1531 ((H r1 10).toNat) := ((wq_u_t e1892 g1 g1533 rfl ((H r1 10).toNat)).trans ((wq_u_t e1876 g1538 g1533 rfl ((H r1 10).toNat)).trans ((f1870 r1531 ((H r1 10).toNat) _ g1533 rfl).trans ((wq_u_t e1596 g1538 g1533 rfl ((H r1 10).toNat)).trans ((f1580 r1531 ((H r1 10).toNat) _ g1533 rfl).trans (f1563 r1531 ((H r1 10).toNat) _ g1533 rfl))))))
                  have q1920 : H1891 r1531 ((H r1 10).toNat) = (r1536 : Int) := k1919.trans q1537
                  have h1921 : ST T H1891 r1 (d 13) := (ST_fr w1877 g1 ((wfr.rf (l := [(27, 10)])).put' e1892 g1 rfl) rfl (ST_fr w1869 g1 ((wfr.rf (l := [(35, 13)])).put' e1876 g1538 rfl) rfl (ST_fr w1597 g1 f1870 rfl (ST_fr w1579 g1 ((wfr.rf (l := [(35, 11)])).put' e1596 g1538 rfl) rfl (ST_fr w1562 g1 f1580 rfl (ST_fr hW g1 f1563 rfl h1525))))))
                  have h1922 : SV T H1891 r1 (d 13) 24 := (SV_fr w1877 g1 ((wfr.rf (l := [(27, 10)])).put' e1892 g1 rfl) rfl (SV_fr w1869 g1 ((wfr.rf (l := [(35, 13)])).put' e1876 g1538 rfl) rfl (SV_fr w1597 g1 f1870 rfl (SV_fr w1579 g1 ((wfr.rf (l := [(35, 11)])).put' e1596 g1538 rfl) rfl (SV_fr w1562 g1 f1580 rfl (SV_fr hW g1 f1563 rfl h1526))))))
                  have h1923 : DA3 T H1891 r1 (d 0 5) (d 12) := (DA3_fr w1877 g1 ((wfr.rf (l := [(27, 10)])).put' e1892 g1 rfl) rfl (DA3_fr w1869 g1 ((wfr.rf (l := [(35, 13)])).put' e1876 g1538 rfl) rfl (DA3_fr w1597 g1 f1870 rfl (DA3_fr w1579 g1 ((wfr.rf (l := [(35, 11)])).put' e1596 g1538 rfl) rfl (DA3_fr w1562 g1 f1580 rfl (DA3_fr hW g1 f1563 rfl h1527))))))
                  have h1924 : DA4 T H1891 r1 (d 0 6) (d 14) := (DA4_fr w1877 g1 ((wfr.rf (l := [(27, 10)])).put' e1892 g1 rfl) rfl (DA4_fr w1869 g1 ((wfr.rf (l := [(35, 13)])).put' e1876 g1538 rfl) rfl (DA4_fr w1597 g1 f1870 rfl (DA4_fr w1579 g1 ((wfr.rf (l := [(35, 11)])).put' e1596 g1538 rfl) rfl (DA4_fr w1562 g1 f1580 rfl (DA4_fr hW g1 f1563 rfl h1528))))))
                  have h1925 : DA5 T H1891 r1 (d 0 6) (d 15) := (DA5_fr w1877 g1 ((wfr.rf (l := [(27, 10)])).put' e1892 g1 rfl) rfl (DA5_fr w1869 g1 ((wfr.rf (l := [(35, 13)])).put' e1876 g1538 rfl) rfl (DA5_fr w1597 g1 f1870 rfl (DA5_fr w1579 g1 ((wfr.rf (l := [(35, 11)])).put' e1596 g1538 rfl) rfl (DA5_fr w1562 g1 f1580 rfl (DA5_fr hW g1 f1563 rfl h1529))))))
                  have h1926 : DA6 T H1891 r1 (d 0 7) (d 16) := (DA6_fr w1877 g1 ((wfr.rf (l := [(27, 10)])).put' e1892 g1 rfl) rfl (DA6_fr w1869 g1 ((wfr.rf (l := [(35, 13)])).put' e1876 g1538 rfl) rfl (DA6_fr w1597 g1 f1870 rfl (DA6_fr w1579 g1 ((wfr.rf (l := [(35, 11)])).put' e1596 g1538 rfl) rfl (DA6_fr w1562 g1 f1580 rfl (DA6_fr hW g1 f1563 rfl h1530))))))
                  have h1927 : CZ T H1891 r1 (d 0 3 + 1) := (CZ_fr w1877 g1 ((wfr.rf (l := [(27, 10)])).put' e1892 g1 rfl) rfl (CZ_fr w1869 g1 ((wfr.rf (l := [(35, 13)])).put' e1876 g1538 rfl) rfl (CZ_fr w1597 g1 f1870 rfl (CZ_fr w1579 g1 ((wfr.rf (l := [(35, 11)])).put' e1596 g1538 rfl) rfl (CZ_fr w1562 g1 f1580 rfl (CZ_fr hW g1 f1563 rfl hCZ_r1))))))
                  exact wp_zreturn e30 c30_146 rfl (by omega) ⟨rfl, w1893, f1894, 1, rfl, ⟨by decide, by decide⟩, (Or.inl ⟨by omega, by omega, by omega, by omega, by rw [o1915]; exact h1916, DC_mk ⟨by omega, by omega, by omega, by omega, by omega, by omega, by omega, by omega, by omega, by omega, by omega, by omega, by omega, by omega, by omega, by omega⟩ (DQ_per g1538 (DQ_oth hW g1 f1894 rfl hDD_r1 q1918 q1920 (by omega) (by omega) (fun a ha ga => ((wq_u_tf e1892 g1 ga (by decide)).trans ((wq_u_nf e1876 ha).trans ((f1870.fn ga rfl).trans ((wq_u_nf e1596 ha).trans ((f1580.fn ga rfl).trans (f1563.fn ga rfl))))))) hDC_r1.2.1) (by omega) q1918 q1920 (k := (H r1 10).toNat) (by omega) _f) h1921 h1922 h1923 h1924 h1925 h1926 ⟨rfl, rfl, rfl, rfl, rfl⟩ ⟨by omega, by omega, by omega⟩, CZ_le h1927 (by omega)⟩)⟩
              · show wp _ _ 30 120 [(2, .ref r1536), (0, .ref r0), (1, .ref r1)] [vI z1850] _ H1595 _
                refine wp_of e30 c30_120 (rw_if_eq (p1 := 135) (p2 := 123) (by decide) rfl ⟨Int.le_trans (by decide) b1851.1, Int.le_trans b1851.2 (by decide)⟩ (fun c1928 => ?_) (fun c1928 => ?_))
                · have _ec : xqc B n ((xN B n ((xN B n q)))) = ((xN B n ((xN B n q)))) := by
                    unfold xqc
                    first | rw [if_pos (Int.le_antisymm (by omega -splitDisjunctions) (by omega -splitDisjunctions))] | rw [if_pos (by omega -splitDisjunctions)] | rw [if_pos (And.intro (by omega -splitDisjunctions) (by omega -splitDisjunctions))] | rw [if_neg (by omega -splitDisjunctions)] | rw [if_neg (by omega)] | rw [if_pos (by omega)]
                  have _ew : xaw B n ((xN B n ((xN B n q)))) = H1595 r1536 13 := by
                    unfold xaw
                    first | (rw [if_pos (Int.le_antisymm (by omega -splitDisjunctions) (by omega -splitDisjunctions))]; omega) | (rw [if_pos (by omega -splitDisjunctions)]; omega) | (rw [if_pos (And.intro (by omega -splitDisjunctions) (by omega -splitDisjunctions))]; omega) | (rw [if_neg (by omega -splitDisjunctions)]; omega) | (rw [if_neg (by omega)]; omega) | (rw [if_pos (by omega)]; omega)
                  refine wp_of e30 c30_135 (rw_aload_n (pc' := 136) (v := .ref r1) rfl rfl rfl ?_)
                  refine wp_of e30 c30_136 (rw_dup (pc' := 137) rfl rfl ?_)
                  have k1929 : H1595 r1 10 = H r1 10 := ((wq_u_t e1596 g1538 g1 rfl 10).trans ((f1580 r1 10 _ g1 rfl).trans (f1563 r1 10 _ g1 rfl)))
                  refine wp_of e30 c30_137 (xg_I (pc' := 140) lf_1_44 w1597 g1 sh_27 (by decide) (by decide) ty_27_10 rfl rfl (fun b1930 b1931 => ?_))
                  refine wp_of e30 c30_140 (rw_iconst (pc' := 141) rfl ?_)
                  refine wp_of e30 c30_141 (rw_iadd (pc' := 142) rfl ?_)
                  refine wp_of e30 c30_142 (xp_I (pc' := 145) lf_1_44 w1597 g1 sh_27 (by decide) (by decide) ty_27_10 rfl rfl (by omega) (by omega) ⟨by omega, by omega⟩ rfl (fun H1932 e1933 w1934 => ?_))
                  have f1935 := f1598.put' e1933 g1 rfl
                  have k1936 : H1932 r1 10 = (H1595 r1 10) + 1 := wq_u_s e1933
                  refine wp_of e30 c30_145 (rw_iconst (pc' := 146) rfl ?_)
                  have k1937 : H1932 r0 3 = H1575 r0 3 := ((wq_u_t e1933 g1 g0 rfl 3).trans (wq_u_t e1596 g1538 g0 rfl 3))
                  have k1938 : H1932 r1 7 = H r1 7 := ((wq_u_j e1933 rfl).trans ((wq_u_t e1596 g1538 g1 rfl 7).trans ((f1580 r1 7 _ g1 rfl).trans (f1563 r1 7 _ g1 rfl))))
                  have k1939 : H1932 r1 8 = H r1 8 := ((wq_u_j e1933 rfl).trans ((wq_u_t e1596 g1538 g1 rfl 8).trans ((f1580 r1 8 _ g1 rfl).trans (f1563 r1 8 _ g1 rfl))))
                  have k1940 : H1932 r1 9 = H r1 9 := ((wq_u_j e1933 rfl).trans ((wq_u_t e1596 g1538 g1 rfl 9).trans ((f1580 r1 9 _ g1 rfl).trans (f1563 r1 9 _ g1 rfl))))
                  have k1941 : H1932 r1 11 = H r1 11 := ((wq_u_j e1933 rfl).trans ((wq_u_t e1596 g1538 g1 rfl 11).trans ((f1580 r1 11 _ g1 rfl).trans (f1563 r1 11 _ g1 rfl))))
                  have k1942 : H1932 r1 12 = H r1 12 := ((wq_u_j e1933 rfl).trans ((wq_u_t e1596 g1538 g1 rfl 12).trans ((f1580 r1 12 _ g1 rfl).trans (f1563 r1 12 _ g1 rfl))))
                  have k1943 : H1932 r1 13 = H r1 13 := ((wq_u_j e1933 rfl).trans ((wq_u_t e1596 g1538 g1 rfl 13).trans ((f1580 r1 13 _ g1 rfl).trans (f1563 r1 13 _ g1 rfl))))
                  have k1944 : H1932 r1 14 = H r1 14 := ((wq_u_j e1933 rfl).trans ((wq_u_t e1596 g1538 g1 rfl 14).trans ((f1580 r1 14 _ g1 rfl).trans (f1563 r1 14 _ g1 rfl))))
                  have k1945 : H1932 r1 15 = H r1 15 := ((wq_u_j e1933 rfl).trans ((wq_u_t e1596 g1538 g1 rfl 15).trans ((f1580 r1 15 _ g1 rfl).trans (f1563 r1 15 _ g1 rfl))))
                  have k1946 : H1932 r1 16 = H r1 16 := ((wq_u_j e1933 rfl).trans ((wq_u_t e1596 g1538 g1 rfl 16).trans ((f1580 r1 16 _ g1 rfl).trans (f1563 r1 16 _ g1 rfl))))
                  have k1947 : H1932 r1536 6 = H1595 r1536 6 := (wq_u_t e1933 g1 g1538 rfl 6)
                  have k1948 : H1932 r1536 7 = H1595 r1536 7 := (wq_u_t e1933 g1 g1538 rfl 7)
                  have k1949 : H1932 r1536 8 = H1595 r1536 8 := (wq_u_t e1933 g1 g1538 rfl 8)
                  have k1950 : H1932 r1536 9 = H1595 r1536 9 := (wq_u_t e1933 g1 g1538 rfl 9)
                  have k1951 : H1932 r1536 10 = H1595 r1536 10 := (wq_u_t e1933 g1 g1538 rfl 10)
                  have k1952 : H1932 r1536 11 = H1595 r1536 11 := (wq_u_t e1933 g1 g1538 rfl 11)
                  have k1953 : H1932 r1536 12 = H1595 r1536 12 := (wq_u_t e1933 g1 g1538 rfl 12)
                  have k1954 : H1932 r1536 13 = H1595 r1536 13 := (wq_u_t e1933 g1 g1538 rfl 13)
                  have k1955 : H1932 r1536 14 = H1595 r1536 14 := (wq_u_t e1933 g1 g1538 rfl 14)
                  have o1956 : (xcs B n q) = (0, q, (xN B n ((xN B n q)))) := by
                    unfold xcs xca xcb
                    try rw [_ea]
                    try rw [_eb]
                    try rw [_ec]
                    repeat first | rw [xs_0 (Int.le_antisymm (by omega -splitDisjunctions) (by omega -splitDisjunctions))] | rw [xs_1 (by omega -splitDisjunctions)] | rw [if_pos (Int.le_antisymm (by omega -splitDisjunctions) (by omega -splitDisjunctions))] | rw [if_pos (by omega -splitDisjunctions)] | rw [if_pos (And.intro (by omega -splitDisjunctions) (by omega -splitDisjunctions))] | rw [if_neg (by omega -splitDisjunctions)] | rw [xs_1 (by omega)] | rw [if_neg (by omega)] | rw [xs_0 (by omega)] | rw [if_pos (by omega)]
                    first | done | rfl | assumption | (exfalso; omega -splitDisjunctions) | (refine Prod.ext ?_ (Prod.ext ?_ ?_) <;> (try dsimp only) <;> omega) | (exfalso; omega)
                  have o1956a : ((xcs B n q)).1 = 0 := by rw [o1956]
                  have o1956b : ((xcs B n q)).2.1 = q := by rw [o1956]
                  have o1956c : ((xcs B n q)).2.2 = (xN B n ((xN B n q))) := by rw [o1956]
                  have _l := @xdper_v B n y d
                  have _k := @xdper_k (H r1 10).toNat d B n y (by omega)
                  rw [← p1] at _k
                  rw [_ea, _eb] at _k
                  have _f : H1932 r1536 6 = xdper B n y d 1 (H r1 10).toNat ∧ H1932 r1536 7 = xdper B n y d 2 (H r1 10).toNat ∧ H1932 r1536 8 = xdper B n y d 3 (H r1 10).toNat ∧ H1932 r1536 9 = xdper B n y d 4 (H r1 10).toNat ∧ H1932 r1536 10 = xdper B n y d 5 (H r1 10).toNat ∧ H1932 r1536 11 = xdper B n y d 6 (H r1 10).toNat ∧ H1932 r1536 12 = xhs (xdper B n y d 7 (H r1 10).toNat) (xdper B n y d 8 (H r1 10).toNat) ∧ H1932 r1536 13 = xdper B n y d 9 (H r1 10).toNat ∧ H1932 r1536 14 = 0 := ⟨by omega, by omega, by omega, by omega, by omega, by omega, by rw [_k.2.2.2.2.2.2.1, _k.2.2.2.2.2.2.2.1]; omega, by omega, by omega⟩
                  have h1957 : TC T H1932 tk B n (xN B n ((xN B n q))) := (TC_fr w1597 gtk ((wfr.rf (l := [(27, 10)])).put' e1933 g1 rfl) rfl h1614)
                  have k1958 : H1932 r1 0 = H r1 0 := ((wq_u_j e1933 rfl).trans ((wq_u_t e1596 g1538 g1 rfl 0).trans ((f1580 r1 0 _ g1 rfl).trans (f1563 r1 0 _ g1 rfl))))
                  have q1959 : H1932 r1 0 = (r1531 : Int) := k1958.trans q1532
                  have k1960 : H1932 r1531 ((H r1 10).toNat) = H r1531 ((H r1 10).toNat) := ((wq_u_t e1933 g1 g1533 rfl ((H r1 10).toNat)).trans ((wq_u_t e1596 g1538 g1533 rfl ((H r1 10).toNat)).trans ((f1580 r1531 ((H r1 10).toNat) _ g1533 rfl).trans (f1563 r1531 ((H r1 10).toNat) _ g1533 rfl))))
                  have q1961 : H1932 r1531 ((H r1 10).toNat) = (r1536 : Int) := k1960.trans q1537
                  have h1962 : ST T H1932 r1 (d 13) := (ST_fr w1597 g1 ((wfr.rf (l := [(27, 10)])).put' e1933 g1 rfl) rfl (ST_fr w1579 g1 ((wfr.rf (l := [(35, 11)])).put' e1596 g1538 rfl) rfl (ST_fr w1562 g1 f1580 rfl (ST_fr hW g1 f1563 rfl h1525))))
                  have h1963 : SV T H1932 r1 (d 13) 24 := (SV_fr w1597 g1 ((wfr.rf (l := [(27, 10)])).put' e1933 g1 rfl) rfl (SV_fr w1579 g1 ((wfr.rf (l := [(35, 11)])).put' e1596 g1538 rfl) rfl (SV_fr w1562 g1 f1580 rfl (SV_fr hW g1 f1563 rfl h1526))))
                  have h1964 : DA3 T H1932 r1 (d 0 5) (d 12) := (DA3_fr w1597 g1 ((wfr.rf (l := [(27, 10)])).put' e1933 g1 rfl) rfl (DA3_fr w1579 g1 ((wfr.rf (l := [(35, 11)])).put' e1596 g1538 rfl) rfl (DA3_fr w1562 g1 f1580 rfl (DA3_fr hW g1 f1563 rfl h1527))))
                  have h1965 : DA4 T H1932 r1 (d 0 6) (d 14) := (DA4_fr w1597 g1 ((wfr.rf (l := [(27, 10)])).put' e1933 g1 rfl) rfl (DA4_fr w1579 g1 ((wfr.rf (l := [(35, 11)])).put' e1596 g1538 rfl) rfl (DA4_fr w1562 g1 f1580 rfl (DA4_fr hW g1 f1563 rfl h1528))))
                  have h1966 : DA5 T H1932 r1 (d 0 6) (d 15) := (DA5_fr w1597 g1 ((wfr.rf (l := [(27, 10)])).put' e1933 g1 rfl) rfl (DA5_fr w1579 g1 ((wfr.rf (l := [(35, 11)])).put' e1596 g1538 rfl) rfl (DA5_fr w1562 g1 f1580 rfl (DA5_fr hW g1 f1563 rfl h1529))))
                  have h1967 : DA6 T H1932 r1 (d 0 7) (d 16) := (DA6_fr w1597 g1 ((wfr.rf (l := [(27, 10)])).put' e1933 g1 rfl) rfl (DA6_fr w1579 g1 ((wfr.rf (l := [(35, 11)])).put' e1596 g1538 rfl) rfl (DA6_fr w1562 g1 f1580 rfl (DA6_fr hW g1 f1563 rfl h1530))))
                  have h1968 : CZ T H1932 r1 (d 0 3 + 1) := (CZ_fr w1597 g1 ((wfr.rf (l := [(27, 10)])).put' e1933 g1 rfl) rfl (CZ_fr w1579 g1 ((wfr.rf (l := [(35, 11)])).put' e1596 g1538 rfl) rfl (CZ_fr w1562 g1 f1580 rfl (CZ_fr hW g1 f1563 rfl hCZ_r1))))
                  exact wp_zreturn e30 c30_146 rfl (by omega) ⟨rfl, w1934, f1935, 1, rfl, ⟨by decide, by decide⟩, (Or.inl ⟨by omega, by omega, by omega, by omega, by rw [o1956]; exact h1957, DC_mk ⟨by omega, by omega, by omega, by omega, by omega, by omega, by omega, by omega, by omega, by omega, by omega, by omega, by omega, by omega, by omega, by omega⟩ (DQ_per g1538 (DQ_oth hW g1 f1935 rfl hDD_r1 q1959 q1961 (by omega) (by omega) (fun a ha ga => ((wq_u_tf e1933 g1 ga (by decide)).trans ((wq_u_nf e1596 ha).trans ((f1580.fn ga rfl).trans (f1563.fn ga rfl))))) hDC_r1.2.1) (by omega) q1959 q1961 (k := (H r1 10).toNat) (by omega) _f) h1962 h1963 h1964 h1965 h1966 h1967 ⟨rfl, rfl, rfl, rfl, rfl⟩ ⟨by omega, by omega, by omega⟩, CZ_le h1968 (by omega)⟩)⟩
                · exfalso
                  omega
            · exfalso
              omega
        · exfalso
          omega
      · have f1969 := f1566.tr f1580 rfl
        show wp _ _ 30 41 [(2, .ref r1536), (0, .ref r0), (1, .ref r1)] [vI z1581, .ref r1536] _ H1575 _
        refine wp_of e30 c30_41 (xp_I (pc' := 44) lf_1_188 w1579 g1538 sh_35 (by decide) (by decide) ty_35_11 rfl rfl (b1582.1) (by omega) ⟨Int.le_trans (by decide) b1582.1, Int.le_trans b1582.2 (by decide)⟩ rfl (fun H1970 e1971 w1972 => ?_))
        have f1973 := f1969.put' e1971 g1538 rfl
        have k1974 : H1970 r1536 11 = z1581 := wq_u_s e1971
        refine wp_of e30 c30_44 (rw_aload_n (pc' := 45) (v := .ref r1536) rfl rfl rfl ?_)
        refine wp_of e30 c30_45 (xg_I (pc' := 48) lf_1_188 w1972 g1538 sh_35 (by decide) (by decide) ty_35_11 rfl rfl (fun b1975 b1976 => ?_))
        refine wp_of e30 c30_48 (rw_if_ge (p1 := 53) (p2 := 51) (by decide) rfl ⟨Int.le_trans (by decide) b1975, Int.le_trans b1976 (by decide)⟩ (fun c1977 => ?_) (fun c1977 => ?_))
        · exfalso
          omega
        · refine wp_of e30 c30_51 (rw_iconst (pc' := 52) rfl ?_)
          have k1978 : H1970 r0 3 = H1575 r0 3 := (wq_u_t e1971 g1538 g0 rfl 3)
          have k1979 : H1970 r0 4 = H1575 r0 4 := (wq_u_t e1971 g1538 g0 rfl 4)
          have o1980 : (xcs B n q) = (xh B n ((xN B n q)) 0 23, ((xN B n q)), ((xN B n q))) := by
            unfold xcs xca xcb
            try rw [_ea]
            try rw [_eb]
            try rw [_ec]
            repeat first | rw [xs_0 (Int.le_antisymm (by omega -splitDisjunctions) (by omega -splitDisjunctions))] | rw [xs_1 (by omega -splitDisjunctions)] | rw [if_pos (Int.le_antisymm (by omega -splitDisjunctions) (by omega -splitDisjunctions))] | rw [if_pos (by omega -splitDisjunctions)] | rw [if_pos (And.intro (by omega -splitDisjunctions) (by omega -splitDisjunctions))] | rw [if_neg (by omega -splitDisjunctions)] | rw [xs_1 (by omega)] | rw [if_neg (by omega)] | rw [xs_0 (by omega)] | rw [if_pos (by omega)]
            first | done | rfl | assumption | (exfalso; omega -splitDisjunctions) | (refine Prod.ext ?_ (Prod.ext ?_ ?_) <;> (try dsimp only) <;> omega) | (exfalso; omega)
          have o1980a : ((xcs B n q)).1 = xh B n ((xN B n q)) 0 23 := by rw [o1980]
          have o1980b : ((xcs B n q)).2.1 = ((xN B n q)) := by rw [o1980]
          have o1980c : ((xcs B n q)).2.2 = ((xN B n q)) := by rw [o1980]
          exact wp_zreturn e30 c30_52 rfl (by omega) ⟨rfl, w1972, f1973, 0, rfl, ⟨by decide, by decide⟩, (Or.inr ⟨by omega, by omega, by omega, by omega, by omega⟩)⟩
  · show wp _ _ 30 23 [(2, .ref r1536), (0, .ref r0), (1, .ref r1)] [vI z1547] _ H _
    refine wp_of e30 c30_23 (rw_if_eq (p1 := 53) (p2 := 26) (by decide) rfl ⟨Int.le_trans (by decide) b1548.1, Int.le_trans b1548.2 (by decide)⟩ (fun c1981 => ?_) (fun c1981 => ?_))
    · have _ea : xqa B n q = q := by
        unfold xqa
        first | rw [if_pos (Int.le_antisymm (by omega -splitDisjunctions) (by omega -splitDisjunctions))] | rw [if_pos (by omega -splitDisjunctions)] | rw [if_pos (And.intro (by omega -splitDisjunctions) (by omega -splitDisjunctions))] | rw [if_neg (by omega -splitDisjunctions)] | rw [if_neg (by omega)] | rw [if_pos (by omega)]
      have _eh : xhb B n q = H r1536 11 := by
        unfold xhb
        first | (rw [if_pos (Int.le_antisymm (by omega -splitDisjunctions) (by omega -splitDisjunctions))]; omega) | (rw [if_pos (by omega -splitDisjunctions)]; omega) | (rw [if_pos (And.intro (by omega -splitDisjunctions) (by omega -splitDisjunctions))]; omega) | (rw [if_neg (by omega -splitDisjunctions)]; omega) | (rw [if_neg (by omega)]; omega) | (rw [if_pos (by omega)]; omega)
      refine wp_of e30 c30_53 (rw_aload_n (pc' := 54) (v := .ref r0) rfl rfl rfl ?_)
      refine wp_of e30 c30_54 (xg_K (pc' := 57) lf_1_12 hW g0 sh_3 (by decide) (by decide) rfl qtk rfl ?_)
      refine wp_of e30 c30_57 (rw_gs (pc' := 60) (k := 25) rfl rfl rfl rfl ?_)
      have k1982 : H 25 0 = ((41 : Nat) : Int) := (hW.2 25 _ (hW.1.2.2 9 (by decide))).2.2 0 (by decide) |> fun z => by have z1 : (41 : Int) ≤ H 25 0 ∧ H 25 0 ≤ 41 := z; omega
      refine wp_of e30 c30_60 (rw_getR (pc' := 63) (n := 2) (b := 41) (e := _) (lf_1_181).choose_spec.1 (lf_1_181).choose_spec.2.1 (hW.sh (hW.1.2.2 9 (by decide)) rfl) (by decide) rfl k1982 rfl ?_)
      refine wp_of e30 c30_63 (xc_V (pc' := 66) (r := tk) (as := [.ref 41]) (st := []) (lm_1_185) rfl rfl (Nat.le_of_ble_eq_true rfl) hW gtk sh_4 (by decide) rfl (by decide) (u_19_t (B := B) (n := n) (q := q) (kk := 14384) hW gtk rfl (by decide +kernel) hTC_tk) (fun R1983 T1984 H1985 p1986 => ?_))
      obtain ⟨e1987, e1989, z1990, e1988, b1991, p1992⟩ := p1986
      subst e1987
      subst e1988
      subst e1989
      rcases p1992 with ⟨a1993, a1994⟩ | ⟨a1995, a1996⟩
      · show wp _ _ 30 66 [(2, .ref r1536), (0, .ref r0), (1, .ref r1)] [vI z1990] _ H _
        refine wp_of e30 c30_66 (rw_if_eq (p1 := 107) (p2 := 69) (by decide) rfl ⟨Int.le_trans (by decide) b1991.1, Int.le_trans b1991.2 (by decide)⟩ (fun c1997 => ?_) (fun c1997 => ?_))
        · exfalso
          omega
        · refine wp_of e30 c30_69 (rw_aload_n (pc' := 70) (v := .ref r0) rfl rfl rfl ?_)
          refine wp_of e30 c30_70 (xg_K (pc' := 73) lf_1_12 hW g0 sh_3 (by decide) (by decide) rfl qtk rfl ?_)
          have h1998 : TP T H rb B := TC_tp hTC_tk qrb
          refine wp_of e30 c30_73 (xc_V (pc' := 76) (r := tk) (as := []) (st := []) (lm_1_74) rfl rfl (Nat.le_of_ble_eq_true rfl) hW gtk sh_4 (by decide) rfl (by decide) (u_16 (B := B) (n := n) (a := (xE B n q)) (q := (xN B n q)) hW gtk qrb grb (by omega) (by omega) (by omega) (rfl) h1998) (fun R1999 T2000 H2001 p2002 => ?_))
          obtain ⟨e2003, w2005, f2006, e2004, p2007⟩ := p2002
          subst e2003
          subst e2004
          have f2009 := f0.tr f2006 rfl
          show wp _ _ 30 76 [(2, .ref r1536), (0, .ref r0), (1, .ref r1)] [] _ H2001 _
          have u2010 := TC_k p2007
          refine wp_of e30 c30_76 (rw_aload_n (pc' := 77) (v := .ref r0) rfl rfl rfl ?_)
          refine wp_of e30 c30_77 (rw_bipush (pc' := 79) (z := 23) rfl (by decide) ?_)
          refine wp_of e30 c30_79 (rw_iconst (pc' := 80) rfl ?_)
          refine wp_of e30 c30_80 (rw_bipush (pc' := 82) (z := 24) rfl (by decide) ?_)
          refine wp_of e30 c30_82 (rw_bipush (pc' := 84) (z := 24) rfl (by decide) ?_)
          have k2011 : H2001 r0 0 = H r0 0 := (f2006 r0 0 _ g0 rfl)
          have q2012 : H2001 r0 0 = (tk : Int) := k2011.trans qtk
          have k2013 : H2001 tk 0 = H tk 0 := (f2006 tk 0 _ gtk rfl)
          have q2014 : H2001 tk 0 = (rb : Int) := k2013.trans qrb
          have k2015 : H2001 r0 3 = H r0 3 := (f2006 r0 3 _ g0 rfl)
          refine wp_of e30 c30_84 (xc_V (pc' := 87) (r := r0) (as := [vI 23, vI 1, vI 24, vI 24]) (st := []) (lm_1_154) rfl rfl (Nat.le_of_ble_eq_true rfl) w2005 g0 sh_3 (by decide) rfl (by decide) (u_29 (B := B) (n := n) (q := ((xN B n q))) w2005 g0 ⟨by decide, by decide⟩ ⟨by decide, by decide⟩ ⟨by decide, by decide⟩ ⟨by decide, by decide⟩ q2012 gtk q2014 grb p2007) (fun R2016 T2017 H2018 p2019 => ?_))
          obtain ⟨e2020, w2022, f2023, z2024, e2021, b2025, p2026⟩ := p2019
          subst e2020
          subst e2021
          rcases p2026 with ⟨a2027, a2028, a2029, a2030, a2031, a2032, a2033, a2034, a2035⟩ | ⟨a2036, a2037, a2038, a2039, a2040⟩
          · have f2041 := f2009.tr f2023 rfl
            show wp _ _ 30 87 [(2, .ref r1536), (0, .ref r0), (1, .ref r1)] [vI z2024] _ H2018 _
            have u2042 := TC_k a2035
            refine wp_of e30 c30_87 (rw_if_ne (p1 := 92) (p2 := 90) (by decide) rfl ⟨Int.le_trans (by decide) b2025.1, Int.le_trans b2025.2 (by decide)⟩ (fun c2043 => ?_) (fun c2043 => ?_))
            · refine wp_of e30 c30_92 (rw_aload_n (pc' := 93) (v := .ref r1536) rfl rfl rfl ?_)
              refine wp_of e30 c30_93 (rw_aload_n (pc' := 94) (v := .ref r0) rfl rfl rfl ?_)
              refine wp_of e30 c30_94 (xg_I (pc' := 97) lf_1_158 w2022 g0 sh_3 (by decide) (by decide) ty_3_1 rfl rfl (fun b2044 b2045 => ?_))
              refine wp_of e30 c30_97 (rw_aload_n (pc' := 98) (v := .ref r0) rfl rfl rfl ?_)
              refine wp_of e30 c30_98 (xg_I (pc' := 101) lf_1_164 w2022 g0 sh_3 (by decide) (by decide) ty_3_2 rfl rfl (fun b2046 b2047 => ?_))
              refine wp_of e30 c30_101 (xc_S (pc' := 104) (as := [vI (H2018 r0 1), vI (H2018 r0 2)]) (st := [.ref r1536]) (lm_1_194) rfl rfl (Nat.le_of_ble_eq_true rfl) rfl (by decide) (u_31 (lo := (xV B n (xN B n q))) (hi := (xV B n (xN B n (xN B n (xN B n q))))) w2022 ⟨by omega, b2045⟩ ⟨by omega, Int.le_trans b2047 (by decide)⟩ (by omega) (by omega) (by omega)) (fun R2048 T2049 H2050 p2051 => ?_))
              obtain ⟨e2052, e2054, z2055, e2053, b2056, p2057⟩ := p2051
              subst e2052
              subst e2053
              subst e2054
              show wp _ _ 30 104 [(2, .ref r1536), (0, .ref r0), (1, .ref r1)] [vI z2055, .ref r1536] _ H2018 _
              refine wp_of e30 c30_104 (xp_I (pc' := 107) lf_1_197 w2022 g1538 sh_35 (by decide) (by decide) ty_35_12 rfl rfl (Int.le_trans (by decide) b2056.1) (Int.le_trans b2056.2 (by decide)) ⟨Int.le_trans (by decide) b2056.1, Int.le_trans b2056.2 (by decide)⟩ rfl (fun H2059 e2060 w2061 => ?_))
              have f2062 := f2041.put' e2060 g1538 rfl
              have k2063 : H2059 r1536 12 = z2055 := wq_u_s e2060
              have _eb : xqb B n q = ((xN B n (xN B n (xN B n ((xN B n q)))))) := by
                unfold xqb
                first | rw [if_pos (Int.le_antisymm (by omega -splitDisjunctions) (by omega -splitDisjunctions))] | rw [if_pos (by omega -splitDisjunctions)] | rw [if_pos (And.intro (by omega -splitDisjunctions) (by omega -splitDisjunctions))] | rw [if_neg (by omega -splitDisjunctions)] | rw [if_neg (by omega)] | rw [if_pos (by omega)]
              have k2064 : H2059 r1536 6 = H r1536 6 := ((wq_u_j e2060 rfl).trans ((f2023 r1536 6 _ g1538 rfl).trans (f2006 r1536 6 _ g1538 rfl)))
              have k2065 : H2059 r1536 7 = H r1536 7 := ((wq_u_j e2060 rfl).trans ((f2023 r1536 7 _ g1538 rfl).trans (f2006 r1536 7 _ g1538 rfl)))
              have k2066 : H2059 r1536 8 = H r1536 8 := ((wq_u_j e2060 rfl).trans ((f2023 r1536 8 _ g1538 rfl).trans (f2006 r1536 8 _ g1538 rfl)))
              have k2067 : H2059 r1536 9 = H r1536 9 := ((wq_u_j e2060 rfl).trans ((f2023 r1536 9 _ g1538 rfl).trans (f2006 r1536 9 _ g1538 rfl)))
              have k2068 : H2059 r1536 10 = H r1536 10 := ((wq_u_j e2060 rfl).trans ((f2023 r1536 10 _ g1538 rfl).trans (f2006 r1536 10 _ g1538 rfl)))
              have k2069 : H2059 r1536 11 = H r1536 11 := ((wq_u_j e2060 rfl).trans ((f2023 r1536 11 _ g1538 rfl).trans (f2006 r1536 11 _ g1538 rfl)))
              have k2070 : H2059 r1536 13 = H r1536 13 := ((wq_u_j e2060 rfl).trans ((f2023 r1536 13 _ g1538 rfl).trans (f2006 r1536 13 _ g1538 rfl)))
              have k2071 : H2059 r1536 14 = H r1536 14 := ((wq_u_j e2060 rfl).trans ((f2023 r1536 14 _ g1538 rfl).trans (f2006 r1536 14 _ g1538 rfl)))
              have _en : H2059 r1536 12 = xhs (xnf B n q) (xnt B n q) := by
                unfold xnf xnt
                first | (rw [if_pos (Int.le_antisymm (by omega -splitDisjunctions) (by omega -splitDisjunctions)), if_pos (Int.le_antisymm (by omega -splitDisjunctions) (by omega -splitDisjunctions))]; omega) | (rw [if_pos (by omega -splitDisjunctions), if_pos (by omega -splitDisjunctions)]; omega) | (rw [if_neg (by omega -splitDisjunctions), if_neg (by omega -splitDisjunctions)]; omega) | (rw [if_pos (by omega), if_pos (by omega)]; omega) | (rw [if_neg (by omega), if_neg (by omega)]; omega)
              refine wp_of e30 c30_107 (rw_aload_n (pc' := 108) (v := .ref r0) rfl rfl rfl ?_)
              have k2072 : H2059 r0 0 = H2001 r0 0 := ((wq_u_t e2060 g1538 g0 rfl 0).trans (f2023 r0 0 _ g0 rfl))
              have q2073 : H2059 r0 0 = (tk : Int) := k2072.trans q2012
              refine wp_of e30 c30_108 (xg_K (pc' := 111) lf_1_12 w2061 g0 sh_3 (by decide) (by decide) rfl q2073 rfl ?_)
              refine wp_of e30 c30_111 (rw_gs (pc' := 114) (k := 26) rfl rfl rfl rfl ?_)
              have k2074 : H2059 26 0 = ((42 : Nat) : Int) := (w2061.2 26 _ (w2061.1.2.2 10 (by decide))).2.2 0 (by decide) |> fun z => by have z1 : (42 : Int) ≤ H2059 26 0 ∧ H2059 26 0 ≤ 42 := z; omega
              refine wp_of e30 c30_114 (rw_getR (pc' := 117) (n := 2) (b := 42) (e := _) (lf_1_181).choose_spec.1 (lf_1_181).choose_spec.2.1 (w2061.sh (w2061.1.2.2 10 (by decide)) rfl) (by decide) rfl k2074 rfl ?_)
              have h2075 : TC T H2059 tk B n (xN B n (xN B n (xN B n ((xN B n q))))) := (TC_fr w2022 gtk ((wfr.rf (l := [(35, 12)])).put' e2060 g1538 rfl) rfl a2035)
              refine wp_of e30 c30_117 (xc_V (pc' := 120) (r := tk) (as := [.ref 42]) (st := []) (lm_1_185) rfl rfl (Nat.le_of_ble_eq_true rfl) w2061 gtk sh_4 (by decide) rfl (by decide) (u_19_t (B := B) (n := n) (q := ((xN B n (xN B n (xN B n ((xN B n q))))))) (kk := 56377) w2061 gtk rfl (by decide +kernel) h2075) (fun R2076 T2077 H2078 p2079 => ?_))
              obtain ⟨e2080, e2082, z2083, e2081, b2084, p2085⟩ := p2079
              subst e2080
              subst e2081
              subst e2082
              rcases p2085 with ⟨a2086, a2087⟩ | ⟨a2088, a2089⟩
              · show wp _ _ 30 120 [(2, .ref r1536), (0, .ref r0), (1, .ref r1)] [vI z2083] _ H2059 _
                refine wp_of e30 c30_120 (rw_if_eq (p1 := 135) (p2 := 123) (by decide) rfl ⟨Int.le_trans (by decide) b2084.1, Int.le_trans b2084.2 (by decide)⟩ (fun c2090 => ?_) (fun c2090 => ?_))
                · exfalso
                  omega
                · refine wp_of e30 c30_123 (rw_aload_n (pc' := 124) (v := .ref r0) rfl rfl rfl ?_)
                  refine wp_of e30 c30_124 (xg_K (pc' := 127) lf_1_12 w2061 g0 sh_3 (by decide) (by decide) rfl q2073 rfl ?_)
                  have k2091 : H2059 tk 0 = H2001 tk 0 := ((wq_u_t e2060 g1538 gtk rfl 0).trans (f2023 tk 0 _ gtk rfl))
                  have q2092 : H2059 tk 0 = (rb : Int) := k2091.trans q2014
                  have k2093 : H2059 tk 1 = H2018 tk 1 := (wq_u_t e2060 g1538 gtk rfl 1)
                  have k2094 : H2059 tk 2 = H2018 tk 2 := (wq_u_t e2060 g1538 gtk rfl 2)
                  have h2095 : TP T H2059 rb B := (TP_fr w2022 grb ((wfr.rf (l := [(35, 12)])).put' e2060 g1538 rfl) rfl (TP_fr w2005 grb f2023 rfl (TP_fr hW grb f2006 rfl h1998)))
                  refine wp_of e30 c30_127 (xc_V (pc' := 130) (r := tk) (as := []) (st := []) (lm_1_74) rfl rfl (Nat.le_of_ble_eq_true rfl) w2061 gtk sh_4 (by decide) rfl (by decide) (u_16 (B := B) (n := n) (a := (xE B n ((xN B n (xN B n (xN B n ((xN B n q)))))))) (q := (xN B n ((xN B n (xN B n (xN B n ((xN B n q)))))))) w2061 gtk q2092 grb (by omega) (by omega) (by omega) (rfl) h2095) (fun R2096 T2097 H2098 p2099 => ?_))
                  obtain ⟨e2100, w2102, f2103, e2101, p2104⟩ := p2099
                  subst e2100
                  subst e2101
                  have f2106 := f2062.tr f2103 rfl
                  show wp _ _ 30 130 [(2, .ref r1536), (0, .ref r0), (1, .ref r1)] [] _ H2098 _
                  have u2107 := TC_k p2104
                  refine wp_of e30 c30_130 (rw_aload_n (pc' := 131) (v := .ref r1536) rfl rfl rfl ?_)
                  refine wp_of e30 c30_131 (rw_iconst (pc' := 132) rfl ?_)
                  refine wp_of e30 c30_132 (xp_Z (pc' := 135) lf_1_203 w2102 g1538 sh_35 (by decide) (by decide) ty_35_13 rfl rfl (by decide) (by decide) rfl (fun H2108 e2109 w2110 => ?_))
                  have f2111 := f2106.put' e2109 g1538 rfl
                  have k2112 : H2108 r1536 13 = 1 := wq_u_s e2109
                  have _ec : xqc B n ((xN B n (xN B n (xN B n ((xN B n q)))))) = ((xN B n ((xN B n (xN B n (xN B n ((xN B n q)))))))) := by
                    unfold xqc
                    first | rw [if_pos (Int.le_antisymm (by omega -splitDisjunctions) (by omega -splitDisjunctions))] | rw [if_pos (by omega -splitDisjunctions)] | rw [if_pos (And.intro (by omega -splitDisjunctions) (by omega -splitDisjunctions))] | rw [if_neg (by omega -splitDisjunctions)] | rw [if_neg (by omega)] | rw [if_pos (by omega)]
                  have k2113 : H2108 r1536 6 = H2059 r1536 6 := ((wq_u_j e2109 rfl).trans (f2103 r1536 6 _ g1538 rfl))
                  have k2114 : H2108 r1536 7 = H2059 r1536 7 := ((wq_u_j e2109 rfl).trans (f2103 r1536 7 _ g1538 rfl))
                  have k2115 : H2108 r1536 8 = H2059 r1536 8 := ((wq_u_j e2109 rfl).trans (f2103 r1536 8 _ g1538 rfl))
                  have k2116 : H2108 r1536 9 = H2059 r1536 9 := ((wq_u_j e2109 rfl).trans (f2103 r1536 9 _ g1538 rfl))
                  have k2117 : H2108 r1536 10 = H2059 r1536 10 := ((wq_u_j e2109 rfl).trans (f2103 r1536 10 _ g1538 rfl))
                  have k2118 : H2108 r1536 11 = H2059 r1536 11 := ((wq_u_j e2109 rfl).trans (f2103 r1536 11 _ g1538 rfl))
                  have k2119 : H2108 r1536 12 = H2059 r1536 12 := ((wq_u_j e2109 rfl).trans (f2103 r1536 12 _ g1538 rfl))
                  have k2120 : H2108 r1536 14 = H2059 r1536 14 := ((wq_u_j e2109 rfl).trans (f2103 r1536 14 _ g1538 rfl))
                  have _ew : xaw B n ((xN B n (xN B n (xN B n ((xN B n q)))))) = H2108 r1536 13 := by
                    unfold xaw
                    first | (rw [if_pos (Int.le_antisymm (by omega -splitDisjunctions) (by omega -splitDisjunctions))]; omega) | (rw [if_pos (by omega -splitDisjunctions)]; omega) | (rw [if_pos (And.intro (by omega -splitDisjunctions) (by omega -splitDisjunctions))]; omega) | (rw [if_neg (by omega -splitDisjunctions)]; omega) | (rw [if_neg (by omega)]; omega) | (rw [if_pos (by omega)]; omega)
                  refine wp_of e30 c30_135 (rw_aload_n (pc' := 136) (v := .ref r1) rfl rfl rfl ?_)
                  refine wp_of e30 c30_136 (rw_dup (pc' := 137) rfl rfl ?_)
                  have k2121 : H2108 r1 10 = H r1 10 := ((wq_u_t e2109 g1538 g1 rfl 10).trans ((f2103 r1 10 _ g1 rfl).trans ((wq_u_t e2060 g1538 g1 rfl 10).trans ((f2023 r1 10 _ g1 rfl).trans (f2006 r1 10 _ g1 rfl)))))
                  refine wp_of e30 c30_137 (xg_I (pc' := 140) lf_1_44 w2110 g1 sh_27 (by decide) (by decide) ty_27_10 rfl rfl (fun b2122 b2123 => ?_))
                  refine wp_of e30 c30_140 (rw_iconst (pc' := 141) rfl ?_)
                  refine wp_of e30 c30_141 (rw_iadd (pc' := 142) rfl ?_)
                  refine wp_of e30 c30_142 (xp_I (pc' := 145) lf_1_44 w2110 g1 sh_27 (by decide) (by decide) ty_27_10 rfl rfl (by omega) (by omega) ⟨by omega, by omega⟩ rfl (fun H2124 e2125 w2126 => ?_))
                  have f2127 := f2111.put' e2125 g1 rfl
                  have k2128 : H2124 r1 10 = (H2108 r1 10) + 1 := wq_u_s e2125
                  refine wp_of e30 c30_145 (rw_iconst (pc' := 146) rfl ?_)
                  have k2129 : H2124 r0 3 = H2018 r0 3 := ((wq_u_t e2125 g1 g0 rfl 3).trans ((wq_u_t e2109 g1538 g0 rfl 3).trans ((f2103 r0 3 _ g0 rfl).trans (wq_u_t e2060 g1538 g0 rfl 3))))
                  have k2130 : H2124 r1 7 = H r1 7 := ((wq_u_j e2125 rfl).trans ((wq_u_t e2109 g1538 g1 rfl 7).trans ((f2103 r1 7 _ g1 rfl).trans ((wq_u_t e2060 g1538 g1 rfl 7).trans ((f2023 r1 7 _ g1 rfl).trans (f2006 r1 7 _ g1 rfl))))))
                  have k2131 : H2124 r1 8 = H r1 8 := ((wq_u_j e2125 rfl).trans ((wq_u_t e2109 g1538 g1 rfl 8).trans ((f2103 r1 8 _ g1 rfl).trans ((wq_u_t e2060 g1538 g1 rfl 8).trans ((f2023 r1 8 _ g1 rfl).trans (f2006 r1 8 _ g1 rfl))))))
                  have k2132 : H2124 r1 9 = H r1 9 := ((wq_u_j e2125 rfl).trans ((wq_u_t e2109 g1538 g1 rfl 9).trans ((f2103 r1 9 _ g1 rfl).trans ((wq_u_t e2060 g1538 g1 rfl 9).trans ((f2023 r1 9 _ g1 rfl).trans (f2006 r1 9 _ g1 rfl))))))
                  have k2133 : H2124 r1 11 = H r1 11 := ((wq_u_j e2125 rfl).trans ((wq_u_t e2109 g1538 g1 rfl 11).trans ((f2103 r1 11 _ g1 rfl).trans ((wq_u_t e2060 g1538 g1 rfl 11).trans ((f2023 r1 11 _ g1 rfl).trans (f2006 r1 11 _ g1 rfl))))))
                  have k2134 : H2124 r1 12 = H r1 12 := ((wq_u_j e2125 rfl).trans ((wq_u_t e2109 g1538 g1 rfl 12).trans ((f2103 r1 12 _ g1 rfl).trans ((wq_u_t e2060 g1538 g1 rfl 12).trans ((f2023 r1 12 _ g1 rfl).trans (f2006 r1 12 _ g1 rfl))))))
                  have k2135 : H2124 r1 13 = H r1 13 := ((wq_u_j e2125 rfl).trans ((wq_u_t e2109 g1538 g1 rfl 13).trans ((f2103 r1 13 _ g1 rfl).trans ((wq_u_t e2060 g1538 g1 rfl 13).trans ((f2023 r1 13 _ g1 rfl).trans (f2006 r1 13 _ g1 rfl))))))
                  have k2136 : H2124 r1 14 = H r1 14 := ((wq_u_j e2125 rfl).trans ((wq_u_t e2109 g1538 g1 rfl 14).trans ((f2103 r1 14 _ g1 rfl).trans ((wq_u_t e2060 g1538 g1 rfl 14).trans ((f2023 r1 14 _ g1 rfl).trans (f2006 r1 14 _ g1 rfl))))))
                  have k2137 : H2124 r1 15 = H r1 15 := ((wq_u_j e2125 rfl).trans ((wq_u_t e2109 g1538 g1 rfl 15).trans ((f2103 r1 15 _ g1 rfl).trans ((wq_u_t e2060 g1538 g1 rfl 15).trans ((f2023 r1 15 _ g1 rfl).trans (f2006 r1 15 _ g1 rfl))))))
                  have k2138 : H2124 r1 16 = H r1 16 := ((wq_u_j e2125 rfl).trans ((wq_u_t e2109 g1538 g1 rfl 16).trans ((f2103 r1 16 _ g1 rfl).trans ((wq_u_t e2060 g1538 g1 rfl 16).trans ((f2023 r1 16 _ g1 rfl).trans (f2006 r1 16 _ g1 rfl))))))
                  have k2139 : H2124 r1536 6 = H2108 r1536 6 := (wq_u_t e2125 g1 g1538 rfl 6)
                  have k2140 : H2124 r1536 7 = H2108 r1536 7 := (wq_u_t e2125 g1 g1538 rfl 7)
                  have k2141 : H2124 r1536 8 = H2108 r1536 8 := (wq_u_t e2125 g1 g1538 rfl 8)
                  have k2142 : H2124 r1536 9 = H2108 r1536 9 := (wq_u_t e2125 g1 g1538 rfl 9)
                  have k2143 : H2124 r1536 10 = H2108 r1536 10 := (wq_u_t e2125 g1 g1538 rfl 10)
                  have k2144 : H2124 r1536 11 = H2108 r1536 11 := (wq_u_t e2125 g1 g1538 rfl 11)
                  have k2145 : H2124 r1536 12 = H2108 r1536 12 := (wq_u_t e2125 g1 g1538 rfl 12)
                  have k2146 : H2124 r1536 13 = H2108 r1536 13 := (wq_u_t e2125 g1 g1538 rfl 13)
                  have k2147 : H2124 r1536 14 = H2108 r1536 14 := (wq_u_t e2125 g1 g1538 rfl 14)
                  have o2148 : (xcs B n q) = (0, q, (xN B n ((xN B n (xN B n (xN B n ((xN B n q)))))))) := by
                    unfold xcs xca xcb
                    try rw [_ea]
                    try rw [_eb]
                    try rw [_ec]
                    repeat first | rw [xs_0 (Int.le_antisymm (by omega -splitDisjunctions) (by omega -splitDisjunctions))] | rw [xs_1 (by omega -splitDisjunctions)] | rw [if_pos (Int.le_antisymm (by omega -splitDisjunctions) (by omega -splitDisjunctions))] | rw [if_pos (by omega -splitDisjunctions)] | rw [if_pos (And.intro (by omega -splitDisjunctions) (by omega -splitDisjunctions))] | rw [if_neg (by omega -splitDisjunctions)] | rw [xs_1 (by omega)] | rw [if_neg (by omega)] | rw [xs_0 (by omega)] | rw [if_pos (by omega)]
                    first | done | rfl | assumption | (exfalso; omega -splitDisjunctions) | (refine Prod.ext ?_ (Prod.ext ?_ ?_) <;> (try dsimp only) <;> omega) | (exfalso; omega)
                  have o2148a : ((xcs B n q)).1 = 0 := by rw [o2148]
                  have o2148b : ((xcs B n q)).2.1 = q := by rw [o2148]
                  have o2148c : ((xcs B n q)).2.2 = (xN B n ((xN B n (xN B n (xN B n ((xN B n q))))))) := by rw [o2148]
                  have _l := @xdper_v B n y d
                  have _k := @xdper_k (H r1 10).toNat d B n y (by omega)
                  rw [← p1] at _k
                  rw [_ea, _eb] at _k
                  have _f : H2124 r1536 6 = xdper B n y d 1 (H r1 10).toNat ∧ H2124 r1536 7 = xdper B n y d 2 (H r1 10).toNat ∧ H2124 r1536 8 = xdper B n y d 3 (H r1 10).toNat ∧ H2124 r1536 9 = xdper B n y d 4 (H r1 10).toNat ∧ H2124 r1536 10 = xdper B n y d 5 (H r1 10).toNat ∧ H2124 r1536 11 = xdper B n y d 6 (H r1 10).toNat ∧ H2124 r1536 12 = xhs (xdper B n y d 7 (H r1 10).toNat) (xdper B n y d 8 (H r1 10).toNat) ∧ H2124 r1536 13 = xdper B n y d 9 (H r1 10).toNat ∧ H2124 r1536 14 = 0 := ⟨by omega, by omega, by omega, by omega, by omega, by omega, by rw [_k.2.2.2.2.2.2.1, _k.2.2.2.2.2.2.2.1]; omega, by omega, by omega⟩
                  have h2149 : TC T H2124 tk B n (xN B n ((xN B n (xN B n (xN B n ((xN B n q))))))) := (TC_fr w2110 gtk ((wfr.rf (l := [(27, 10)])).put' e2125 g1 rfl) rfl (TC_fr w2102 gtk ((wfr.rf (l := [(35, 13)])).put' e2109 g1538 rfl) rfl p2104))
                  have k2150 : H2124 r1 0 = H r1 0 := ((wq_u_j e2125 rfl).trans ((wq_u_t e2109 g1538 g1 rfl 0).trans ((f2103 r1 0 _ g1 rfl).trans ((wq_u_t e2060 g1538 g1 rfl 0).trans ((f2023 r1 0 _ g1 rfl).trans (f2006 r1 0 _ g1 rfl))))))
                  have q2151 : H2124 r1 0 = (r1531 : Int) := k2150.trans q1532
                  have k2152 : H2124 r1531 ((H r1 10).toNat) = H r1531 ((H r1 10).toNat) := ((wq_u_t e2125 g1 g1533 rfl ((H r1 10).toNat)).trans ((wq_u_t e2109 g1538 g1533 rfl ((H r1 10).toNat)).trans ((f2103 r1531 ((H r1 10).toNat) _ g1533 rfl).trans ((wq_u_t e2060 g1538 g1533 rfl ((H r1 10).toNat)).trans ((f2023 r1531 ((H r1 10).toNat) _ g1533 rfl).trans (f2006 r1531 ((H r1 10).toNat) _ g1533 rfl))))))
                  have q2153 : H2124 r1531 ((H r1 10).toNat) = (r1536 : Int) := k2152.trans q1537
                  have h2154 : ST T H2124 r1 (d 13) := (ST_fr w2110 g1 ((wfr.rf (l := [(27, 10)])).put' e2125 g1 rfl) rfl (ST_fr w2102 g1 ((wfr.rf (l := [(35, 13)])).put' e2109 g1538 rfl) rfl (ST_fr w2061 g1 f2103 rfl (ST_fr w2022 g1 ((wfr.rf (l := [(35, 12)])).put' e2060 g1538 rfl) rfl (ST_fr w2005 g1 f2023 rfl (ST_fr hW g1 f2006 rfl h1525))))))
                  have h2155 : SV T H2124 r1 (d 13) 24 := (SV_fr w2110 g1 ((wfr.rf (l := [(27, 10)])).put' e2125 g1 rfl) rfl (SV_fr w2102 g1 ((wfr.rf (l := [(35, 13)])).put' e2109 g1538 rfl) rfl (SV_fr w2061 g1 f2103 rfl (SV_fr w2022 g1 ((wfr.rf (l := [(35, 12)])).put' e2060 g1538 rfl) rfl (SV_fr w2005 g1 f2023 rfl (SV_fr hW g1 f2006 rfl h1526))))))
                  have h2156 : DA3 T H2124 r1 (d 0 5) (d 12) := (DA3_fr w2110 g1 ((wfr.rf (l := [(27, 10)])).put' e2125 g1 rfl) rfl (DA3_fr w2102 g1 ((wfr.rf (l := [(35, 13)])).put' e2109 g1538 rfl) rfl (DA3_fr w2061 g1 f2103 rfl (DA3_fr w2022 g1 ((wfr.rf (l := [(35, 12)])).put' e2060 g1538 rfl) rfl (DA3_fr w2005 g1 f2023 rfl (DA3_fr hW g1 f2006 rfl h1527))))))
                  have h2157 : DA4 T H2124 r1 (d 0 6) (d 14) := (DA4_fr w2110 g1 ((wfr.rf (l := [(27, 10)])).put' e2125 g1 rfl) rfl (DA4_fr w2102 g1 ((wfr.rf (l := [(35, 13)])).put' e2109 g1538 rfl) rfl (DA4_fr w2061 g1 f2103 rfl (DA4_fr w2022 g1 ((wfr.rf (l := [(35, 12)])).put' e2060 g1538 rfl) rfl (DA4_fr w2005 g1 f2023 rfl (DA4_fr hW g1 f2006 rfl h1528))))))
                  have h2158 : DA5 T H2124 r1 (d 0 6) (d 15) := (DA5_fr w2110 g1 ((wfr.rf (l := [(27, 10)])).put' e2125 g1 rfl) rfl (DA5_fr w2102 g1 ((wfr.rf (l := [(35, 13)])).put' e2109 g1538 rfl) rfl (DA5_fr w2061 g1 f2103 rfl (DA5_fr w2022 g1 ((wfr.rf (l := [(35, 12)])).put' e2060 g1538 rfl) rfl (DA5_fr w2005 g1 f2023 rfl (DA5_fr hW g1 f2006 rfl h1529))))))
                  have h2159 : DA6 T H2124 r1 (d 0 7) (d 16) := (DA6_fr w2110 g1 ((wfr.rf (l := [(27, 10)])).put' e2125 g1 rfl) rfl (DA6_fr w2102 g1 ((wfr.rf (l := [(35, 13)])).put' e2109 g1538 rfl) rfl (DA6_fr w2061 g1 f2103 rfl (DA6_fr w2022 g1 ((wfr.rf (l := [(35, 12)])).put' e2060 g1538 rfl) rfl (DA6_fr w2005 g1 f2023 rfl (DA6_fr hW g1 f2006 rfl h1530))))))
                  have h2160 : CZ T H2124 r1 (d 0 3 + 1) := (CZ_fr w2110 g1 ((wfr.rf (l := [(27, 10)])).put' e2125 g1 rfl) rfl (CZ_fr w2102 g1 ((wfr.rf (l := [(35, 13)])).put' e2109 g1538 rfl) rfl (CZ_fr w2061 g1 f2103 rfl (CZ_fr w2022 g1 ((wfr.rf (l := [(35, 12)])).put' e2060 g1538 rfl) rfl (CZ_fr w2005 g1 f2023 rfl (CZ_fr hW g1 f2006 rfl hCZ_r1))))))
                  exact wp_zreturn e30 c30_146 rfl (by omega) ⟨rfl, w2126, f2127, 1, rfl, ⟨by decide, by decide⟩, (Or.inl ⟨by omega, by omega, by omega, by omega, by rw [o2148]; exact h2149, DC_mk ⟨by omega, by omega, by omega, by omega, by omega, by omega, by omega, by omega, by omega, by omega, by omega, by omega, by omega, by omega, by omega, by omega⟩ (DQ_per g1538 (DQ_oth hW g1 f2127 rfl hDD_r1 q2151 q2153 (by omega) (by omega) (fun a ha ga => ((wq_u_tf e2125 g1 ga (by decide)).trans ((wq_u_nf e2109 ha).trans ((f2103.fn ga rfl).trans ((wq_u_nf e2060 ha).trans ((f2023.fn ga rfl).trans (f2006.fn ga rfl))))))) hDC_r1.2.1) (by omega) q2151 q2153 (k := (H r1 10).toNat) (by omega) _f) h2154 h2155 h2156 h2157 h2158 h2159 ⟨rfl, rfl, rfl, rfl, rfl⟩ ⟨by omega, by omega, by omega⟩, CZ_le h2160 (by omega)⟩)⟩
              · show wp _ _ 30 120 [(2, .ref r1536), (0, .ref r0), (1, .ref r1)] [vI z2083] _ H2059 _
                refine wp_of e30 c30_120 (rw_if_eq (p1 := 135) (p2 := 123) (by decide) rfl ⟨Int.le_trans (by decide) b2084.1, Int.le_trans b2084.2 (by decide)⟩ (fun c2161 => ?_) (fun c2161 => ?_))
                · have _ec : xqc B n ((xN B n (xN B n (xN B n ((xN B n q)))))) = ((xN B n (xN B n (xN B n ((xN B n q)))))) := by
                    unfold xqc
                    first | rw [if_pos (Int.le_antisymm (by omega -splitDisjunctions) (by omega -splitDisjunctions))] | rw [if_pos (by omega -splitDisjunctions)] | rw [if_pos (And.intro (by omega -splitDisjunctions) (by omega -splitDisjunctions))] | rw [if_neg (by omega -splitDisjunctions)] | rw [if_neg (by omega)] | rw [if_pos (by omega)]
                  have _ew : xaw B n ((xN B n (xN B n (xN B n ((xN B n q)))))) = H2059 r1536 13 := by
                    unfold xaw
                    first | (rw [if_pos (Int.le_antisymm (by omega -splitDisjunctions) (by omega -splitDisjunctions))]; omega) | (rw [if_pos (by omega -splitDisjunctions)]; omega) | (rw [if_pos (And.intro (by omega -splitDisjunctions) (by omega -splitDisjunctions))]; omega) | (rw [if_neg (by omega -splitDisjunctions)]; omega) | (rw [if_neg (by omega)]; omega) | (rw [if_pos (by omega)]; omega)
                  refine wp_of e30 c30_135 (rw_aload_n (pc' := 136) (v := .ref r1) rfl rfl rfl ?_)
                  refine wp_of e30 c30_136 (rw_dup (pc' := 137) rfl rfl ?_)
                  have k2162 : H2059 r1 10 = H r1 10 := ((wq_u_t e2060 g1538 g1 rfl 10).trans ((f2023 r1 10 _ g1 rfl).trans (f2006 r1 10 _ g1 rfl)))
                  refine wp_of e30 c30_137 (xg_I (pc' := 140) lf_1_44 w2061 g1 sh_27 (by decide) (by decide) ty_27_10 rfl rfl (fun b2163 b2164 => ?_))
                  refine wp_of e30 c30_140 (rw_iconst (pc' := 141) rfl ?_)
                  refine wp_of e30 c30_141 (rw_iadd (pc' := 142) rfl ?_)
                  refine wp_of e30 c30_142 (xp_I (pc' := 145) lf_1_44 w2061 g1 sh_27 (by decide) (by decide) ty_27_10 rfl rfl (by omega) (by omega) ⟨by omega, by omega⟩ rfl (fun H2165 e2166 w2167 => ?_))
                  have f2168 := f2062.put' e2166 g1 rfl
                  have k2169 : H2165 r1 10 = (H2059 r1 10) + 1 := wq_u_s e2166
                  refine wp_of e30 c30_145 (rw_iconst (pc' := 146) rfl ?_)
                  have k2170 : H2165 r0 3 = H2018 r0 3 := ((wq_u_t e2166 g1 g0 rfl 3).trans (wq_u_t e2060 g1538 g0 rfl 3))
                  have k2171 : H2165 r1 7 = H r1 7 := ((wq_u_j e2166 rfl).trans ((wq_u_t e2060 g1538 g1 rfl 7).trans ((f2023 r1 7 _ g1 rfl).trans (f2006 r1 7 _ g1 rfl))))
                  have k2172 : H2165 r1 8 = H r1 8 := ((wq_u_j e2166 rfl).trans ((wq_u_t e2060 g1538 g1 rfl 8).trans ((f2023 r1 8 _ g1 rfl).trans (f2006 r1 8 _ g1 rfl))))
                  have k2173 : H2165 r1 9 = H r1 9 := ((wq_u_j e2166 rfl).trans ((wq_u_t e2060 g1538 g1 rfl 9).trans ((f2023 r1 9 _ g1 rfl).trans (f2006 r1 9 _ g1 rfl))))
                  have k2174 : H2165 r1 11 = H r1 11 := ((wq_u_j e2166 rfl).trans ((wq_u_t e2060 g1538 g1 rfl 11).trans ((f2023 r1 11 _ g1 rfl).trans (f2006 r1 11 _ g1 rfl))))
                  have k2175 : H2165 r1 12 = H r1 12 := ((wq_u_j e2166 rfl).trans ((wq_u_t e2060 g1538 g1 rfl 12).trans ((f2023 r1 12 _ g1 rfl).trans (f2006 r1 12 _ g1 rfl))))
                  have k2176 : H2165 r1 13 = H r1 13 := ((wq_u_j e2166 rfl).trans ((wq_u_t e2060 g1538 g1 rfl 13).trans ((f2023 r1 13 _ g1 rfl).trans (f2006 r1 13 _ g1 rfl))))
                  have k2177 : H2165 r1 14 = H r1 14 := ((wq_u_j e2166 rfl).trans ((wq_u_t e2060 g1538 g1 rfl 14).trans ((f2023 r1 14 _ g1 rfl).trans (f2006 r1 14 _ g1 rfl))))
                  have k2178 : H2165 r1 15 = H r1 15 := ((wq_u_j e2166 rfl).trans ((wq_u_t e2060 g1538 g1 rfl 15).trans ((f2023 r1 15 _ g1 rfl).trans (f2006 r1 15 _ g1 rfl))))
                  have k2179 : H2165 r1 16 = H r1 16 := ((wq_u_j e2166 rfl).trans ((wq_u_t e2060 g1538 g1 rfl 16).trans ((f2023 r1 16 _ g1 rfl).trans (f2006 r1 16 _ g1 rfl))))
                  have k2180 : H2165 r1536 6 = H2059 r1536 6 := (wq_u_t e2166 g1 g1538 rfl 6)
                  have k2181 : H2165 r1536 7 = H2059 r1536 7 := (wq_u_t e2166 g1 g1538 rfl 7)
                  have k2182 : H2165 r1536 8 = H2059 r1536 8 := (wq_u_t e2166 g1 g1538 rfl 8)
                  have k2183 : H2165 r1536 9 = H2059 r1536 9 := (wq_u_t e2166 g1 g1538 rfl 9)
                  have k2184 : H2165 r1536 10 = H2059 r1536 10 := (wq_u_t e2166 g1 g1538 rfl 10)
                  have k2185 : H2165 r1536 11 = H2059 r1536 11 := (wq_u_t e2166 g1 g1538 rfl 11)
                  have k2186 : H2165 r1536 12 = H2059 r1536 12 := (wq_u_t e2166 g1 g1538 rfl 12)
                  have k2187 : H2165 r1536 13 = H2059 r1536 13 := (wq_u_t e2166 g1 g1538 rfl 13)
                  have k2188 : H2165 r1536 14 = H2059 r1536 14 := (wq_u_t e2166 g1 g1538 rfl 14)
                  have o2189 : (xcs B n q) = (0, q, (xN B n (xN B n (xN B n ((xN B n q)))))) := by
                    unfold xcs xca xcb
                    try rw [_ea]
                    try rw [_eb]
                    try rw [_ec]
                    repeat first | rw [xs_0 (Int.le_antisymm (by omega -splitDisjunctions) (by omega -splitDisjunctions))] | rw [xs_1 (by omega -splitDisjunctions)] | rw [if_pos (Int.le_antisymm (by omega -splitDisjunctions) (by omega -splitDisjunctions))] | rw [if_pos (by omega -splitDisjunctions)] | rw [if_pos (And.intro (by omega -splitDisjunctions) (by omega -splitDisjunctions))] | rw [if_neg (by omega -splitDisjunctions)] | rw [xs_1 (by omega)] | rw [if_neg (by omega)] | rw [xs_0 (by omega)] | rw [if_pos (by omega)]
                    first | done | rfl | assumption | (exfalso; omega -splitDisjunctions) | (refine Prod.ext ?_ (Prod.ext ?_ ?_) <;> (try dsimp only) <;> omega) | (exfalso; omega)
                  have o2189a : ((xcs B n q)).1 = 0 := by rw [o2189]
                  have o2189b : ((xcs B n q)).2.1 = q := by rw [o2189]
                  have o2189c : ((xcs B n q)).2.2 = (xN B n (xN B n (xN B n ((xN B n q))))) := by rw [o2189]
                  have _l := @xdper_v B n y d
                  have _k := @xdper_k (H r1 10).toNat d B n y (by omega)
                  rw [← p1] at _k
                  rw [_ea, _eb] at _k
                  have _f : H2165 r1536 6 = xdper B n y d 1 (H r1 10).toNat ∧ H2165 r1536 7 = xdper B n y d 2 (H r1 10).toNat ∧ H2165 r1536 8 = xdper B n y d 3 (H r1 10).toNat ∧ H2165 r1536 9 = xdper B n y d 4 (H r1 10).toNat ∧ H2165 r1536 10 = xdper B n y d 5 (H r1 10).toNat ∧ H2165 r1536 11 = xdper B n y d 6 (H r1 10).toNat ∧ H2165 r1536 12 = xhs (xdper B n y d 7 (H r1 10).toNat) (xdper B n y d 8 (H r1 10).toNat) ∧ H2165 r1536 13 = xdper B n y d 9 (H r1 10).toNat ∧ H2165 r1536 14 = 0 := ⟨by omega, by omega, by omega, by omega, by omega, by omega, by rw [_k.2.2.2.2.2.2.1, _k.2.2.2.2.2.2.2.1]; omega, by omega, by omega⟩
                  have h2190 : TC T H2165 tk B n (xN B n (xN B n (xN B n ((xN B n q))))) := (TC_fr w2061 gtk ((wfr.rf (l := [(27, 10)])).put' e2166 g1 rfl) rfl h2075)
                  have k2191 : H2165 r1 0 = H r1 0 := ((wq_u_j e2166 rfl).trans ((wq_u_t e2060 g1538 g1 rfl 0).trans ((f2023 r1 0 _ g1 rfl).trans (f2006 r1 0 _ g1 rfl))))
                  have q2192 : H2165 r1 0 = (r1531 : Int) := k2191.trans q1532
                  have k2193 : H2165 r1531 ((H r1 10).toNat) = H r1531 ((H r1 10).toNat) := ((wq_u_t e2166 g1 g1533 rfl ((H r1 10).toNat)).trans ((wq_u_t e2060 g1538 g1533 rfl ((H r1 10).toNat)).trans ((f2023 r1531 ((H r1 10).toNat) _ g1533 rfl).trans (f2006 r1531 ((H r1 10).toNat) _ g1533 rfl))))
                  have q2194 : H2165 r1531 ((H r1 10).toNat) = (r1536 : Int) := k2193.trans q1537
                  have h2195 : ST T H2165 r1 (d 13) := (ST_fr w2061 g1 ((wfr.rf (l := [(27, 10)])).put' e2166 g1 rfl) rfl (ST_fr w2022 g1 ((wfr.rf (l := [(35, 12)])).put' e2060 g1538 rfl) rfl (ST_fr w2005 g1 f2023 rfl (ST_fr hW g1 f2006 rfl h1525))))
                  have h2196 : SV T H2165 r1 (d 13) 24 := (SV_fr w2061 g1 ((wfr.rf (l := [(27, 10)])).put' e2166 g1 rfl) rfl (SV_fr w2022 g1 ((wfr.rf (l := [(35, 12)])).put' e2060 g1538 rfl) rfl (SV_fr w2005 g1 f2023 rfl (SV_fr hW g1 f2006 rfl h1526))))
                  have h2197 : DA3 T H2165 r1 (d 0 5) (d 12) := (DA3_fr w2061 g1 ((wfr.rf (l := [(27, 10)])).put' e2166 g1 rfl) rfl (DA3_fr w2022 g1 ((wfr.rf (l := [(35, 12)])).put' e2060 g1538 rfl) rfl (DA3_fr w2005 g1 f2023 rfl (DA3_fr hW g1 f2006 rfl h1527))))
                  have h2198 : DA4 T H2165 r1 (d 0 6) (d 14) := (DA4_fr w2061 g1 ((wfr.rf (l := [(27, 10)])).put' e2166 g1 rfl) rfl (DA4_fr w2022 g1 ((wfr.rf (l := [(35, 12)])).put' e2060 g1538 rfl) rfl (DA4_fr w2005 g1 f2023 rfl (DA4_fr hW g1 f2006 rfl h1528))))
                  have h2199 : DA5 T H2165 r1 (d 0 6) (d 15) := (DA5_fr w2061 g1 ((wfr.rf (l := [(27, 10)])).put' e2166 g1 rfl) rfl (DA5_fr w2022 g1 ((wfr.rf (l := [(35, 12)])).put' e2060 g1538 rfl) rfl (DA5_fr w2005 g1 f2023 rfl (DA5_fr hW g1 f2006 rfl h1529))))
                  have h2200 : DA6 T H2165 r1 (d 0 7) (d 16) := (DA6_fr w2061 g1 ((wfr.rf (l := [(27, 10)])).put' e2166 g1 rfl) rfl (DA6_fr w2022 g1 ((wfr.rf (l := [(35, 12)])).put' e2060 g1538 rfl) rfl (DA6_fr w2005 g1 f2023 rfl (DA6_fr hW g1 f2006 rfl h1530))))
                  have h2201 : CZ T H2165 r1 (d 0 3 + 1) := (CZ_fr w2061 g1 ((wfr.rf (l := [(27, 10)])).put' e2166 g1 rfl) rfl (CZ_fr w2022 g1 ((wfr.rf (l := [(35, 12)])).put' e2060 g1538 rfl) rfl (CZ_fr w2005 g1 f2023 rfl (CZ_fr hW g1 f2006 rfl hCZ_r1))))
                  exact wp_zreturn e30 c30_146 rfl (by omega) ⟨rfl, w2167, f2168, 1, rfl, ⟨by decide, by decide⟩, (Or.inl ⟨by omega, by omega, by omega, by omega, by rw [o2189]; exact h2190, DC_mk ⟨by omega, by omega, by omega, by omega, by omega, by omega, by omega, by omega, by omega, by omega, by omega, by omega, by omega, by omega, by omega, by omega⟩ (DQ_per g1538 (DQ_oth hW g1 f2168 rfl hDD_r1 q2192 q2194 (by omega) (by omega) (fun a ha ga => ((wq_u_tf e2166 g1 ga (by decide)).trans ((wq_u_nf e2060 ha).trans ((f2023.fn ga rfl).trans (f2006.fn ga rfl))))) hDC_r1.2.1) (by omega) q2192 q2194 (k := (H r1 10).toNat) (by omega) _f) h2195 h2196 h2197 h2198 h2199 h2200 ⟨rfl, rfl, rfl, rfl, rfl⟩ ⟨by omega, by omega, by omega⟩, CZ_le h2201 (by omega)⟩)⟩
                · exfalso
                  omega
            · exfalso
              omega
          · have f2202 := f2009.tr f2023 rfl
            show wp _ _ 30 87 [(2, .ref r1536), (0, .ref r0), (1, .ref r1)] [vI z2024] _ H2018 _
            refine wp_of e30 c30_87 (rw_if_ne (p1 := 92) (p2 := 90) (by decide) rfl ⟨Int.le_trans (by decide) b2025.1, Int.le_trans b2025.2 (by decide)⟩ (fun c2203 => ?_) (fun c2203 => ?_))
            · exfalso
              omega
            · refine wp_of e30 c30_90 (rw_iconst (pc' := 91) rfl ?_)
              have o2204 : (xcs B n q) = ((xrg B n ((xN B n q)) 23 1 24 24).1, (xrg B n ((xN B n q)) 23 1 24 24).2.1, (xrg B n ((xN B n q)) 23 1 24 24).2.2) := by
                unfold xcs xca xcb
                try rw [_ea]
                try rw [_eb]
                try rw [_ec]
                repeat first | rw [xs_0 (Int.le_antisymm (by omega -splitDisjunctions) (by omega -splitDisjunctions))] | rw [xs_1 (by omega -splitDisjunctions)] | rw [if_pos (Int.le_antisymm (by omega -splitDisjunctions) (by omega -splitDisjunctions))] | rw [if_pos (by omega -splitDisjunctions)] | rw [if_pos (And.intro (by omega -splitDisjunctions) (by omega -splitDisjunctions))] | rw [if_neg (by omega -splitDisjunctions)] | rw [xs_1 (by omega)] | rw [if_neg (by omega)] | rw [xs_0 (by omega)] | rw [if_pos (by omega)]
                first | done | rfl | assumption | (exfalso; omega -splitDisjunctions) | (refine Prod.ext ?_ (Prod.ext ?_ ?_) <;> (try dsimp only) <;> omega) | (exfalso; omega)
              have o2204a : ((xcs B n q)).1 = (xrg B n ((xN B n q)) 23 1 24 24).1 := by rw [o2204]
              have o2204b : ((xcs B n q)).2.1 = (xrg B n ((xN B n q)) 23 1 24 24).2.1 := by rw [o2204]
              have o2204c : ((xcs B n q)).2.2 = (xrg B n ((xN B n q)) 23 1 24 24).2.2 := by rw [o2204]
              exact wp_zreturn e30 c30_91 rfl (by omega) ⟨rfl, w2022, f2202, 0, rfl, ⟨by decide, by decide⟩, (Or.inr ⟨by omega, by omega, by omega, by omega, by omega⟩)⟩
      · show wp _ _ 30 66 [(2, .ref r1536), (0, .ref r0), (1, .ref r1)] [vI z1990] _ H _
        refine wp_of e30 c30_66 (rw_if_eq (p1 := 107) (p2 := 69) (by decide) rfl ⟨Int.le_trans (by decide) b1991.1, Int.le_trans b1991.2 (by decide)⟩ (fun c2205 => ?_) (fun c2205 => ?_))
        · have _eb : xqb B n q = q := by
            unfold xqb
            first | rw [if_pos (Int.le_antisymm (by omega -splitDisjunctions) (by omega -splitDisjunctions))] | rw [if_pos (by omega -splitDisjunctions)] | rw [if_pos (And.intro (by omega -splitDisjunctions) (by omega -splitDisjunctions))] | rw [if_neg (by omega -splitDisjunctions)] | rw [if_neg (by omega)] | rw [if_pos (by omega)]
          have _en : H r1536 12 = xhs (xnf B n q) (xnt B n q) := by
            unfold xnf xnt
            first | (rw [if_pos (Int.le_antisymm (by omega -splitDisjunctions) (by omega -splitDisjunctions)), if_pos (Int.le_antisymm (by omega -splitDisjunctions) (by omega -splitDisjunctions))]; omega) | (rw [if_pos (by omega -splitDisjunctions), if_pos (by omega -splitDisjunctions)]; omega) | (rw [if_neg (by omega -splitDisjunctions), if_neg (by omega -splitDisjunctions)]; omega) | (rw [if_pos (by omega), if_pos (by omega)]; omega) | (rw [if_neg (by omega), if_neg (by omega)]; omega)
          refine wp_of e30 c30_107 (rw_aload_n (pc' := 108) (v := .ref r0) rfl rfl rfl ?_)
          refine wp_of e30 c30_108 (xg_K (pc' := 111) lf_1_12 hW g0 sh_3 (by decide) (by decide) rfl qtk rfl ?_)
          refine wp_of e30 c30_111 (rw_gs (pc' := 114) (k := 26) rfl rfl rfl rfl ?_)
          have k2206 : H 26 0 = ((42 : Nat) : Int) := (hW.2 26 _ (hW.1.2.2 10 (by decide))).2.2 0 (by decide) |> fun z => by have z1 : (42 : Int) ≤ H 26 0 ∧ H 26 0 ≤ 42 := z; omega
          refine wp_of e30 c30_114 (rw_getR (pc' := 117) (n := 2) (b := 42) (e := _) (lf_1_181).choose_spec.1 (lf_1_181).choose_spec.2.1 (hW.sh (hW.1.2.2 10 (by decide)) rfl) (by decide) rfl k2206 rfl ?_)
          refine wp_of e30 c30_117 (xc_V (pc' := 120) (r := tk) (as := [.ref 42]) (st := []) (lm_1_185) rfl rfl (Nat.le_of_ble_eq_true rfl) hW gtk sh_4 (by decide) rfl (by decide) (u_19_t (B := B) (n := n) (q := q) (kk := 56377) hW gtk rfl (by decide +kernel) hTC_tk) (fun R2207 T2208 H2209 p2210 => ?_))
          obtain ⟨e2211, e2213, z2214, e2212, b2215, p2216⟩ := p2210
          subst e2211
          subst e2212
          subst e2213
          rcases p2216 with ⟨a2217, a2218⟩ | ⟨a2219, a2220⟩
          · show wp _ _ 30 120 [(2, .ref r1536), (0, .ref r0), (1, .ref r1)] [vI z2214] _ H _
            refine wp_of e30 c30_120 (rw_if_eq (p1 := 135) (p2 := 123) (by decide) rfl ⟨Int.le_trans (by decide) b2215.1, Int.le_trans b2215.2 (by decide)⟩ (fun c2221 => ?_) (fun c2221 => ?_))
            · exfalso
              omega
            · refine wp_of e30 c30_123 (rw_aload_n (pc' := 124) (v := .ref r0) rfl rfl rfl ?_)
              refine wp_of e30 c30_124 (xg_K (pc' := 127) lf_1_12 hW g0 sh_3 (by decide) (by decide) rfl qtk rfl ?_)
              have h2222 : TP T H rb B := TC_tp hTC_tk qrb
              refine wp_of e30 c30_127 (xc_V (pc' := 130) (r := tk) (as := []) (st := []) (lm_1_74) rfl rfl (Nat.le_of_ble_eq_true rfl) hW gtk sh_4 (by decide) rfl (by decide) (u_16 (B := B) (n := n) (a := (xE B n q)) (q := (xN B n q)) hW gtk qrb grb (by omega) (by omega) (by omega) (rfl) h2222) (fun R2223 T2224 H2225 p2226 => ?_))
              obtain ⟨e2227, w2229, f2230, e2228, p2231⟩ := p2226
              subst e2227
              subst e2228
              have f2233 := f0.tr f2230 rfl
              show wp _ _ 30 130 [(2, .ref r1536), (0, .ref r0), (1, .ref r1)] [] _ H2225 _
              have u2234 := TC_k p2231
              refine wp_of e30 c30_130 (rw_aload_n (pc' := 131) (v := .ref r1536) rfl rfl rfl ?_)
              refine wp_of e30 c30_131 (rw_iconst (pc' := 132) rfl ?_)
              refine wp_of e30 c30_132 (xp_Z (pc' := 135) lf_1_203 w2229 g1538 sh_35 (by decide) (by decide) ty_35_13 rfl rfl (by decide) (by decide) rfl (fun H2235 e2236 w2237 => ?_))
              have f2238 := f2233.put' e2236 g1538 rfl
              have k2239 : H2235 r1536 13 = 1 := wq_u_s e2236
              have _ec : xqc B n q = ((xN B n q)) := by
                unfold xqc
                first | rw [if_pos (Int.le_antisymm (by omega -splitDisjunctions) (by omega -splitDisjunctions))] | rw [if_pos (by omega -splitDisjunctions)] | rw [if_pos (And.intro (by omega -splitDisjunctions) (by omega -splitDisjunctions))] | rw [if_neg (by omega -splitDisjunctions)] | rw [if_neg (by omega)] | rw [if_pos (by omega)]
              have k2240 : H2235 r1536 6 = H r1536 6 := ((wq_u_j e2236 rfl).trans (f2230 r1536 6 _ g1538 rfl))
              have k2241 : H2235 r1536 7 = H r1536 7 := ((wq_u_j e2236 rfl).trans (f2230 r1536 7 _ g1538 rfl))
              have k2242 : H2235 r1536 8 = H r1536 8 := ((wq_u_j e2236 rfl).trans (f2230 r1536 8 _ g1538 rfl))
              have k2243 : H2235 r1536 9 = H r1536 9 := ((wq_u_j e2236 rfl).trans (f2230 r1536 9 _ g1538 rfl))
              have k2244 : H2235 r1536 10 = H r1536 10 := ((wq_u_j e2236 rfl).trans (f2230 r1536 10 _ g1538 rfl))
              have k2245 : H2235 r1536 11 = H r1536 11 := ((wq_u_j e2236 rfl).trans (f2230 r1536 11 _ g1538 rfl))
              have k2246 : H2235 r1536 12 = H r1536 12 := ((wq_u_j e2236 rfl).trans (f2230 r1536 12 _ g1538 rfl))
              have k2247 : H2235 r1536 14 = H r1536 14 := ((wq_u_j e2236 rfl).trans (f2230 r1536 14 _ g1538 rfl))
              have _ew : xaw B n q = H2235 r1536 13 := by
                unfold xaw
                first | (rw [if_pos (Int.le_antisymm (by omega -splitDisjunctions) (by omega -splitDisjunctions))]; omega) | (rw [if_pos (by omega -splitDisjunctions)]; omega) | (rw [if_pos (And.intro (by omega -splitDisjunctions) (by omega -splitDisjunctions))]; omega) | (rw [if_neg (by omega -splitDisjunctions)]; omega) | (rw [if_neg (by omega)]; omega) | (rw [if_pos (by omega)]; omega)
              refine wp_of e30 c30_135 (rw_aload_n (pc' := 136) (v := .ref r1) rfl rfl rfl ?_)
              refine wp_of e30 c30_136 (rw_dup (pc' := 137) rfl rfl ?_)
              have k2248 : H2235 r1 10 = H r1 10 := ((wq_u_t e2236 g1538 g1 rfl 10).trans (f2230 r1 10 _ g1 rfl))
              refine wp_of e30 c30_137 (xg_I (pc' := 140) lf_1_44 w2237 g1 sh_27 (by decide) (by decide) ty_27_10 rfl rfl (fun b2249 b2250 => ?_))
              refine wp_of e30 c30_140 (rw_iconst (pc' := 141) rfl ?_)
              refine wp_of e30 c30_141 (rw_iadd (pc' := 142) rfl ?_)
              refine wp_of e30 c30_142 (xp_I (pc' := 145) lf_1_44 w2237 g1 sh_27 (by decide) (by decide) ty_27_10 rfl rfl (by omega) (by omega) ⟨by omega, by omega⟩ rfl (fun H2251 e2252 w2253 => ?_))
              have f2254 := f2238.put' e2252 g1 rfl
              have k2255 : H2251 r1 10 = (H2235 r1 10) + 1 := wq_u_s e2252
              refine wp_of e30 c30_145 (rw_iconst (pc' := 146) rfl ?_)
              have k2256 : H2251 r0 3 = H r0 3 := ((wq_u_t e2252 g1 g0 rfl 3).trans ((wq_u_t e2236 g1538 g0 rfl 3).trans (f2230 r0 3 _ g0 rfl)))
              have k2257 : H2251 r1 7 = H r1 7 := ((wq_u_j e2252 rfl).trans ((wq_u_t e2236 g1538 g1 rfl 7).trans (f2230 r1 7 _ g1 rfl)))
              have k2258 : H2251 r1 8 = H r1 8 := ((wq_u_j e2252 rfl).trans ((wq_u_t e2236 g1538 g1 rfl 8).trans (f2230 r1 8 _ g1 rfl)))
              have k2259 : H2251 r1 9 = H r1 9 := ((wq_u_j e2252 rfl).trans ((wq_u_t e2236 g1538 g1 rfl 9).trans (f2230 r1 9 _ g1 rfl)))
              have k2260 : H2251 r1 11 = H r1 11 := ((wq_u_j e2252 rfl).trans ((wq_u_t e2236 g1538 g1 rfl 11).trans (f2230 r1 11 _ g1 rfl)))
              have k2261 : H2251 r1 12 = H r1 12 := ((wq_u_j e2252 rfl).trans ((wq_u_t e2236 g1538 g1 rfl 12).trans (f2230 r1 12 _ g1 rfl)))
              have k2262 : H2251 r1 13 = H r1 13 := ((wq_u_j e2252 rfl).trans ((wq_u_t e2236 g1538 g1 rfl 13).trans (f2230 r1 13 _ g1 rfl)))
              have k2263 : H2251 r1 14 = H r1 14 := ((wq_u_j e2252 rfl).trans ((wq_u_t e2236 g1538 g1 rfl 14).trans (f2230 r1 14 _ g1 rfl)))
              have k2264 : H2251 r1 15 = H r1 15 := ((wq_u_j e2252 rfl).trans ((wq_u_t e2236 g1538 g1 rfl 15).trans (f2230 r1 15 _ g1 rfl)))
              have k2265 : H2251 r1 16 = H r1 16 := ((wq_u_j e2252 rfl).trans ((wq_u_t e2236 g1538 g1 rfl 16).trans (f2230 r1 16 _ g1 rfl)))
              have k2266 : H2251 r1536 6 = H2235 r1536 6 := (wq_u_t e2252 g1 g1538 rfl 6)
              have k2267 : H2251 r1536 7 = H2235 r1536 7 := (wq_u_t e2252 g1 g1538 rfl 7)
              have k2268 : H2251 r1536 8 = H2235 r1536 8 := (wq_u_t e2252 g1 g1538 rfl 8)
              have k2269 : H2251 r1536 9 = H2235 r1536 9 := (wq_u_t e2252 g1 g1538 rfl 9)
              have k2270 : H2251 r1536 10 = H2235 r1536 10 := (wq_u_t e2252 g1 g1538 rfl 10)
              have k2271 : H2251 r1536 11 = H2235 r1536 11 := (wq_u_t e2252 g1 g1538 rfl 11)
              have k2272 : H2251 r1536 12 = H2235 r1536 12 := (wq_u_t e2252 g1 g1538 rfl 12)
              have k2273 : H2251 r1536 13 = H2235 r1536 13 := (wq_u_t e2252 g1 g1538 rfl 13)
              have k2274 : H2251 r1536 14 = H2235 r1536 14 := (wq_u_t e2252 g1 g1538 rfl 14)
              have o2275 : (xcs B n q) = (0, q, (xN B n q)) := by
                unfold xcs xca xcb
                try rw [_ea]
                try rw [_eb]
                try rw [_ec]
                repeat first | rw [xs_0 (Int.le_antisymm (by omega -splitDisjunctions) (by omega -splitDisjunctions))] | rw [xs_1 (by omega -splitDisjunctions)] | rw [if_pos (Int.le_antisymm (by omega -splitDisjunctions) (by omega -splitDisjunctions))] | rw [if_pos (by omega -splitDisjunctions)] | rw [if_pos (And.intro (by omega -splitDisjunctions) (by omega -splitDisjunctions))] | rw [if_neg (by omega -splitDisjunctions)] | rw [xs_1 (by omega)] | rw [if_neg (by omega)] | rw [xs_0 (by omega)] | rw [if_pos (by omega)]
                first | done | rfl | assumption | (exfalso; omega -splitDisjunctions) | (refine Prod.ext ?_ (Prod.ext ?_ ?_) <;> (try dsimp only) <;> omega) | (exfalso; omega)
              have o2275a : ((xcs B n q)).1 = 0 := by rw [o2275]
              have o2275b : ((xcs B n q)).2.1 = q := by rw [o2275]
              have o2275c : ((xcs B n q)).2.2 = (xN B n q) := by rw [o2275]
              have _l := @xdper_v B n y d
              have _k := @xdper_k (H r1 10).toNat d B n y (by omega)
              rw [← p1] at _k
              rw [_ea, _eb] at _k
              have _f : H2251 r1536 6 = xdper B n y d 1 (H r1 10).toNat ∧ H2251 r1536 7 = xdper B n y d 2 (H r1 10).toNat ∧ H2251 r1536 8 = xdper B n y d 3 (H r1 10).toNat ∧ H2251 r1536 9 = xdper B n y d 4 (H r1 10).toNat ∧ H2251 r1536 10 = xdper B n y d 5 (H r1 10).toNat ∧ H2251 r1536 11 = xdper B n y d 6 (H r1 10).toNat ∧ H2251 r1536 12 = xhs (xdper B n y d 7 (H r1 10).toNat) (xdper B n y d 8 (H r1 10).toNat) ∧ H2251 r1536 13 = xdper B n y d 9 (H r1 10).toNat ∧ H2251 r1536 14 = 0 := ⟨by omega, by omega, by omega, by omega, by omega, by omega, by rw [_k.2.2.2.2.2.2.1, _k.2.2.2.2.2.2.2.1]; omega, by omega, by omega⟩
              have h2276 : TC T H2251 tk B n (xN B n q) := (TC_fr w2237 gtk ((wfr.rf (l := [(27, 10)])).put' e2252 g1 rfl) rfl (TC_fr w2229 gtk ((wfr.rf (l := [(35, 13)])).put' e2236 g1538 rfl) rfl p2231))
              have k2277 : H2251 r1 0 = H r1 0 := ((wq_u_j e2252 rfl).trans ((wq_u_t e2236 g1538 g1 rfl 0).trans (f2230 r1 0 _ g1 rfl)))
              have q2278 : H2251 r1 0 = (r1531 : Int) := k2277.trans q1532
              have k2279 : H2251 r1531 ((H r1 10).toNat) = H r1531 ((H r1 10).toNat) := ((wq_u_t e2252 g1 g1533 rfl ((H r1 10).toNat)).trans ((wq_u_t e2236 g1538 g1533 rfl ((H r1 10).toNat)).trans (f2230 r1531 ((H r1 10).toNat) _ g1533 rfl)))
              have q2280 : H2251 r1531 ((H r1 10).toNat) = (r1536 : Int) := k2279.trans q1537
              have h2281 : ST T H2251 r1 (d 13) := (ST_fr w2237 g1 ((wfr.rf (l := [(27, 10)])).put' e2252 g1 rfl) rfl (ST_fr w2229 g1 ((wfr.rf (l := [(35, 13)])).put' e2236 g1538 rfl) rfl (ST_fr hW g1 f2230 rfl h1525)))
              have h2282 : SV T H2251 r1 (d 13) 24 := (SV_fr w2237 g1 ((wfr.rf (l := [(27, 10)])).put' e2252 g1 rfl) rfl (SV_fr w2229 g1 ((wfr.rf (l := [(35, 13)])).put' e2236 g1538 rfl) rfl (SV_fr hW g1 f2230 rfl h1526)))
              have h2283 : DA3 T H2251 r1 (d 0 5) (d 12) := (DA3_fr w2237 g1 ((wfr.rf (l := [(27, 10)])).put' e2252 g1 rfl) rfl (DA3_fr w2229 g1 ((wfr.rf (l := [(35, 13)])).put' e2236 g1538 rfl) rfl (DA3_fr hW g1 f2230 rfl h1527)))
              have h2284 : DA4 T H2251 r1 (d 0 6) (d 14) := (DA4_fr w2237 g1 ((wfr.rf (l := [(27, 10)])).put' e2252 g1 rfl) rfl (DA4_fr w2229 g1 ((wfr.rf (l := [(35, 13)])).put' e2236 g1538 rfl) rfl (DA4_fr hW g1 f2230 rfl h1528)))
              have h2285 : DA5 T H2251 r1 (d 0 6) (d 15) := (DA5_fr w2237 g1 ((wfr.rf (l := [(27, 10)])).put' e2252 g1 rfl) rfl (DA5_fr w2229 g1 ((wfr.rf (l := [(35, 13)])).put' e2236 g1538 rfl) rfl (DA5_fr hW g1 f2230 rfl h1529)))
              have h2286 : DA6 T H2251 r1 (d 0 7) (d 16) := (DA6_fr w2237 g1 ((wfr.rf (l := [(27, 10)])).put' e2252 g1 rfl) rfl (DA6_fr w2229 g1 ((wfr.rf (l := [(35, 13)])).put' e2236 g1538 rfl) rfl (DA6_fr hW g1 f2230 rfl h1530)))
              have h2287 : CZ T H2251 r1 (d 0 3 + 1) := (CZ_fr w2237 g1 ((wfr.rf (l := [(27, 10)])).put' e2252 g1 rfl) rfl (CZ_fr w2229 g1 ((wfr.rf (l := [(35, 13)])).put' e2236 g1538 rfl) rfl (CZ_fr hW g1 f2230 rfl hCZ_r1)))
              exact wp_zreturn e30 c30_146 rfl (by omega) ⟨rfl, w2253, f2254, 1, rfl, ⟨by decide, by decide⟩, (Or.inl ⟨by omega, by omega, by omega, by omega, by rw [o2275]; exact h2276, DC_mk ⟨by omega, by omega, by omega, by omega, by omega, by omega, by omega, by omega, by omega, by omega, by omega, by omega, by omega, by omega, by omega, by omega⟩ (DQ_per g1538 (DQ_oth hW g1 f2254 rfl hDD_r1 q2278 q2280 (by omega) (by omega) (fun a ha ga => ((wq_u_tf e2252 g1 ga (by decide)).trans ((wq_u_nf e2236 ha).trans (f2230.fn ga rfl)))) hDC_r1.2.1) (by omega) q2278 q2280 (k := (H r1 10).toNat) (by omega) _f) h2281 h2282 h2283 h2284 h2285 h2286 ⟨rfl, rfl, rfl, rfl, rfl⟩ ⟨by omega, by omega, by omega⟩, CZ_le h2287 (by omega)⟩)⟩
          · show wp _ _ 30 120 [(2, .ref r1536), (0, .ref r0), (1, .ref r1)] [vI z2214] _ H _
            refine wp_of e30 c30_120 (rw_if_eq (p1 := 135) (p2 := 123) (by decide) rfl ⟨Int.le_trans (by decide) b2215.1, Int.le_trans b2215.2 (by decide)⟩ (fun c2288 => ?_) (fun c2288 => ?_))
            · have _ec : xqc B n q = q := by
                unfold xqc
                first | rw [if_pos (Int.le_antisymm (by omega -splitDisjunctions) (by omega -splitDisjunctions))] | rw [if_pos (by omega -splitDisjunctions)] | rw [if_pos (And.intro (by omega -splitDisjunctions) (by omega -splitDisjunctions))] | rw [if_neg (by omega -splitDisjunctions)] | rw [if_neg (by omega)] | rw [if_pos (by omega)]
              have _ew : xaw B n q = H r1536 13 := by
                unfold xaw
                first | (rw [if_pos (Int.le_antisymm (by omega -splitDisjunctions) (by omega -splitDisjunctions))]; omega) | (rw [if_pos (by omega -splitDisjunctions)]; omega) | (rw [if_pos (And.intro (by omega -splitDisjunctions) (by omega -splitDisjunctions))]; omega) | (rw [if_neg (by omega -splitDisjunctions)]; omega) | (rw [if_neg (by omega)]; omega) | (rw [if_pos (by omega)]; omega)
              refine wp_of e30 c30_135 (rw_aload_n (pc' := 136) (v := .ref r1) rfl rfl rfl ?_)
              refine wp_of e30 c30_136 (rw_dup (pc' := 137) rfl rfl ?_)
              refine wp_of e30 c30_137 (xg_I (pc' := 140) lf_1_44 hW g1 sh_27 (by decide) (by decide) ty_27_10 rfl rfl (fun b2289 b2290 => ?_))
              refine wp_of e30 c30_140 (rw_iconst (pc' := 141) rfl ?_)
              refine wp_of e30 c30_141 (rw_iadd (pc' := 142) rfl ?_)
              refine wp_of e30 c30_142 (xp_I (pc' := 145) lf_1_44 hW g1 sh_27 (by decide) (by decide) ty_27_10 rfl rfl (by omega) (by omega) ⟨by omega, by omega⟩ rfl (fun H2291 e2292 w2293 => ?_))
              have f2294 := f0.put' e2292 g1 rfl
              have k2295 : H2291 r1 10 = (H r1 10) + 1 := wq_u_s e2292
              refine wp_of e30 c30_145 (rw_iconst (pc' := 146) rfl ?_)
              have k2296 : H2291 r0 3 = H r0 3 := (wq_u_t e2292 g1 g0 rfl 3)
              have k2297 : H2291 r1 7 = H r1 7 := (wq_u_j e2292 rfl)
              have k2298 : H2291 r1 8 = H r1 8 := (wq_u_j e2292 rfl)
              have k2299 : H2291 r1 9 = H r1 9 := (wq_u_j e2292 rfl)
              have k2300 : H2291 r1 11 = H r1 11 := (wq_u_j e2292 rfl)
              have k2301 : H2291 r1 12 = H r1 12 := (wq_u_j e2292 rfl)
              have k2302 : H2291 r1 13 = H r1 13 := (wq_u_j e2292 rfl)
              have k2303 : H2291 r1 14 = H r1 14 := (wq_u_j e2292 rfl)
              have k2304 : H2291 r1 15 = H r1 15 := (wq_u_j e2292 rfl)
              have k2305 : H2291 r1 16 = H r1 16 := (wq_u_j e2292 rfl)
              have k2306 : H2291 r1536 6 = H r1536 6 := (wq_u_t e2292 g1 g1538 rfl 6)
              have k2307 : H2291 r1536 7 = H r1536 7 := (wq_u_t e2292 g1 g1538 rfl 7)
              have k2308 : H2291 r1536 8 = H r1536 8 := (wq_u_t e2292 g1 g1538 rfl 8)
              have k2309 : H2291 r1536 9 = H r1536 9 := (wq_u_t e2292 g1 g1538 rfl 9)
              have k2310 : H2291 r1536 10 = H r1536 10 := (wq_u_t e2292 g1 g1538 rfl 10)
              have k2311 : H2291 r1536 11 = H r1536 11 := (wq_u_t e2292 g1 g1538 rfl 11)
              have k2312 : H2291 r1536 12 = H r1536 12 := (wq_u_t e2292 g1 g1538 rfl 12)
              have k2313 : H2291 r1536 13 = H r1536 13 := (wq_u_t e2292 g1 g1538 rfl 13)
              have k2314 : H2291 r1536 14 = H r1536 14 := (wq_u_t e2292 g1 g1538 rfl 14)
              have o2315 : (xcs B n q) = (0, q, q) := by
                unfold xcs xca xcb
                try rw [_ea]
                try rw [_eb]
                try rw [_ec]
                repeat first | rw [xs_0 (Int.le_antisymm (by omega -splitDisjunctions) (by omega -splitDisjunctions))] | rw [xs_1 (by omega -splitDisjunctions)] | rw [if_pos (Int.le_antisymm (by omega -splitDisjunctions) (by omega -splitDisjunctions))] | rw [if_pos (by omega -splitDisjunctions)] | rw [if_pos (And.intro (by omega -splitDisjunctions) (by omega -splitDisjunctions))] | rw [if_neg (by omega -splitDisjunctions)] | rw [xs_1 (by omega)] | rw [if_neg (by omega)] | rw [xs_0 (by omega)] | rw [if_pos (by omega)]
                first | done | rfl | assumption | (exfalso; omega -splitDisjunctions) | (refine Prod.ext ?_ (Prod.ext ?_ ?_) <;> (try dsimp only) <;> omega) | (exfalso; omega)
              have o2315a : ((xcs B n q)).1 = 0 := by rw [o2315]
              have o2315b : ((xcs B n q)).2.1 = q := by rw [o2315]
              have o2315c : ((xcs B n q)).2.2 = q := by rw [o2315]
              have _l := @xdper_v B n y d
              have _k := @xdper_k (H r1 10).toNat d B n y (by omega)
              rw [← p1] at _k
              rw [_ea, _eb] at _k
              have _f : H2291 r1536 6 = xdper B n y d 1 (H r1 10).toNat ∧ H2291 r1536 7 = xdper B n y d 2 (H r1 10).toNat ∧ H2291 r1536 8 = xdper B n y d 3 (H r1 10).toNat ∧ H2291 r1536 9 = xdper B n y d 4 (H r1 10).toNat ∧ H2291 r1536 10 = xdper B n y d 5 (H r1 10).toNat ∧ H2291 r1536 11 = xdper B n y d 6 (H r1 10).toNat ∧ H2291 r1536 12 = xhs (xdper B n y d 7 (H r1 10).toNat) (xdper B n y d 8 (H r1 10).toNat) ∧ H2291 r1536 13 = xdper B n y d 9 (H r1 10).toNat ∧ H2291 r1536 14 = 0 := ⟨by omega, by omega, by omega, by omega, by omega, by omega, by rw [_k.2.2.2.2.2.2.1, _k.2.2.2.2.2.2.2.1]; omega, by omega, by omega⟩
              have h2316 : TC T H2291 tk B n q := (TC_fr hW gtk ((wfr.rf (l := [(27, 10)])).put' e2292 g1 rfl) rfl hTC_tk)
              have k2317 : H2291 r1 0 = H r1 0 := (wq_u_j e2292 rfl)
              have q2318 : H2291 r1 0 = (r1531 : Int) := k2317.trans q1532
              have k2319 : H2291 r1531 ((H r1 10).toNat) = H r1531 ((H r1 10).toNat) := (wq_u_t e2292 g1 g1533 rfl ((H r1 10).toNat))
              have q2320 : H2291 r1531 ((H r1 10).toNat) = (r1536 : Int) := k2319.trans q1537
              have h2321 : ST T H2291 r1 (d 13) := (ST_fr hW g1 ((wfr.rf (l := [(27, 10)])).put' e2292 g1 rfl) rfl h1525)
              have h2322 : SV T H2291 r1 (d 13) 24 := (SV_fr hW g1 ((wfr.rf (l := [(27, 10)])).put' e2292 g1 rfl) rfl h1526)
              have h2323 : DA3 T H2291 r1 (d 0 5) (d 12) := (DA3_fr hW g1 ((wfr.rf (l := [(27, 10)])).put' e2292 g1 rfl) rfl h1527)
              have h2324 : DA4 T H2291 r1 (d 0 6) (d 14) := (DA4_fr hW g1 ((wfr.rf (l := [(27, 10)])).put' e2292 g1 rfl) rfl h1528)
              have h2325 : DA5 T H2291 r1 (d 0 6) (d 15) := (DA5_fr hW g1 ((wfr.rf (l := [(27, 10)])).put' e2292 g1 rfl) rfl h1529)
              have h2326 : DA6 T H2291 r1 (d 0 7) (d 16) := (DA6_fr hW g1 ((wfr.rf (l := [(27, 10)])).put' e2292 g1 rfl) rfl h1530)
              have h2327 : CZ T H2291 r1 (d 0 3 + 1) := (CZ_fr hW g1 ((wfr.rf (l := [(27, 10)])).put' e2292 g1 rfl) rfl hCZ_r1)
              exact wp_zreturn e30 c30_146 rfl (by omega) ⟨rfl, w2293, f2294, 1, rfl, ⟨by decide, by decide⟩, (Or.inl ⟨by omega, by omega, by omega, by omega, by rw [o2315]; exact h2316, DC_mk ⟨by omega, by omega, by omega, by omega, by omega, by omega, by omega, by omega, by omega, by omega, by omega, by omega, by omega, by omega, by omega, by omega⟩ (DQ_per g1538 (DQ_oth hW g1 f2294 rfl hDD_r1 q2318 q2320 (by omega) (by omega) (fun a ha ga => (wq_u_tf e2292 g1 ga (by decide))) hDC_r1.2.1) (by omega) q2318 q2320 (k := (H r1 10).toNat) (by omega) _f) h2321 h2322 h2323 h2324 h2325 h2326 ⟨rfl, rfl, rfl, rfl, rfl⟩ ⟨by omega, by omega, by omega⟩, CZ_le h2327 (by omega)⟩)⟩
            · exfalso
              omega
        · exfalso
          omega
    · exfalso
      omega
