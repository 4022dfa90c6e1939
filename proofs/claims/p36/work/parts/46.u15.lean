/-! what methods do (own work, written by wip/gen3/sx3.py) -/
/-! StrikeAwakeModel.seek()I  -/
abbrev uq_288 (r0 : Nat) (e : xD) (d : xD) (nY : Int) (gY : Nat → Int) (cY : Int) (T : wq_T) (H : wq_H) : Option Value → wq_T → wq_H → Prop := fun r T' H' => T = T' ∧ WT T H' ∧ wfr [(42, 0), (42, 1), (42, 2), (42, 28), (42, 29), (42, 32), (51, 999), (52, 999)] T H H' ∧ ∃ z : Int, some (vI z) = r ∧ ((-2147483648) ≤ z ∧ z ≤ 2147483647) ∧ (((z = -1) ∧ (wKI H' r0 = 1) ∧ (H r0 3 = -1 ∨ 20000 < xlots d) ∧ KNN T H' r0 e d ∧ RY T H' r0 nY gY cY) ∨ ((z = -1) ∧ (wKI H' r0 = 1) ∧ (H r0 3 ≠ -1 ∧ xlots d ≤ 20000) ∧ (XNX (xwf e d) (xlots d).toNat cY z) ∧ KNN T H' r0 e d ∧ RY T H' r0 nY gY cY) ∨ ((wKI H' r0 = 1) ∧ (H r0 3 ≠ -1 ∧ xlots d ≤ 20000) ∧ (XNX (xwf e d) (xlots d).toNat cY z) ∧ KNN T H' r0 e d ∧ RY T H' r0 nY gY (z + 1)))
set_option maxHeartbeats 4000000 in
theorem u_288 {kt : Nat → Option mc_E} {T : wq_T} {H : wq_H} {r0 : Nat} {e : xD} {d : xD} {nY : Int} {gY : Nat → Int} {cY : Int} (hW : WT T H) (g0 : T.2.2.2 r0 = some 42) (p0 : wKI H r0 = 1) (p1 : XW d) (p2 : ∀ h : Nat, d 0 0 ≤ (h : Int) → h < 24 → e 13 h = 0) (p3 : XN d) (p4 : ∀ h : Nat, h < 24 → 0 ≤ e 13 h ∧ e 13 h ≤ 100) (hRB_r0 : RB T H r0 e d) (hKNN_r0 : KNN T H r0 e d) (hRY_r0 : RY T H r0 nY gY cY) : wpc kt 8 288 [.ref r0] T H (uq_288 r0 e d nY gY cY T H) := by
  refine wp_enter e288 (Nat.le_of_ble_eq_true rfl) rfl ?_
  have f0 : wfr [(42, 0), (42, 1), (42, 2), (42, 28), (42, 29), (42, 32), (51, 999), (52, 999)] T H H := wfr.rf
  show wp _ _ 288 0 [(0, .ref r0)] [] _ H _
  have b1414 : 0 ≤ H r0 32 ∧ H r0 32 ≤ 2147483647 := hW.box g0 (n := 33) rfl (by decide) rfl
  have h1415 : MN26 T H r0 nY gY := hRY_r0.1
  have _b := RB_b hW hRB_r0
  have _nu := RB_n3 hRB_r0
  have _lm := RB_lm hRB_r0
  have _xw := (by assumption : XW d)
  have _cy := hRY_r0.2
  refine wp_of e288 c288_0 (rw_aload_n (pc' := 1) (v := .ref r0) rfl rfl rfl ?_)
  refine wp_of e288 c288_1 (rw_iconst (pc' := 2) rfl ?_)
  refine wp_of e288 c288_2 (xp_I (pc' := 5) lf_9_48 hW g0 sh_42 (by decide) (by decide) ty_42_0 rfl rfl (by decide) (by decide) ⟨by decide, by decide⟩ rfl (fun H1416 e1417 w1418 => ?_))
  have f1419 := f0.put' e1417 g0 rfl
  have k1420 : H1416 r0 0 = 0 := wq_u_s e1417
  refine wp_of e288 c288_5 (rw_aload_n (pc' := 6) (v := .ref r0) rfl rfl rfl ?_)
  refine wp_of e288 c288_6 (rw_aload_n (pc' := 7) (v := .ref r0) rfl rfl rfl ?_)
  have k1421 : H1416 r0 3 = H r0 3 := (wq_u_j e1417 rfl)
  refine wp_of e288 c288_7 (xg_O (pc' := 10) lf_9_337 w1418 g0 sh_42 (by decide) (by decide) ty_42_3 rfl rfl (fun q1423 => ?_) (fun r1422 q1423 g1424 => ?_))
  · refine wp_of e288 c288_10 (rw_ifnull_n (p1 := 17) (p2 := 13) (by decide) rfl ?_)
    refine wp_of e288 c288_17 (rw_iconst (pc' := 18) rfl ?_)
    have k1425 : wKI H1416 r0 = wKI H r0 := (wKI_fr hW g0 ((wfr.rf (l := [(42, 0)])).put' e1417 g0 rfl) rfl)
    have h1426 : RB T H1416 r0 e d := (RB_fr hW g0 ((wfr.rf (l := [(42, 0)])).put' e1417 g0 rfl) rfl hRB_r0)
    have h1427 : KNN T H1416 r0 e d := (KNN_fr hW g0 ((wfr.rf (l := [(42, 0)])).put' e1417 g0 rfl) rfl hKNN_r0)
    refine wp_of e288 c288_18 (xc_V (pc' := 21) (r := r0) (as := [vI 0]) (st := []) (lm_9_433) rfl rfl (Nat.le_of_ble_eq_true rfl) w1418 g0 sh_42 (by decide) rfl (by decide) (u_241 (e := e) (d := d) w1418 g0 ⟨by decide, by decide⟩ (by omega) (by omega) (by assumption) (by assumption) (by assumption) (by assumption) h1426 h1427) (fun R1428 T1429 H1430 p1431 => ?_))
    obtain ⟨e1432, w1434, f1435, z1436, e1433, b1437, p1438⟩ := p1431
    subst e1432
    subst e1433
    rcases p1438 with ⟨a1439, a1440, a1441, a1442, a1443, a1444, a1445, a1446, a1447⟩ | ⟨a1448, a1449, a1450, a1451, a1452, a1453, a1454⟩
    · have f1455 := f1419.tr f1435 rfl
      show wp _ _ 288 21 [(0, .ref r0)] [vI z1436] _ H1430 _
      refine wp_of e288 c288_21 (rw_istore_n (pc' := 22) (z := z1436) (L' := [(1, vI z1436), (0, .ref r0)]) rfl rfl rfl ?_)
      refine wp_of e288 c288_22 (rw_iload_n (pc' := 23) (z := z1436) rfl rfl ?_)
      refine wp_of e288 c288_23 (rw_if_le (p1 := 32) (p2 := 26) (by decide) rfl ⟨Int.le_trans (by decide) b1437.1, Int.le_trans b1437.2 (by decide)⟩ (fun c1456 => ?_) (fun c1456 => ?_))
      · have k1457 : H1430 r0 3 = H1416 r0 3 := (f1435 r0 3 _ g0 rfl)
        have q1458 : H1430 r0 3 = -1 := k1457.trans q1423
        obtain ⟨r1459, q1460, g1461⟩ := (w1434.opt g0 (t' := 54) (n := 33) (j := 3) (p := 0) (q := 0) rfl (by decide) rfl).resolve_left (by omega)
        have h1462 : RB T H1430 r0 e d := (RB_fr w1418 g0 f1435 rfl h1426)
        have _kbb := a1447
        have _kb := _kbb.1
        have _n3 : H1430 r0 3 ≠ -1 := by omega
        have _rp := RB_at h1462 q1460
        have _k := RP_k _rp
        have _nb := xcn_b (f := xwf e d) (xlots d).toNat
        have h1463 : KL T H1430 r0 (xwf e d) (xlots d).toNat := _kbb.2
        refine wp_of e288 c288_32 (rw_iconst (pc' := 33) rfl ?_)
        refine wp_of e288 c288_33 (rw_istore_n (pc' := 34) (z := 0) (L' := [(2, vI 0), (1, vI z1436), (0, .ref r0)]) rfl rfl rfl ?_)
        have b1565 : 0 ≤ H1430 r0 29 ∧ H1430 r0 29 ≤ 20000 := w1434.box g0 (n := 33) rfl (by decide) rfl
        have lp1560 : ∀ (n1561 : Nat) (v1563 : Int) (u1564 : Nat), (0 ≤ v1563 ∧ v1563 ≤ 20000) → KL T H1430 r0 (xwf e d) (xlots d).toNat → (v1563 ≤ H1430 r0 29) → (u1564 ≤ (xlots d).toNat) → (xcn (xwf e d) u1564 = v1563) → ((∀ j : Nat, cY ≤ (j : Int) → j < u1564 → xwf e d j ≤ 0)) → (20000 - v1563).toNat = n1561 → wp kt 7 288 34 [(2, vI v1563), (0, .ref r0)] [] T H1430 (uq_288 r0 e d nY gY cY T H) := by
          intro n1561
          induction n1561 using Nat.strongRecOn with
          | _ n1561 ih1562 =>
            intro v1563 u1564 b1568 h1570 x1571 x1572 x1573 x1574 m1569
            refine wp_of e288 c288_34 (rw_iload_n (pc' := 35) (z := v1563) rfl rfl ?_)
            refine wp_of e288 c288_35 (rw_aload_n (pc' := 36) (v := .ref r0) rfl rfl rfl ?_)
            refine wp_of e288 c288_36 (xg_I (pc' := 39) lf_9_422 w1434 g0 sh_42 (by decide) (by decide) ty_42_29 rfl rfl (fun b1575 b1576 => ?_))
            refine wp_of e288 c288_39 (rw_icmp_ge (p1 := 87) (p2 := 42) (by decide) rfl ⟨Int.le_trans (by decide) b1568.1, Int.le_trans b1568.2 (by decide)⟩ ⟨Int.le_trans (by decide) b1575, Int.le_trans b1576 (by decide)⟩ (fun c1577 => ?_) (fun c1577 => ?_))
            · have _zf : XNX (xwf e d) (xlots d).toNat cY (-1) := Or.inl ⟨rfl, fun j h1 q => by
                by_cases c9 : j < u1564
                · exact ‹(∀ j : Nat, cY ≤ (j : Int) → j < u1564 → xwf e d j ≤ 0)› j h1 c9
                · have p : u1564 ≤ j := by omega
                  have h1 := xcn_mono (f := xwf e d) (m := u1564) j p
                  by_cases c0 : xwf e d j ≤ 0
                  exact c0
                  have h2 := xcn_lt (f := xwf e d) (m := j) (n := (xlots d).toNat) q (by omega)
                  omega⟩
              refine wp_of e288 c288_87 (rw_aload_n (pc' := 88) (v := .ref r0) rfl rfl rfl ?_)
              refine wp_of e288 c288_88 (rw_bipush (pc' := 90) (z := 6) rfl (by decide) ?_)
              refine wp_of e288 c288_90 (xc_V (pc' := 93) (r := r0) (as := [vI 6]) (st := []) (lm_9_54) rfl rfl (Nat.le_of_ble_eq_true rfl) w1434 g0 sh_42 (by decide) rfl (by decide) (u_170  w1434 g0 ⟨by decide, by decide⟩) (fun R1578 T1579 H1580 p1581 => ?_))
              obtain ⟨e1582, w1584, f1585, z1586, e1583, b1587, p1588⟩ := p1581
              subst e1582
              subst e1583
              obtain ⟨a1589, a1590, a1591⟩ := p1588
              have f1592 := f1455.tr f1585 rfl
              show wp _ _ 288 93 [(2, vI v1563), (0, .ref r0)] [vI z1586] _ H1580 _
              have k1593 : wKI H1580 r0 = wKI H1430 r0 := (wKI_fr w1434 g0 f1585 rfl)
              have k1594 : H1580 r0 32 = H r0 32 := ((f1585 r0 32 _ g0 rfl).trans ((f1435 r0 32 _ g0 rfl).trans (wq_u_j e1417 rfl)))
              have h1595 : KNN T H1580 r0 e d := (KNN_fr w1434 g0 f1585 rfl a1446)
              have h1596 : RY T H1580 r0 nY gY cY := (RY_fr w1434 g0 f1585 rfl (RY_fr w1418 g0 f1435 rfl (RY_fr hW g0 ((wfr.rf (l := [(42, 0)])).put' e1417 g0 rfl) rfl hRY_r0)))
              exact wp_ireturn e288 c288_93 rfl ⟨rfl, w1584, f1592, z1586, rfl, ⟨b1587.1, b1587.2⟩, (Or.inr (Or.inl ⟨by omega, by omega, by omega, XNX_z (by assumption) (by omega), h1595, h1596⟩))⟩
            · obtain ⟨h9, _a, _b, _c, _e, _f⟩ := xcn_nx (f := xwf e d) (u := u1564) (xlots d).toNat (by omega) (by omega)
              have _n9 : xcn (xwf e d) (h9 + 1) = xcn (xwf e d) h9 + 1 := by
                show xcn (xwf e d) h9 + (if xwf e d h9 > 0 then 1 else 0) = _
                rw [if_pos _c]
              refine wp_of e288 c288_42 (rw_aload_n (pc' := 43) (v := .ref r0) rfl rfl rfl ?_)
              refine wp_of e288 c288_43 (xg_R (pc' := 46) lf_9_42 w1434 g0 sh_42 (by decide) (by decide) ty_42_30 rfl rfl (fun r1597 q1598 g1599 => ?_))
              refine wp_of e288 c288_46 (rw_iload_n (pc' := 47) (z := v1563) rfl rfl ?_)
              refine wp_of e288 c288_47 (xa_I (so := 0) (pc' := 48) w1434 g1599 sh_52 (by decide) (ty_52 _) (b1568.1) (by omega) rfl (fun b1600 b1601 => ?_))
              have _kl := KL_at h1570 q1598 (n := h9) (s := (v1563.toNat)) (by omega) _c (by omega)
              refine wp_of e288 c288_48 (rw_aload_n (pc' := 49) (v := .ref r0) rfl rfl rfl ?_)
              have k1602 : H1430 r0 32 = H r0 32 := ((f1435 r0 32 _ g0 rfl).trans (wq_u_j e1417 rfl))
              refine wp_of e288 c288_49 (xg_I (pc' := 52) lf_9_340 w1434 g0 sh_42 (by decide) (by decide) ty_42_32 rfl rfl (fun b1603 b1604 => ?_))
              refine wp_of e288 c288_52 (rw_icmp_ge (p1 := 58) (p2 := 55) (by decide) rfl ⟨Int.le_trans (by decide) b1600, Int.le_trans b1601 (by decide)⟩ ⟨Int.le_trans (by decide) b1603, b1604⟩ (fun c1605 => ?_) (fun c1605 => ?_))
              · have _zf : XNX (xwf e d) (xlots d).toNat cY ((h9 : Nat) : Int) := Or.inr ⟨by omega, by omega, by omega, by rw [Int.toNat_natCast]; exact _c, fun j h1 h2 => by
                  by_cases c0 : j < u1564
                  · exact ‹(∀ j : Nat, cY ≤ (j : Int) → j < u1564 → xwf e d j ≤ 0)› j h1 c0
                  · exact _f j (by omega) (by omega)⟩
                refine wp_of e288 c288_58 (rw_aload_n (pc' := 59) (v := .ref r0) rfl rfl rfl ?_)
                refine wp_of e288 c288_59 (rw_aload_n (pc' := 60) (v := .ref r0) rfl rfl rfl ?_)
                refine wp_of e288 c288_60 (xg_K (pc' := 63) lf_9_42 w1434 g0 sh_42 (by decide) (by decide) rfl q1598 rfl ?_)
                refine wp_of e288 c288_63 (rw_iload_n (pc' := 64) (z := v1563) rfl rfl ?_)
                refine wp_of e288 c288_64 (xa_I (so := 0) (pc' := 65) w1434 g1599 sh_52 (by decide) (ty_52 _) (b1568.1) (by omega) rfl (fun b1606 b1607 => ?_))
                have _kl := KL_at h1570 q1598 (n := h9) (s := (v1563.toNat)) (by omega) _c (by omega)
                refine wp_of e288 c288_65 (rw_iconst (pc' := 66) rfl ?_)
                refine wp_of e288 c288_66 (rw_iadd (pc' := 67) rfl ?_)
                refine wp_of e288 c288_67 (xp_I (pc' := 70) lf_9_340 w1434 g0 sh_42 (by decide) (by decide) ty_42_32 rfl rfl (by omega) (by omega) ⟨by omega, by omega⟩ rfl (fun H1608 e1609 w1610 => ?_))
                have f1611 := f1455.put' e1609 g0 rfl
                have k1612 : H1608 r0 32 = (H1430 r1597 (v1563.toNat)) + 1 := wq_u_s e1609
                refine wp_of e288 c288_70 (rw_aload_n (pc' := 71) (v := .ref r0) rfl rfl rfl ?_)
                refine wp_of e288 c288_71 (rw_aload_n (pc' := 72) (v := .ref r0) rfl rfl rfl ?_)
                have k1613 : H1608 r0 30 = H1430 r0 30 := (wq_u_j e1609 rfl)
                have q1614 : H1608 r0 30 = (r1597 : Int) := k1613.trans q1598
                refine wp_of e288 c288_72 (xg_K (pc' := 75) lf_9_42 w1610 g0 sh_42 (by decide) (by decide) rfl q1614 rfl ?_)
                refine wp_of e288 c288_75 (rw_iload_n (pc' := 76) (z := v1563) rfl rfl ?_)
                have k1615 : H1608 r1597 (v1563.toNat) = H1430 r1597 (v1563.toNat) := (wq_u_t e1609 g0 g1599 rfl (v1563.toNat))
                refine wp_of e288 c288_76 (xa_I (so := 0) (pc' := 77) w1610 g1599 sh_52 (by decide) (ty_52 _) (b1568.1) (by omega) rfl (fun b1616 b1617 => ?_))
                have h1618 : KL T H1608 r0 (xwf e d) (xlots d).toNat := (KL_fr w1434 g0 ((wfr.rf (l := [(42, 32)])).put' e1609 g0 rfl) rfl h1570)
                have _kl := KL_at h1618 q1614 (n := h9) (s := (v1563.toNat)) (by omega) _c (by omega)
                refine wp_of e288 c288_77 (xc_V (pc' := 80) (r := r0) (as := [vI (H1608 r1597 (v1563.toNat))]) (st := []) (lm_9_58) rfl rfl (Nat.le_of_ble_eq_true rfl) w1610 g0 sh_42 (by decide) rfl (by decide) (u_209  w1610 g0 ⟨Int.le_trans (by decide) b1616, Int.le_trans b1617 (by decide)⟩) (fun R1619 T1620 H1621 p1622 => ?_))
                obtain ⟨e1623, w1625, f1626, z1627, e1624, b1628, p1629⟩ := p1622
                subst e1623
                subst e1624
                obtain ⟨a1630, a1631, a1632⟩ := p1629
                have f1633 := f1611.tr f1626 rfl
                show wp _ _ 288 80 [(2, vI v1563), (0, .ref r0)] [vI z1627] _ H1621 _
                have k1634 : wKI H1621 r0 = wKI H1430 r0 := ((wKI_fr w1610 g0 f1626 rfl).trans (wKI_fr w1434 g0 ((wfr.rf (l := [(42, 32)])).put' e1609 g0 rfl) rfl))
                have k1635 : H1621 r0 32 = H1608 r0 32 := (f1626 r0 32 _ g0 rfl)
                have h1636 : KNN T H1621 r0 e d := (KNN_fr w1610 g0 f1626 rfl (KNN_fr w1434 g0 ((wfr.rf (l := [(42, 32)])).put' e1609 g0 rfl) rfl a1446))
                have h1637 : MN26 T H1621 r0 nY gY := (MN26_fr w1610 g0 f1626 rfl (MN26_fr w1434 g0 ((wfr.rf (l := [(42, 32)])).put' e1609 g0 rfl) rfl (MN26_fr w1418 g0 f1435 rfl (MN26_fr hW g0 ((wfr.rf (l := [(42, 0)])).put' e1417 g0 rfl) rfl h1415))))
                exact wp_ireturn e288 c288_80 rfl ⟨rfl, w1625, f1633, z1627, rfl, ⟨b1628.1, b1628.2⟩, (Or.inr (Or.inr ⟨by omega, by omega, XNX_z _zf (by omega), h1636, ⟨h1637, by omega⟩⟩))⟩
              · refine wp_of e288 c288_55 (rw_goto (p1 := 81) (by decide) ?_)
                have _q : (∀ j : Nat, cY ≤ (j : Int) → j < (h9 + 1) → xwf e d j ≤ 0) := fun j h1 h2 => by
                  by_cases c0 : j < u1564
                  · exact ‹(∀ j : Nat, cY ≤ (j : Int) → j < u1564 → xwf e d j ≤ 0)› j h1 c0
                  · by_cases c1 : j < h9
                    · exact _f j (by omega) c1
                    · omega
                refine wp_of e288 c288_81 (rw_iinc (pc' := 84) (z := v1563) (L' := [(2, vI (v1563 + 1)), (0, .ref r0)]) rfl rfl rfl rfl ?_)
                refine wp_of e288 c288_84 (rw_goto (p1 := 34) (by decide) ?_)
                exact wp_lc (ks := [2, 0]) (wl_c rfl (wl_c rfl wl_n)) rfl (by decide) (ih1562 _ (by omega) (v1563 + 1) ((h9 + 1)) ⟨by omega, by omega⟩ h1570 (by omega) (by omega) (by omega) (_q) rfl)
        exact wp_lc (ks := [2, 1, 0]) (wl_c rfl (wl_c rfl wl_n)) rfl (by decide) (lp1560 _ 0 0 ⟨by decide, by decide⟩ h1463 (by omega) (by omega) (rfl) (fun j h1 h2 => by omega) rfl)
      · exfalso
        omega
    · have f1638 := f1419.tr f1435 rfl
      show wp _ _ 288 21 [(0, .ref r0)] [vI z1436] _ H1430 _
      refine wp_of e288 c288_21 (rw_istore_n (pc' := 22) (z := z1436) (L' := [(1, vI z1436), (0, .ref r0)]) rfl rfl rfl ?_)
      refine wp_of e288 c288_22 (rw_iload_n (pc' := 23) (z := z1436) rfl rfl ?_)
      refine wp_of e288 c288_23 (rw_if_le (p1 := 32) (p2 := 26) (by decide) rfl ⟨Int.le_trans (by decide) b1437.1, Int.le_trans b1437.2 (by decide)⟩ (fun c1639 => ?_) (fun c1639 => ?_))
      · exfalso
        omega
      · refine wp_of e288 c288_26 (rw_aload_n (pc' := 27) (v := .ref r0) rfl rfl rfl ?_)
        refine wp_of e288 c288_27 (rw_iload_n (pc' := 28) (z := z1436) rfl rfl ?_)
        refine wp_of e288 c288_28 (xc_V (pc' := 31) (r := r0) (as := [vI z1436]) (st := []) (lm_9_54) rfl rfl (Nat.le_of_ble_eq_true rfl) w1434 g0 sh_42 (by decide) rfl (by decide) (u_170  w1434 g0 ⟨Int.le_trans (by decide) b1437.1, Int.le_trans b1437.2 (by decide)⟩) (fun R1640 T1641 H1642 p1643 => ?_))
        obtain ⟨e1644, w1646, f1647, z1648, e1645, b1649, p1650⟩ := p1643
        subst e1644
        subst e1645
        obtain ⟨a1651, a1652, a1653⟩ := p1650
        have f1654 := f1638.tr f1647 rfl
        show wp _ _ 288 31 [(1, vI z1436), (0, .ref r0)] [vI z1648] _ H1642 _
        have k1655 : wKI H1642 r0 = wKI H1430 r0 := (wKI_fr w1434 g0 f1647 rfl)
        have k1656 : H1642 r0 32 = H r0 32 := ((f1647 r0 32 _ g0 rfl).trans ((f1435 r0 32 _ g0 rfl).trans (wq_u_j e1417 rfl)))
        have h1657 : KNN T H1642 r0 e d := (KNN_fr w1434 g0 f1647 rfl a1454)
        have h1658 : RY T H1642 r0 nY gY cY := (RY_fr w1434 g0 f1647 rfl (RY_fr w1418 g0 f1435 rfl (RY_fr hW g0 ((wfr.rf (l := [(42, 0)])).put' e1417 g0 rfl) rfl hRY_r0)))
        exact wp_ireturn e288 c288_31 rfl ⟨rfl, w1646, f1654, z1648, rfl, ⟨b1649.1, b1649.2⟩, (Or.inl ⟨by omega, by omega, by omega, h1657, h1658⟩)⟩
  · refine wp_of e288 c288_10 (rw_ifnull_r (p1 := 17) (p2 := 13) (by decide) rfl ?_)
    refine wp_of e288 c288_13 (rw_iconst (pc' := 14) rfl ?_)
    refine wp_of e288 c288_14 (rw_goto (p1 := 18) (by decide) ?_)
    have k1659 : wKI H1416 r0 = wKI H r0 := (wKI_fr hW g0 ((wfr.rf (l := [(42, 0)])).put' e1417 g0 rfl) rfl)
    have h1660 : RB T H1416 r0 e d := (RB_fr hW g0 ((wfr.rf (l := [(42, 0)])).put' e1417 g0 rfl) rfl hRB_r0)
    have h1661 : KNN T H1416 r0 e d := (KNN_fr hW g0 ((wfr.rf (l := [(42, 0)])).put' e1417 g0 rfl) rfl hKNN_r0)
    refine wp_of e288 c288_18 (xc_V (pc' := 21) (r := r0) (as := [vI 1]) (st := []) (lm_9_433) rfl rfl (Nat.le_of_ble_eq_true rfl) w1418 g0 sh_42 (by decide) rfl (by decide) (u_241 (e := e) (d := d) w1418 g0 ⟨by decide, by decide⟩ (by omega) (by omega) (by assumption) (by assumption) (by assumption) (by assumption) h1660 h1661) (fun R1662 T1663 H1664 p1665 => ?_))
    obtain ⟨e1666, w1668, f1669, z1670, e1667, b1671, p1672⟩ := p1665
    subst e1666
    subst e1667
    rcases p1672 with ⟨a1673, a1674, a1675, a1676, a1677, a1678, a1679, a1680, a1681⟩ | ⟨a1682, a1683, a1684, a1685, a1686, a1687, a1688⟩
    · have f1689 := f1419.tr f1669 rfl
      show wp _ _ 288 21 [(0, .ref r0)] [vI z1670] _ H1664 _
      refine wp_of e288 c288_21 (rw_istore_n (pc' := 22) (z := z1670) (L' := [(1, vI z1670), (0, .ref r0)]) rfl rfl rfl ?_)
      refine wp_of e288 c288_22 (rw_iload_n (pc' := 23) (z := z1670) rfl rfl ?_)
      refine wp_of e288 c288_23 (rw_if_le (p1 := 32) (p2 := 26) (by decide) rfl ⟨Int.le_trans (by decide) b1671.1, Int.le_trans b1671.2 (by decide)⟩ (fun c1690 => ?_) (fun c1690 => ?_))
      · have k1691 : H1664 r0 3 = H1416 r0 3 := (f1669 r0 3 _ g0 rfl)
        have q1692 : H1664 r0 3 = (r1422 : Int) := k1691.trans q1423
        have h1693 : RB T H1664 r0 e d := (RB_fr w1418 g0 f1669 rfl h1660)
        have _kbb := a1681
        have _kb := _kbb.1
        have _n3 : H1664 r0 3 ≠ -1 := by omega
        have _rp := RB_at h1693 q1692
        have _k := RP_k _rp
        have _nb := xcn_b (f := xwf e d) (xlots d).toNat
        have h1694 : KL T H1664 r0 (xwf e d) (xlots d).toNat := _kbb.2
        refine wp_of e288 c288_32 (rw_iconst (pc' := 33) rfl ?_)
        refine wp_of e288 c288_33 (rw_istore_n (pc' := 34) (z := 0) (L' := [(2, vI 0), (1, vI z1670), (0, .ref r0)]) rfl rfl rfl ?_)
        have b1796 : 0 ≤ H1664 r0 29 ∧ H1664 r0 29 ≤ 20000 := w1668.box g0 (n := 33) rfl (by decide) rfl
        have lp1791 : ∀ (n1792 : Nat) (v1794 : Int) (u1795 : Nat), (0 ≤ v1794 ∧ v1794 ≤ 20000) → KL T H1664 r0 (xwf e d) (xlots d).toNat → (v1794 ≤ H1664 r0 29) → (u1795 ≤ (xlots d).toNat) → (xcn (xwf e d) u1795 = v1794) → ((∀ j : Nat, cY ≤ (j : Int) → j < u1795 → xwf e d j ≤ 0)) → (20000 - v1794).toNat = n1792 → wp kt 7 288 34 [(2, vI v1794), (0, .ref r0)] [] T H1664 (uq_288 r0 e d nY gY cY T H) := by
          intro n1792
          induction n1792 using Nat.strongRecOn with
          | _ n1792 ih1793 =>
            intro v1794 u1795 b1799 h1801 x1802 x1803 x1804 x1805 m1800
            refine wp_of e288 c288_34 (rw_iload_n (pc' := 35) (z := v1794) rfl rfl ?_)
            refine wp_of e288 c288_35 (rw_aload_n (pc' := 36) (v := .ref r0) rfl rfl rfl ?_)
            refine wp_of e288 c288_36 (xg_I (pc' := 39) lf_9_422 w1668 g0 sh_42 (by decide) (by decide) ty_42_29 rfl rfl (fun b1806 b1807 => ?_))
            refine wp_of e288 c288_39 (rw_icmp_ge (p1 := 87) (p2 := 42) (by decide) rfl ⟨Int.le_trans (by decide) b1799.1, Int.le_trans b1799.2 (by decide)⟩ ⟨Int.le_trans (by decide) b1806, Int.le_trans b1807 (by decide)⟩ (fun c1808 => ?_) (fun c1808 => ?_))
            · have _zf : XNX (xwf e d) (xlots d).toNat cY (-1) := Or.inl ⟨rfl, fun j h1 q => by
                by_cases c9 : j < u1795
                · exact ‹(∀ j : Nat, cY ≤ (j : Int) → j < u1795 → xwf e d j ≤ 0)› j h1 c9
                · have p : u1795 ≤ j := by omega
                  have h1 := xcn_mono (f := xwf e d) (m := u1795) j p
                  by_cases c0 : xwf e d j ≤ 0
                  exact c0
                  have h2 := xcn_lt (f := xwf e d) (m := j) (n := (xlots d).toNat) q (by omega)
                  omega⟩
              refine wp_of e288 c288_87 (rw_aload_n (pc' := 88) (v := .ref r0) rfl rfl rfl ?_)
              refine wp_of e288 c288_88 (rw_bipush (pc' := 90) (z := 6) rfl (by decide) ?_)
              refine wp_of e288 c288_90 (xc_V (pc' := 93) (r := r0) (as := [vI 6]) (st := []) (lm_9_54) rfl rfl (Nat.le_of_ble_eq_true rfl) w1668 g0 sh_42 (by decide) rfl (by decide) (u_170  w1668 g0 ⟨by decide, by decide⟩) (fun R1809 T1810 H1811 p1812 => ?_))
              obtain ⟨e1813, w1815, f1816, z1817, e1814, b1818, p1819⟩ := p1812
              subst e1813
              subst e1814
              obtain ⟨a1820, a1821, a1822⟩ := p1819
              have f1823 := f1689.tr f1816 rfl
              show wp _ _ 288 93 [(2, vI v1794), (0, .ref r0)] [vI z1817] _ H1811 _
              have k1824 : wKI H1811 r0 = wKI H1664 r0 := (wKI_fr w1668 g0 f1816 rfl)
              have k1825 : H1811 r0 32 = H r0 32 := ((f1816 r0 32 _ g0 rfl).trans ((f1669 r0 32 _ g0 rfl).trans (wq_u_j e1417 rfl)))
              have h1826 : KNN T H1811 r0 e d := (KNN_fr w1668 g0 f1816 rfl a1680)
              have h1827 : RY T H1811 r0 nY gY cY := (RY_fr w1668 g0 f1816 rfl (RY_fr w1418 g0 f1669 rfl (RY_fr hW g0 ((wfr.rf (l := [(42, 0)])).put' e1417 g0 rfl) rfl hRY_r0)))
              exact wp_ireturn e288 c288_93 rfl ⟨rfl, w1815, f1823, z1817, rfl, ⟨b1818.1, b1818.2⟩, (Or.inr (Or.inl ⟨by omega, by omega, by omega, XNX_z (by assumption) (by omega), h1826, h1827⟩))⟩
            · obtain ⟨h9, _a, _b, _c, _e, _f⟩ := xcn_nx (f := xwf e d) (u := u1795) (xlots d).toNat (by omega) (by omega)
              have _n9 : xcn (xwf e d) (h9 + 1) = xcn (xwf e d) h9 + 1 := by
                show xcn (xwf e d) h9 + (if xwf e d h9 > 0 then 1 else 0) = _
                rw [if_pos _c]
              refine wp_of e288 c288_42 (rw_aload_n (pc' := 43) (v := .ref r0) rfl rfl rfl ?_)
              refine wp_of e288 c288_43 (xg_R (pc' := 46) lf_9_42 w1668 g0 sh_42 (by decide) (by decide) ty_42_30 rfl rfl (fun r1828 q1829 g1830 => ?_))
              refine wp_of e288 c288_46 (rw_iload_n (pc' := 47) (z := v1794) rfl rfl ?_)
              refine wp_of e288 c288_47 (xa_I (so := 0) (pc' := 48) w1668 g1830 sh_52 (by decide) (ty_52 _) (b1799.1) (by omega) rfl (fun b1831 b1832 => ?_))
              have _kl := KL_at h1801 q1829 (n := h9) (s := (v1794.toNat)) (by omega) _c (by omega)
              refine wp_of e288 c288_48 (rw_aload_n (pc' := 49) (v := .ref r0) rfl rfl rfl ?_)
              have k1833 : H1664 r0 32 = H r0 32 := ((f1669 r0 32 _ g0 rfl).trans (wq_u_j e1417 rfl))
              refine wp_of e288 c288_49 (xg_I (pc' := 52) lf_9_340 w1668 g0 sh_42 (by decide) (by decide) ty_42_32 rfl rfl (fun b1834 b1835 => ?_))
              refine wp_of e288 c288_52 (rw_icmp_ge (p1 := 58) (p2 := 55) (by decide) rfl ⟨Int.le_trans (by decide) b1831, Int.le_trans b1832 (by decide)⟩ ⟨Int.le_trans (by decide) b1834, b1835⟩ (fun c1836 => ?_) (fun c1836 => ?_))
              · have _zf : XNX (xwf e d) (xlots d).toNat cY ((h9 : Nat) : Int) := Or.inr ⟨by omega, by omega, by omega, by rw [Int.toNat_natCast]; exact _c, fun j h1 h2 => by
                  by_cases c0 : j < u1795
                  · exact ‹(∀ j : Nat, cY ≤ (j : Int) → j < u1795 → xwf e d j ≤ 0)› j h1 c0
                  · exact _f j (by omega) (by omega)⟩
                refine wp_of e288 c288_58 (rw_aload_n (pc' := 59) (v := .ref r0) rfl rfl rfl ?_)
                refine wp_of e288 c288_59 (rw_aload_n (pc' := 60) (v := .ref r0) rfl rfl rfl ?_)
                refine wp_of e288 c288_60 (xg_K (pc' := 63) lf_9_42 w1668 g0 sh_42 (by decide) (by decide) rfl q1829 rfl ?_)
                refine wp_of e288 c288_63 (rw_iload_n (pc' := 64) (z := v1794) rfl rfl ?_)
                refine wp_of e288 c288_64 (xa_I (so := 0) (pc' := 65) w1668 g1830 sh_52 (by decide) (ty_52 _) (b1799.1) (by omega) rfl (fun b1837 b1838 => ?_))
                have _kl := KL_at h1801 q1829 (n := h9) (s := (v1794.toNat)) (by omega) _c (by omega)
                refine wp_of e288 c288_65 (rw_iconst (pc' := 66) rfl ?_)
                refine wp_of e288 c288_66 (rw_iadd (pc' := 67) rfl ?_)
                refine wp_of e288 c288_67 (xp_I (pc' := 70) lf_9_340 w1668 g0 sh_42 (by decide) (by decide) ty_42_32 rfl rfl (by omega) (by omega) ⟨by omega, by omega⟩ rfl (fun H1839 e1840 w1841 => ?_))
                have f1842 := f1689.put' e1840 g0 rfl
                have k1843 : H1839 r0 32 = (H1664 r1828 (v1794.toNat)) + 1 := wq_u_s e1840
                refine wp_of e288 c288_70 (rw_aload_n (pc' := 71) (v := .ref r0) rfl rfl rfl ?_)
                refine wp_of e288 c288_71 (rw_aload_n (pc' := 72) (v := .ref r0) rfl rfl rfl ?_)
                have k1844 : H1839 r0 30 = H1664 r0 30 := (wq_u_j e1840 rfl)
                have q1845 : H1839 r0 30 = (r1828 : Int) := k1844.trans q1829
                refine wp_of e288 c288_72 (xg_K (pc' := 75) lf_9_42 w1841 g0 sh_42 (by decide) (by decide) rfl q1845 rfl ?_)
                refine wp_of e288 c288_75 (rw_iload_n (pc' := 76) (z := v1794) rfl rfl ?_)
                have k1846 : H1839 r1828 (v1794.toNat) = H1664 r1828 (v1794.toNat) := (wq_u_t e1840 g0 g1830 rfl (v1794.toNat))
                refine wp_of e288 c288_76 (xa_I (so := 0) (pc' := 77) w1841 g1830 sh_52 (by decide) (ty_52 _) (b1799.1) (by omega) rfl (fun b1847 b1848 => ?_))
                have h1849 : KL T H1839 r0 (xwf e d) (xlots d).toNat := (KL_fr w1668 g0 ((wfr.rf (l := [(42, 32)])).put' e1840 g0 rfl) rfl h1801)
                have _kl := KL_at h1849 q1845 (n := h9) (s := (v1794.toNat)) (by omega) _c (by omega)
                refine wp_of e288 c288_77 (xc_V (pc' := 80) (r := r0) (as := [vI (H1839 r1828 (v1794.toNat))]) (st := []) (lm_9_58) rfl rfl (Nat.le_of_ble_eq_true rfl) w1841 g0 sh_42 (by decide) rfl (by decide) (u_209  w1841 g0 ⟨Int.le_trans (by decide) b1847, Int.le_trans b1848 (by decide)⟩) (fun R1850 T1851 H1852 p1853 => ?_))
                obtain ⟨e1854, w1856, f1857, z1858, e1855, b1859, p1860⟩ := p1853
                subst e1854
                subst e1855
                obtain ⟨a1861, a1862, a1863⟩ := p1860
                have f1864 := f1842.tr f1857 rfl
                show wp _ _ 288 80 [(2, vI v1794), (0, .ref r0)] [vI z1858] _ H1852 _
                have k1865 : wKI H1852 r0 = wKI H1664 r0 := ((wKI_fr w1841 g0 f1857 rfl).trans (wKI_fr w1668 g0 ((wfr.rf (l := [(42, 32)])).put' e1840 g0 rfl) rfl))
                have k1866 : H1852 r0 32 = H1839 r0 32 := (f1857 r0 32 _ g0 rfl)
                have h1867 : KNN T H1852 r0 e d := (KNN_fr w1841 g0 f1857 rfl (KNN_fr w1668 g0 ((wfr.rf (l := [(42, 32)])).put' e1840 g0 rfl) rfl a1680))
                have h1868 : MN26 T H1852 r0 nY gY := (MN26_fr w1841 g0 f1857 rfl (MN26_fr w1668 g0 ((wfr.rf (l := [(42, 32)])).put' e1840 g0 rfl) rfl (MN26_fr w1418 g0 f1669 rfl (MN26_fr hW g0 ((wfr.rf (l := [(42, 0)])).put' e1417 g0 rfl) rfl h1415))))
                exact wp_ireturn e288 c288_80 rfl ⟨rfl, w1856, f1864, z1858, rfl, ⟨b1859.1, b1859.2⟩, (Or.inr (Or.inr ⟨by omega, by omega, XNX_z _zf (by omega), h1867, ⟨h1868, by omega⟩⟩))⟩
              · refine wp_of e288 c288_55 (rw_goto (p1 := 81) (by decide) ?_)
                have _q : (∀ j : Nat, cY ≤ (j : Int) → j < (h9 + 1) → xwf e d j ≤ 0) := fun j h1 h2 => by
                  by_cases c0 : j < u1795
                  · exact ‹(∀ j : Nat, cY ≤ (j : Int) → j < u1795 → xwf e d j ≤ 0)› j h1 c0
                  · by_cases c1 : j < h9
                    · exact _f j (by omega) c1
                    · omega
                refine wp_of e288 c288_81 (rw_iinc (pc' := 84) (z := v1794) (L' := [(2, vI (v1794 + 1)), (0, .ref r0)]) rfl rfl rfl rfl ?_)
                refine wp_of e288 c288_84 (rw_goto (p1 := 34) (by decide) ?_)
                exact wp_lc (ks := [2, 0]) (wl_c rfl (wl_c rfl wl_n)) rfl (by decide) (ih1793 _ (by omega) (v1794 + 1) ((h9 + 1)) ⟨by omega, by omega⟩ h1801 (by omega) (by omega) (by omega) (_q) rfl)
        exact wp_lc (ks := [2, 1, 0]) (wl_c rfl (wl_c rfl wl_n)) rfl (by decide) (lp1791 _ 0 0 ⟨by decide, by decide⟩ h1694 (by omega) (by omega) (rfl) (fun j h1 h2 => by omega) rfl)
      · exfalso
        omega
    · have f1869 := f1419.tr f1669 rfl
      show wp _ _ 288 21 [(0, .ref r0)] [vI z1670] _ H1664 _
      refine wp_of e288 c288_21 (rw_istore_n (pc' := 22) (z := z1670) (L' := [(1, vI z1670), (0, .ref r0)]) rfl rfl rfl ?_)
      refine wp_of e288 c288_22 (rw_iload_n (pc' := 23) (z := z1670) rfl rfl ?_)
      refine wp_of e288 c288_23 (rw_if_le (p1 := 32) (p2 := 26) (by decide) rfl ⟨Int.le_trans (by decide) b1671.1, Int.le_trans b1671.2 (by decide)⟩ (fun c1870 => ?_) (fun c1870 => ?_))
      · exfalso
        omega
      · refine wp_of e288 c288_26 (rw_aload_n (pc' := 27) (v := .ref r0) rfl rfl rfl ?_)
        refine wp_of e288 c288_27 (rw_iload_n (pc' := 28) (z := z1670) rfl rfl ?_)
        refine wp_of e288 c288_28 (xc_V (pc' := 31) (r := r0) (as := [vI z1670]) (st := []) (lm_9_54) rfl rfl (Nat.le_of_ble_eq_true rfl) w1668 g0 sh_42 (by decide) rfl (by decide) (u_170  w1668 g0 ⟨Int.le_trans (by decide) b1671.1, Int.le_trans b1671.2 (by decide)⟩) (fun R1871 T1872 H1873 p1874 => ?_))
        obtain ⟨e1875, w1877, f1878, z1879, e1876, b1880, p1881⟩ := p1874
        subst e1875
        subst e1876
        obtain ⟨a1882, a1883, a1884⟩ := p1881
        have f1885 := f1869.tr f1878 rfl
        show wp _ _ 288 31 [(1, vI z1670), (0, .ref r0)] [vI z1879] _ H1873 _
        have k1886 : wKI H1873 r0 = wKI H1664 r0 := (wKI_fr w1668 g0 f1878 rfl)
        have k1887 : H1873 r0 32 = H r0 32 := ((f1878 r0 32 _ g0 rfl).trans ((f1669 r0 32 _ g0 rfl).trans (wq_u_j e1417 rfl)))
        have h1888 : KNN T H1873 r0 e d := (KNN_fr w1668 g0 f1878 rfl a1688)
        have h1889 : RY T H1873 r0 nY gY cY := (RY_fr w1668 g0 f1878 rfl (RY_fr w1418 g0 f1669 rfl (RY_fr hW g0 ((wfr.rf (l := [(42, 0)])).put' e1417 g0 rfl) rfl hRY_r0)))
        exact wp_ireturn e288 c288_31 rfl ⟨rfl, w1877, f1885, z1879, rfl, ⟨b1880.1, b1880.2⟩, (Or.inl ⟨by omega, by omega, by omega, h1888, h1889⟩)⟩
/-! StrikeAwakeModel.size(I)I  -/
abbrev uq_294 (r0 : Nat) (a1 : Int) (e : xD) (d : xD) (nY : Int) (gY : Nat → Int) (cY : Int) (T : wq_T) (H : wq_H) : Option Value → wq_T → wq_H → Prop := fun r T' H' => T = T' ∧ WT T H' ∧ wfr [(42, 0)] T H H' ∧ ∃ z : Int, some (vI z) = r ∧ ((-2147483648) ≤ z ∧ z ≤ 2147483647) ∧ ((((a1 = 9 ∧ z = H r0 6) ∨ (a1 ≠ 9 ∧ z = xsz e d cY a1))))
set_option maxHeartbeats 4000000 in
theorem u_294 {kt : Nat → Option mc_E} {T : wq_T} {H : wq_H} {r0 : Nat} {a1 : Int} {e : xD} {d : xD} {nY : Int} {gY : Nat → Int} {cY : Int} (hW : WT T H) (g0 : T.2.2.2 r0 = some 42) (i1 : (-2147483648) ≤ a1 ∧ a1 ≤ 2147483647) (p0 : H r0 3 ≠ -1 ∨ cY = 0) (p1 : H r0 3 = -1 ∨ 1 ≤ d 0 0) (hRB_r0 : RB T H r0 e d) (hRY_r0 : RY T H r0 nY gY cY) : wpc kt 2 294 [.ref r0, vI a1] T H (uq_294 r0 a1 e d nY gY cY T H) := by
  refine wp_enter e294 (Nat.le_of_ble_eq_true rfl) rfl ?_
  have f0 : wfr [(42, 0)] T H H := wfr.rf
  show wp _ _ 294 0 [(0, .ref r0), (1, vI a1)] [] _ H _
  have b1072 : 0 ≤ H r0 6 ∧ H r0 6 ≤ 900 := hW.box g0 (n := 33) rfl (by decide) rfl
  have b1073 : 0 ≤ H r0 32 ∧ H r0 32 ≤ 2147483647 := hW.box g0 (n := 33) rfl (by decide) rfl
  have _b := RB_b hW hRB_r0
  have _nu := RB_n3 hRB_r0
  have _cy := hRY_r0.2
  have _sy := @xsx_e (d 0 8)
  refine wp_of e294 c294_0 (rw_aload_n (pc' := 1) (v := .ref r0) rfl rfl rfl ?_)
  refine wp_of e294 c294_1 (rw_iconst (pc' := 2) rfl ?_)
  refine wp_of e294 c294_2 (xp_I (pc' := 5) lf_9_48 hW g0 sh_42 (by decide) (by decide) ty_42_0 rfl rfl (by decide) (by decide) ⟨by decide, by decide⟩ rfl (fun H1074 e1075 w1076 => ?_))
  have f1077 := f0.put' e1075 g0 rfl
  have k1078 : H1074 r0 0 = 0 := wq_u_s e1075
  refine wp_of e294 c294_5 (rw_iload_n (pc' := 6) (z := a1) rfl rfl ?_)
  refine wp_of e294 c294_6 (rw_bipush (pc' := 8) (z := 9) rfl (by decide) ?_)
  refine wp_of e294 c294_8 (rw_icmp_ne (p1 := 16) (p2 := 11) (by decide) rfl ⟨i1.1, i1.2⟩ ⟨by decide, by decide⟩ (fun c1079 => ?_) (fun c1079 => ?_))
  · refine wp_of e294 c294_16 (rw_iload_n (pc' := 17) (z := a1) rfl rfl ?_)
    refine wp_of e294 c294_17 (rw_iconst (pc' := 18) rfl ?_)
    refine wp_of e294 c294_18 (rw_bipush (pc' := 20) (z := 8) rfl (by decide) ?_)
    refine wp_of e294 c294_20 (xc_S (pc' := 23) (as := [vI a1, vI 0, vI 8]) (st := []) (lm_9_125) rfl rfl (Nat.le_of_ble_eq_true rfl) rfl (by decide) (u_186  w1076 ⟨i1.1, i1.2⟩ ⟨by decide, by decide⟩ ⟨by decide, by decide⟩) (fun R1080 T1081 H1082 p1083 => ?_))
    obtain ⟨e1084, e1086, z1087, e1085, b1088, p1089⟩ := p1083
    subst e1084
    subst e1085
    subst e1086
    rcases p1089 with ⟨a1090, a1091⟩ | ⟨a1092, a1093⟩
    · show wp _ _ 294 23 [(0, .ref r0), (1, vI a1)] [vI z1087] _ H1074 _
      refine wp_of e294 c294_23 (rw_if_ne (p1 := 28) (p2 := 26) (by decide) rfl ⟨Int.le_trans (by decide) b1088.1, Int.le_trans b1088.2 (by decide)⟩ (fun c1094 => ?_) (fun c1094 => ?_))
      · refine wp_of e294 c294_28 (rw_aload_n (pc' := 29) (v := .ref r0) rfl rfl rfl ?_)
        refine wp_of e294 c294_29 (xg_O (pc' := 32) lf_9_337 w1076 g0 sh_42 (by decide) (by decide) ty_42_3 rfl rfl (fun q1096 => ?_) (fun r1095 q1096 g1097 => ?_))
        · refine wp_of e294 c294_32 (rw_ifnonnull_n (p1 := 37) (p2 := 35) (by decide) rfl ?_)
          refine wp_of e294 c294_35 (rw_iconst (pc' := 36) rfl ?_)
          have h1098 : RB T H1074 r0 e d := (RB_fr hW g0 ((wfr.rf (l := [(42, 0)])).put' e1075 g0 rfl) rfl hRB_r0)
          have _nu2 := RB_nu h1098 (by omega)
          have _z : (0 : Int) = xsz e d cY a1 := by
            rw [_nu2.1, _nu2.2, show cY = 0 by omega]
            exact (xsz_0 (by omega) (by omega)).symm
          exact wp_ireturn e294 c294_36 rfl ⟨rfl, w1076, f1077, 0, rfl, ⟨by decide, by decide⟩, (by omega)⟩
        · refine wp_of e294 c294_32 (rw_ifnonnull_r (p1 := 37) (p2 := 35) (by decide) rfl ?_)
          have h1099 : RB T H1074 r0 e d := (RB_fr hW g0 ((wfr.rf (l := [(42, 0)])).put' e1075 g0 rfl) rfl hRB_r0)
          have _n3 : H1074 r0 3 ≠ -1 := by omega
          have _k := RP_k (RB_at h1099 q1096)
          have _k8 := RP_8 (RB_at h1099 q1096)
          refine wp_of e294 c294_37 (rw_iload_n (pc' := 38) (z := a1) rfl rfl ?_)
          have c1100 : a1 = 0 ∨ a1 = 1 ∨ a1 = 2 ∨ a1 = 3 ∨ a1 = 4 ∨ a1 = 5 ∨ a1 = 6 ∨ a1 = 7 ∨ (a1 < 0 ∨ 7 < a1) := by omega
          rcases c1100 with c1100 | c1100 | c1100 | c1100 | c1100 | c1100 | c1100 | c1100 | c1100
          · refine wp_of e294 c294_38 (rw_tsw (p1 := 84) ⟨by omega, by omega⟩ (by rw [c1100]; decide) ?_)
            refine wp_of e294 c294_84 (rw_aload_n (pc' := 85) (v := .ref r0) rfl rfl rfl ?_)
            refine wp_of e294 c294_85 (xg_K (pc' := 88) lf_9_337 w1076 g0 sh_42 (by decide) (by decide) rfl q1096 rfl ?_)
            refine wp_of e294 c294_88 (xg_I (pc' := 91) lf_9_188 w1076 g1097 sh_54 (by decide) (by decide) ty_54_3 rfl rfl (fun b1101 b1102 => ?_))
            have _z : (H1074 r1095 3 : Int) = xsz e d cY a1 := by
              unfold xsz
              repeat first | rw [if_pos (by omega -splitDisjunctions)] | rw [if_neg (by omega -splitDisjunctions)] | rw [if_neg (by omega)] | rw [if_pos (by omega)]
              first | done | omega
            exact wp_ireturn e294 c294_91 rfl ⟨rfl, w1076, f1077, H1074 r1095 3, rfl, ⟨Int.le_trans (by decide) b1101, Int.le_trans b1102 (by decide)⟩, (by omega)⟩
          · refine wp_of e294 c294_38 (rw_tsw (p1 := 92) ⟨by omega, by omega⟩ (by rw [c1100]; decide) ?_)
            refine wp_of e294 c294_92 (rw_aload_n (pc' := 93) (v := .ref r0) rfl rfl rfl ?_)
            refine wp_of e294 c294_93 (xg_K (pc' := 96) lf_9_337 w1076 g0 sh_42 (by decide) (by decide) rfl q1096 rfl ?_)
            refine wp_of e294 c294_96 (xg_I (pc' := 99) lf_9_276 w1076 g1097 sh_54 (by decide) (by decide) ty_54_4 rfl rfl (fun b1103 b1104 => ?_))
            have _z : (H1074 r1095 4 : Int) = xsz e d cY a1 := by
              unfold xsz
              repeat first | rw [if_pos (by omega -splitDisjunctions)] | rw [if_neg (by omega -splitDisjunctions)] | rw [if_neg (by omega)] | rw [if_pos (by omega)]
              first | done | omega
            exact wp_ireturn e294 c294_99 rfl ⟨rfl, w1076, f1077, H1074 r1095 4, rfl, ⟨Int.le_trans (by decide) b1103, Int.le_trans b1104 (by decide)⟩, (by omega)⟩
          · refine wp_of e294 c294_38 (rw_tsw (p1 := 100) ⟨by omega, by omega⟩ (by rw [c1100]; decide) ?_)
            refine wp_of e294 c294_100 (rw_aload_n (pc' := 101) (v := .ref r0) rfl rfl rfl ?_)
            refine wp_of e294 c294_101 (xg_K (pc' := 104) lf_9_337 w1076 g0 sh_42 (by decide) (by decide) rfl q1096 rfl ?_)
            refine wp_of e294 c294_104 (xg_I (pc' := 107) lf_9_288 w1076 g1097 sh_54 (by decide) (by decide) ty_54_5 rfl rfl (fun b1105 b1106 => ?_))
            have _z : (H1074 r1095 5 : Int) = xsz e d cY a1 := by
              unfold xsz
              repeat first | rw [if_pos (by omega -splitDisjunctions)] | rw [if_neg (by omega -splitDisjunctions)] | rw [if_neg (by omega)] | rw [if_pos (by omega)]
              first | done | omega
            exact wp_ireturn e294 c294_107 rfl ⟨rfl, w1076, f1077, H1074 r1095 5, rfl, ⟨Int.le_trans (by decide) b1105, Int.le_trans b1106 (by decide)⟩, (by omega)⟩
          · refine wp_of e294 c294_38 (rw_tsw (p1 := 108) ⟨by omega, by omega⟩ (by rw [c1100]; decide) ?_)
            have _ar := RB_ar h1099 (by omega)
            have _pk := _ar.1
            have h1107 : MN20 T H1074 r0 24 (e 13) := _ar.2.2.1
            refine wp_of e294 c294_108 (rw_aload_n (pc' := 109) (v := .ref r0) rfl rfl rfl ?_)
            refine wp_of e294 c294_109 (xc_V (pc' := 112) (r := r0) (as := []) (st := []) (lm_9_357) rfl rfl (Nat.le_of_ble_eq_true rfl) w1076 g0 sh_42 (by decide) rfl (by decide) (u_207 (f := ((e 13))) w1076 g0 h1107) (fun R1108 T1109 H1110 p1111 => ?_))
            obtain ⟨e1112, e1114, z1115, e1113, b1116, p1117⟩ := p1111
            subst e1112
            subst e1113
            subst e1114
            show wp _ _ 294 112 [(0, .ref r0), (1, vI a1)] [vI z1115] _ H1074 _
            refine wp_of e294 c294_112 (xc_S (pc' := 115) (as := [vI z1115]) (st := []) (lm_9_462) rfl rfl (Nat.le_of_ble_eq_true rfl) rfl (by decide) (u_269  w1076 ⟨b1116.1, b1116.2⟩) (fun R1119 T1120 H1121 p1122 => ?_))
            obtain ⟨e1123, e1125, z1126, e1124, b1127, p1128⟩ := p1122
            subst e1123
            subst e1124
            subst e1125
            show wp _ _ 294 115 [(0, .ref r0), (1, vI a1)] [vI z1126] _ H1074 _
            have _w9 : nbf 24 (z1115).toNat = nbf 24 (xob (fun h => decide (e 13 h > 0)) 24).toNat := by rw [show z1115 = xob (fun h => decide (e 13 h > 0)) 24 by omega]
            have _v9 := @xob_bits (e 13)
            have _z : (z1126 : Int) = xsz e d cY a1 := by
              unfold xsz
              repeat first | rw [if_pos (by omega -splitDisjunctions)] | rw [if_neg (by omega -splitDisjunctions)] | rw [if_neg (by omega)] | rw [if_pos (by omega)]
              first | done | omega
            exact wp_ireturn e294 c294_115 rfl ⟨rfl, w1076, f1077, z1126, rfl, ⟨Int.le_trans (by decide) b1127.1, Int.le_trans b1127.2 (by decide)⟩, (by omega)⟩
          · refine wp_of e294 c294_38 (rw_tsw (p1 := 116) ⟨by omega, by omega⟩ (by rw [c1100]; decide) ?_)
            refine wp_of e294 c294_116 (rw_aload_n (pc' := 117) (v := .ref r0) rfl rfl rfl ?_)
            refine wp_of e294 c294_117 (xg_K (pc' := 120) lf_9_337 w1076 g0 sh_42 (by decide) (by decide) rfl q1096 rfl ?_)
            refine wp_of e294 c294_120 (xg_I (pc' := 123) lf_9_306 w1076 g1097 sh_54 (by decide) (by decide) ty_54_6 rfl rfl (fun b1130 b1131 => ?_))
            have _z : (H1074 r1095 6 : Int) = xsz e d cY a1 := by
              unfold xsz
              repeat first | rw [if_pos (by omega -splitDisjunctions)] | rw [if_neg (by omega -splitDisjunctions)] | rw [if_neg (by omega)] | rw [if_pos (by omega)]
              first | done | omega
            exact wp_ireturn e294 c294_123 rfl ⟨rfl, w1076, f1077, H1074 r1095 6, rfl, ⟨Int.le_trans (by decide) b1130, Int.le_trans b1131 (by decide)⟩, (by omega)⟩
          · refine wp_of e294 c294_38 (rw_tsw (p1 := 124) ⟨by omega, by omega⟩ (by rw [c1100]; decide) ?_)
            refine wp_of e294 c294_124 (rw_aload_n (pc' := 125) (v := .ref r0) rfl rfl rfl ?_)
            refine wp_of e294 c294_125 (xg_K (pc' := 128) lf_9_337 w1076 g0 sh_42 (by decide) (by decide) rfl q1096 rfl ?_)
            refine wp_of e294 c294_128 (xg_I (pc' := 131) lf_9_321 w1076 g1097 sh_54 (by decide) (by decide) ty_54_7 rfl rfl (fun b1132 b1133 => ?_))
            have _z : (H1074 r1095 7 : Int) = xsz e d cY a1 := by
              unfold xsz
              repeat first | rw [if_pos (by omega -splitDisjunctions)] | rw [if_neg (by omega -splitDisjunctions)] | rw [if_neg (by omega)] | rw [if_pos (by omega)]
              first | done | omega
            exact wp_ireturn e294 c294_131 rfl ⟨rfl, w1076, f1077, H1074 r1095 7, rfl, ⟨Int.le_trans (by decide) b1132, Int.le_trans b1133 (by decide)⟩, (by omega)⟩
          · refine wp_of e294 c294_38 (rw_tsw (p1 := 132) ⟨by omega, by omega⟩ (by rw [c1100]; decide) ?_)
            refine wp_of e294 c294_132 (rw_aload_n (pc' := 133) (v := .ref r0) rfl rfl rfl ?_)
            refine wp_of e294 c294_133 (xg_K (pc' := 136) lf_9_337 w1076 g0 sh_42 (by decide) (by decide) rfl q1096 rfl ?_)
            refine wp_of e294 c294_136 (xg_I (pc' := 139) lf_9_185 w1076 g1097 sh_54 (by decide) (by decide) ty_54_0 rfl rfl (fun b1134 b1135 => ?_))
            have _z : (H1074 r1095 0 : Int) = xsz e d cY a1 := by
              unfold xsz
              repeat first | rw [if_pos (by omega -splitDisjunctions)] | rw [if_neg (by omega -splitDisjunctions)] | rw [if_neg (by omega)] | rw [if_pos (by omega)]
              first | done | omega
            exact wp_ireturn e294 c294_139 rfl ⟨rfl, w1076, f1077, H1074 r1095 0, rfl, ⟨Int.le_trans (by decide) b1134, Int.le_trans b1135 (by decide)⟩, (by omega)⟩
          · refine wp_of e294 c294_38 (rw_tsw (p1 := 140) ⟨by omega, by omega⟩ (by rw [c1100]; decide) ?_)
            refine wp_of e294 c294_140 (rw_aload_n (pc' := 141) (v := .ref r0) rfl rfl rfl ?_)
            refine wp_of e294 c294_141 (xg_K (pc' := 144) lf_9_337 w1076 g0 sh_42 (by decide) (by decide) rfl q1096 rfl ?_)
            refine wp_of e294 c294_144 (xg_I (pc' := 147) lf_9_271 w1076 g1097 sh_54 (by decide) (by decide) ty_54_8 rfl rfl (fun b1136 b1137 => ?_))
            refine wp_of e294 c294_147 (rw_iconst (pc' := 148) rfl ?_)
            refine wp_of e294 c294_148 (rw_icmp_ne (p1 := 156) (p2 := 151) (by decide) rfl ⟨b1136, b1137⟩ ⟨by decide, by decide⟩ (fun c1138 => ?_) (fun c1138 => ?_))
            · refine wp_of e294 c294_156 (rw_aload_n (pc' := 157) (v := .ref r0) rfl rfl rfl ?_)
              refine wp_of e294 c294_157 (xg_K (pc' := 160) lf_9_337 w1076 g0 sh_42 (by decide) (by decide) rfl q1096 rfl ?_)
              refine wp_of e294 c294_160 (xg_I (pc' := 163) lf_9_271 w1076 g1097 sh_54 (by decide) (by decide) ty_54_8 rfl rfl (fun b1139 b1140 => ?_))
              have _z : (H1074 r1095 8 : Int) = xsz e d cY a1 := by
                unfold xsz
                repeat first | rw [if_pos (by omega -splitDisjunctions)] | rw [if_neg (by omega -splitDisjunctions)] | rw [if_neg (by omega)] | rw [if_pos (by omega)]
                first | done | omega
              exact wp_ireturn e294 c294_163 rfl ⟨rfl, w1076, f1077, H1074 r1095 8, rfl, ⟨b1139, b1140⟩, (by omega)⟩
            · refine wp_of e294 c294_151 (rw_bipush (pc' := 153) (z := -2) rfl (by decide) ?_)
              refine wp_of e294 c294_153 (rw_goto (p1 := 163) (by decide) ?_)
              have _z : (-2 : Int) = xsz e d cY a1 := by
                unfold xsz
                repeat first | rw [if_pos (by omega -splitDisjunctions)] | rw [if_neg (by omega -splitDisjunctions)] | rw [if_neg (by omega)] | rw [if_pos (by omega)]
                first | done | omega
              exact wp_ireturn e294 c294_163 rfl ⟨rfl, w1076, f1077, -2, rfl, ⟨by decide, by decide⟩, (by omega)⟩
          · refine wp_of e294 c294_38 (rw_tsw (p1 := 164) ⟨by omega, by omega⟩ (by rw [if_pos c1100]; decide) ?_)
            refine wp_of e294 c294_164 (rw_aload_n (pc' := 165) (v := .ref r0) rfl rfl rfl ?_)
            have k1141 : H1074 r0 32 = H r0 32 := (wq_u_j e1075 rfl)
            refine wp_of e294 c294_165 (xg_I (pc' := 168) lf_9_340 w1076 g0 sh_42 (by decide) (by decide) ty_42_32 rfl rfl (fun b1142 b1143 => ?_))
            have _z : (H1074 r0 32 : Int) = xsz e d cY a1 := by
              unfold xsz
              repeat first | rw [if_pos (by omega -splitDisjunctions)] | rw [if_neg (by omega -splitDisjunctions)] | rw [if_neg (by omega)] | rw [if_pos (by omega)]
              first | done | omega
            exact wp_ireturn e294 c294_168 rfl ⟨rfl, w1076, f1077, H1074 r0 32, rfl, ⟨Int.le_trans (by decide) b1142, b1143⟩, (by omega)⟩
      · exfalso
        omega
    · show wp _ _ 294 23 [(0, .ref r0), (1, vI a1)] [vI z1087] _ H1074 _
      refine wp_of e294 c294_23 (rw_if_ne (p1 := 28) (p2 := 26) (by decide) rfl ⟨Int.le_trans (by decide) b1088.1, Int.le_trans b1088.2 (by decide)⟩ (fun c1144 => ?_) (fun c1144 => ?_))
      · exfalso
        omega
      · refine wp_of e294 c294_26 (rw_iconst (pc' := 27) rfl ?_)
        have _z : (-1 : Int) = xsz e d cY a1 := by
          unfold xsz
          repeat first | rw [if_pos (by omega -splitDisjunctions)] | rw [if_neg (by omega -splitDisjunctions)] | rw [if_neg (by omega)] | rw [if_pos (by omega)]
          first | done | omega
        exact wp_ireturn e294 c294_27 rfl ⟨rfl, w1076, f1077, -1, rfl, ⟨by decide, by decide⟩, (by omega)⟩
  · refine wp_of e294 c294_11 (rw_aload_n (pc' := 12) (v := .ref r0) rfl rfl rfl ?_)
    have k1145 : H1074 r0 6 = H r0 6 := (wq_u_j e1075 rfl)
    refine wp_of e294 c294_12 (xg_I (pc' := 15) lf_9_330 w1076 g0 sh_42 (by decide) (by decide) ty_42_6 rfl rfl (fun b1146 b1147 => ?_))
    have _z : True := True.intro
    exact wp_ireturn e294 c294_15 rfl ⟨rfl, w1076, f1077, H1074 r0 6, rfl, ⟨Int.le_trans (by decide) b1146, Int.le_trans b1147 (by decide)⟩, (by omega)⟩
