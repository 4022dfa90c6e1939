/-! what methods do (own work, written by wip/gen3/sx3.py) -/
/-! StrikeAwakeModel.surely(IZ)I  -/
abbrev uq_254 (r0 : Nat) (a1 : Int) (a2 : Int) (e : xD) (d : xD) (T : wq_T) (H : wq_H) : Option Value → wq_T → wq_H → Prop := fun r T' H' => T = T' ∧ WT T H' ∧ wfr [(42, 0), (42, 1), (42, 2), (42, 28), (42, 29), (51, 999), (52, 999)] T H H' ∧ ∃ z : Int, some (vI z) = r ∧ ((-2147483648) ≤ z ∧ z ≤ 2147483647) ∧ (((wKI H' r0 = 1) ∧ KNN T H' r0 e d))
set_option maxHeartbeats 4000000 in
theorem u_254 {kt : Nat → Option mc_E} {T : wq_T} {H : wq_H} {r0 : Nat} {a1 : Int} {a2 : Int} {e : xD} {d : xD} (hW : WT T H) (g0 : T.2.2.2 r0 = some 42) (i1 : (-2147483648) ≤ a1 ∧ a1 ≤ 2147483647) (i2 : 0 ≤ a2 ∧ a2 ≤ 1) (p0 : wKI H r0 = 1) (p1 : XW d) (p2 : ∀ h : Nat, d 0 0 ≤ (h : Int) → h < 24 → e 13 h = 0) (p3 : XN d) (p4 : ∀ h : Nat, h < 24 → 0 ≤ e 13 h ∧ e 13 h ≤ 100) (hRB_r0 : RB T H r0 e d) (hKNN_r0 : KNN T H r0 e d) : wpc kt 9 254 [.ref r0, vI a1, vI a2] T H (uq_254 r0 a1 a2 e d T H) := by
  refine wp_enter e254 (Nat.le_of_ble_eq_true rfl) rfl ?_
  have f0 : wfr [(42, 0), (42, 1), (42, 2), (42, 28), (42, 29), (51, 999), (52, 999)] T H H := wfr.rf
  show wp _ _ 254 0 [(0, .ref r0), (1, vI a1), (2, vI a2)] [] _ H _
  have _b := RB_b hW hRB_r0
  have _nu := RB_n3 hRB_r0
  have _lm := RB_lm hRB_r0
  refine wp_of e254 c254_0 (rw_aload_n (pc' := 1) (v := .ref r0) rfl rfl rfl ?_)
  refine wp_of e254 c254_1 (rw_iconst (pc' := 2) rfl ?_)
  refine wp_of e254 c254_2 (xp_I (pc' := 5) lf_9_48 hW g0 sh_42 (by decide) (by decide) ty_42_0 rfl rfl (by decide) (by decide) ⟨by decide, by decide⟩ rfl (fun H1379 e1380 w1381 => ?_))
  have f1382 := f0.put' e1380 g0 rfl
  have k1383 : H1379 r0 0 = 0 := wq_u_s e1380
  refine wp_of e254 c254_5 (rw_aload_n (pc' := 6) (v := .ref r0) rfl rfl rfl ?_)
  refine wp_of e254 c254_6 (rw_aload_n (pc' := 7) (v := .ref r0) rfl rfl rfl ?_)
  refine wp_of e254 c254_7 (rw_iload_n (pc' := 8) (z := a1) rfl rfl ?_)
  refine wp_of e254 c254_8 (xc_V (pc' := 11) (r := r0) (as := [vI a1]) (st := [.ref r0]) (lm_9_373) rfl rfl (Nat.le_of_ble_eq_true rfl) w1381 g0 sh_42 (by decide) rfl (by decide) (s_218 w1381 g0 ⟨i1.1, i1.2⟩) (fun R1384 T1385 H1386 p1387 => ?_))
  obtain ⟨e1388, e1390, z1392, e1389, b1393, p1391⟩ := p1387
  subst e1388
  subst e1389
  subst e1390
  show wp _ _ 254 11 [(0, .ref r0), (1, vI a1), (2, vI a2)] [vI z1392, .ref r0] _ H1379 _
  have k1394 : H1379 r0 3 = H r0 3 := (wq_u_j e1380 rfl)
  have k1395 : wKI H1379 r0 = wKI H r0 := (wKI_fr hW g0 ((wfr.rf (l := [(42, 0)])).put' e1380 g0 rfl) rfl)
  have h1396 : RB T H1379 r0 e d := (RB_fr hW g0 ((wfr.rf (l := [(42, 0)])).put' e1380 g0 rfl) rfl hRB_r0)
  have h1397 : KNN T H1379 r0 e d := (KNN_fr hW g0 ((wfr.rf (l := [(42, 0)])).put' e1380 g0 rfl) rfl hKNN_r0)
  refine wp_of e254 c254_11 (xc_V (pc' := 14) (r := r0) (as := [vI z1392]) (st := []) (lm_9_447) rfl rfl (Nat.le_of_ble_eq_true rfl) w1381 g0 sh_42 (by decide) rfl (by decide) (u_253 (e := e) (d := d) w1381 g0 ⟨b1393.1, b1393.2⟩ (by omega) (by omega) (by assumption) (by assumption) (by assumption) (by assumption) h1396 h1397) (fun R1398 T1399 H1400 p1401 => ?_))
  obtain ⟨e1402, w1404, f1405, z1406, e1403, b1407, p1408⟩ := p1401
  subst e1402
  subst e1403
  rcases p1408 with ⟨a1409, a1410, a1411, a1412, a1413, a1414, a1415, a1416, a1417, a1418⟩ | ⟨a1419, a1420, a1421, a1422, a1423, a1424, a1425⟩
  · have f1426 := f1382.tr f1405 rfl
    show wp _ _ 254 14 [(0, .ref r0), (1, vI a1), (2, vI a2)] [vI z1406] _ H1400 _
    have k1427 : wLM H1400 r0 = wLM H r0 := ((wLM_fr w1381 g0 f1405 rfl).trans (wLM_fr hW g0 ((wfr.rf (l := [(42, 0)])).put' e1380 g0 rfl) rfl))
    refine wp_of e254 c254_14 (rw_istore_n (pc' := 15) (z := z1406) (L' := [(3, vI z1406), (0, .ref r0), (1, vI a1), (2, vI a2)]) rfl rfl rfl ?_)
    refine wp_of e254 c254_15 (rw_iload_n (pc' := 16) (z := z1406) rfl rfl ?_)
    refine wp_of e254 c254_16 (rw_if_le (p1 := 25) (p2 := 19) (by decide) rfl ⟨Int.le_trans (by decide) b1407.1, Int.le_trans b1407.2 (by decide)⟩ (fun c1428 => ?_) (fun c1428 => ?_))
    · refine wp_of e254 c254_25 (rw_iconst (pc' := 26) rfl ?_)
      refine wp_of e254 c254_26 (rw_istore (pc' := 28) (z := 0) (L' := [(4, vI 0), (3, vI z1406), (0, .ref r0), (1, vI a1), (2, vI a2)]) rfl rfl rfl ?_)
      refine wp_of e254 c254_28 (rw_iconst (pc' := 29) rfl ?_)
      refine wp_of e254 c254_29 (rw_istore (pc' := 31) (z := 0) (L' := [(5, vI 0), (4, vI 0), (3, vI z1406), (0, .ref r0), (1, vI a1), (2, vI a2)]) rfl rfl rfl ?_)
      have lp1695 : ∀ (n1696 : Nat) (v1698 : Int) (v1699 : Int) (H1700 : wq_H), WT T H1700 → wfr [(51, 999)] T H1400 H1700 → (0 ≤ v1698 ∧ v1698 ≤ 6) → (0 ≤ v1699 ∧ v1699 ≤ 16777215) → (6 - v1698).toNat = n1696 → wp kt 8 254 31 [(5, vI v1698), (4, vI v1699), (0, .ref r0), (1, vI a1), (2, vI a2)] [] T H1700 (uq_254 r0 a1 a2 e d T H) := by
        intro n1696
        induction n1696 using Nat.strongRecOn with
        | _ n1696 ih1697 =>
          intro v1698 v1699 H1700 w1701 f1702 b1703 b1704 m1705
          have f1706 := f1426.tr f1702 rfl
          refine wp_of e254 c254_31 (rw_iload (pc' := 33) (z := v1698) rfl rfl ?_)
          refine wp_of e254 c254_33 (rw_aload_n (pc' := 34) (v := .ref r0) rfl rfl rfl ?_)
          have k1707 : H1700 r0 3 = H1379 r0 3 := ((f1702 r0 3 _ g0 rfl).trans (f1405 r0 3 _ g0 rfl))
          refine wp_of e254 c254_34 (xg_O (pc' := 37) lf_9_337 w1701 g0 sh_42 (by decide) (by decide) ty_42_3 rfl rfl (fun q1709 => ?_) (fun r1708 q1709 g1710 => ?_))
          · exfalso
            omega
          · refine wp_of e254 c254_37 (xg_I (pc' := 40) lf_9_188 w1701 g1710 sh_54 (by decide) (by decide) ty_54_3 rfl rfl (fun b1711 b1712 => ?_))
            refine wp_of e254 c254_40 (rw_icmp_ge (p1 := 84) (p2 := 43) (by decide) rfl ⟨Int.le_trans (by decide) b1703.1, Int.le_trans b1703.2 (by decide)⟩ ⟨Int.le_trans (by decide) b1711, Int.le_trans b1712 (by decide)⟩ (fun c1713 => ?_) (fun c1713 => ?_))
            · refine wp_of e254 c254_84 (rw_aload_n (pc' := 85) (v := .ref r0) rfl rfl rfl ?_)
              refine wp_of e254 c254_85 (rw_iload (pc' := 87) (z := v1699) rfl rfl ?_)
              refine wp_of e254 c254_87 (xc_V (pc' := 90) (r := r0) (as := [vI v1699]) (st := []) (lm_9_58) rfl rfl (Nat.le_of_ble_eq_true rfl) w1701 g0 sh_42 (by decide) rfl (by decide) (s_209 w1701 g0 ⟨Int.le_trans (by decide) b1704.1, Int.le_trans b1704.2 (by decide)⟩) (fun R1714 T1715 H1716 p1717 => ?_))
              obtain ⟨e1718, w1720, f1721, z1722, e1719, b1723⟩ := p1717
              subst e1718
              subst e1719
              have f1724 := f1706.tr f1721 rfl
              show wp _ _ 254 90 [(5, vI v1698), (4, vI v1699), (0, .ref r0), (1, vI a1), (2, vI a2)] [vI z1722] _ H1716 _
              have k1725 : wKI H1716 r0 = wKI H1400 r0 := ((wKI_fr w1701 g0 f1721 rfl).trans (wKI_fr w1404 g0 f1702 rfl))
              have h1726 : KNN T H1716 r0 e d := (KNN_fr w1701 g0 f1721 rfl (KNN_fr w1404 g0 f1702 rfl a1417))
              exact wp_ireturn e254 c254_90 rfl ⟨rfl, w1720, f1724, z1722, rfl, ⟨b1723.1, b1723.2⟩, ⟨by omega, h1726⟩⟩
            · refine wp_of e254 c254_43 (rw_iload (pc' := 45) (z := v1699) rfl rfl ?_)
              refine wp_of e254 c254_45 (rw_aload_n (pc' := 46) (v := .ref r0) rfl rfl rfl ?_)
              refine wp_of e254 c254_46 (rw_iload (pc' := 48) (z := v1698) rfl rfl ?_)
              refine wp_of e254 c254_48 (rw_iload_n (pc' := 49) (z := a1) rfl rfl ?_)
              have k1727 : H1700 r0 29 = H1400 r0 29 := (f1702 r0 29 _ g0 rfl)
              have k1728 : wLM H1700 r0 = wLM H1400 r0 := (wLM_fr w1404 g0 f1702 rfl)
              refine wp_of e254 c254_49 (xc_V (pc' := 52) (r := r0) (as := [vI v1698, vI a1]) (st := [vI v1699]) (lm_9_444) rfl rfl (Nat.le_of_ble_eq_true rfl) w1701 g0 sh_42 (by decide) rfl (by decide) (s_251 w1701 g0 ⟨b1703.1, by omega⟩ ⟨i1.1, i1.2⟩ q1709 g1710 (by omega)) (fun R1729 T1730 H1731 p1732 => ?_))
              obtain ⟨e1733, w1735, f1736, z1737, e1734, b1738⟩ := p1732
              subst e1733
              subst e1734
              have f1739 := f1706.tr f1736 rfl
              have f1740 := f1702.tr f1736 rfl
              show wp _ _ 254 52 [(5, vI v1698), (4, vI v1699), (0, .ref r0), (1, vI a1), (2, vI a2)] [vI z1737, vI v1699] _ H1731 _
              refine wp_of e254 c254_52 (rw_iload_n (pc' := 53) (z := a2) rfl rfl ?_)
              refine wp_of e254 c254_53 (rw_if_eq (p1 := 63) (p2 := 56) (by decide) rfl ⟨Int.le_trans (by decide) i2.1, Int.le_trans i2.2 (by decide)⟩ (fun c1741 => ?_) (fun c1741 => ?_))
              · refine wp_of e254 c254_63 (rw_iconst (pc' := 64) rfl ?_)
                refine wp_of e254 c254_64 (rw_icmp_ne (p1 := 74) (p2 := 67) (by decide) rfl ⟨b1738.1, b1738.2⟩ ⟨by decide, by decide⟩ (fun c1742 => ?_) (fun c1742 => ?_))
                · refine wp_of e254 c254_74 (rw_iconst (pc' := 75) rfl ?_)
                  refine wp_of e254 c254_75 (rw_ior (pc' := 76) rfl ?_)
                  obtain ⟨v1743, e1744⟩ : ∃ x : Int, x = wq_or v1699 0 := ⟨_, rfl⟩
                  rw [← e1744]
                  have b1745 : 0 ≤ v1743 ∧ v1743 ≤ 16777215 := by
                    rw [e1744]
                    exact wq_or_24 ⟨by omega, by omega⟩ ⟨by omega, by omega⟩
                  refine wp_of e254 c254_76 (rw_istore (pc' := 78) (z := v1743) (L' := [(4, vI v1743), (5, vI v1698), (0, .ref r0), (1, vI a1), (2, vI a2)]) rfl rfl rfl ?_)
                  refine wp_of e254 c254_78 (rw_iinc (pc' := 81) (z := v1698) (L' := [(5, vI (v1698 + 1)), (4, vI v1743), (0, .ref r0), (1, vI a1), (2, vI a2)]) rfl rfl rfl rfl ?_)
                  refine wp_of e254 c254_81 (rw_goto (p1 := 31) (by decide) ?_)
                  exact wp_lc (ks := [5, 4, 0, 1, 2]) (wl_c rfl (wl_c rfl (wl_c rfl (wl_c rfl (wl_c rfl wl_n))))) rfl (by decide) (ih1697 _ (by omega) (v1698 + 1) v1743 H1731 w1735 f1740 ⟨by omega, by omega⟩ ⟨b1745.1, b1745.2⟩ rfl)
                · refine wp_of e254 c254_67 (rw_iconst (pc' := 68) rfl ?_)
                  refine wp_of e254 c254_68 (rw_iload (pc' := 70) (z := v1698) rfl rfl ?_)
                  refine wp_of e254 c254_70 (rw_ishl (pc' := 71) rfl ?_)
                  obtain ⟨v1746, e1747⟩ : ∃ x : Int, x = wq_shl 1 v1698 := ⟨_, rfl⟩
                  rw [← e1747]
                  have b1748 : 1 ≤ v1746 ∧ v1746 ≤ 64 := by
                    rw [e1747]
                    exact wq_shl1_6 ⟨by omega, by omega⟩
                  refine wp_of e254 c254_71 (rw_goto (p1 := 75) (by decide) ?_)
                  refine wp_of e254 c254_75 (rw_ior (pc' := 76) rfl ?_)
                  obtain ⟨v1749, e1750⟩ : ∃ x : Int, x = wq_or v1699 v1746 := ⟨_, rfl⟩
                  rw [← e1750]
                  have b1751 : 0 ≤ v1749 ∧ v1749 ≤ 16777215 := by
                    rw [e1750]
                    exact wq_or_24 ⟨by omega, by omega⟩ ⟨by omega, by omega⟩
                  refine wp_of e254 c254_76 (rw_istore (pc' := 78) (z := v1749) (L' := [(4, vI v1749), (5, vI v1698), (0, .ref r0), (1, vI a1), (2, vI a2)]) rfl rfl rfl ?_)
                  refine wp_of e254 c254_78 (rw_iinc (pc' := 81) (z := v1698) (L' := [(5, vI (v1698 + 1)), (4, vI v1749), (0, .ref r0), (1, vI a1), (2, vI a2)]) rfl rfl rfl rfl ?_)
                  refine wp_of e254 c254_81 (rw_goto (p1 := 31) (by decide) ?_)
                  exact wp_lc (ks := [5, 4, 0, 1, 2]) (wl_c rfl (wl_c rfl (wl_c rfl (wl_c rfl (wl_c rfl wl_n))))) rfl (by decide) (ih1697 _ (by omega) (v1698 + 1) v1749 H1731 w1735 f1740 ⟨by omega, by omega⟩ ⟨b1751.1, b1751.2⟩ rfl)
              · refine wp_of e254 c254_56 (rw_aload_n (pc' := 57) (v := .ref r0) rfl rfl rfl ?_)
                have k1752 : H1731 r0 29 = H1700 r0 29 := (f1736 r0 29 _ g0 rfl)
                refine wp_of e254 c254_57 (xg_I (pc' := 60) lf_9_422 w1735 g0 sh_42 (by decide) (by decide) ty_42_29 rfl rfl (fun b1753 b1754 => ?_))
                refine wp_of e254 c254_60 (rw_goto (p1 := 64) (by decide) ?_)
                refine wp_of e254 c254_64 (rw_icmp_ne (p1 := 74) (p2 := 67) (by decide) rfl ⟨b1738.1, b1738.2⟩ ⟨Int.le_trans (by decide) b1753, Int.le_trans b1754 (by decide)⟩ (fun c1755 => ?_) (fun c1755 => ?_))
                · refine wp_of e254 c254_74 (rw_iconst (pc' := 75) rfl ?_)
                  refine wp_of e254 c254_75 (rw_ior (pc' := 76) rfl ?_)
                  obtain ⟨v1756, e1757⟩ : ∃ x : Int, x = wq_or v1699 0 := ⟨_, rfl⟩
                  rw [← e1757]
                  have b1758 : 0 ≤ v1756 ∧ v1756 ≤ 16777215 := by
                    rw [e1757]
                    exact wq_or_24 ⟨by omega, by omega⟩ ⟨by omega, by omega⟩
                  refine wp_of e254 c254_76 (rw_istore (pc' := 78) (z := v1756) (L' := [(4, vI v1756), (5, vI v1698), (0, .ref r0), (1, vI a1), (2, vI a2)]) rfl rfl rfl ?_)
                  refine wp_of e254 c254_78 (rw_iinc (pc' := 81) (z := v1698) (L' := [(5, vI (v1698 + 1)), (4, vI v1756), (0, .ref r0), (1, vI a1), (2, vI a2)]) rfl rfl rfl rfl ?_)
                  refine wp_of e254 c254_81 (rw_goto (p1 := 31) (by decide) ?_)
                  exact wp_lc (ks := [5, 4, 0, 1, 2]) (wl_c rfl (wl_c rfl (wl_c rfl (wl_c rfl (wl_c rfl wl_n))))) rfl (by decide) (ih1697 _ (by omega) (v1698 + 1) v1756 H1731 w1735 f1740 ⟨by omega, by omega⟩ ⟨b1758.1, b1758.2⟩ rfl)
                · refine wp_of e254 c254_67 (rw_iconst (pc' := 68) rfl ?_)
                  refine wp_of e254 c254_68 (rw_iload (pc' := 70) (z := v1698) rfl rfl ?_)
                  refine wp_of e254 c254_70 (rw_ishl (pc' := 71) rfl ?_)
                  obtain ⟨v1759, e1760⟩ : ∃ x : Int, x = wq_shl 1 v1698 := ⟨_, rfl⟩
                  rw [← e1760]
                  have b1761 : 1 ≤ v1759 ∧ v1759 ≤ 64 := by
                    rw [e1760]
                    exact wq_shl1_6 ⟨by omega, by omega⟩
                  refine wp_of e254 c254_71 (rw_goto (p1 := 75) (by decide) ?_)
                  refine wp_of e254 c254_75 (rw_ior (pc' := 76) rfl ?_)
                  obtain ⟨v1762, e1763⟩ : ∃ x : Int, x = wq_or v1699 v1759 := ⟨_, rfl⟩
                  rw [← e1763]
                  have b1764 : 0 ≤ v1762 ∧ v1762 ≤ 16777215 := by
                    rw [e1763]
                    exact wq_or_24 ⟨by omega, by omega⟩ ⟨by omega, by omega⟩
                  refine wp_of e254 c254_76 (rw_istore (pc' := 78) (z := v1762) (L' := [(4, vI v1762), (5, vI v1698), (0, .ref r0), (1, vI a1), (2, vI a2)]) rfl rfl rfl ?_)
                  refine wp_of e254 c254_78 (rw_iinc (pc' := 81) (z := v1698) (L' := [(5, vI (v1698 + 1)), (4, vI v1762), (0, .ref r0), (1, vI a1), (2, vI a2)]) rfl rfl rfl rfl ?_)
                  refine wp_of e254 c254_81 (rw_goto (p1 := 31) (by decide) ?_)
                  exact wp_lc (ks := [5, 4, 0, 1, 2]) (wl_c rfl (wl_c rfl (wl_c rfl (wl_c rfl (wl_c rfl wl_n))))) rfl (by decide) (ih1697 _ (by omega) (v1698 + 1) v1762 H1731 w1735 f1740 ⟨by omega, by omega⟩ ⟨b1764.1, b1764.2⟩ rfl)
      exact wp_lc (ks := [5, 4, 3, 0, 1, 2]) (wl_c rfl (wl_c rfl (wl_c rfl (wl_c rfl (wl_c rfl wl_n))))) rfl (by decide) (lp1695 _ 0 0 H1400 w1404 wfr.rf ⟨by decide, by decide⟩ ⟨by decide, by decide⟩ rfl)
    · exfalso
      omega
  · have f1765 := f1382.tr f1405 rfl
    show wp _ _ 254 14 [(0, .ref r0), (1, vI a1), (2, vI a2)] [vI z1406] _ H1400 _
    have k1766 : wLM H1400 r0 = wLM H r0 := ((wLM_fr w1381 g0 f1405 rfl).trans (wLM_fr hW g0 ((wfr.rf (l := [(42, 0)])).put' e1380 g0 rfl) rfl))
    refine wp_of e254 c254_14 (rw_istore_n (pc' := 15) (z := z1406) (L' := [(3, vI z1406), (0, .ref r0), (1, vI a1), (2, vI a2)]) rfl rfl rfl ?_)
    refine wp_of e254 c254_15 (rw_iload_n (pc' := 16) (z := z1406) rfl rfl ?_)
    refine wp_of e254 c254_16 (rw_if_le (p1 := 25) (p2 := 19) (by decide) rfl ⟨Int.le_trans (by decide) b1407.1, Int.le_trans b1407.2 (by decide)⟩ (fun c1767 => ?_) (fun c1767 => ?_))
    · exfalso
      omega
    · refine wp_of e254 c254_19 (rw_aload_n (pc' := 20) (v := .ref r0) rfl rfl rfl ?_)
      refine wp_of e254 c254_20 (rw_iload_n (pc' := 21) (z := z1406) rfl rfl ?_)
      refine wp_of e254 c254_21 (xc_V (pc' := 24) (r := r0) (as := [vI z1406]) (st := []) (lm_9_54) rfl rfl (Nat.le_of_ble_eq_true rfl) w1404 g0 sh_42 (by decide) rfl (by decide) (s_170 w1404 g0 ⟨Int.le_trans (by decide) b1407.1, Int.le_trans b1407.2 (by decide)⟩) (fun R1768 T1769 H1770 p1771 => ?_))
      obtain ⟨e1772, w1774, f1775, z1776, e1773, b1777⟩ := p1771
      subst e1772
      subst e1773
      have f1778 := f1765.tr f1775 rfl
      show wp _ _ 254 24 [(3, vI z1406), (0, .ref r0), (1, vI a1), (2, vI a2)] [vI z1776] _ H1770 _
      have k1779 : wKI H1770 r0 = wKI H1400 r0 := (wKI_fr w1404 g0 f1775 rfl)
      have h1780 : KNN T H1770 r0 e d := (KNN_fr w1404 g0 f1775 rfl a1425)
      exact wp_ireturn e254 c254_24 rfl ⟨rfl, w1774, f1778, z1776, rfl, ⟨b1777.1, b1777.2⟩, ⟨by omega, h1780⟩⟩
/-! StrikeAwakeModel.chance(II)I  -/
abbrev uq_255 (r0 : Nat) (a1 : Int) (a2 : Int) (e : xD) (d : xD) (T : wq_T) (H : wq_H) : Option Value → wq_T → wq_H → Prop := fun r T' H' => T = T' ∧ WT T H' ∧ wfr [(42, 0), (42, 1), (42, 2), (42, 28), (42, 29), (51, 999), (52, 999)] T H H' ∧ ∃ z : Int, some (vI z) = r ∧ ((-2147483648) ≤ z ∧ z ≤ 2147483647) ∧ (((wKI H' r0 = 1) ∧ KNN T H' r0 e d))
set_option maxHeartbeats 4000000 in
theorem u_255 {kt : Nat → Option mc_E} {T : wq_T} {H : wq_H} {r0 : Nat} {a1 : Int} {a2 : Int} {e : xD} {d : xD} (hW : WT T H) (g0 : T.2.2.2 r0 = some 42) (i1 : (-2147483648) ≤ a1 ∧ a1 ≤ 2147483647) (i2 : (-2147483648) ≤ a2 ∧ a2 ≤ 2147483647) (p0 : wKI H r0 = 1) (p1 : XW d) (p2 : ∀ h : Nat, d 0 0 ≤ (h : Int) → h < 24 → e 13 h = 0) (p3 : XN d) (p4 : ∀ h : Nat, h < 24 → 0 ≤ e 13 h ∧ e 13 h ≤ 100) (hRB_r0 : RB T H r0 e d) (hKNN_r0 : KNN T H r0 e d) : wpc kt 9 255 [.ref r0, vI a1, vI a2] T H (uq_255 r0 a1 a2 e d T H) := by
  refine wp_enter e255 (Nat.le_of_ble_eq_true rfl) rfl ?_
  have f0 : wfr [(42, 0), (42, 1), (42, 2), (42, 28), (42, 29), (51, 999), (52, 999)] T H H := wfr.rf
  show wp _ _ 255 0 [(0, .ref r0), (1, vI a1), (2, vI a2)] [] _ H _
  have _b := RB_b hW hRB_r0
  have _nu := RB_n3 hRB_r0
  have _lm := RB_lm hRB_r0
  refine wp_of e255 c255_0 (rw_aload_n (pc' := 1) (v := .ref r0) rfl rfl rfl ?_)
  refine wp_of e255 c255_1 (rw_iconst (pc' := 2) rfl ?_)
  refine wp_of e255 c255_2 (xp_I (pc' := 5) lf_9_48 hW g0 sh_42 (by decide) (by decide) ty_42_0 rfl rfl (by decide) (by decide) ⟨by decide, by decide⟩ rfl (fun H1310 e1311 w1312 => ?_))
  have f1313 := f0.put' e1311 g0 rfl
  have k1314 : H1310 r0 0 = 0 := wq_u_s e1311
  refine wp_of e255 c255_5 (rw_aload_n (pc' := 6) (v := .ref r0) rfl rfl rfl ?_)
  refine wp_of e255 c255_6 (rw_aload_n (pc' := 7) (v := .ref r0) rfl rfl rfl ?_)
  refine wp_of e255 c255_7 (rw_iload_n (pc' := 8) (z := a1) rfl rfl ?_)
  refine wp_of e255 c255_8 (xc_V (pc' := 11) (r := r0) (as := [vI a1]) (st := [.ref r0]) (lm_9_364) rfl rfl (Nat.le_of_ble_eq_true rfl) w1312 g0 sh_42 (by decide) rfl (by decide) (s_213 w1312 g0 ⟨i1.1, i1.2⟩) (fun R1315 T1316 H1317 p1318 => ?_))
  obtain ⟨e1319, e1321, z1323, e1320, b1324, p1322⟩ := p1318
  subst e1319
  subst e1320
  subst e1321
  show wp _ _ 255 11 [(0, .ref r0), (1, vI a1), (2, vI a2)] [vI z1323, .ref r0] _ H1310 _
  refine wp_of e255 c255_11 (rw_if_eq (p1 := 26) (p2 := 14) (by decide) rfl ⟨Int.le_trans (by decide) b1324.1, Int.le_trans b1324.2 (by decide)⟩ (fun c1325 => ?_) (fun c1325 => ?_))
  · refine wp_of e255 c255_26 (rw_iconst (pc' := 27) rfl ?_)
    have k1326 : H1310 r0 3 = H r0 3 := (wq_u_j e1311 rfl)
    have k1327 : wKI H1310 r0 = wKI H r0 := (wKI_fr hW g0 ((wfr.rf (l := [(42, 0)])).put' e1311 g0 rfl) rfl)
    have h1328 : RB T H1310 r0 e d := (RB_fr hW g0 ((wfr.rf (l := [(42, 0)])).put' e1311 g0 rfl) rfl hRB_r0)
    have h1329 : KNN T H1310 r0 e d := (KNN_fr hW g0 ((wfr.rf (l := [(42, 0)])).put' e1311 g0 rfl) rfl hKNN_r0)
    refine wp_of e255 c255_27 (xc_V (pc' := 30) (r := r0) (as := [vI 0]) (st := []) (lm_9_447) rfl rfl (Nat.le_of_ble_eq_true rfl) w1312 g0 sh_42 (by decide) rfl (by decide) (u_253 (e := e) (d := d) w1312 g0 ⟨by decide, by decide⟩ (by omega) (by omega) (by assumption) (by assumption) (by assumption) (by assumption) h1328 h1329) (fun R1330 T1331 H1332 p1333 => ?_))
    obtain ⟨e1334, w1336, f1337, z1338, e1335, b1339, p1340⟩ := p1333
    subst e1334
    subst e1335
    rcases p1340 with ⟨a1341, a1342, a1343, a1344, a1345, a1346, a1347, a1348, a1349, a1350⟩ | ⟨a1351, a1352, a1353, a1354, a1355, a1356, a1357⟩
    · exfalso
      omega
    · have f1358 := f1313.tr f1337 rfl
      show wp _ _ 255 30 [(0, .ref r0), (1, vI a1), (2, vI a2)] [vI z1338] _ H1332 _
      have k1359 : wLM H1332 r0 = wLM H r0 := ((wLM_fr w1312 g0 f1337 rfl).trans (wLM_fr hW g0 ((wfr.rf (l := [(42, 0)])).put' e1311 g0 rfl) rfl))
      refine wp_of e255 c255_30 (rw_istore_n (pc' := 31) (z := z1338) (L' := [(3, vI z1338), (0, .ref r0), (1, vI a1), (2, vI a2)]) rfl rfl rfl ?_)
      refine wp_of e255 c255_31 (rw_iload_n (pc' := 32) (z := z1338) rfl rfl ?_)
      refine wp_of e255 c255_32 (rw_if_le (p1 := 43) (p2 := 35) (by decide) rfl ⟨Int.le_trans (by decide) b1339.1, Int.le_trans b1339.2 (by decide)⟩ (fun c1360 => ?_) (fun c1360 => ?_))
      · exfalso
        omega
      · refine wp_of e255 c255_35 (rw_aload_n (pc' := 36) (v := .ref r0) rfl rfl rfl ?_)
        refine wp_of e255 c255_36 (rw_iload_n (pc' := 37) (z := z1338) rfl rfl ?_)
        refine wp_of e255 c255_37 (xc_V (pc' := 40) (r := r0) (as := [vI z1338]) (st := []) (lm_9_54) rfl rfl (Nat.le_of_ble_eq_true rfl) w1336 g0 sh_42 (by decide) rfl (by decide) (s_170 w1336 g0 ⟨Int.le_trans (by decide) b1339.1, Int.le_trans b1339.2 (by decide)⟩) (fun R1361 T1362 H1363 p1364 => ?_))
        obtain ⟨e1365, w1367, f1368, z1369, e1366, b1370⟩ := p1364
        subst e1365
        subst e1366
        have f1371 := f1358.tr f1368 rfl
        show wp _ _ 255 40 [(3, vI z1338), (0, .ref r0), (1, vI a1), (2, vI a2)] [vI z1369] _ H1363 _
        refine wp_of e255 c255_40 (rw_goto (p1 := 65) (by decide) ?_)
        have k1372 : wKI H1363 r0 = wKI H1332 r0 := (wKI_fr w1336 g0 f1368 rfl)
        have h1373 : KNN T H1363 r0 e d := (KNN_fr w1336 g0 f1368 rfl a1357)
        exact wp_ireturn e255 c255_65 rfl ⟨rfl, w1367, f1371, z1369, rfl, ⟨b1370.1, b1370.2⟩, ⟨by omega, h1373⟩⟩
  · refine wp_of e255 c255_14 (rw_aload_n (pc' := 15) (v := .ref r0) rfl rfl rfl ?_)
    refine wp_of e255 c255_15 (rw_iload_n (pc' := 16) (z := a2) rfl rfl ?_)
    refine wp_of e255 c255_16 (xc_V (pc' := 19) (r := r0) (as := [vI a2]) (st := [.ref r0]) (lm_9_373) rfl rfl (Nat.le_of_ble_eq_true rfl) w1312 g0 sh_42 (by decide) rfl (by decide) (s_218 w1312 g0 ⟨i2.1, i2.2⟩) (fun R1374 T1375 H1376 p1377 => ?_))
    obtain ⟨e1378, e1380, z1382, e1379, b1383, p1381⟩ := p1377
    subst e1378
    subst e1379
    subst e1380
    show wp _ _ 255 19 [(0, .ref r0), (1, vI a1), (2, vI a2)] [vI z1382, .ref r0] _ H1310 _
    refine wp_of e255 c255_19 (rw_if_eq (p1 := 26) (p2 := 22) (by decide) rfl ⟨Int.le_trans (by decide) b1383.1, Int.le_trans b1383.2 (by decide)⟩ (fun c1384 => ?_) (fun c1384 => ?_))
    · refine wp_of e255 c255_26 (rw_iconst (pc' := 27) rfl ?_)
      have k1385 : H1310 r0 3 = H r0 3 := (wq_u_j e1311 rfl)
      have k1386 : wKI H1310 r0 = wKI H r0 := (wKI_fr hW g0 ((wfr.rf (l := [(42, 0)])).put' e1311 g0 rfl) rfl)
      have h1387 : RB T H1310 r0 e d := (RB_fr hW g0 ((wfr.rf (l := [(42, 0)])).put' e1311 g0 rfl) rfl hRB_r0)
      have h1388 : KNN T H1310 r0 e d := (KNN_fr hW g0 ((wfr.rf (l := [(42, 0)])).put' e1311 g0 rfl) rfl hKNN_r0)
      refine wp_of e255 c255_27 (xc_V (pc' := 30) (r := r0) (as := [vI 0]) (st := []) (lm_9_447) rfl rfl (Nat.le_of_ble_eq_true rfl) w1312 g0 sh_42 (by decide) rfl (by decide) (u_253 (e := e) (d := d) w1312 g0 ⟨by decide, by decide⟩ (by omega) (by omega) (by assumption) (by assumption) (by assumption) (by assumption) h1387 h1388) (fun R1389 T1390 H1391 p1392 => ?_))
      obtain ⟨e1393, w1395, f1396, z1397, e1394, b1398, p1399⟩ := p1392
      subst e1393
      subst e1394
      rcases p1399 with ⟨a1400, a1401, a1402, a1403, a1404, a1405, a1406, a1407, a1408, a1409⟩ | ⟨a1410, a1411, a1412, a1413, a1414, a1415, a1416⟩
      · exfalso
        omega
      · have f1417 := f1313.tr f1396 rfl
        show wp _ _ 255 30 [(0, .ref r0), (1, vI a1), (2, vI a2)] [vI z1397] _ H1391 _
        have k1418 : wLM H1391 r0 = wLM H r0 := ((wLM_fr w1312 g0 f1396 rfl).trans (wLM_fr hW g0 ((wfr.rf (l := [(42, 0)])).put' e1311 g0 rfl) rfl))
        refine wp_of e255 c255_30 (rw_istore_n (pc' := 31) (z := z1397) (L' := [(3, vI z1397), (0, .ref r0), (1, vI a1), (2, vI a2)]) rfl rfl rfl ?_)
        refine wp_of e255 c255_31 (rw_iload_n (pc' := 32) (z := z1397) rfl rfl ?_)
        refine wp_of e255 c255_32 (rw_if_le (p1 := 43) (p2 := 35) (by decide) rfl ⟨Int.le_trans (by decide) b1398.1, Int.le_trans b1398.2 (by decide)⟩ (fun c1419 => ?_) (fun c1419 => ?_))
        · exfalso
          omega
        · refine wp_of e255 c255_35 (rw_aload_n (pc' := 36) (v := .ref r0) rfl rfl rfl ?_)
          refine wp_of e255 c255_36 (rw_iload_n (pc' := 37) (z := z1397) rfl rfl ?_)
          refine wp_of e255 c255_37 (xc_V (pc' := 40) (r := r0) (as := [vI z1397]) (st := []) (lm_9_54) rfl rfl (Nat.le_of_ble_eq_true rfl) w1395 g0 sh_42 (by decide) rfl (by decide) (s_170 w1395 g0 ⟨Int.le_trans (by decide) b1398.1, Int.le_trans b1398.2 (by decide)⟩) (fun R1420 T1421 H1422 p1423 => ?_))
          obtain ⟨e1424, w1426, f1427, z1428, e1425, b1429⟩ := p1423
          subst e1424
          subst e1425
          have f1430 := f1417.tr f1427 rfl
          show wp _ _ 255 40 [(3, vI z1397), (0, .ref r0), (1, vI a1), (2, vI a2)] [vI z1428] _ H1422 _
          refine wp_of e255 c255_40 (rw_goto (p1 := 65) (by decide) ?_)
          have k1431 : wKI H1422 r0 = wKI H1391 r0 := (wKI_fr w1395 g0 f1427 rfl)
          have h1432 : KNN T H1422 r0 e d := (KNN_fr w1395 g0 f1427 rfl a1416)
          exact wp_ireturn e255 c255_65 rfl ⟨rfl, w1426, f1430, z1428, rfl, ⟨b1429.1, b1429.2⟩, ⟨by omega, h1432⟩⟩
    · refine wp_of e255 c255_22 (rw_iconst (pc' := 23) rfl ?_)
      refine wp_of e255 c255_23 (rw_goto (p1 := 27) (by decide) ?_)
      have k1433 : H1310 r0 3 = H r0 3 := (wq_u_j e1311 rfl)
      have k1434 : wKI H1310 r0 = wKI H r0 := (wKI_fr hW g0 ((wfr.rf (l := [(42, 0)])).put' e1311 g0 rfl) rfl)
      have h1435 : RB T H1310 r0 e d := (RB_fr hW g0 ((wfr.rf (l := [(42, 0)])).put' e1311 g0 rfl) rfl hRB_r0)
      have h1436 : KNN T H1310 r0 e d := (KNN_fr hW g0 ((wfr.rf (l := [(42, 0)])).put' e1311 g0 rfl) rfl hKNN_r0)
      refine wp_of e255 c255_27 (xc_V (pc' := 30) (r := r0) (as := [vI 1]) (st := []) (lm_9_447) rfl rfl (Nat.le_of_ble_eq_true rfl) w1312 g0 sh_42 (by decide) rfl (by decide) (u_253 (e := e) (d := d) w1312 g0 ⟨by decide, by decide⟩ (by omega) (by omega) (by assumption) (by assumption) (by assumption) (by assumption) h1435 h1436) (fun R1437 T1438 H1439 p1440 => ?_))
      obtain ⟨e1441, w1443, f1444, z1445, e1442, b1446, p1447⟩ := p1440
      subst e1441
      subst e1442
      rcases p1447 with ⟨a1448, a1449, a1450, a1451, a1452, a1453, a1454, a1455, a1456, a1457⟩ | ⟨a1458, a1459, a1460, a1461, a1462, a1463, a1464⟩
      · have f1465 := f1313.tr f1444 rfl
        show wp _ _ 255 30 [(0, .ref r0), (1, vI a1), (2, vI a2)] [vI z1445] _ H1439 _
        have k1466 : wLM H1439 r0 = wLM H r0 := ((wLM_fr w1312 g0 f1444 rfl).trans (wLM_fr hW g0 ((wfr.rf (l := [(42, 0)])).put' e1311 g0 rfl) rfl))
        refine wp_of e255 c255_30 (rw_istore_n (pc' := 31) (z := z1445) (L' := [(3, vI z1445), (0, .ref r0), (1, vI a1), (2, vI a2)]) rfl rfl rfl ?_)
        refine wp_of e255 c255_31 (rw_iload_n (pc' := 32) (z := z1445) rfl rfl ?_)
        refine wp_of e255 c255_32 (rw_if_le (p1 := 43) (p2 := 35) (by decide) rfl ⟨Int.le_trans (by decide) b1446.1, Int.le_trans b1446.2 (by decide)⟩ (fun c1467 => ?_) (fun c1467 => ?_))
        · refine wp_of e255 c255_43 (rw_aload_n (pc' := 44) (v := .ref r0) rfl rfl rfl ?_)
          refine wp_of e255 c255_44 (rw_ldc2 (pc' := 47) (z := 100) rfl rfl rfl ?_)
          refine wp_of e255 c255_47 (rw_aload_n (pc' := 48) (v := .ref r0) rfl rfl rfl ?_)
          refine wp_of e255 c255_48 (rw_iload_n (pc' := 49) (z := a1) rfl rfl ?_)
          refine wp_of e255 c255_49 (rw_iload_n (pc' := 50) (z := a2) rfl rfl ?_)
          have k1468 : H1439 r0 3 = H1310 r0 3 := (f1444 r0 3 _ g0 rfl)
          obtain ⟨r1469, q1470, g1471⟩ := (w1443.opt g0 (t' := 54) (n := 33) (j := 3) (p := 0) (q := 0) rfl (by decide) rfl).resolve_left (by omega)
          refine wp_of e255 c255_50 (xc_V (pc' := 53) (r := r0) (as := [vI a1, vI a2]) (st := [vL 100, .ref r0]) (lm_9_440) rfl rfl (Nat.le_of_ble_eq_true rfl) w1443 g0 sh_42 (by decide) rfl (by decide) (s_247 w1443 g0 ⟨by omega, by omega⟩ ⟨i2.1, i2.2⟩ q1470 g1471 (by omega)) (fun R1472 T1473 H1474 p1475 => ?_))
          obtain ⟨e1476, w1478, f1479, z1481, e1477, b1482, p1480⟩ := p1475
          subst e1476
          subst e1477
          have f1483 := f1465.tr f1479 rfl
          show wp _ _ 255 53 [(3, vI z1445), (0, .ref r0), (1, vI a1), (2, vI a2)] [vL z1481, vL 100, .ref r0] _ H1474 _
          refine wp_of e255 c255_53 (rw_lmul (pc' := 54) rfl ?_)
          refine wp_of e255 c255_54 (rw_aload_n (pc' := 55) (v := .ref r0) rfl rfl rfl ?_)
          refine wp_of e255 c255_55 (rw_iconst (pc' := 56) rfl ?_)
          refine wp_of e255 c255_56 (rw_iconst (pc' := 57) rfl ?_)
          have k1484 : H1474 r0 29 = H1439 r0 29 := (f1479 r0 29 _ g0 rfl)
          have k1485 : wLM H1474 r0 = wLM H1439 r0 := (wLM_fr w1443 g0 f1479 rfl)
          have k1486 : H1474 r0 3 = H1439 r0 3 := (f1479 r0 3 _ g0 rfl)
          have q1487 : H1474 r0 3 = (r1469 : Int) := k1486.trans q1470
          refine wp_of e255 c255_57 (xc_V (pc' := 60) (r := r0) (as := [vI (-1), vI 0]) (st := [vL (100 * z1481), .ref r0]) (lm_9_440) rfl rfl (Nat.le_of_ble_eq_true rfl) w1478 g0 sh_42 (by decide) rfl (by decide) (s_247 w1478 g0 ⟨by decide, by decide⟩ ⟨by decide, by decide⟩ q1487 g1471 (by omega)) (fun R1488 T1489 H1490 p1491 => ?_))
          obtain ⟨e1492, w1494, f1495, z1497, e1493, b1498, p1496⟩ := p1491
          subst e1492
          subst e1493
          have f1499 := f1483.tr f1495 rfl
          show wp _ _ 255 60 [(3, vI z1445), (0, .ref r0), (1, vI a1), (2, vI a2)] [vL z1497, vL (100 * z1481), .ref r0] _ H1490 _
          refine wp_of e255 c255_60 (rw_ldiv (pc' := 61) rfl ⟨by omega, by omega⟩ (by omega) ?_)
          obtain ⟨v1500, e1501⟩ : ∃ x : Int, x = wl_div (100 * z1481) z1497 := ⟨_, rfl⟩
          rw [← e1501]
          have b1502 : -9223372036854775808 ≤ v1500 ∧ v1500 ≤ 9223372036854775807 := by
            rw [e1501]
            exact wL_div _ _
          refine wp_of e255 c255_61 (rw_l2i (pc' := 62) rfl ?_)
          obtain ⟨v1503, e1504⟩ : ∃ x : Int, x = wq_w v1500 := ⟨_, rfl⟩
          rw [← e1504]
          have b1505 : -2147483648 ≤ v1503 ∧ v1503 ≤ 2147483647 := by
            rw [e1504]
            exact wI_w _
          have b1506 : (-2147483648 ≤ v1500 ∧ v1500 ≤ 2147483647) → v1503 = v1500 := by
            rw [e1504]
            exact fun h => wq_w_id h
          refine wp_of e255 c255_62 (xc_V (pc' := 65) (r := r0) (as := [vI v1503]) (st := []) (lm_9_58) rfl rfl (Nat.le_of_ble_eq_true rfl) w1494 g0 sh_42 (by decide) rfl (by decide) (s_209 w1494 g0 ⟨b1505.1, b1505.2⟩) (fun R1507 T1508 H1509 p1510 => ?_))
          obtain ⟨e1511, w1513, f1514, z1515, e1512, b1516⟩ := p1510
          subst e1511
          subst e1512
          have f1517 := f1499.tr f1514 rfl
          show wp _ _ 255 65 [(3, vI z1445), (0, .ref r0), (1, vI a1), (2, vI a2)] [vI z1515] _ H1509 _
          have k1518 : wKI H1509 r0 = wKI H1439 r0 := ((wKI_fr w1494 g0 f1514 rfl).trans ((wKI_fr w1478 g0 f1495 rfl).trans (wKI_fr w1443 g0 f1479 rfl)))
          have h1519 : KNN T H1509 r0 e d := (KNN_fr w1494 g0 f1514 rfl (KNN_fr w1478 g0 f1495 rfl (KNN_fr w1443 g0 f1479 rfl a1456)))
          exact wp_ireturn e255 c255_65 rfl ⟨rfl, w1513, f1517, z1515, rfl, ⟨b1516.1, b1516.2⟩, ⟨by omega, h1519⟩⟩
        · exfalso
          omega
      · have f1520 := f1313.tr f1444 rfl
        show wp _ _ 255 30 [(0, .ref r0), (1, vI a1), (2, vI a2)] [vI z1445] _ H1439 _
        have k1521 : wLM H1439 r0 = wLM H r0 := ((wLM_fr w1312 g0 f1444 rfl).trans (wLM_fr hW g0 ((wfr.rf (l := [(42, 0)])).put' e1311 g0 rfl) rfl))
        refine wp_of e255 c255_30 (rw_istore_n (pc' := 31) (z := z1445) (L' := [(3, vI z1445), (0, .ref r0), (1, vI a1), (2, vI a2)]) rfl rfl rfl ?_)
        refine wp_of e255 c255_31 (rw_iload_n (pc' := 32) (z := z1445) rfl rfl ?_)
        refine wp_of e255 c255_32 (rw_if_le (p1 := 43) (p2 := 35) (by decide) rfl ⟨Int.le_trans (by decide) b1446.1, Int.le_trans b1446.2 (by decide)⟩ (fun c1522 => ?_) (fun c1522 => ?_))
        · exfalso
          omega
        · refine wp_of e255 c255_35 (rw_aload_n (pc' := 36) (v := .ref r0) rfl rfl rfl ?_)
          refine wp_of e255 c255_36 (rw_iload_n (pc' := 37) (z := z1445) rfl rfl ?_)
          refine wp_of e255 c255_37 (xc_V (pc' := 40) (r := r0) (as := [vI z1445]) (st := []) (lm_9_54) rfl rfl (Nat.le_of_ble_eq_true rfl) w1443 g0 sh_42 (by decide) rfl (by decide) (s_170 w1443 g0 ⟨Int.le_trans (by decide) b1446.1, Int.le_trans b1446.2 (by decide)⟩) (fun R1523 T1524 H1525 p1526 => ?_))
          obtain ⟨e1527, w1529, f1530, z1531, e1528, b1532⟩ := p1526
          subst e1527
          subst e1528
          have f1533 := f1520.tr f1530 rfl
          show wp _ _ 255 40 [(3, vI z1445), (0, .ref r0), (1, vI a1), (2, vI a2)] [vI z1531] _ H1525 _
          refine wp_of e255 c255_40 (rw_goto (p1 := 65) (by decide) ?_)
          have k1534 : wKI H1525 r0 = wKI H1439 r0 := (wKI_fr w1443 g0 f1530 rfl)
          have h1535 : KNN T H1525 r0 e d := (KNN_fr w1443 g0 f1530 rfl a1464)
          exact wp_ireturn e255 c255_65 rfl ⟨rfl, w1529, f1533, z1531, rfl, ⟨b1532.1, b1532.2⟩, ⟨by omega, h1535⟩⟩
/-! StrikeAwakeModel.likeliest(I)I  -/
abbrev uq_256 (r0 : Nat) (a1 : Int) (e : xD) (d : xD) (T : wq_T) (H : wq_H) : Option Value → wq_T → wq_H → Prop := fun r T' H' => T = T' ∧ WT T H' ∧ wfr [(42, 0), (42, 1), (42, 2), (42, 28), (42, 29), (51, 999), (52, 999)] T H H' ∧ ∃ z : Int, some (vI z) = r ∧ ((-2147483648) ≤ z ∧ z ≤ 2147483647) ∧ (((wKI H' r0 = 1) ∧ KNN T H' r0 e d))
set_option maxHeartbeats 4000000 in
theorem u_256 {kt : Nat → Option mc_E} {T : wq_T} {H : wq_H} {r0 : Nat} {a1 : Int} {e : xD} {d : xD} (hW : WT T H) (g0 : T.2.2.2 r0 = some 42) (i1 : (-2147483648) ≤ a1 ∧ a1 ≤ 2147483647) (p0 : wKI H r0 = 1) (p1 : XW d) (p2 : ∀ h : Nat, d 0 0 ≤ (h : Int) → h < 24 → e 13 h = 0) (p3 : XN d) (p4 : ∀ h : Nat, h < 24 → 0 ≤ e 13 h ∧ e 13 h ≤ 100) (hRB_r0 : RB T H r0 e d) (hKNN_r0 : KNN T H r0 e d) : wpc kt 9 256 [.ref r0, vI a1] T H (uq_256 r0 a1 e d T H) := by
  refine wp_enter e256 (Nat.le_of_ble_eq_true rfl) rfl ?_
  have f0 : wfr [(42, 0), (42, 1), (42, 2), (42, 28), (42, 29), (51, 999), (52, 999)] T H H := wfr.rf
  show wp _ _ 256 0 [(0, .ref r0), (1, vI a1)] [] _ H _
  have _b := RB_b hW hRB_r0
  have _nu := RB_n3 hRB_r0
  have _lm := RB_lm hRB_r0
  refine wp_of e256 c256_0 (rw_aload_n (pc' := 1) (v := .ref r0) rfl rfl rfl ?_)
  refine wp_of e256 c256_1 (rw_iconst (pc' := 2) rfl ?_)
  refine wp_of e256 c256_2 (xp_I (pc' := 5) lf_9_48 hW g0 sh_42 (by decide) (by decide) ty_42_0 rfl rfl (by decide) (by decide) ⟨by decide, by decide⟩ rfl (fun H1094 e1095 w1096 => ?_))
  have f1097 := f0.put' e1095 g0 rfl
  have k1098 : H1094 r0 0 = 0 := wq_u_s e1095
  refine wp_of e256 c256_5 (rw_aload_n (pc' := 6) (v := .ref r0) rfl rfl rfl ?_)
  refine wp_of e256 c256_6 (rw_aload_n (pc' := 7) (v := .ref r0) rfl rfl rfl ?_)
  refine wp_of e256 c256_7 (rw_iload_n (pc' := 8) (z := a1) rfl rfl ?_)
  refine wp_of e256 c256_8 (xc_V (pc' := 11) (r := r0) (as := [vI a1]) (st := [.ref r0]) (lm_9_364) rfl rfl (Nat.le_of_ble_eq_true rfl) w1096 g0 sh_42 (by decide) rfl (by decide) (s_213 w1096 g0 ⟨i1.1, i1.2⟩) (fun R1099 T1100 H1101 p1102 => ?_))
  obtain ⟨e1103, e1105, z1107, e1104, b1108, p1106⟩ := p1102
  subst e1103
  subst e1104
  subst e1105
  show wp _ _ 256 11 [(0, .ref r0), (1, vI a1)] [vI z1107, .ref r0] _ H1094 _
  have k1109 : H1094 r0 3 = H r0 3 := (wq_u_j e1095 rfl)
  have k1110 : wKI H1094 r0 = wKI H r0 := (wKI_fr hW g0 ((wfr.rf (l := [(42, 0)])).put' e1095 g0 rfl) rfl)
  have h1111 : RB T H1094 r0 e d := (RB_fr hW g0 ((wfr.rf (l := [(42, 0)])).put' e1095 g0 rfl) rfl hRB_r0)
  have h1112 : KNN T H1094 r0 e d := (KNN_fr hW g0 ((wfr.rf (l := [(42, 0)])).put' e1095 g0 rfl) rfl hKNN_r0)
  refine wp_of e256 c256_11 (xc_V (pc' := 14) (r := r0) (as := [vI z1107]) (st := []) (lm_9_447) rfl rfl (Nat.le_of_ble_eq_true rfl) w1096 g0 sh_42 (by decide) rfl (by decide) (u_253 (e := e) (d := d) w1096 g0 ⟨b1108.1, b1108.2⟩ (by omega) (by omega) (by assumption) (by assumption) (by assumption) (by assumption) h1111 h1112) (fun R1113 T1114 H1115 p1116 => ?_))
  obtain ⟨e1117, w1119, f1120, z1121, e1118, b1122, p1123⟩ := p1116
  subst e1117
  subst e1118
  rcases p1123 with ⟨a1124, a1125, a1126, a1127, a1128, a1129, a1130, a1131, a1132, a1133⟩ | ⟨a1134, a1135, a1136, a1137, a1138, a1139, a1140⟩
  · have f1141 := f1097.tr f1120 rfl
    show wp _ _ 256 14 [(0, .ref r0), (1, vI a1)] [vI z1121] _ H1115 _
    have k1142 : wLM H1115 r0 = wLM H r0 := ((wLM_fr w1096 g0 f1120 rfl).trans (wLM_fr hW g0 ((wfr.rf (l := [(42, 0)])).put' e1095 g0 rfl) rfl))
    refine wp_of e256 c256_14 (rw_istore_n (pc' := 15) (z := z1121) (L' := [(2, vI z1121), (0, .ref r0), (1, vI a1)]) rfl rfl rfl ?_)
    refine wp_of e256 c256_15 (rw_iload_n (pc' := 16) (z := z1121) rfl rfl ?_)
    refine wp_of e256 c256_16 (rw_if_le (p1 := 25) (p2 := 19) (by decide) rfl ⟨Int.le_trans (by decide) b1122.1, Int.le_trans b1122.2 (by decide)⟩ (fun c1143 => ?_) (fun c1143 => ?_))
    · refine wp_of e256 c256_25 (rw_aload_n (pc' := 26) (v := .ref r0) rfl rfl rfl ?_)
      have k1144 : H1115 r0 3 = H1094 r0 3 := (f1120 r0 3 _ g0 rfl)
      obtain ⟨r1145, q1146, g1147⟩ := (w1119.opt g0 (t' := 54) (n := 33) (j := 3) (p := 0) (q := 0) rfl (by decide) rfl).resolve_left (by omega)
      refine wp_of e256 c256_26 (xc_V (pc' := 29) (r := r0) (as := []) (st := []) (lm_9_452) rfl rfl (Nat.le_of_ble_eq_true rfl) w1119 g0 sh_42 (by decide) rfl (by decide) (s_257 w1119 g0 q1146 g1147 (by omega) (by omega)) (fun R1148 T1149 H1150 p1151 => ?_))
      obtain ⟨e1152, w1154, f1155, z1156, e1153, b1157⟩ := p1151
      subst e1152
      subst e1153
      have f1158 := f1141.tr f1155 rfl
      show wp _ _ 256 29 [(2, vI z1121), (0, .ref r0), (1, vI a1)] [vL z1156] _ H1150 _
      refine wp_of e256 c256_29 (rw_pop2 (pc' := 30) rfl rfl ?_)
      refine wp_of e256 c256_30 (rw_aload_n (pc' := 31) (v := .ref r0) rfl rfl rfl ?_)
      refine wp_of e256 c256_31 (rw_aload_n (pc' := 32) (v := .ref r0) rfl rfl rfl ?_)
      refine wp_of e256 c256_32 (xg_R (pc' := 35) lf_9_39 w1154 g0 sh_42 (by decide) (by decide) ty_42_27 rfl rfl (fun r1159 q1160 g1161 => ?_))
      refine wp_of e256 c256_35 (rw_iload_n (pc' := 36) (z := a1) rfl rfl ?_)
      refine wp_of e256 c256_36 (xa_I (so := 0) (pc' := 37) w1154 g1161 sh_51 (by decide) (ty_51 _) (by omega) (by omega) rfl (fun b1162 b1163 => ?_))
      refine wp_of e256 c256_37 (xc_V (pc' := 40) (r := r0) (as := [vI (H1150 r1159 (a1.toNat))]) (st := []) (lm_9_58) rfl rfl (Nat.le_of_ble_eq_true rfl) w1154 g0 sh_42 (by decide) rfl (by decide) (s_209 w1154 g0 ⟨Int.le_trans (by decide) b1162, Int.le_trans b1163 (by decide)⟩) (fun R1164 T1165 H1166 p1167 => ?_))
      obtain ⟨e1168, w1170, f1171, z1172, e1169, b1173⟩ := p1167
      subst e1168
      subst e1169
      have f1174 := f1158.tr f1171 rfl
      show wp _ _ 256 40 [(2, vI z1121), (0, .ref r0), (1, vI a1)] [vI z1172] _ H1166 _
      have k1175 : wKI H1166 r0 = wKI H1115 r0 := ((wKI_fr w1154 g0 f1171 rfl).trans (wKI_fr w1119 g0 f1155 rfl))
      have h1176 : KNN T H1166 r0 e d := (KNN_fr w1154 g0 f1171 rfl (KNN_fr w1119 g0 f1155 rfl a1132))
      exact wp_ireturn e256 c256_40 rfl ⟨rfl, w1170, f1174, z1172, rfl, ⟨b1173.1, b1173.2⟩, ⟨by omega, h1176⟩⟩
    · exfalso
      omega
  · have f1177 := f1097.tr f1120 rfl
    show wp _ _ 256 14 [(0, .ref r0), (1, vI a1)] [vI z1121] _ H1115 _
    have k1178 : wLM H1115 r0 = wLM H r0 := ((wLM_fr w1096 g0 f1120 rfl).trans (wLM_fr hW g0 ((wfr.rf (l := [(42, 0)])).put' e1095 g0 rfl) rfl))
    refine wp_of e256 c256_14 (rw_istore_n (pc' := 15) (z := z1121) (L' := [(2, vI z1121), (0, .ref r0), (1, vI a1)]) rfl rfl rfl ?_)
    refine wp_of e256 c256_15 (rw_iload_n (pc' := 16) (z := z1121) rfl rfl ?_)
    refine wp_of e256 c256_16 (rw_if_le (p1 := 25) (p2 := 19) (by decide) rfl ⟨Int.le_trans (by decide) b1122.1, Int.le_trans b1122.2 (by decide)⟩ (fun c1179 => ?_) (fun c1179 => ?_))
    · exfalso
      omega
    · refine wp_of e256 c256_19 (rw_aload_n (pc' := 20) (v := .ref r0) rfl rfl rfl ?_)
      refine wp_of e256 c256_20 (rw_iload_n (pc' := 21) (z := z1121) rfl rfl ?_)
      refine wp_of e256 c256_21 (xc_V (pc' := 24) (r := r0) (as := [vI z1121]) (st := []) (lm_9_54) rfl rfl (Nat.le_of_ble_eq_true rfl) w1119 g0 sh_42 (by decide) rfl (by decide) (s_170 w1119 g0 ⟨Int.le_trans (by decide) b1122.1, Int.le_trans b1122.2 (by decide)⟩) (fun R1180 T1181 H1182 p1183 => ?_))
      obtain ⟨e1184, w1186, f1187, z1188, e1185, b1189⟩ := p1183
      subst e1184
      subst e1185
      have f1190 := f1177.tr f1187 rfl
      show wp _ _ 256 24 [(2, vI z1121), (0, .ref r0), (1, vI a1)] [vI z1188] _ H1182 _
      have k1191 : wKI H1182 r0 = wKI H1115 r0 := (wKI_fr w1119 g0 f1187 rfl)
      have h1192 : KNN T H1182 r0 e d := (KNN_fr w1119 g0 f1187 rfl a1140)
      exact wp_ireturn e256 c256_24 rfl ⟨rfl, w1186, f1190, z1188, rfl, ⟨b1189.1, b1189.2⟩, ⟨by omega, h1192⟩⟩
/-! StrikeAwakeModel.greatest()J  -/
abbrev uq_258 (r0 : Nat) (e : xD) (d : xD) (T : wq_T) (H : wq_H) : Option Value → wq_T → wq_H → Prop := fun r T' H' => T = T' ∧ WT T H' ∧ wfr [(42, 0), (42, 1), (42, 2), (42, 28), (42, 29), (51, 999), (52, 999)] T H H' ∧ ∃ z : Int, some (vL z) = r ∧ ((-9223372036854775808) ≤ z ∧ z ≤ 9223372036854775807) ∧ (((wKI H' r0 = 1) ∧ KNN T H' r0 e d))
set_option maxHeartbeats 4000000 in
theorem u_258 {kt : Nat → Option mc_E} {T : wq_T} {H : wq_H} {r0 : Nat} {e : xD} {d : xD} (hW : WT T H) (g0 : T.2.2.2 r0 = some 42) (p0 : wKI H r0 = 1) (p1 : XW d) (p2 : ∀ h : Nat, d 0 0 ≤ (h : Int) → h < 24 → e 13 h = 0) (p3 : XN d) (p4 : ∀ h : Nat, h < 24 → 0 ≤ e 13 h ∧ e 13 h ≤ 100) (hRB_r0 : RB T H r0 e d) (hKNN_r0 : KNN T H r0 e d) : wpc kt 9 258 [.ref r0] T H (uq_258 r0 e d T H) := by
  refine wp_enter e258 (Nat.le_of_ble_eq_true rfl) rfl ?_
  have f0 : wfr [(42, 0), (42, 1), (42, 2), (42, 28), (42, 29), (51, 999), (52, 999)] T H H := wfr.rf
  show wp _ _ 258 0 [(0, .ref r0)] [] _ H _
  have _b := RB_b hW hRB_r0
  have _nu := RB_n3 hRB_r0
  have _lm := RB_lm hRB_r0
  refine wp_of e258 c258_0 (rw_aload_n (pc' := 1) (v := .ref r0) rfl rfl rfl ?_)
  refine wp_of e258 c258_1 (rw_iconst (pc' := 2) rfl ?_)
  refine wp_of e258 c258_2 (xp_I (pc' := 5) lf_9_48 hW g0 sh_42 (by decide) (by decide) ty_42_0 rfl rfl (by decide) (by decide) ⟨by decide, by decide⟩ rfl (fun H1153 e1154 w1155 => ?_))
  have f1156 := f0.put' e1154 g0 rfl
  have k1157 : H1153 r0 0 = 0 := wq_u_s e1154
  refine wp_of e258 c258_5 (rw_aload_n (pc' := 6) (v := .ref r0) rfl rfl rfl ?_)
  refine wp_of e258 c258_6 (rw_aload_n (pc' := 7) (v := .ref r0) rfl rfl rfl ?_)
  have k1158 : H1153 r0 3 = H r0 3 := (wq_u_j e1154 rfl)
  refine wp_of e258 c258_7 (xg_O (pc' := 10) lf_9_337 w1155 g0 sh_42 (by decide) (by decide) ty_42_3 rfl rfl (fun q1160 => ?_) (fun r1159 q1160 g1161 => ?_))
  · refine wp_of e258 c258_10 (rw_ifnull_n (p1 := 17) (p2 := 13) (by decide) rfl ?_)
    refine wp_of e258 c258_17 (rw_iconst (pc' := 18) rfl ?_)
    have k1162 : wKI H1153 r0 = wKI H r0 := (wKI_fr hW g0 ((wfr.rf (l := [(42, 0)])).put' e1154 g0 rfl) rfl)
    have h1163 : RB T H1153 r0 e d := (RB_fr hW g0 ((wfr.rf (l := [(42, 0)])).put' e1154 g0 rfl) rfl hRB_r0)
    have h1164 : KNN T H1153 r0 e d := (KNN_fr hW g0 ((wfr.rf (l := [(42, 0)])).put' e1154 g0 rfl) rfl hKNN_r0)
    refine wp_of e258 c258_18 (xc_V (pc' := 21) (r := r0) (as := [vI 0]) (st := []) (lm_9_447) rfl rfl (Nat.le_of_ble_eq_true rfl) w1155 g0 sh_42 (by decide) rfl (by decide) (u_253 (e := e) (d := d) w1155 g0 ⟨by decide, by decide⟩ (by omega) (by omega) (by assumption) (by assumption) (by assumption) (by assumption) h1163 h1164) (fun R1165 T1166 H1167 p1168 => ?_))
    obtain ⟨e1169, w1171, f1172, z1173, e1170, b1174, p1175⟩ := p1168
    subst e1169
    subst e1170
    rcases p1175 with ⟨a1176, a1177, a1178, a1179, a1180, a1181, a1182, a1183, a1184, a1185⟩ | ⟨a1186, a1187, a1188, a1189, a1190, a1191, a1192⟩
    · exfalso
      omega
    · have f1193 := f1156.tr f1172 rfl
      show wp _ _ 258 21 [(0, .ref r0)] [vI z1173] _ H1167 _
      have k1194 : wLM H1167 r0 = wLM H r0 := ((wLM_fr w1155 g0 f1172 rfl).trans (wLM_fr hW g0 ((wfr.rf (l := [(42, 0)])).put' e1154 g0 rfl) rfl))
      refine wp_of e258 c258_21 (rw_istore_n (pc' := 22) (z := z1173) (L' := [(1, vI z1173), (0, .ref r0)]) rfl rfl rfl ?_)
      refine wp_of e258 c258_22 (rw_iload_n (pc' := 23) (z := z1173) rfl rfl ?_)
      refine wp_of e258 c258_23 (rw_if_le (p1 := 35) (p2 := 26) (by decide) rfl ⟨Int.le_trans (by decide) b1174.1, Int.le_trans b1174.2 (by decide)⟩ (fun c1195 => ?_) (fun c1195 => ?_))
      · exfalso
        omega
      · refine wp_of e258 c258_26 (rw_aload_n (pc' := 27) (v := .ref r0) rfl rfl rfl ?_)
        refine wp_of e258 c258_27 (rw_iload_n (pc' := 28) (z := z1173) rfl rfl ?_)
        refine wp_of e258 c258_28 (xc_V (pc' := 31) (r := r0) (as := [vI z1173]) (st := []) (lm_9_54) rfl rfl (Nat.le_of_ble_eq_true rfl) w1171 g0 sh_42 (by decide) rfl (by decide) (s_170 w1171 g0 ⟨Int.le_trans (by decide) b1174.1, Int.le_trans b1174.2 (by decide)⟩) (fun R1196 T1197 H1198 p1199 => ?_))
        obtain ⟨e1200, w1202, f1203, z1204, e1201, b1205⟩ := p1199
        subst e1200
        subst e1201
        have f1206 := f1193.tr f1203 rfl
        show wp _ _ 258 31 [(1, vI z1173), (0, .ref r0)] [vI z1204] _ H1198 _
        refine wp_of e258 c258_31 (rw_i2l (pc' := 32) rfl ⟨b1205.1, b1205.2⟩ ?_)
        refine wp_of e258 c258_32 (rw_goto (p1 := 43) (by decide) ?_)
        have k1207 : wKI H1198 r0 = wKI H1167 r0 := (wKI_fr w1171 g0 f1203 rfl)
        have h1208 : KNN T H1198 r0 e d := (KNN_fr w1171 g0 f1203 rfl a1192)
        exact wp_lreturn e258 c258_43 rfl ⟨rfl, w1202, f1206, z1204, rfl, ⟨Int.le_trans (by decide) b1205.1, Int.le_trans b1205.2 (by decide)⟩, ⟨by omega, h1208⟩⟩
  · refine wp_of e258 c258_10 (rw_ifnull_r (p1 := 17) (p2 := 13) (by decide) rfl ?_)
    refine wp_of e258 c258_13 (rw_iconst (pc' := 14) rfl ?_)
    refine wp_of e258 c258_14 (rw_goto (p1 := 18) (by decide) ?_)
    have k1209 : wKI H1153 r0 = wKI H r0 := (wKI_fr hW g0 ((wfr.rf (l := [(42, 0)])).put' e1154 g0 rfl) rfl)
    have h1210 : RB T H1153 r0 e d := (RB_fr hW g0 ((wfr.rf (l := [(42, 0)])).put' e1154 g0 rfl) rfl hRB_r0)
    have h1211 : KNN T H1153 r0 e d := (KNN_fr hW g0 ((wfr.rf (l := [(42, 0)])).put' e1154 g0 rfl) rfl hKNN_r0)
    refine wp_of e258 c258_18 (xc_V (pc' := 21) (r := r0) (as := [vI 1]) (st := []) (lm_9_447) rfl rfl (Nat.le_of_ble_eq_true rfl) w1155 g0 sh_42 (by decide) rfl (by decide) (u_253 (e := e) (d := d) w1155 g0 ⟨by decide, by decide⟩ (by omega) (by omega) (by assumption) (by assumption) (by assumption) (by assumption) h1210 h1211) (fun R1212 T1213 H1214 p1215 => ?_))
    obtain ⟨e1216, w1218, f1219, z1220, e1217, b1221, p1222⟩ := p1215
    subst e1216
    subst e1217
    rcases p1222 with ⟨a1223, a1224, a1225, a1226, a1227, a1228, a1229, a1230, a1231, a1232⟩ | ⟨a1233, a1234, a1235, a1236, a1237, a1238, a1239⟩
    · have f1240 := f1156.tr f1219 rfl
      show wp _ _ 258 21 [(0, .ref r0)] [vI z1220] _ H1214 _
      have k1241 : wLM H1214 r0 = wLM H r0 := ((wLM_fr w1155 g0 f1219 rfl).trans (wLM_fr hW g0 ((wfr.rf (l := [(42, 0)])).put' e1154 g0 rfl) rfl))
      refine wp_of e258 c258_21 (rw_istore_n (pc' := 22) (z := z1220) (L' := [(1, vI z1220), (0, .ref r0)]) rfl rfl rfl ?_)
      refine wp_of e258 c258_22 (rw_iload_n (pc' := 23) (z := z1220) rfl rfl ?_)
      refine wp_of e258 c258_23 (rw_if_le (p1 := 35) (p2 := 26) (by decide) rfl ⟨Int.le_trans (by decide) b1221.1, Int.le_trans b1221.2 (by decide)⟩ (fun c1242 => ?_) (fun c1242 => ?_))
      · refine wp_of e258 c258_35 (rw_aload_n (pc' := 36) (v := .ref r0) rfl rfl rfl ?_)
        refine wp_of e258 c258_36 (rw_aload_n (pc' := 37) (v := .ref r0) rfl rfl rfl ?_)
        have k1243 : H1214 r0 3 = H1153 r0 3 := (f1219 r0 3 _ g0 rfl)
        have q1244 : H1214 r0 3 = (r1159 : Int) := k1243.trans q1160
        refine wp_of e258 c258_37 (xc_V (pc' := 40) (r := r0) (as := []) (st := [.ref r0]) (lm_9_452) rfl rfl (Nat.le_of_ble_eq_true rfl) w1218 g0 sh_42 (by decide) rfl (by decide) (s_257 w1218 g0 q1244 g1161 (by omega) (by omega)) (fun R1245 T1246 H1247 p1248 => ?_))
        obtain ⟨e1249, w1251, f1252, z1253, e1250, b1254⟩ := p1248
        subst e1249
        subst e1250
        have f1255 := f1240.tr f1252 rfl
        show wp _ _ 258 40 [(1, vI z1220), (0, .ref r0)] [vL z1253, .ref r0] _ H1247 _
        refine wp_of e258 c258_40 (xc_V (pc' := 43) (r := r0) (as := [vL z1253]) (st := []) (lm_9_380) rfl rfl (Nat.le_of_ble_eq_true rfl) w1251 g0 sh_42 (by decide) rfl (by decide) (s_221 w1251 g0 ⟨Int.le_trans (by decide) b1254.1, Int.le_trans b1254.2 (by decide)⟩) (fun R1256 T1257 H1258 p1259 => ?_))
        obtain ⟨e1260, w1262, f1263, z1264, e1261, b1265⟩ := p1259
        subst e1260
        subst e1261
        have f1266 := f1255.tr f1263 rfl
        show wp _ _ 258 43 [(1, vI z1220), (0, .ref r0)] [vL z1264] _ H1258 _
        have k1267 : wKI H1258 r0 = wKI H1214 r0 := ((wKI_fr w1251 g0 f1263 rfl).trans (wKI_fr w1218 g0 f1252 rfl))
        have h1268 : KNN T H1258 r0 e d := (KNN_fr w1251 g0 f1263 rfl (KNN_fr w1218 g0 f1252 rfl a1231))
        exact wp_lreturn e258 c258_43 rfl ⟨rfl, w1262, f1266, z1264, rfl, ⟨b1265.1, b1265.2⟩, ⟨by omega, h1268⟩⟩
      · exfalso
        omega
    · have f1269 := f1156.tr f1219 rfl
      show wp _ _ 258 21 [(0, .ref r0)] [vI z1220] _ H1214 _
      have k1270 : wLM H1214 r0 = wLM H r0 := ((wLM_fr w1155 g0 f1219 rfl).trans (wLM_fr hW g0 ((wfr.rf (l := [(42, 0)])).put' e1154 g0 rfl) rfl))
      refine wp_of e258 c258_21 (rw_istore_n (pc' := 22) (z := z1220) (L' := [(1, vI z1220), (0, .ref r0)]) rfl rfl rfl ?_)
      refine wp_of e258 c258_22 (rw_iload_n (pc' := 23) (z := z1220) rfl rfl ?_)
      refine wp_of e258 c258_23 (rw_if_le (p1 := 35) (p2 := 26) (by decide) rfl ⟨Int.le_trans (by decide) b1221.1, Int.le_trans b1221.2 (by decide)⟩ (fun c1271 => ?_) (fun c1271 => ?_))
      · exfalso
        omega
      · refine wp_of e258 c258_26 (rw_aload_n (pc' := 27) (v := .ref r0) rfl rfl rfl ?_)
        refine wp_of e258 c258_27 (rw_iload_n (pc' := 28) (z := z1220) rfl rfl ?_)
        refine wp_of e258 c258_28 (xc_V (pc' := 31) (r := r0) (as := [vI z1220]) (st := []) (lm_9_54) rfl rfl (Nat.le_of_ble_eq_true rfl) w1218 g0 sh_42 (by decide) rfl (by decide) (s_170 w1218 g0 ⟨Int.le_trans (by decide) b1221.1, Int.le_trans b1221.2 (by decide)⟩) (fun R1272 T1273 H1274 p1275 => ?_))
        obtain ⟨e1276, w1278, f1279, z1280, e1277, b1281⟩ := p1275
        subst e1276
        subst e1277
        have f1282 := f1269.tr f1279 rfl
        show wp _ _ 258 31 [(1, vI z1220), (0, .ref r0)] [vI z1280] _ H1274 _
        refine wp_of e258 c258_31 (rw_i2l (pc' := 32) rfl ⟨b1281.1, b1281.2⟩ ?_)
        refine wp_of e258 c258_32 (rw_goto (p1 := 43) (by decide) ?_)
        have k1283 : wKI H1274 r0 = wKI H1214 r0 := (wKI_fr w1218 g0 f1279 rfl)
        have h1284 : KNN T H1274 r0 e d := (KNN_fr w1218 g0 f1279 rfl a1239)
        exact wp_lreturn e258 c258_43 rfl ⟨rfl, w1278, f1282, z1280, rfl, ⟨Int.le_trans (by decide) b1281.1, Int.le_trans b1281.2 (by decide)⟩, ⟨by omega, h1284⟩⟩
/-! StrikeAwakeModel.together(II)I  -/
abbrev uq_259 (r0 : Nat) (a1 : Int) (a2 : Int) (e : xD) (d : xD) (T : wq_T) (H : wq_H) : Option Value → wq_T → wq_H → Prop := fun r T' H' => T = T' ∧ WT T H' ∧ wfr [(42, 0), (42, 1), (42, 2), (42, 28), (42, 29), (51, 999), (52, 999)] T H H' ∧ ∃ z : Int, some (vI z) = r ∧ ((-2147483648) ≤ z ∧ z ≤ 2147483647) ∧ (((wKI H' r0 = 1) ∧ KNN T H' r0 e d))
set_option maxHeartbeats 4000000 in
theorem u_259 {kt : Nat → Option mc_E} {T : wq_T} {H : wq_H} {r0 : Nat} {a1 : Int} {a2 : Int} {e : xD} {d : xD} (hW : WT T H) (g0 : T.2.2.2 r0 = some 42) (i1 : (-2147483648) ≤ a1 ∧ a1 ≤ 2147483647) (i2 : (-2147483648) ≤ a2 ∧ a2 ≤ 2147483647) (p0 : wKI H r0 = 1) (p1 : XW d) (p2 : ∀ h : Nat, d 0 0 ≤ (h : Int) → h < 24 → e 13 h = 0) (p3 : XN d) (p4 : ∀ h : Nat, h < 24 → 0 ≤ e 13 h ∧ e 13 h ≤ 100) (hRB_r0 : RB T H r0 e d) (hKNN_r0 : KNN T H r0 e d) : wpc kt 8 259 [.ref r0, vI a1, vI a2] T H (uq_259 r0 a1 a2 e d T H) := by
  refine wp_enter e259 (Nat.le_of_ble_eq_true rfl) rfl ?_
  have f0 : wfr [(42, 0), (42, 1), (42, 2), (42, 28), (42, 29), (51, 999), (52, 999)] T H H := wfr.rf
  show wp _ _ 259 0 [(0, .ref r0), (1, vI a1), (2, vI a2)] [] _ H _
  have _b := RB_b hW hRB_r0
  have _nu := RB_n3 hRB_r0
  have _lm := RB_lm hRB_r0
  refine wp_of e259 c259_0 (rw_aload_n (pc' := 1) (v := .ref r0) rfl rfl rfl ?_)
  refine wp_of e259 c259_1 (rw_iconst (pc' := 2) rfl ?_)
  refine wp_of e259 c259_2 (xp_I (pc' := 5) lf_9_48 hW g0 sh_42 (by decide) (by decide) ty_42_0 rfl rfl (by decide) (by decide) ⟨by decide, by decide⟩ rfl (fun H2845 e2846 w2847 => ?_))
  have f2848 := f0.put' e2846 g0 rfl
  have k2849 : H2845 r0 0 = 0 := wq_u_s e2846
  refine wp_of e259 c259_5 (rw_aload_n (pc' := 6) (v := .ref r0) rfl rfl rfl ?_)
  refine wp_of e259 c259_6 (rw_aload_n (pc' := 7) (v := .ref r0) rfl rfl rfl ?_)
  refine wp_of e259 c259_7 (rw_iload_n (pc' := 8) (z := a1) rfl rfl ?_)
  refine wp_of e259 c259_8 (xc_V (pc' := 11) (r := r0) (as := [vI a1]) (st := [.ref r0]) (lm_9_364) rfl rfl (Nat.le_of_ble_eq_true rfl) w2847 g0 sh_42 (by decide) rfl (by decide) (s_213 w2847 g0 ⟨i1.1, i1.2⟩) (fun R2850 T2851 H2852 p2853 => ?_))
  obtain ⟨e2854, e2856, z2858, e2855, b2859, p2857⟩ := p2853
  subst e2854
  subst e2855
  subst e2856
  show wp _ _ 259 11 [(0, .ref r0), (1, vI a1), (2, vI a2)] [vI z2858, .ref r0] _ H2845 _
  refine wp_of e259 c259_11 (rw_if_eq (p1 := 31) (p2 := 14) (by decide) rfl ⟨Int.le_trans (by decide) b2859.1, Int.le_trans b2859.2 (by decide)⟩ (fun c2860 => ?_) (fun c2860 => ?_))
  · refine wp_of e259 c259_31 (rw_iconst (pc' := 32) rfl ?_)
    have k2861 : H2845 r0 3 = H r0 3 := (wq_u_j e2846 rfl)
    have k2862 : wKI H2845 r0 = wKI H r0 := (wKI_fr hW g0 ((wfr.rf (l := [(42, 0)])).put' e2846 g0 rfl) rfl)
    have h2863 : RB T H2845 r0 e d := (RB_fr hW g0 ((wfr.rf (l := [(42, 0)])).put' e2846 g0 rfl) rfl hRB_r0)
    have h2864 : KNN T H2845 r0 e d := (KNN_fr hW g0 ((wfr.rf (l := [(42, 0)])).put' e2846 g0 rfl) rfl hKNN_r0)
    refine wp_of e259 c259_32 (xc_V (pc' := 35) (r := r0) (as := [vI 0]) (st := []) (lm_9_433) rfl rfl (Nat.le_of_ble_eq_true rfl) w2847 g0 sh_42 (by decide) rfl (by decide) (u_241 (e := e) (d := d) w2847 g0 ⟨by decide, by decide⟩ (by omega) (by omega) (by assumption) (by assumption) (by assumption) (by assumption) h2863 h2864) (fun R2865 T2866 H2867 p2868 => ?_))
    obtain ⟨e2869, w2871, f2872, z2873, e2870, b2874, p2875⟩ := p2868
    subst e2869
    subst e2870
    rcases p2875 with ⟨a2876, a2877, a2878, a2879, a2880, a2881, a2882, a2883, a2884⟩ | ⟨a2885, a2886, a2887, a2888, a2889, a2890, a2891⟩
    · exfalso
      omega
    · have f2892 := f2848.tr f2872 rfl
      show wp _ _ 259 35 [(0, .ref r0), (1, vI a1), (2, vI a2)] [vI z2873] _ H2867 _
      have k2893 : wLM H2867 r0 = wLM H r0 := ((wLM_fr w2847 g0 f2872 rfl).trans (wLM_fr hW g0 ((wfr.rf (l := [(42, 0)])).put' e2846 g0 rfl) rfl))
      refine wp_of e259 c259_35 (rw_istore_n (pc' := 36) (z := z2873) (L' := [(3, vI z2873), (0, .ref r0), (1, vI a1), (2, vI a2)]) rfl rfl rfl ?_)
      refine wp_of e259 c259_36 (rw_iload_n (pc' := 37) (z := z2873) rfl rfl ?_)
      refine wp_of e259 c259_37 (rw_if_le (p1 := 46) (p2 := 40) (by decide) rfl ⟨Int.le_trans (by decide) b2874.1, Int.le_trans b2874.2 (by decide)⟩ (fun c2894 => ?_) (fun c2894 => ?_))
      · exfalso
        omega
      · refine wp_of e259 c259_40 (rw_aload_n (pc' := 41) (v := .ref r0) rfl rfl rfl ?_)
        refine wp_of e259 c259_41 (rw_iload_n (pc' := 42) (z := z2873) rfl rfl ?_)
        refine wp_of e259 c259_42 (xc_V (pc' := 45) (r := r0) (as := [vI z2873]) (st := []) (lm_9_54) rfl rfl (Nat.le_of_ble_eq_true rfl) w2871 g0 sh_42 (by decide) rfl (by decide) (s_170 w2871 g0 ⟨Int.le_trans (by decide) b2874.1, Int.le_trans b2874.2 (by decide)⟩) (fun R2895 T2896 H2897 p2898 => ?_))
        obtain ⟨e2899, w2901, f2902, z2903, e2900, b2904⟩ := p2898
        subst e2899
        subst e2900
        have f2905 := f2892.tr f2902 rfl
        show wp _ _ 259 45 [(3, vI z2873), (0, .ref r0), (1, vI a1), (2, vI a2)] [vI z2903] _ H2897 _
        have k2906 : wKI H2897 r0 = wKI H2867 r0 := (wKI_fr w2871 g0 f2902 rfl)
        have h2907 : KNN T H2897 r0 e d := (KNN_fr w2871 g0 f2902 rfl a2891)
        exact wp_ireturn e259 c259_45 rfl ⟨rfl, w2901, f2905, z2903, rfl, ⟨b2904.1, b2904.2⟩, ⟨by omega, h2907⟩⟩
  · refine wp_of e259 c259_14 (rw_aload_n (pc' := 15) (v := .ref r0) rfl rfl rfl ?_)
    refine wp_of e259 c259_15 (rw_iload_n (pc' := 16) (z := a2) rfl rfl ?_)
    refine wp_of e259 c259_16 (xc_V (pc' := 19) (r := r0) (as := [vI a2]) (st := [.ref r0]) (lm_9_364) rfl rfl (Nat.le_of_ble_eq_true rfl) w2847 g0 sh_42 (by decide) rfl (by decide) (s_213 w2847 g0 ⟨i2.1, i2.2⟩) (fun R2908 T2909 H2910 p2911 => ?_))
    obtain ⟨e2912, e2914, z2916, e2913, b2917, p2915⟩ := p2911
    subst e2912
    subst e2913
    subst e2914
    show wp _ _ 259 19 [(0, .ref r0), (1, vI a1), (2, vI a2)] [vI z2916, .ref r0] _ H2845 _
    refine wp_of e259 c259_19 (rw_if_eq (p1 := 31) (p2 := 22) (by decide) rfl ⟨Int.le_trans (by decide) b2917.1, Int.le_trans b2917.2 (by decide)⟩ (fun c2918 => ?_) (fun c2918 => ?_))
    · refine wp_of e259 c259_31 (rw_iconst (pc' := 32) rfl ?_)
      have k2919 : H2845 r0 3 = H r0 3 := (wq_u_j e2846 rfl)
      have k2920 : wKI H2845 r0 = wKI H r0 := (wKI_fr hW g0 ((wfr.rf (l := [(42, 0)])).put' e2846 g0 rfl) rfl)
      have h2921 : RB T H2845 r0 e d := (RB_fr hW g0 ((wfr.rf (l := [(42, 0)])).put' e2846 g0 rfl) rfl hRB_r0)
      have h2922 : KNN T H2845 r0 e d := (KNN_fr hW g0 ((wfr.rf (l := [(42, 0)])).put' e2846 g0 rfl) rfl hKNN_r0)
      refine wp_of e259 c259_32 (xc_V (pc' := 35) (r := r0) (as := [vI 0]) (st := []) (lm_9_433) rfl rfl (Nat.le_of_ble_eq_true rfl) w2847 g0 sh_42 (by decide) rfl (by decide) (u_241 (e := e) (d := d) w2847 g0 ⟨by decide, by decide⟩ (by omega) (by omega) (by assumption) (by assumption) (by assumption) (by assumption) h2921 h2922) (fun R2923 T2924 H2925 p2926 => ?_))
      obtain ⟨e2927, w2929, f2930, z2931, e2928, b2932, p2933⟩ := p2926
      subst e2927
      subst e2928
      rcases p2933 with ⟨a2934, a2935, a2936, a2937, a2938, a2939, a2940, a2941, a2942⟩ | ⟨a2943, a2944, a2945, a2946, a2947, a2948, a2949⟩
      · exfalso
        omega
      · have f2950 := f2848.tr f2930 rfl
        show wp _ _ 259 35 [(0, .ref r0), (1, vI a1), (2, vI a2)] [vI z2931] _ H2925 _
        have k2951 : wLM H2925 r0 = wLM H r0 := ((wLM_fr w2847 g0 f2930 rfl).trans (wLM_fr hW g0 ((wfr.rf (l := [(42, 0)])).put' e2846 g0 rfl) rfl))
        refine wp_of e259 c259_35 (rw_istore_n (pc' := 36) (z := z2931) (L' := [(3, vI z2931), (0, .ref r0), (1, vI a1), (2, vI a2)]) rfl rfl rfl ?_)
        refine wp_of e259 c259_36 (rw_iload_n (pc' := 37) (z := z2931) rfl rfl ?_)
        refine wp_of e259 c259_37 (rw_if_le (p1 := 46) (p2 := 40) (by decide) rfl ⟨Int.le_trans (by decide) b2932.1, Int.le_trans b2932.2 (by decide)⟩ (fun c2952 => ?_) (fun c2952 => ?_))
        · exfalso
          omega
        · refine wp_of e259 c259_40 (rw_aload_n (pc' := 41) (v := .ref r0) rfl rfl rfl ?_)
          refine wp_of e259 c259_41 (rw_iload_n (pc' := 42) (z := z2931) rfl rfl ?_)
          refine wp_of e259 c259_42 (xc_V (pc' := 45) (r := r0) (as := [vI z2931]) (st := []) (lm_9_54) rfl rfl (Nat.le_of_ble_eq_true rfl) w2929 g0 sh_42 (by decide) rfl (by decide) (s_170 w2929 g0 ⟨Int.le_trans (by decide) b2932.1, Int.le_trans b2932.2 (by decide)⟩) (fun R2953 T2954 H2955 p2956 => ?_))
          obtain ⟨e2957, w2959, f2960, z2961, e2958, b2962⟩ := p2956
          subst e2957
          subst e2958
          have f2963 := f2950.tr f2960 rfl
          show wp _ _ 259 45 [(3, vI z2931), (0, .ref r0), (1, vI a1), (2, vI a2)] [vI z2961] _ H2955 _
          have k2964 : wKI H2955 r0 = wKI H2925 r0 := (wKI_fr w2929 g0 f2960 rfl)
          have h2965 : KNN T H2955 r0 e d := (KNN_fr w2929 g0 f2960 rfl a2949)
          exact wp_ireturn e259 c259_45 rfl ⟨rfl, w2959, f2963, z2961, rfl, ⟨b2962.1, b2962.2⟩, ⟨by omega, h2965⟩⟩
    · refine wp_of e259 c259_22 (rw_iload_n (pc' := 23) (z := a1) rfl rfl ?_)
      refine wp_of e259 c259_23 (rw_iload_n (pc' := 24) (z := a2) rfl rfl ?_)
      refine wp_of e259 c259_24 (rw_icmp_eq (p1 := 31) (p2 := 27) (by decide) rfl ⟨i1.1, i1.2⟩ ⟨i2.1, i2.2⟩ (fun c2966 => ?_) (fun c2966 => ?_))
      · refine wp_of e259 c259_31 (rw_iconst (pc' := 32) rfl ?_)
        have k2967 : H2845 r0 3 = H r0 3 := (wq_u_j e2846 rfl)
        have k2968 : wKI H2845 r0 = wKI H r0 := (wKI_fr hW g0 ((wfr.rf (l := [(42, 0)])).put' e2846 g0 rfl) rfl)
        have h2969 : RB T H2845 r0 e d := (RB_fr hW g0 ((wfr.rf (l := [(42, 0)])).put' e2846 g0 rfl) rfl hRB_r0)
        have h2970 : KNN T H2845 r0 e d := (KNN_fr hW g0 ((wfr.rf (l := [(42, 0)])).put' e2846 g0 rfl) rfl hKNN_r0)
        refine wp_of e259 c259_32 (xc_V (pc' := 35) (r := r0) (as := [vI 0]) (st := []) (lm_9_433) rfl rfl (Nat.le_of_ble_eq_true rfl) w2847 g0 sh_42 (by decide) rfl (by decide) (u_241 (e := e) (d := d) w2847 g0 ⟨by decide, by decide⟩ (by omega) (by omega) (by assumption) (by assumption) (by assumption) (by assumption) h2969 h2970) (fun R2971 T2972 H2973 p2974 => ?_))
        obtain ⟨e2975, w2977, f2978, z2979, e2976, b2980, p2981⟩ := p2974
        subst e2975
        subst e2976
        rcases p2981 with ⟨a2982, a2983, a2984, a2985, a2986, a2987, a2988, a2989, a2990⟩ | ⟨a2991, a2992, a2993, a2994, a2995, a2996, a2997⟩
        · exfalso
          omega
        · have f2998 := f2848.tr f2978 rfl
          show wp _ _ 259 35 [(0, .ref r0), (1, vI a1), (2, vI a2)] [vI z2979] _ H2973 _
          have k2999 : wLM H2973 r0 = wLM H r0 := ((wLM_fr w2847 g0 f2978 rfl).trans (wLM_fr hW g0 ((wfr.rf (l := [(42, 0)])).put' e2846 g0 rfl) rfl))
          refine wp_of e259 c259_35 (rw_istore_n (pc' := 36) (z := z2979) (L' := [(3, vI z2979), (0, .ref r0), (1, vI a1), (2, vI a2)]) rfl rfl rfl ?_)
          refine wp_of e259 c259_36 (rw_iload_n (pc' := 37) (z := z2979) rfl rfl ?_)
          refine wp_of e259 c259_37 (rw_if_le (p1 := 46) (p2 := 40) (by decide) rfl ⟨Int.le_trans (by decide) b2980.1, Int.le_trans b2980.2 (by decide)⟩ (fun c3000 => ?_) (fun c3000 => ?_))
          · exfalso
            omega
          · refine wp_of e259 c259_40 (rw_aload_n (pc' := 41) (v := .ref r0) rfl rfl rfl ?_)
            refine wp_of e259 c259_41 (rw_iload_n (pc' := 42) (z := z2979) rfl rfl ?_)
            refine wp_of e259 c259_42 (xc_V (pc' := 45) (r := r0) (as := [vI z2979]) (st := []) (lm_9_54) rfl rfl (Nat.le_of_ble_eq_true rfl) w2977 g0 sh_42 (by decide) rfl (by decide) (s_170 w2977 g0 ⟨Int.le_trans (by decide) b2980.1, Int.le_trans b2980.2 (by decide)⟩) (fun R3001 T3002 H3003 p3004 => ?_))
            obtain ⟨e3005, w3007, f3008, z3009, e3006, b3010⟩ := p3004
            subst e3005
            subst e3006
            have f3011 := f2998.tr f3008 rfl
            show wp _ _ 259 45 [(3, vI z2979), (0, .ref r0), (1, vI a1), (2, vI a2)] [vI z3009] _ H3003 _
            have k3012 : wKI H3003 r0 = wKI H2973 r0 := (wKI_fr w2977 g0 f3008 rfl)
            have h3013 : KNN T H3003 r0 e d := (KNN_fr w2977 g0 f3008 rfl a2997)
            exact wp_ireturn e259 c259_45 rfl ⟨rfl, w3007, f3011, z3009, rfl, ⟨b3010.1, b3010.2⟩, ⟨by omega, h3013⟩⟩
      · refine wp_of e259 c259_27 (rw_iconst (pc' := 28) rfl ?_)
        refine wp_of e259 c259_28 (rw_goto (p1 := 32) (by decide) ?_)
        have k3014 : H2845 r0 3 = H r0 3 := (wq_u_j e2846 rfl)
        have k3015 : wKI H2845 r0 = wKI H r0 := (wKI_fr hW g0 ((wfr.rf (l := [(42, 0)])).put' e2846 g0 rfl) rfl)
        have h3016 : RB T H2845 r0 e d := (RB_fr hW g0 ((wfr.rf (l := [(42, 0)])).put' e2846 g0 rfl) rfl hRB_r0)
        have h3017 : KNN T H2845 r0 e d := (KNN_fr hW g0 ((wfr.rf (l := [(42, 0)])).put' e2846 g0 rfl) rfl hKNN_r0)
        refine wp_of e259 c259_32 (xc_V (pc' := 35) (r := r0) (as := [vI 1]) (st := []) (lm_9_433) rfl rfl (Nat.le_of_ble_eq_true rfl) w2847 g0 sh_42 (by decide) rfl (by decide) (u_241 (e := e) (d := d) w2847 g0 ⟨by decide, by decide⟩ (by omega) (by omega) (by assumption) (by assumption) (by assumption) (by assumption) h3016 h3017) (fun R3018 T3019 H3020 p3021 => ?_))
        obtain ⟨e3022, w3024, f3025, z3026, e3023, b3027, p3028⟩ := p3021
        subst e3022
        subst e3023
        rcases p3028 with ⟨a3029, a3030, a3031, a3032, a3033, a3034, a3035, a3036, a3037⟩ | ⟨a3038, a3039, a3040, a3041, a3042, a3043, a3044⟩
        · have f3045 := f2848.tr f3025 rfl
          show wp _ _ 259 35 [(0, .ref r0), (1, vI a1), (2, vI a2)] [vI z3026] _ H3020 _
          have k3046 : wLM H3020 r0 = wLM H r0 := ((wLM_fr w2847 g0 f3025 rfl).trans (wLM_fr hW g0 ((wfr.rf (l := [(42, 0)])).put' e2846 g0 rfl) rfl))
          refine wp_of e259 c259_35 (rw_istore_n (pc' := 36) (z := z3026) (L' := [(3, vI z3026), (0, .ref r0), (1, vI a1), (2, vI a2)]) rfl rfl rfl ?_)
          refine wp_of e259 c259_36 (rw_iload_n (pc' := 37) (z := z3026) rfl rfl ?_)
          refine wp_of e259 c259_37 (rw_if_le (p1 := 46) (p2 := 40) (by decide) rfl ⟨Int.le_trans (by decide) b3027.1, Int.le_trans b3027.2 (by decide)⟩ (fun c3047 => ?_) (fun c3047 => ?_))
          · refine wp_of e259 c259_46 (rw_iconst (pc' := 47) rfl ?_)
            refine wp_of e259 c259_47 (rw_istore (pc' := 49) (z := 0) (L' := [(4, vI 0), (3, vI z3026), (0, .ref r0), (1, vI a1), (2, vI a2)]) rfl rfl rfl ?_)
            refine wp_of e259 c259_49 (rw_iconst (pc' := 50) rfl ?_)
            refine wp_of e259 c259_50 (rw_istore (pc' := 52) (z := 0) (L' := [(5, vI 0), (4, vI 0), (3, vI z3026), (0, .ref r0), (1, vI a1), (2, vI a2)]) rfl rfl rfl ?_)
            have lp3376 : ∀ (n3377 : Nat) (v3379 : Int) (v3380 : Int) (H3381 : wq_H), WT T H3381 → wfr [(51, 999)] T H3020 H3381 → (0 ≤ v3379 ∧ v3379 ≤ 20000) → ((-2147483648) ≤ v3380 ∧ v3380 ≤ 2147483647) → (20000 - v3379).toNat = n3377 → wp kt 7 259 52 [(5, vI v3379), (4, vI v3380), (0, .ref r0), (1, vI a1), (2, vI a2)] [] T H3381 (uq_259 r0 a1 a2 e d T H) := by
              intro n3377
              induction n3377 using Nat.strongRecOn with
              | _ n3377 ih3378 =>
                intro v3379 v3380 H3381 w3382 f3383 b3384 b3385 m3386
                have f3387 := f3045.tr f3383 rfl
                refine wp_of e259 c259_52 (rw_iload (pc' := 54) (z := v3379) rfl rfl ?_)
                refine wp_of e259 c259_54 (rw_aload_n (pc' := 55) (v := .ref r0) rfl rfl rfl ?_)
                have k3388 : H3381 r0 29 = H3020 r0 29 := (f3383 r0 29 _ g0 rfl)
                refine wp_of e259 c259_55 (xg_I (pc' := 58) lf_9_422 w3382 g0 sh_42 (by decide) (by decide) ty_42_29 rfl rfl (fun b3389 b3390 => ?_))
                refine wp_of e259 c259_58 (rw_icmp_ge (p1 := 116) (p2 := 61) (by decide) rfl ⟨Int.le_trans (by decide) b3384.1, Int.le_trans b3384.2 (by decide)⟩ ⟨Int.le_trans (by decide) b3389, Int.le_trans b3390 (by decide)⟩ (fun c3391 => ?_) (fun c3391 => ?_))
                · refine wp_of e259 c259_116 (rw_aload_n (pc' := 117) (v := .ref r0) rfl rfl rfl ?_)
                  refine wp_of e259 c259_117 (rw_iload (pc' := 119) (z := v3380) rfl rfl ?_)
                  refine wp_of e259 c259_119 (xc_V (pc' := 122) (r := r0) (as := [vI v3380]) (st := []) (lm_9_58) rfl rfl (Nat.le_of_ble_eq_true rfl) w3382 g0 sh_42 (by decide) rfl (by decide) (s_209 w3382 g0 ⟨b3385.1, b3385.2⟩) (fun R3392 T3393 H3394 p3395 => ?_))
                  obtain ⟨e3396, w3398, f3399, z3400, e3397, b3401⟩ := p3395
                  subst e3396
                  subst e3397
                  have f3402 := f3387.tr f3399 rfl
                  show wp _ _ 259 122 [(5, vI v3379), (4, vI v3380), (0, .ref r0), (1, vI a1), (2, vI a2)] [vI z3400] _ H3394 _
                  have k3403 : wKI H3394 r0 = wKI H3020 r0 := ((wKI_fr w3382 g0 f3399 rfl).trans (wKI_fr w3024 g0 f3383 rfl))
                  have h3404 : KNN T H3394 r0 e d := (KNN_fr w3382 g0 f3399 rfl (KNN_fr w3024 g0 f3383 rfl a3036))
                  exact wp_ireturn e259 c259_122 rfl ⟨rfl, w3398, f3402, z3400, rfl, ⟨b3401.1, b3401.2⟩, ⟨by omega, h3404⟩⟩
                · refine wp_of e259 c259_61 (rw_aload_n (pc' := 62) (v := .ref r0) rfl rfl rfl ?_)
                  refine wp_of e259 c259_62 (rw_aload_n (pc' := 63) (v := .ref r0) rfl rfl rfl ?_)
                  refine wp_of e259 c259_63 (xg_R (pc' := 66) lf_9_42 w3382 g0 sh_42 (by decide) (by decide) ty_42_30 rfl rfl (fun r3405 q3406 g3407 => ?_))
                  refine wp_of e259 c259_66 (rw_iload (pc' := 68) (z := v3379) rfl rfl ?_)
                  refine wp_of e259 c259_68 (xa_I (so := 0) (pc' := 69) w3382 g3407 sh_52 (by decide) (ty_52 _) (b3384.1) (by omega) rfl (fun b3408 b3409 => ?_))
                  have k3410 : wLM H3381 r0 = wLM H3020 r0 := (wLM_fr w3024 g0 f3383 rfl)
                  have k3411 : H3381 r0 3 = H2845 r0 3 := ((f3383 r0 3 _ g0 rfl).trans (f3025 r0 3 _ g0 rfl))
                  obtain ⟨r3412, q3413, g3414⟩ := (w3382.opt g0 (t' := 54) (n := 33) (j := 3) (p := 0) (q := 0) rfl (by decide) rfl).resolve_left (by omega)
                  refine wp_of e259 c259_69 (xc_V (pc' := 72) (r := r0) (as := [vI (H3381 r3405 (v3379.toNat))]) (st := []) (lm_9_425) rfl rfl (Nat.le_of_ble_eq_true rfl) w3382 g0 sh_42 (by decide) rfl (by decide) (s_243 w3382 g0 ⟨b3408, Int.le_trans b3409 (by decide)⟩ q3413 g3414 (by omega)) (fun R3415 T3416 H3417 p3418 => ?_))
                  obtain ⟨e3419, w3421, f3422, e3420⟩ := p3418
                  subst e3419
                  subst e3420
                  have f3423 := f3387.tr f3422 rfl
                  have f3424 := f3383.tr f3422 rfl
                  show wp _ _ 259 72 [(5, vI v3379), (4, vI v3380), (0, .ref r0), (1, vI a1), (2, vI a2)] [] _ H3417 _
                  refine wp_of e259 c259_72 (rw_iload (pc' := 74) (z := v3380) rfl rfl ?_)
                  refine wp_of e259 c259_74 (rw_aload_n (pc' := 75) (v := .ref r0) rfl rfl rfl ?_)
                  refine wp_of e259 c259_75 (xg_R (pc' := 78) lf_9_33 w3421 g0 sh_42 (by decide) (by decide) ty_42_25 rfl rfl (fun r3425 q3426 g3427 => ?_))
                  refine wp_of e259 c259_78 (rw_bipush (pc' := 80) (z := 40) rfl (by decide) ?_)
                  refine wp_of e259 c259_80 (rw_iload_n (pc' := 81) (z := a1) rfl rfl ?_)
                  refine wp_of e259 c259_81 (rw_imul (pc' := 82) rfl ?_)
                  refine wp_of e259 c259_82 (rw_aload_n (pc' := 83) (v := .ref r0) rfl rfl rfl ?_)
                  refine wp_of e259 c259_83 (xg_R (pc' := 86) lf_9_39 w3421 g0 sh_42 (by decide) (by decide) ty_42_27 rfl rfl (fun r3428 q3429 g3430 => ?_))
                  refine wp_of e259 c259_86 (rw_iload_n (pc' := 87) (z := a1) rfl rfl ?_)
                  refine wp_of e259 c259_87 (xa_I (so := 0) (pc' := 88) w3421 g3430 sh_51 (by decide) (ty_51 _) (by omega) (by omega) rfl (fun b3431 b3432 => ?_))
                  refine wp_of e259 c259_88 (rw_iadd (pc' := 89) rfl ?_)
                  refine wp_of e259 c259_89 (xa_I (so := 0) (pc' := 90) w3421 g3427 sh_49 (by decide) (ty_49 _) (by omega) (by omega) rfl (fun b3433 b3434 => ?_))
                  refine wp_of e259 c259_90 (rw_aload_n (pc' := 91) (v := .ref r0) rfl rfl rfl ?_)
                  refine wp_of e259 c259_91 (xg_K (pc' := 94) lf_9_33 w3421 g0 sh_42 (by decide) (by decide) rfl q3426 rfl ?_)
                  refine wp_of e259 c259_94 (rw_bipush (pc' := 96) (z := 40) rfl (by decide) ?_)
                  refine wp_of e259 c259_96 (rw_iload_n (pc' := 97) (z := a2) rfl rfl ?_)
                  refine wp_of e259 c259_97 (rw_imul (pc' := 98) rfl ?_)
                  refine wp_of e259 c259_98 (rw_aload_n (pc' := 99) (v := .ref r0) rfl rfl rfl ?_)
                  refine wp_of e259 c259_99 (xg_K (pc' := 102) lf_9_39 w3421 g0 sh_42 (by decide) (by decide) rfl q3429 rfl ?_)
                  refine wp_of e259 c259_102 (rw_iload_n (pc' := 103) (z := a2) rfl rfl ?_)
                  refine wp_of e259 c259_103 (xa_I (so := 0) (pc' := 104) w3421 g3430 sh_51 (by decide) (ty_51 _) (by omega) (by omega) rfl (fun b3435 b3436 => ?_))
                  refine wp_of e259 c259_104 (rw_iadd (pc' := 105) rfl ?_)
                  refine wp_of e259 c259_105 (xa_I (so := 0) (pc' := 106) w3421 g3427 sh_49 (by decide) (ty_49 _) (by omega) (by omega) rfl (fun b3437 b3438 => ?_))
                  refine wp_of e259 c259_106 (rw_iand (pc' := 107) rfl ?_)
                  obtain ⟨v3439, e3440⟩ : ∃ x : Int, x = wq_and (H3417 r3425 (((40 * a1) + (H3417 r3428 (a1.toNat))).toNat)) (H3417 r3425 (((40 * a2) + (H3417 r3428 (a2.toNat))).toNat)) := ⟨_, rfl⟩
                  rw [← e3440]
                  have b3441 : -2147483648 ≤ v3439 ∧ v3439 ≤ 2147483647 := by
                    rw [e3440]
                    exact wI_and _ _
                  refine wp_of e259 c259_107 (rw_ior (pc' := 108) rfl ?_)
                  obtain ⟨v3442, e3443⟩ : ∃ x : Int, x = wq_or v3380 v3439 := ⟨_, rfl⟩
                  rw [← e3443]
                  have b3444 : -2147483648 ≤ v3442 ∧ v3442 ≤ 2147483647 := by
                    rw [e3443]
                    exact wI_or _ _
                  refine wp_of e259 c259_108 (rw_istore (pc' := 110) (z := v3442) (L' := [(4, vI v3442), (5, vI v3379), (0, .ref r0), (1, vI a1), (2, vI a2)]) rfl rfl rfl ?_)
                  refine wp_of e259 c259_110 (rw_iinc (pc' := 113) (z := v3379) (L' := [(5, vI (v3379 + 1)), (4, vI v3442), (0, .ref r0), (1, vI a1), (2, vI a2)]) rfl rfl rfl rfl ?_)
                  refine wp_of e259 c259_113 (rw_goto (p1 := 52) (by decide) ?_)
                  exact wp_lc (ks := [5, 4, 0, 1, 2]) (wl_c rfl (wl_c rfl (wl_c rfl (wl_c rfl (wl_c rfl wl_n))))) rfl (by decide) (ih3378 _ (by omega) (v3379 + 1) v3442 H3417 w3421 f3424 ⟨by omega, by omega⟩ ⟨b3444.1, b3444.2⟩ rfl)
            exact wp_lc (ks := [5, 4, 3, 0, 1, 2]) (wl_c rfl (wl_c rfl (wl_c rfl (wl_c rfl (wl_c rfl wl_n))))) rfl (by decide) (lp3376 _ 0 0 H3020 w3024 wfr.rf ⟨by decide, by decide⟩ ⟨by decide, by decide⟩ rfl)
          · exfalso
            omega
        · have f3445 := f2848.tr f3025 rfl
          show wp _ _ 259 35 [(0, .ref r0), (1, vI a1), (2, vI a2)] [vI z3026] _ H3020 _
          have k3446 : wLM H3020 r0 = wLM H r0 := ((wLM_fr w2847 g0 f3025 rfl).trans (wLM_fr hW g0 ((wfr.rf (l := [(42, 0)])).put' e2846 g0 rfl) rfl))
          refine wp_of e259 c259_35 (rw_istore_n (pc' := 36) (z := z3026) (L' := [(3, vI z3026), (0, .ref r0), (1, vI a1), (2, vI a2)]) rfl rfl rfl ?_)
          refine wp_of e259 c259_36 (rw_iload_n (pc' := 37) (z := z3026) rfl rfl ?_)
          refine wp_of e259 c259_37 (rw_if_le (p1 := 46) (p2 := 40) (by decide) rfl ⟨Int.le_trans (by decide) b3027.1, Int.le_trans b3027.2 (by decide)⟩ (fun c3447 => ?_) (fun c3447 => ?_))
          · exfalso
            omega
          · refine wp_of e259 c259_40 (rw_aload_n (pc' := 41) (v := .ref r0) rfl rfl rfl ?_)
            refine wp_of e259 c259_41 (rw_iload_n (pc' := 42) (z := z3026) rfl rfl ?_)
            refine wp_of e259 c259_42 (xc_V (pc' := 45) (r := r0) (as := [vI z3026]) (st := []) (lm_9_54) rfl rfl (Nat.le_of_ble_eq_true rfl) w3024 g0 sh_42 (by decide) rfl (by decide) (s_170 w3024 g0 ⟨Int.le_trans (by decide) b3027.1, Int.le_trans b3027.2 (by decide)⟩) (fun R3448 T3449 H3450 p3451 => ?_))
            obtain ⟨e3452, w3454, f3455, z3456, e3453, b3457⟩ := p3451
            subst e3452
            subst e3453
            have f3458 := f3445.tr f3455 rfl
            show wp _ _ 259 45 [(3, vI z3026), (0, .ref r0), (1, vI a1), (2, vI a2)] [vI z3456] _ H3450 _
            have k3459 : wKI H3450 r0 = wKI H3020 r0 := (wKI_fr w3024 g0 f3455 rfl)
            have h3460 : KNN T H3450 r0 e d := (KNN_fr w3024 g0 f3455 rfl a3044)
            exact wp_ireturn e259 c259_45 rfl ⟨rfl, w3454, f3458, z3456, rfl, ⟨b3457.1, b3457.2⟩, ⟨by omega, h3460⟩⟩
/-! StrikeAwakeModel.possible(I)J  -/
abbrev uq_260 (r0 : Nat) (a1 : Int) (e : xD) (d : xD) (T : wq_T) (H : wq_H) : Option Value → wq_T → wq_H → Prop := fun r T' H' => T = T' ∧ WT T H' ∧ wfr [(42, 0), (42, 1), (42, 2), (42, 28), (42, 29), (51, 999), (52, 999)] T H H' ∧ ∃ z : Int, some (vL z) = r ∧ ((-9223372036854775808) ≤ z ∧ z ≤ 9223372036854775807) ∧ (((wKI H' r0 = 1) ∧ KNN T H' r0 e d))
set_option maxHeartbeats 4000000 in
theorem u_260 {kt : Nat → Option mc_E} {T : wq_T} {H : wq_H} {r0 : Nat} {a1 : Int} {e : xD} {d : xD} (hW : WT T H) (g0 : T.2.2.2 r0 = some 42) (i1 : (-2147483648) ≤ a1 ∧ a1 ≤ 2147483647) (p0 : wKI H r0 = 1) (p1 : XW d) (p2 : ∀ h : Nat, d 0 0 ≤ (h : Int) → h < 24 → e 13 h = 0) (p3 : XN d) (p4 : ∀ h : Nat, h < 24 → 0 ≤ e 13 h ∧ e 13 h ≤ 100) (hRB_r0 : RB T H r0 e d) (hKNN_r0 : KNN T H r0 e d) : wpc kt 8 260 [.ref r0, vI a1] T H (uq_260 r0 a1 e d T H) := by
  refine wp_enter e260 (Nat.le_of_ble_eq_true rfl) rfl ?_
  have f0 : wfr [(42, 0), (42, 1), (42, 2), (42, 28), (42, 29), (51, 999), (52, 999)] T H H := wfr.rf
  show wp _ _ 260 0 [(0, .ref r0), (1, vI a1)] [] _ H _
  have _b := RB_b hW hRB_r0
  have _nu := RB_n3 hRB_r0
  have _lm := RB_lm hRB_r0
  refine wp_of e260 c260_0 (rw_aload_n (pc' := 1) (v := .ref r0) rfl rfl rfl ?_)
  refine wp_of e260 c260_1 (rw_iconst (pc' := 2) rfl ?_)
  refine wp_of e260 c260_2 (xp_I (pc' := 5) lf_9_48 hW g0 sh_42 (by decide) (by decide) ty_42_0 rfl rfl (by decide) (by decide) ⟨by decide, by decide⟩ rfl (fun H1362 e1363 w1364 => ?_))
  have f1365 := f0.put' e1363 g0 rfl
  have k1366 : H1362 r0 0 = 0 := wq_u_s e1363
  refine wp_of e260 c260_5 (rw_aload_n (pc' := 6) (v := .ref r0) rfl rfl rfl ?_)
  refine wp_of e260 c260_6 (rw_aload_n (pc' := 7) (v := .ref r0) rfl rfl rfl ?_)
  refine wp_of e260 c260_7 (rw_iload_n (pc' := 8) (z := a1) rfl rfl ?_)
  refine wp_of e260 c260_8 (xc_V (pc' := 11) (r := r0) (as := [vI a1]) (st := [.ref r0]) (lm_9_364) rfl rfl (Nat.le_of_ble_eq_true rfl) w1364 g0 sh_42 (by decide) rfl (by decide) (s_213 w1364 g0 ⟨i1.1, i1.2⟩) (fun R1367 T1368 H1369 p1370 => ?_))
  obtain ⟨e1371, e1373, z1375, e1372, b1376, p1374⟩ := p1370
  subst e1371
  subst e1372
  subst e1373
  show wp _ _ 260 11 [(0, .ref r0), (1, vI a1)] [vI z1375, .ref r0] _ H1362 _
  have k1377 : H1362 r0 3 = H r0 3 := (wq_u_j e1363 rfl)
  have k1378 : wKI H1362 r0 = wKI H r0 := (wKI_fr hW g0 ((wfr.rf (l := [(42, 0)])).put' e1363 g0 rfl) rfl)
  have h1379 : RB T H1362 r0 e d := (RB_fr hW g0 ((wfr.rf (l := [(42, 0)])).put' e1363 g0 rfl) rfl hRB_r0)
  have h1380 : KNN T H1362 r0 e d := (KNN_fr hW g0 ((wfr.rf (l := [(42, 0)])).put' e1363 g0 rfl) rfl hKNN_r0)
  refine wp_of e260 c260_11 (xc_V (pc' := 14) (r := r0) (as := [vI z1375]) (st := []) (lm_9_433) rfl rfl (Nat.le_of_ble_eq_true rfl) w1364 g0 sh_42 (by decide) rfl (by decide) (u_241 (e := e) (d := d) w1364 g0 ⟨b1376.1, b1376.2⟩ (by omega) (by omega) (by assumption) (by assumption) (by assumption) (by assumption) h1379 h1380) (fun R1381 T1382 H1383 p1384 => ?_))
  obtain ⟨e1385, w1387, f1388, z1389, e1386, b1390, p1391⟩ := p1384
  subst e1385
  subst e1386
  rcases p1391 with ⟨a1392, a1393, a1394, a1395, a1396, a1397, a1398, a1399, a1400⟩ | ⟨a1401, a1402, a1403, a1404, a1405, a1406, a1407⟩
  · have f1408 := f1365.tr f1388 rfl
    show wp _ _ 260 14 [(0, .ref r0), (1, vI a1)] [vI z1389] _ H1383 _
    have k1409 : wLM H1383 r0 = wLM H r0 := ((wLM_fr w1364 g0 f1388 rfl).trans (wLM_fr hW g0 ((wfr.rf (l := [(42, 0)])).put' e1363 g0 rfl) rfl))
    refine wp_of e260 c260_14 (rw_istore_n (pc' := 15) (z := z1389) (L' := [(2, vI z1389), (0, .ref r0), (1, vI a1)]) rfl rfl rfl ?_)
    refine wp_of e260 c260_15 (rw_iload_n (pc' := 16) (z := z1389) rfl rfl ?_)
    refine wp_of e260 c260_16 (rw_if_le (p1 := 26) (p2 := 19) (by decide) rfl ⟨Int.le_trans (by decide) b1390.1, Int.le_trans b1390.2 (by decide)⟩ (fun c1410 => ?_) (fun c1410 => ?_))
    · refine wp_of e260 c260_26 (rw_lconst (pc' := 27) (z := 0) rfl rfl ?_)
      refine wp_of e260 c260_27 (rw_lstore_n (pc' := 28) (z := 0) (L' := [(3, vL 0), (2, vI z1389), (0, .ref r0), (1, vI a1)]) rfl rfl rfl ?_)
      refine wp_of e260 c260_28 (rw_iconst (pc' := 29) rfl ?_)
      refine wp_of e260 c260_29 (rw_istore (pc' := 31) (z := 0) (L' := [(5, vI 0), (3, vL 0), (2, vI z1389), (0, .ref r0), (1, vI a1)]) rfl rfl rfl ?_)
      have lp1667 : ∀ (n1668 : Nat) (v1670 : Int) (v1671 : Int) (H1672 : wq_H), WT T H1672 → wfr [(51, 999)] T H1383 H1672 → (0 ≤ v1670 ∧ v1670 ≤ 20000) → ((-9223372036854775808) ≤ v1671 ∧ v1671 ≤ 9223372036854775807) → (20000 - v1670).toNat = n1668 → wp kt 7 260 31 [(5, vI v1670), (3, vL v1671), (0, .ref r0), (1, vI a1)] [] T H1672 (uq_260 r0 a1 e d T H) := by
        intro n1668
        induction n1668 using Nat.strongRecOn with
        | _ n1668 ih1669 =>
          intro v1670 v1671 H1672 w1673 f1674 b1675 b1676 m1677
          have f1678 := f1408.tr f1674 rfl
          refine wp_of e260 c260_31 (rw_iload (pc' := 33) (z := v1670) rfl rfl ?_)
          refine wp_of e260 c260_33 (rw_aload_n (pc' := 34) (v := .ref r0) rfl rfl rfl ?_)
          have k1679 : H1672 r0 29 = H1383 r0 29 := (f1674 r0 29 _ g0 rfl)
          refine wp_of e260 c260_34 (xg_I (pc' := 37) lf_9_422 w1673 g0 sh_42 (by decide) (by decide) ty_42_29 rfl rfl (fun b1680 b1681 => ?_))
          refine wp_of e260 c260_37 (rw_icmp_ge (p1 := 68) (p2 := 40) (by decide) rfl ⟨Int.le_trans (by decide) b1675.1, Int.le_trans b1675.2 (by decide)⟩ ⟨Int.le_trans (by decide) b1680, Int.le_trans b1681 (by decide)⟩ (fun c1682 => ?_) (fun c1682 => ?_))
          · refine wp_of e260 c260_68 (rw_aload_n (pc' := 69) (v := .ref r0) rfl rfl rfl ?_)
            refine wp_of e260 c260_69 (rw_lload_n (pc' := 70) (z := v1671) rfl rfl ?_)
            refine wp_of e260 c260_70 (xc_V (pc' := 73) (r := r0) (as := [vL v1671]) (st := []) (lm_9_380) rfl rfl (Nat.le_of_ble_eq_true rfl) w1673 g0 sh_42 (by decide) rfl (by decide) (s_221 w1673 g0 ⟨b1676.1, b1676.2⟩) (fun R1683 T1684 H1685 p1686 => ?_))
            obtain ⟨e1687, w1689, f1690, z1691, e1688, b1692⟩ := p1686
            subst e1687
            subst e1688
            have f1693 := f1678.tr f1690 rfl
            show wp _ _ 260 73 [(5, vI v1670), (3, vL v1671), (0, .ref r0), (1, vI a1)] [vL z1691] _ H1685 _
            have k1694 : wKI H1685 r0 = wKI H1383 r0 := ((wKI_fr w1673 g0 f1690 rfl).trans (wKI_fr w1387 g0 f1674 rfl))
            have h1695 : KNN T H1685 r0 e d := (KNN_fr w1673 g0 f1690 rfl (KNN_fr w1387 g0 f1674 rfl a1399))
            exact wp_lreturn e260 c260_73 rfl ⟨rfl, w1689, f1693, z1691, rfl, ⟨b1692.1, b1692.2⟩, ⟨by omega, h1695⟩⟩
          · refine wp_of e260 c260_40 (rw_aload_n (pc' := 41) (v := .ref r0) rfl rfl rfl ?_)
            refine wp_of e260 c260_41 (rw_aload_n (pc' := 42) (v := .ref r0) rfl rfl rfl ?_)
            refine wp_of e260 c260_42 (xg_R (pc' := 45) lf_9_42 w1673 g0 sh_42 (by decide) (by decide) ty_42_30 rfl rfl (fun r1696 q1697 g1698 => ?_))
            refine wp_of e260 c260_45 (rw_iload (pc' := 47) (z := v1670) rfl rfl ?_)
            refine wp_of e260 c260_47 (xa_I (so := 0) (pc' := 48) w1673 g1698 sh_52 (by decide) (ty_52 _) (b1675.1) (by omega) rfl (fun b1699 b1700 => ?_))
            have k1701 : wLM H1672 r0 = wLM H1383 r0 := (wLM_fr w1387 g0 f1674 rfl)
            have k1702 : H1672 r0 3 = H1362 r0 3 := ((f1674 r0 3 _ g0 rfl).trans (f1388 r0 3 _ g0 rfl))
            obtain ⟨r1703, q1704, g1705⟩ := (w1673.opt g0 (t' := 54) (n := 33) (j := 3) (p := 0) (q := 0) rfl (by decide) rfl).resolve_left (by omega)
            refine wp_of e260 c260_48 (xc_V (pc' := 51) (r := r0) (as := [vI (H1672 r1696 (v1670.toNat))]) (st := []) (lm_9_425) rfl rfl (Nat.le_of_ble_eq_true rfl) w1673 g0 sh_42 (by decide) rfl (by decide) (s_243 w1673 g0 ⟨b1699, Int.le_trans b1700 (by decide)⟩ q1704 g1705 (by omega)) (fun R1706 T1707 H1708 p1709 => ?_))
            obtain ⟨e1710, w1712, f1713, e1711⟩ := p1709
            subst e1710
            subst e1711
            have f1714 := f1678.tr f1713 rfl
            have f1715 := f1674.tr f1713 rfl
            show wp _ _ 260 51 [(5, vI v1670), (3, vL v1671), (0, .ref r0), (1, vI a1)] [] _ H1708 _
            refine wp_of e260 c260_51 (rw_lload_n (pc' := 52) (z := v1671) rfl rfl ?_)
            refine wp_of e260 c260_52 (rw_lconst (pc' := 53) (z := 1) rfl rfl ?_)
            refine wp_of e260 c260_53 (rw_aload_n (pc' := 54) (v := .ref r0) rfl rfl rfl ?_)
            refine wp_of e260 c260_54 (xg_R (pc' := 57) lf_9_39 w1712 g0 sh_42 (by decide) (by decide) ty_42_27 rfl rfl (fun r1716 q1717 g1718 => ?_))
            refine wp_of e260 c260_57 (rw_iload_n (pc' := 58) (z := a1) rfl rfl ?_)
            refine wp_of e260 c260_58 (xa_I (so := 0) (pc' := 59) w1712 g1718 sh_51 (by decide) (ty_51 _) (by omega) (by omega) rfl (fun b1719 b1720 => ?_))
            refine wp_of e260 c260_59 (rw_lshl (pc' := 60) rfl ?_)
            obtain ⟨v1721, e1722⟩ : ∃ x : Int, x = wl_shl 1 (H1708 r1716 (a1.toNat)) := ⟨_, rfl⟩
            rw [← e1722]
            have b1723 : -9223372036854775808 ≤ v1721 ∧ v1721 ≤ 9223372036854775807 := by
              rw [e1722]
              exact wL_shl _ _
            refine wp_of e260 c260_60 (rw_lor (pc' := 61) rfl ?_)
            obtain ⟨v1724, e1725⟩ : ∃ x : Int, x = wl_or v1671 v1721 := ⟨_, rfl⟩
            rw [← e1725]
            have b1726 : -9223372036854775808 ≤ v1724 ∧ v1724 ≤ 9223372036854775807 := by
              rw [e1725]
              exact wL_or _ _
            refine wp_of e260 c260_61 (rw_lstore_n (pc' := 62) (z := v1724) (L' := [(3, vL v1724), (5, vI v1670), (0, .ref r0), (1, vI a1)]) rfl rfl rfl ?_)
            refine wp_of e260 c260_62 (rw_iinc (pc' := 65) (z := v1670) (L' := [(5, vI (v1670 + 1)), (3, vL v1724), (0, .ref r0), (1, vI a1)]) rfl rfl rfl rfl ?_)
            refine wp_of e260 c260_65 (rw_goto (p1 := 31) (by decide) ?_)
            exact wp_lc (ks := [5, 3, 0, 1]) (wl_c rfl (wl_c rfl (wl_c rfl (wl_c rfl wl_n)))) rfl (by decide) (ih1669 _ (by omega) (v1670 + 1) v1724 H1708 w1712 f1715 ⟨by omega, by omega⟩ ⟨b1726.1, b1726.2⟩ rfl)
      exact wp_lc (ks := [5, 3, 2, 0, 1]) (wl_c rfl (wl_c rfl (wl_c rfl (wl_c rfl wl_n)))) rfl (by decide) (lp1667 _ 0 0 H1383 w1387 wfr.rf ⟨by decide, by decide⟩ ⟨by decide, by decide⟩ rfl)
    · exfalso
      omega
  · have f1727 := f1365.tr f1388 rfl
    show wp _ _ 260 14 [(0, .ref r0), (1, vI a1)] [vI z1389] _ H1383 _
    have k1728 : wLM H1383 r0 = wLM H r0 := ((wLM_fr w1364 g0 f1388 rfl).trans (wLM_fr hW g0 ((wfr.rf (l := [(42, 0)])).put' e1363 g0 rfl) rfl))
    refine wp_of e260 c260_14 (rw_istore_n (pc' := 15) (z := z1389) (L' := [(2, vI z1389), (0, .ref r0), (1, vI a1)]) rfl rfl rfl ?_)
    refine wp_of e260 c260_15 (rw_iload_n (pc' := 16) (z := z1389) rfl rfl ?_)
    refine wp_of e260 c260_16 (rw_if_le (p1 := 26) (p2 := 19) (by decide) rfl ⟨Int.le_trans (by decide) b1390.1, Int.le_trans b1390.2 (by decide)⟩ (fun c1729 => ?_) (fun c1729 => ?_))
    · exfalso
      omega
    · refine wp_of e260 c260_19 (rw_aload_n (pc' := 20) (v := .ref r0) rfl rfl rfl ?_)
      refine wp_of e260 c260_20 (rw_iload_n (pc' := 21) (z := z1389) rfl rfl ?_)
      refine wp_of e260 c260_21 (xc_V (pc' := 24) (r := r0) (as := [vI z1389]) (st := []) (lm_9_54) rfl rfl (Nat.le_of_ble_eq_true rfl) w1387 g0 sh_42 (by decide) rfl (by decide) (s_170 w1387 g0 ⟨Int.le_trans (by decide) b1390.1, Int.le_trans b1390.2 (by decide)⟩) (fun R1730 T1731 H1732 p1733 => ?_))
      obtain ⟨e1734, w1736, f1737, z1738, e1735, b1739⟩ := p1733
      subst e1734
      subst e1735
      have f1740 := f1727.tr f1737 rfl
      show wp _ _ 260 24 [(2, vI z1389), (0, .ref r0), (1, vI a1)] [vI z1738] _ H1732 _
      refine wp_of e260 c260_24 (rw_i2l (pc' := 25) rfl ⟨b1739.1, b1739.2⟩ ?_)
      have k1741 : wKI H1732 r0 = wKI H1383 r0 := (wKI_fr w1387 g0 f1737 rfl)
      have h1742 : KNN T H1732 r0 e d := (KNN_fr w1387 g0 f1737 rfl a1407)
      exact wp_lreturn e260 c260_25 rfl ⟨rfl, w1736, f1740, z1738, rfl, ⟨Int.le_trans (by decide) b1739.1, Int.le_trans b1739.2 (by decide)⟩, ⟨by omega, h1742⟩⟩
/-! StrikeAwakeModel.hiding(II)I  -/
abbrev uq_261 (r0 : Nat) (a1 : Int) (a2 : Int) (e : xD) (d : xD) (T : wq_T) (H : wq_H) : Option Value → wq_T → wq_H → Prop := fun r T' H' => T = T' ∧ WT T H' ∧ wfr [(42, 0), (42, 1), (42, 2), (42, 28), (42, 29), (51, 999), (52, 999)] T H H' ∧ ∃ z : Int, some (vI z) = r ∧ ((-2147483648) ≤ z ∧ z ≤ 2147483647) ∧ (((wKI H' r0 = 1) ∧ KNN T H' r0 e d))
set_option maxHeartbeats 4000000 in
theorem u_261 {kt : Nat → Option mc_E} {T : wq_T} {H : wq_H} {r0 : Nat} {a1 : Int} {a2 : Int} {e : xD} {d : xD} (hW : WT T H) (g0 : T.2.2.2 r0 = some 42) (i1 : (-2147483648) ≤ a1 ∧ a1 ≤ 2147483647) (i2 : (-2147483648) ≤ a2 ∧ a2 ≤ 2147483647) (p0 : wKI H r0 = 1) (p1 : XW d) (p2 : ∀ h : Nat, d 0 0 ≤ (h : Int) → h < 24 → e 13 h = 0) (p3 : XN d) (p4 : ∀ h : Nat, h < 24 → 0 ≤ e 13 h ∧ e 13 h ≤ 100) (hRB_r0 : RB T H r0 e d) (hKNN_r0 : KNN T H r0 e d) : wpc kt 8 261 [.ref r0, vI a1, vI a2] T H (uq_261 r0 a1 a2 e d T H) := by
  refine wp_enter e261 (Nat.le_of_ble_eq_true rfl) rfl ?_
  have f0 : wfr [(42, 0), (42, 1), (42, 2), (42, 28), (42, 29), (51, 999), (52, 999)] T H H := wfr.rf
  show wp _ _ 261 0 [(0, .ref r0), (1, vI a1), (2, vI a2)] [] _ H _
  have _b := RB_b hW hRB_r0
  have _nu := RB_n3 hRB_r0
  have _lm := RB_lm hRB_r0
  refine wp_of e261 c261_0 (rw_aload_n (pc' := 1) (v := .ref r0) rfl rfl rfl ?_)
  refine wp_of e261 c261_1 (rw_iconst (pc' := 2) rfl ?_)
  refine wp_of e261 c261_2 (xp_I (pc' := 5) lf_9_48 hW g0 sh_42 (by decide) (by decide) ty_42_0 rfl rfl (by decide) (by decide) ⟨by decide, by decide⟩ rfl (fun H2750 e2751 w2752 => ?_))
  have f2753 := f0.put' e2751 g0 rfl
  have k2754 : H2750 r0 0 = 0 := wq_u_s e2751
  refine wp_of e261 c261_5 (rw_aload_n (pc' := 6) (v := .ref r0) rfl rfl rfl ?_)
  refine wp_of e261 c261_6 (rw_aload_n (pc' := 7) (v := .ref r0) rfl rfl rfl ?_)
  refine wp_of e261 c261_7 (rw_iload_n (pc' := 8) (z := a1) rfl rfl ?_)
  refine wp_of e261 c261_8 (xc_V (pc' := 11) (r := r0) (as := [vI a1]) (st := [.ref r0]) (lm_9_364) rfl rfl (Nat.le_of_ble_eq_true rfl) w2752 g0 sh_42 (by decide) rfl (by decide) (s_213 w2752 g0 ⟨i1.1, i1.2⟩) (fun R2755 T2756 H2757 p2758 => ?_))
  obtain ⟨e2759, e2761, z2763, e2760, b2764, p2762⟩ := p2758
  subst e2759
  subst e2760
  subst e2761
  show wp _ _ 261 11 [(0, .ref r0), (1, vI a1), (2, vI a2)] [vI z2763, .ref r0] _ H2750 _
  refine wp_of e261 c261_11 (rw_if_eq (p1 := 26) (p2 := 14) (by decide) rfl ⟨Int.le_trans (by decide) b2764.1, Int.le_trans b2764.2 (by decide)⟩ (fun c2765 => ?_) (fun c2765 => ?_))
  · refine wp_of e261 c261_26 (rw_iconst (pc' := 27) rfl ?_)
    have k2766 : H2750 r0 3 = H r0 3 := (wq_u_j e2751 rfl)
    have k2767 : wKI H2750 r0 = wKI H r0 := (wKI_fr hW g0 ((wfr.rf (l := [(42, 0)])).put' e2751 g0 rfl) rfl)
    have h2768 : RB T H2750 r0 e d := (RB_fr hW g0 ((wfr.rf (l := [(42, 0)])).put' e2751 g0 rfl) rfl hRB_r0)
    have h2769 : KNN T H2750 r0 e d := (KNN_fr hW g0 ((wfr.rf (l := [(42, 0)])).put' e2751 g0 rfl) rfl hKNN_r0)
    refine wp_of e261 c261_27 (xc_V (pc' := 30) (r := r0) (as := [vI 0]) (st := []) (lm_9_433) rfl rfl (Nat.le_of_ble_eq_true rfl) w2752 g0 sh_42 (by decide) rfl (by decide) (u_241 (e := e) (d := d) w2752 g0 ⟨by decide, by decide⟩ (by omega) (by omega) (by assumption) (by assumption) (by assumption) (by assumption) h2768 h2769) (fun R2770 T2771 H2772 p2773 => ?_))
    obtain ⟨e2774, w2776, f2777, z2778, e2775, b2779, p2780⟩ := p2773
    subst e2774
    subst e2775
    rcases p2780 with ⟨a2781, a2782, a2783, a2784, a2785, a2786, a2787, a2788, a2789⟩ | ⟨a2790, a2791, a2792, a2793, a2794, a2795, a2796⟩
    · exfalso
      omega
    · have f2797 := f2753.tr f2777 rfl
      show wp _ _ 261 30 [(0, .ref r0), (1, vI a1), (2, vI a2)] [vI z2778] _ H2772 _
      have k2798 : wLM H2772 r0 = wLM H r0 := ((wLM_fr w2752 g0 f2777 rfl).trans (wLM_fr hW g0 ((wfr.rf (l := [(42, 0)])).put' e2751 g0 rfl) rfl))
      refine wp_of e261 c261_30 (rw_istore_n (pc' := 31) (z := z2778) (L' := [(3, vI z2778), (0, .ref r0), (1, vI a1), (2, vI a2)]) rfl rfl rfl ?_)
      refine wp_of e261 c261_31 (rw_iload_n (pc' := 32) (z := z2778) rfl rfl ?_)
      refine wp_of e261 c261_32 (rw_if_le (p1 := 41) (p2 := 35) (by decide) rfl ⟨Int.le_trans (by decide) b2779.1, Int.le_trans b2779.2 (by decide)⟩ (fun c2799 => ?_) (fun c2799 => ?_))
      · exfalso
        omega
      · refine wp_of e261 c261_35 (rw_aload_n (pc' := 36) (v := .ref r0) rfl rfl rfl ?_)
        refine wp_of e261 c261_36 (rw_iload_n (pc' := 37) (z := z2778) rfl rfl ?_)
        refine wp_of e261 c261_37 (xc_V (pc' := 40) (r := r0) (as := [vI z2778]) (st := []) (lm_9_54) rfl rfl (Nat.le_of_ble_eq_true rfl) w2776 g0 sh_42 (by decide) rfl (by decide) (s_170 w2776 g0 ⟨Int.le_trans (by decide) b2779.1, Int.le_trans b2779.2 (by decide)⟩) (fun R2800 T2801 H2802 p2803 => ?_))
        obtain ⟨e2804, w2806, f2807, z2808, e2805, b2809⟩ := p2803
        subst e2804
        subst e2805
        have f2810 := f2797.tr f2807 rfl
        show wp _ _ 261 40 [(3, vI z2778), (0, .ref r0), (1, vI a1), (2, vI a2)] [vI z2808] _ H2802 _
        have k2811 : wKI H2802 r0 = wKI H2772 r0 := (wKI_fr w2776 g0 f2807 rfl)
        have h2812 : KNN T H2802 r0 e d := (KNN_fr w2776 g0 f2807 rfl a2796)
        exact wp_ireturn e261 c261_40 rfl ⟨rfl, w2806, f2810, z2808, rfl, ⟨b2809.1, b2809.2⟩, ⟨by omega, h2812⟩⟩
  · refine wp_of e261 c261_14 (rw_aload_n (pc' := 15) (v := .ref r0) rfl rfl rfl ?_)
    refine wp_of e261 c261_15 (rw_iload_n (pc' := 16) (z := a2) rfl rfl ?_)
    refine wp_of e261 c261_16 (xc_V (pc' := 19) (r := r0) (as := [vI a2]) (st := [.ref r0]) (lm_9_373) rfl rfl (Nat.le_of_ble_eq_true rfl) w2752 g0 sh_42 (by decide) rfl (by decide) (s_218 w2752 g0 ⟨i2.1, i2.2⟩) (fun R2813 T2814 H2815 p2816 => ?_))
    obtain ⟨e2817, e2819, z2821, e2818, b2822, p2820⟩ := p2816
    subst e2817
    subst e2818
    subst e2819
    show wp _ _ 261 19 [(0, .ref r0), (1, vI a1), (2, vI a2)] [vI z2821, .ref r0] _ H2750 _
    refine wp_of e261 c261_19 (rw_if_eq (p1 := 26) (p2 := 22) (by decide) rfl ⟨Int.le_trans (by decide) b2822.1, Int.le_trans b2822.2 (by decide)⟩ (fun c2823 => ?_) (fun c2823 => ?_))
    · refine wp_of e261 c261_26 (rw_iconst (pc' := 27) rfl ?_)
      have k2824 : H2750 r0 3 = H r0 3 := (wq_u_j e2751 rfl)
      have k2825 : wKI H2750 r0 = wKI H r0 := (wKI_fr hW g0 ((wfr.rf (l := [(42, 0)])).put' e2751 g0 rfl) rfl)
      have h2826 : RB T H2750 r0 e d := (RB_fr hW g0 ((wfr.rf (l := [(42, 0)])).put' e2751 g0 rfl) rfl hRB_r0)
      have h2827 : KNN T H2750 r0 e d := (KNN_fr hW g0 ((wfr.rf (l := [(42, 0)])).put' e2751 g0 rfl) rfl hKNN_r0)
      refine wp_of e261 c261_27 (xc_V (pc' := 30) (r := r0) (as := [vI 0]) (st := []) (lm_9_433) rfl rfl (Nat.le_of_ble_eq_true rfl) w2752 g0 sh_42 (by decide) rfl (by decide) (u_241 (e := e) (d := d) w2752 g0 ⟨by decide, by decide⟩ (by omega) (by omega) (by assumption) (by assumption) (by assumption) (by assumption) h2826 h2827) (fun R2828 T2829 H2830 p2831 => ?_))
      obtain ⟨e2832, w2834, f2835, z2836, e2833, b2837, p2838⟩ := p2831
      subst e2832
      subst e2833
      rcases p2838 with ⟨a2839, a2840, a2841, a2842, a2843, a2844, a2845, a2846, a2847⟩ | ⟨a2848, a2849, a2850, a2851, a2852, a2853, a2854⟩
      · exfalso
        omega
      · have f2855 := f2753.tr f2835 rfl
        show wp _ _ 261 30 [(0, .ref r0), (1, vI a1), (2, vI a2)] [vI z2836] _ H2830 _
        have k2856 : wLM H2830 r0 = wLM H r0 := ((wLM_fr w2752 g0 f2835 rfl).trans (wLM_fr hW g0 ((wfr.rf (l := [(42, 0)])).put' e2751 g0 rfl) rfl))
        refine wp_of e261 c261_30 (rw_istore_n (pc' := 31) (z := z2836) (L' := [(3, vI z2836), (0, .ref r0), (1, vI a1), (2, vI a2)]) rfl rfl rfl ?_)
        refine wp_of e261 c261_31 (rw_iload_n (pc' := 32) (z := z2836) rfl rfl ?_)
        refine wp_of e261 c261_32 (rw_if_le (p1 := 41) (p2 := 35) (by decide) rfl ⟨Int.le_trans (by decide) b2837.1, Int.le_trans b2837.2 (by decide)⟩ (fun c2857 => ?_) (fun c2857 => ?_))
        · exfalso
          omega
        · refine wp_of e261 c261_35 (rw_aload_n (pc' := 36) (v := .ref r0) rfl rfl rfl ?_)
          refine wp_of e261 c261_36 (rw_iload_n (pc' := 37) (z := z2836) rfl rfl ?_)
          refine wp_of e261 c261_37 (xc_V (pc' := 40) (r := r0) (as := [vI z2836]) (st := []) (lm_9_54) rfl rfl (Nat.le_of_ble_eq_true rfl) w2834 g0 sh_42 (by decide) rfl (by decide) (s_170 w2834 g0 ⟨Int.le_trans (by decide) b2837.1, Int.le_trans b2837.2 (by decide)⟩) (fun R2858 T2859 H2860 p2861 => ?_))
          obtain ⟨e2862, w2864, f2865, z2866, e2863, b2867⟩ := p2861
          subst e2862
          subst e2863
          have f2868 := f2855.tr f2865 rfl
          show wp _ _ 261 40 [(3, vI z2836), (0, .ref r0), (1, vI a1), (2, vI a2)] [vI z2866] _ H2860 _
          have k2869 : wKI H2860 r0 = wKI H2830 r0 := (wKI_fr w2834 g0 f2865 rfl)
          have h2870 : KNN T H2860 r0 e d := (KNN_fr w2834 g0 f2865 rfl a2854)
          exact wp_ireturn e261 c261_40 rfl ⟨rfl, w2864, f2868, z2866, rfl, ⟨b2867.1, b2867.2⟩, ⟨by omega, h2870⟩⟩
    · refine wp_of e261 c261_22 (rw_iconst (pc' := 23) rfl ?_)
      refine wp_of e261 c261_23 (rw_goto (p1 := 27) (by decide) ?_)
      have k2871 : H2750 r0 3 = H r0 3 := (wq_u_j e2751 rfl)
      have k2872 : wKI H2750 r0 = wKI H r0 := (wKI_fr hW g0 ((wfr.rf (l := [(42, 0)])).put' e2751 g0 rfl) rfl)
      have h2873 : RB T H2750 r0 e d := (RB_fr hW g0 ((wfr.rf (l := [(42, 0)])).put' e2751 g0 rfl) rfl hRB_r0)
      have h2874 : KNN T H2750 r0 e d := (KNN_fr hW g0 ((wfr.rf (l := [(42, 0)])).put' e2751 g0 rfl) rfl hKNN_r0)
      refine wp_of e261 c261_27 (xc_V (pc' := 30) (r := r0) (as := [vI 1]) (st := []) (lm_9_433) rfl rfl (Nat.le_of_ble_eq_true rfl) w2752 g0 sh_42 (by decide) rfl (by decide) (u_241 (e := e) (d := d) w2752 g0 ⟨by decide, by decide⟩ (by omega) (by omega) (by assumption) (by assumption) (by assumption) (by assumption) h2873 h2874) (fun R2875 T2876 H2877 p2878 => ?_))
      obtain ⟨e2879, w2881, f2882, z2883, e2880, b2884, p2885⟩ := p2878
      subst e2879
      subst e2880
      rcases p2885 with ⟨a2886, a2887, a2888, a2889, a2890, a2891, a2892, a2893, a2894⟩ | ⟨a2895, a2896, a2897, a2898, a2899, a2900, a2901⟩
      · have f2902 := f2753.tr f2882 rfl
        show wp _ _ 261 30 [(0, .ref r0), (1, vI a1), (2, vI a2)] [vI z2883] _ H2877 _
        have k2903 : wLM H2877 r0 = wLM H r0 := ((wLM_fr w2752 g0 f2882 rfl).trans (wLM_fr hW g0 ((wfr.rf (l := [(42, 0)])).put' e2751 g0 rfl) rfl))
        refine wp_of e261 c261_30 (rw_istore_n (pc' := 31) (z := z2883) (L' := [(3, vI z2883), (0, .ref r0), (1, vI a1), (2, vI a2)]) rfl rfl rfl ?_)
        refine wp_of e261 c261_31 (rw_iload_n (pc' := 32) (z := z2883) rfl rfl ?_)
        refine wp_of e261 c261_32 (rw_if_le (p1 := 41) (p2 := 35) (by decide) rfl ⟨Int.le_trans (by decide) b2884.1, Int.le_trans b2884.2 (by decide)⟩ (fun c2904 => ?_) (fun c2904 => ?_))
        · refine wp_of e261 c261_41 (rw_iconst (pc' := 42) rfl ?_)
          refine wp_of e261 c261_42 (rw_istore (pc' := 44) (z := 0) (L' := [(4, vI 0), (3, vI z2883), (0, .ref r0), (1, vI a1), (2, vI a2)]) rfl rfl rfl ?_)
          refine wp_of e261 c261_44 (rw_iconst (pc' := 45) rfl ?_)
          refine wp_of e261 c261_45 (rw_istore (pc' := 47) (z := 0) (L' := [(5, vI 0), (4, vI 0), (3, vI z2883), (0, .ref r0), (1, vI a1), (2, vI a2)]) rfl rfl rfl ?_)
          have lp3353 : ∀ (n3354 : Nat) (v3356 : Int) (v3357 : Int) (H3358 : wq_H), WT T H3358 → wfr [(51, 999)] T H2877 H3358 → (0 ≤ v3356 ∧ v3356 ≤ 20000) → ((-2147483648) ≤ v3357 ∧ v3357 ≤ 2147483647) → (20000 - v3356).toNat = n3354 → wp kt 7 261 47 [(5, vI v3356), (4, vI v3357), (0, .ref r0), (1, vI a1), (2, vI a2)] [] T H3358 (uq_261 r0 a1 a2 e d T H) := by
            intro n3354
            induction n3354 using Nat.strongRecOn with
            | _ n3354 ih3355 =>
              intro v3356 v3357 H3358 w3359 f3360 b3361 b3362 m3363
              have f3364 := f2902.tr f3360 rfl
              refine wp_of e261 c261_47 (rw_iload (pc' := 49) (z := v3356) rfl rfl ?_)
              refine wp_of e261 c261_49 (rw_aload_n (pc' := 50) (v := .ref r0) rfl rfl rfl ?_)
              have k3365 : H3358 r0 29 = H2877 r0 29 := (f3360 r0 29 _ g0 rfl)
              refine wp_of e261 c261_50 (xg_I (pc' := 53) lf_9_422 w3359 g0 sh_42 (by decide) (by decide) ty_42_29 rfl rfl (fun b3366 b3367 => ?_))
              refine wp_of e261 c261_53 (rw_icmp_ge (p1 := 110) (p2 := 56) (by decide) rfl ⟨Int.le_trans (by decide) b3361.1, Int.le_trans b3361.2 (by decide)⟩ ⟨Int.le_trans (by decide) b3366, Int.le_trans b3367 (by decide)⟩ (fun c3368 => ?_) (fun c3368 => ?_))
              · refine wp_of e261 c261_110 (rw_aload_n (pc' := 111) (v := .ref r0) rfl rfl rfl ?_)
                refine wp_of e261 c261_111 (rw_iload (pc' := 113) (z := v3357) rfl rfl ?_)
                refine wp_of e261 c261_113 (xc_V (pc' := 116) (r := r0) (as := [vI v3357]) (st := []) (lm_9_58) rfl rfl (Nat.le_of_ble_eq_true rfl) w3359 g0 sh_42 (by decide) rfl (by decide) (s_209 w3359 g0 ⟨b3362.1, b3362.2⟩) (fun R3369 T3370 H3371 p3372 => ?_))
                obtain ⟨e3373, w3375, f3376, z3377, e3374, b3378⟩ := p3372
                subst e3373
                subst e3374
                have f3379 := f3364.tr f3376 rfl
                show wp _ _ 261 116 [(5, vI v3356), (4, vI v3357), (0, .ref r0), (1, vI a1), (2, vI a2)] [vI z3377] _ H3371 _
                have k3380 : wKI H3371 r0 = wKI H2877 r0 := ((wKI_fr w3359 g0 f3376 rfl).trans (wKI_fr w2881 g0 f3360 rfl))
                have h3381 : KNN T H3371 r0 e d := (KNN_fr w3359 g0 f3376 rfl (KNN_fr w2881 g0 f3360 rfl a2893))
                exact wp_ireturn e261 c261_116 rfl ⟨rfl, w3375, f3379, z3377, rfl, ⟨b3378.1, b3378.2⟩, ⟨by omega, h3381⟩⟩
              · refine wp_of e261 c261_56 (rw_aload_n (pc' := 57) (v := .ref r0) rfl rfl rfl ?_)
                refine wp_of e261 c261_57 (rw_aload_n (pc' := 58) (v := .ref r0) rfl rfl rfl ?_)
                refine wp_of e261 c261_58 (xg_R (pc' := 61) lf_9_42 w3359 g0 sh_42 (by decide) (by decide) ty_42_30 rfl rfl (fun r3382 q3383 g3384 => ?_))
                refine wp_of e261 c261_61 (rw_iload (pc' := 63) (z := v3356) rfl rfl ?_)
                refine wp_of e261 c261_63 (xa_I (so := 0) (pc' := 64) w3359 g3384 sh_52 (by decide) (ty_52 _) (b3361.1) (by omega) rfl (fun b3385 b3386 => ?_))
                have k3387 : wLM H3358 r0 = wLM H2877 r0 := (wLM_fr w2881 g0 f3360 rfl)
                have k3388 : H3358 r0 3 = H2750 r0 3 := ((f3360 r0 3 _ g0 rfl).trans (f2882 r0 3 _ g0 rfl))
                obtain ⟨r3389, q3390, g3391⟩ := (w3359.opt g0 (t' := 54) (n := 33) (j := 3) (p := 0) (q := 0) rfl (by decide) rfl).resolve_left (by omega)
                refine wp_of e261 c261_64 (xc_V (pc' := 67) (r := r0) (as := [vI (H3358 r3382 (v3356.toNat))]) (st := []) (lm_9_425) rfl rfl (Nat.le_of_ble_eq_true rfl) w3359 g0 sh_42 (by decide) rfl (by decide) (s_243 w3359 g0 ⟨b3385, Int.le_trans b3386 (by decide)⟩ q3390 g3391 (by omega)) (fun R3392 T3393 H3394 p3395 => ?_))
                obtain ⟨e3396, w3398, f3399, e3397⟩ := p3395
                subst e3396
                subst e3397
                have f3400 := f3364.tr f3399 rfl
                have f3401 := f3360.tr f3399 rfl
                show wp _ _ 261 67 [(5, vI v3356), (4, vI v3357), (0, .ref r0), (1, vI a1), (2, vI a2)] [] _ H3394 _
                refine wp_of e261 c261_67 (rw_aload_n (pc' := 68) (v := .ref r0) rfl rfl rfl ?_)
                refine wp_of e261 c261_68 (xg_R (pc' := 71) lf_9_30 w3398 g0 sh_42 (by decide) (by decide) ty_42_24 rfl rfl (fun r3402 q3403 g3404 => ?_))
                refine wp_of e261 c261_71 (rw_bipush (pc' := 73) (z := 40) rfl (by decide) ?_)
                refine wp_of e261 c261_73 (rw_iload_n (pc' := 74) (z := a1) rfl rfl ?_)
                refine wp_of e261 c261_74 (rw_imul (pc' := 75) rfl ?_)
                refine wp_of e261 c261_75 (rw_aload_n (pc' := 76) (v := .ref r0) rfl rfl rfl ?_)
                refine wp_of e261 c261_76 (xg_R (pc' := 79) lf_9_39 w3398 g0 sh_42 (by decide) (by decide) ty_42_27 rfl rfl (fun r3405 q3406 g3407 => ?_))
                refine wp_of e261 c261_79 (rw_iload_n (pc' := 80) (z := a1) rfl rfl ?_)
                refine wp_of e261 c261_80 (xa_I (so := 0) (pc' := 81) w3398 g3407 sh_51 (by decide) (ty_51 _) (by omega) (by omega) rfl (fun b3408 b3409 => ?_))
                refine wp_of e261 c261_81 (rw_iadd (pc' := 82) rfl ?_)
                refine wp_of e261 c261_82 (xa_I (so := 0) (pc' := 83) w3398 g3404 sh_48 (by decide) (ty_48 _) (by omega) (by omega) rfl (fun b3410 b3411 => ?_))
                refine wp_of e261 c261_83 (rw_iload_n (pc' := 84) (z := a2) rfl rfl ?_)
                refine wp_of e261 c261_84 (xc_S (pc' := 87) (as := [vI (H3394 r3402 (((40 * a1) + (H3394 r3405 (a1.toNat))).toNat)), vI a2]) (st := []) (lm_9_346) rfl rfl (Nat.le_of_ble_eq_true rfl) rfl (by decide) (s_205 w3398 ⟨b3410, b3411⟩ ⟨i2.1, i2.2⟩) (fun R3412 T3413 H3414 p3415 => ?_))
                obtain ⟨e3416, e3418, z3419, e3417, b3420⟩ := p3415
                subst e3416
                subst e3417
                subst e3418
                show wp _ _ 261 87 [(5, vI v3356), (4, vI v3357), (0, .ref r0), (1, vI a1), (2, vI a2)] [vI z3419] _ H3394 _
                refine wp_of e261 c261_87 (rw_if_eq (p1 := 104) (p2 := 90) (by decide) rfl ⟨Int.le_trans (by decide) b3420.1, Int.le_trans b3420.2 (by decide)⟩ (fun c3421 => ?_) (fun c3421 => ?_))
                · refine wp_of e261 c261_104 (rw_iinc (pc' := 107) (z := v3356) (L' := [(5, vI (v3356 + 1)), (4, vI v3357), (0, .ref r0), (1, vI a1), (2, vI a2)]) rfl rfl rfl rfl ?_)
                  refine wp_of e261 c261_107 (rw_goto (p1 := 47) (by decide) ?_)
                  exact wp_lc (ks := [5, 4, 0, 1, 2]) (wl_c rfl (wl_c rfl (wl_c rfl (wl_c rfl (wl_c rfl wl_n))))) rfl (by decide) (ih3355 _ (by omega) (v3356 + 1) v3357 H3394 w3398 f3401 ⟨by omega, by omega⟩ ⟨b3362.1, b3362.2⟩ rfl)
                · refine wp_of e261 c261_90 (rw_iload (pc' := 92) (z := v3357) rfl rfl ?_)
                  refine wp_of e261 c261_92 (rw_aload_n (pc' := 93) (v := .ref r0) rfl rfl rfl ?_)
                  refine wp_of e261 c261_93 (rw_aload_n (pc' := 94) (v := .ref r0) rfl rfl rfl ?_)
                  refine wp_of e261 c261_94 (xg_K (pc' := 97) lf_9_39 w3398 g0 sh_42 (by decide) (by decide) rfl q3406 rfl ?_)
                  refine wp_of e261 c261_97 (rw_iload_n (pc' := 98) (z := a2) rfl rfl ?_)
                  have k3422 : H3394 r0 3 = H3358 r0 3 := (f3399 r0 3 _ g0 rfl)
                  have q3423 : H3394 r0 3 = (r3389 : Int) := k3422.trans q3390
                  refine wp_of e261 c261_98 (xc_V (pc' := 101) (r := r0) (as := [.ref r3405, vI a2]) (st := [vI v3357]) (lm_9_455) rfl rfl (Nat.le_of_ble_eq_true rfl) w3398 g0 sh_42 (by decide) rfl (by decide) (s_262_m_lot w3398 g0 g3407 ⟨i2.1, i2.2⟩ q3423 g3391) (fun R3424 T3425 H3426 p3427 => ?_))
                  obtain ⟨e3428, e3430, z3431, e3429, b3432⟩ := p3427
                  subst e3428
                  subst e3429
                  subst e3430
                  show wp _ _ 261 101 [(5, vI v3356), (4, vI v3357), (0, .ref r0), (1, vI a1), (2, vI a2)] [vI z3431, vI v3357] _ H3394 _
                  refine wp_of e261 c261_101 (rw_ior (pc' := 102) rfl ?_)
                  obtain ⟨v3433, e3434⟩ : ∃ x : Int, x = wq_or v3357 z3431 := ⟨_, rfl⟩
                  rw [← e3434]
                  have b3435 : -2147483648 ≤ v3433 ∧ v3433 ≤ 2147483647 := by
                    rw [e3434]
                    exact wI_or _ _
                  refine wp_of e261 c261_102 (rw_istore (pc' := 104) (z := v3433) (L' := [(4, vI v3433), (5, vI v3356), (0, .ref r0), (1, vI a1), (2, vI a2)]) rfl rfl rfl ?_)
                  refine wp_of e261 c261_104 (rw_iinc (pc' := 107) (z := v3356) (L' := [(5, vI (v3356 + 1)), (4, vI v3433), (0, .ref r0), (1, vI a1), (2, vI a2)]) rfl rfl rfl rfl ?_)
                  refine wp_of e261 c261_107 (rw_goto (p1 := 47) (by decide) ?_)
                  exact wp_lc (ks := [5, 4, 0, 1, 2]) (wl_c rfl (wl_c rfl (wl_c rfl (wl_c rfl (wl_c rfl wl_n))))) rfl (by decide) (ih3355 _ (by omega) (v3356 + 1) v3433 H3394 w3398 f3401 ⟨by omega, by omega⟩ ⟨b3435.1, b3435.2⟩ rfl)
          exact wp_lc (ks := [5, 4, 3, 0, 1, 2]) (wl_c rfl (wl_c rfl (wl_c rfl (wl_c rfl (wl_c rfl wl_n))))) rfl (by decide) (lp3353 _ 0 0 H2877 w2881 wfr.rf ⟨by decide, by decide⟩ ⟨by decide, by decide⟩ rfl)
        · exfalso
          omega
      · have f3436 := f2753.tr f2882 rfl
        show wp _ _ 261 30 [(0, .ref r0), (1, vI a1), (2, vI a2)] [vI z2883] _ H2877 _
        have k3437 : wLM H2877 r0 = wLM H r0 := ((wLM_fr w2752 g0 f2882 rfl).trans (wLM_fr hW g0 ((wfr.rf (l := [(42, 0)])).put' e2751 g0 rfl) rfl))
        refine wp_of e261 c261_30 (rw_istore_n (pc' := 31) (z := z2883) (L' := [(3, vI z2883), (0, .ref r0), (1, vI a1), (2, vI a2)]) rfl rfl rfl ?_)
        refine wp_of e261 c261_31 (rw_iload_n (pc' := 32) (z := z2883) rfl rfl ?_)
        refine wp_of e261 c261_32 (rw_if_le (p1 := 41) (p2 := 35) (by decide) rfl ⟨Int.le_trans (by decide) b2884.1, Int.le_trans b2884.2 (by decide)⟩ (fun c3438 => ?_) (fun c3438 => ?_))
        · exfalso
          omega
        · refine wp_of e261 c261_35 (rw_aload_n (pc' := 36) (v := .ref r0) rfl rfl rfl ?_)
          refine wp_of e261 c261_36 (rw_iload_n (pc' := 37) (z := z2883) rfl rfl ?_)
          refine wp_of e261 c261_37 (xc_V (pc' := 40) (r := r0) (as := [vI z2883]) (st := []) (lm_9_54) rfl rfl (Nat.le_of_ble_eq_true rfl) w2881 g0 sh_42 (by decide) rfl (by decide) (s_170 w2881 g0 ⟨Int.le_trans (by decide) b2884.1, Int.le_trans b2884.2 (by decide)⟩) (fun R3439 T3440 H3441 p3442 => ?_))
          obtain ⟨e3443, w3445, f3446, z3447, e3444, b3448⟩ := p3442
          subst e3443
          subst e3444
          have f3449 := f3436.tr f3446 rfl
          show wp _ _ 261 40 [(3, vI z2883), (0, .ref r0), (1, vI a1), (2, vI a2)] [vI z3447] _ H3441 _
          have k3450 : wKI H3441 r0 = wKI H2877 r0 := (wKI_fr w2881 g0 f3446 rfl)
          have h3451 : KNN T H3441 r0 e d := (KNN_fr w2881 g0 f3446 rfl a2901)
          exact wp_ireturn e261 c261_40 rfl ⟨rfl, w3445, f3449, z3447, rfl, ⟨b3448.1, b3448.2⟩, ⟨by omega, h3451⟩⟩
/-! StrikeAwakeModel.bed(IZ)I  -/
abbrev uq_263 (r0 : Nat) (a1 : Int) (a2 : Int) (e : xD) (d : xD) (T : wq_T) (H : wq_H) : Option Value → wq_T → wq_H → Prop := fun r T' H' => T = T' ∧ WT T H' ∧ wfr [(42, 0), (42, 1), (42, 2), (42, 28), (42, 29), (51, 999), (52, 999)] T H H' ∧ ∃ z : Int, some (vI z) = r ∧ ((-2147483648) ≤ z ∧ z ≤ 2147483647) ∧ (((wKI H' r0 = 1) ∧ KNN T H' r0 e d))
set_option maxHeartbeats 4000000 in
theorem u_263 {kt : Nat → Option mc_E} {T : wq_T} {H : wq_H} {r0 : Nat} {a1 : Int} {a2 : Int} {e : xD} {d : xD} (hW : WT T H) (g0 : T.2.2.2 r0 = some 42) (i1 : (-2147483648) ≤ a1 ∧ a1 ≤ 2147483647) (i2 : 0 ≤ a2 ∧ a2 ≤ 1) (p0 : wKI H r0 = 1) (p1 : XW d) (p2 : ∀ h : Nat, d 0 0 ≤ (h : Int) → h < 24 → e 13 h = 0) (p3 : XN d) (p4 : ∀ h : Nat, h < 24 → 0 ≤ e 13 h ∧ e 13 h ≤ 100) (hRB_r0 : RB T H r0 e d) (hKNN_r0 : KNN T H r0 e d) : wpc kt 9 263 [.ref r0, vI a1, vI a2] T H (uq_263 r0 a1 a2 e d T H) := by
  refine wp_enter e263 (Nat.le_of_ble_eq_true rfl) rfl ?_
  have f0 : wfr [(42, 0), (42, 1), (42, 2), (42, 28), (42, 29), (51, 999), (52, 999)] T H H := wfr.rf
  show wp _ _ 263 0 [(0, .ref r0), (1, vI a1), (2, vI a2)] [] _ H _
  have _b := RB_b hW hRB_r0
  have _nu := RB_n3 hRB_r0
  have _lm := RB_lm hRB_r0
  refine wp_of e263 c263_0 (rw_aload_n (pc' := 1) (v := .ref r0) rfl rfl rfl ?_)
  refine wp_of e263 c263_1 (rw_iconst (pc' := 2) rfl ?_)
  refine wp_of e263 c263_2 (xp_I (pc' := 5) lf_9_48 hW g0 sh_42 (by decide) (by decide) ty_42_0 rfl rfl (by decide) (by decide) ⟨by decide, by decide⟩ rfl (fun H1092 e1093 w1094 => ?_))
  have f1095 := f0.put' e1093 g0 rfl
  have k1096 : H1092 r0 0 = 0 := wq_u_s e1093
  refine wp_of e263 c263_5 (rw_aload_n (pc' := 6) (v := .ref r0) rfl rfl rfl ?_)
  refine wp_of e263 c263_6 (rw_aload_n (pc' := 7) (v := .ref r0) rfl rfl rfl ?_)
  refine wp_of e263 c263_7 (rw_iload_n (pc' := 8) (z := a1) rfl rfl ?_)
  refine wp_of e263 c263_8 (xc_V (pc' := 11) (r := r0) (as := [vI a1]) (st := [.ref r0]) (lm_9_364) rfl rfl (Nat.le_of_ble_eq_true rfl) w1094 g0 sh_42 (by decide) rfl (by decide) (s_213 w1094 g0 ⟨i1.1, i1.2⟩) (fun R1097 T1098 H1099 p1100 => ?_))
  obtain ⟨e1101, e1103, z1105, e1102, b1106, p1104⟩ := p1100
  subst e1101
  subst e1102
  subst e1103
  show wp _ _ 263 11 [(0, .ref r0), (1, vI a1), (2, vI a2)] [vI z1105, .ref r0] _ H1092 _
  have k1107 : H1092 r0 3 = H r0 3 := (wq_u_j e1093 rfl)
  have k1108 : wKI H1092 r0 = wKI H r0 := (wKI_fr hW g0 ((wfr.rf (l := [(42, 0)])).put' e1093 g0 rfl) rfl)
  have h1109 : RB T H1092 r0 e d := (RB_fr hW g0 ((wfr.rf (l := [(42, 0)])).put' e1093 g0 rfl) rfl hRB_r0)
  have h1110 : KNN T H1092 r0 e d := (KNN_fr hW g0 ((wfr.rf (l := [(42, 0)])).put' e1093 g0 rfl) rfl hKNN_r0)
  refine wp_of e263 c263_11 (xc_V (pc' := 14) (r := r0) (as := [vI z1105]) (st := []) (lm_9_447) rfl rfl (Nat.le_of_ble_eq_true rfl) w1094 g0 sh_42 (by decide) rfl (by decide) (u_253 (e := e) (d := d) w1094 g0 ⟨b1106.1, b1106.2⟩ (by omega) (by omega) (by assumption) (by assumption) (by assumption) (by assumption) h1109 h1110) (fun R1111 T1112 H1113 p1114 => ?_))
  obtain ⟨e1115, w1117, f1118, z1119, e1116, b1120, p1121⟩ := p1114
  subst e1115
  subst e1116
  rcases p1121 with ⟨a1122, a1123, a1124, a1125, a1126, a1127, a1128, a1129, a1130, a1131⟩ | ⟨a1132, a1133, a1134, a1135, a1136, a1137, a1138⟩
  · have f1139 := f1095.tr f1118 rfl
    show wp _ _ 263 14 [(0, .ref r0), (1, vI a1), (2, vI a2)] [vI z1119] _ H1113 _
    have k1140 : wLM H1113 r0 = wLM H r0 := ((wLM_fr w1094 g0 f1118 rfl).trans (wLM_fr hW g0 ((wfr.rf (l := [(42, 0)])).put' e1093 g0 rfl) rfl))
    refine wp_of e263 c263_14 (rw_istore_n (pc' := 15) (z := z1119) (L' := [(3, vI z1119), (0, .ref r0), (1, vI a1), (2, vI a2)]) rfl rfl rfl ?_)
    refine wp_of e263 c263_15 (rw_iload_n (pc' := 16) (z := z1119) rfl rfl ?_)
    refine wp_of e263 c263_16 (rw_if_le (p1 := 27) (p2 := 19) (by decide) rfl ⟨Int.le_trans (by decide) b1120.1, Int.le_trans b1120.2 (by decide)⟩ (fun c1141 => ?_) (fun c1141 => ?_))
    · refine wp_of e263 c263_27 (rw_aload_n (pc' := 28) (v := .ref r0) rfl rfl rfl ?_)
      refine wp_of e263 c263_28 (rw_aload_n (pc' := 29) (v := .ref r0) rfl rfl rfl ?_)
      refine wp_of e263 c263_29 (rw_iload_n (pc' := 30) (z := a1) rfl rfl ?_)
      refine wp_of e263 c263_30 (rw_aload_n (pc' := 31) (v := .ref r0) rfl rfl rfl ?_)
      refine wp_of e263 c263_31 (xg_R (pc' := 34) lf_9_24 w1117 g0 sh_42 (by decide) (by decide) ty_42_22 rfl rfl (fun r1142 q1143 g1144 => ?_))
      refine wp_of e263 c263_34 (rw_iload_n (pc' := 35) (z := a2) rfl rfl ?_)
      have k1145 : H1113 r0 3 = H1092 r0 3 := (f1118 r0 3 _ g0 rfl)
      obtain ⟨r1146, q1147, g1148⟩ := (w1117.opt g0 (t' := 54) (n := 33) (j := 3) (p := 0) (q := 0) rfl (by decide) rfl).resolve_left (by omega)
      refine wp_of e263 c263_35 (xc_V (pc' := 38) (r := r0) (as := [vI a1, .ref r1142, vI a2]) (st := [.ref r0]) (lm_9_458) rfl rfl (Nat.le_of_ble_eq_true rfl) w1117 g0 sh_42 (by decide) rfl (by decide) (s_264_m_bed w1117 g0 ⟨by omega, by omega⟩ g1144 ⟨i2.1, i2.2⟩ q1147 g1148 (by omega)) (fun R1149 T1150 H1151 p1152 => ?_))
      obtain ⟨e1153, w1155, f1156, z1157, e1154, b1158⟩ := p1152
      subst e1153
      subst e1154
      have f1159 := f1139.tr f1156 rfl
      show wp _ _ 263 38 [(3, vI z1119), (0, .ref r0), (1, vI a1), (2, vI a2)] [vI z1157, .ref r0] _ H1151 _
      refine wp_of e263 c263_38 (xc_V (pc' := 41) (r := r0) (as := [vI z1157]) (st := []) (lm_9_58) rfl rfl (Nat.le_of_ble_eq_true rfl) w1155 g0 sh_42 (by decide) rfl (by decide) (s_209 w1155 g0 ⟨b1158.1, b1158.2⟩) (fun R1160 T1161 H1162 p1163 => ?_))
      obtain ⟨e1164, w1166, f1167, z1168, e1165, b1169⟩ := p1163
      subst e1164
      subst e1165
      have f1170 := f1159.tr f1167 rfl
      show wp _ _ 263 41 [(3, vI z1119), (0, .ref r0), (1, vI a1), (2, vI a2)] [vI z1168] _ H1162 _
      have k1171 : wKI H1162 r0 = wKI H1113 r0 := ((wKI_fr w1155 g0 f1167 rfl).trans (wKI_fr w1117 g0 f1156 rfl))
      have h1172 : KNN T H1162 r0 e d := (KNN_fr w1155 g0 f1167 rfl (KNN_fr w1117 g0 f1156 rfl a1130))
      exact wp_ireturn e263 c263_41 rfl ⟨rfl, w1166, f1170, z1168, rfl, ⟨b1169.1, b1169.2⟩, ⟨by omega, h1172⟩⟩
    · exfalso
      omega
  · have f1173 := f1095.tr f1118 rfl
    show wp _ _ 263 14 [(0, .ref r0), (1, vI a1), (2, vI a2)] [vI z1119] _ H1113 _
    have k1174 : wLM H1113 r0 = wLM H r0 := ((wLM_fr w1094 g0 f1118 rfl).trans (wLM_fr hW g0 ((wfr.rf (l := [(42, 0)])).put' e1093 g0 rfl) rfl))
    refine wp_of e263 c263_14 (rw_istore_n (pc' := 15) (z := z1119) (L' := [(3, vI z1119), (0, .ref r0), (1, vI a1), (2, vI a2)]) rfl rfl rfl ?_)
    refine wp_of e263 c263_15 (rw_iload_n (pc' := 16) (z := z1119) rfl rfl ?_)
    refine wp_of e263 c263_16 (rw_if_le (p1 := 27) (p2 := 19) (by decide) rfl ⟨Int.le_trans (by decide) b1120.1, Int.le_trans b1120.2 (by decide)⟩ (fun c1175 => ?_) (fun c1175 => ?_))
    · exfalso
      omega
    · refine wp_of e263 c263_19 (rw_aload_n (pc' := 20) (v := .ref r0) rfl rfl rfl ?_)
      refine wp_of e263 c263_20 (rw_iload_n (pc' := 21) (z := z1119) rfl rfl ?_)
      refine wp_of e263 c263_21 (xc_V (pc' := 24) (r := r0) (as := [vI z1119]) (st := []) (lm_9_54) rfl rfl (Nat.le_of_ble_eq_true rfl) w1117 g0 sh_42 (by decide) rfl (by decide) (s_170 w1117 g0 ⟨Int.le_trans (by decide) b1120.1, Int.le_trans b1120.2 (by decide)⟩) (fun R1176 T1177 H1178 p1179 => ?_))
      obtain ⟨e1180, w1182, f1183, z1184, e1181, b1185⟩ := p1179
      subst e1180
      subst e1181
      have f1186 := f1173.tr f1183 rfl
      show wp _ _ 263 24 [(3, vI z1119), (0, .ref r0), (1, vI a1), (2, vI a2)] [vI z1184] _ H1178 _
      refine wp_of e263 c263_24 (rw_goto (p1 := 41) (by decide) ?_)
      have k1187 : wKI H1178 r0 = wKI H1113 r0 := (wKI_fr w1117 g0 f1183 rfl)
      have h1188 : KNN T H1178 r0 e d := (KNN_fr w1117 g0 f1183 rfl a1138)
      exact wp_ireturn e263 c263_41 rfl ⟨rfl, w1182, f1186, z1184, rfl, ⟨b1185.1, b1185.2⟩, ⟨by omega, h1188⟩⟩
/-! StrikeAwakeModel.sleeps(IZ)I  -/
abbrev uq_265 (r0 : Nat) (a1 : Int) (a2 : Int) (e : xD) (d : xD) (T : wq_T) (H : wq_H) : Option Value → wq_T → wq_H → Prop := fun r T' H' => T = T' ∧ WT T H' ∧ wfr [(42, 0), (42, 1), (42, 2), (42, 28), (42, 29), (51, 999), (52, 999)] T H H' ∧ ∃ z : Int, some (vI z) = r ∧ ((-2147483648) ≤ z ∧ z ≤ 2147483647) ∧ (((wKI H' r0 = 1) ∧ KNN T H' r0 e d))
set_option maxHeartbeats 4000000 in
theorem u_265 {kt : Nat → Option mc_E} {T : wq_T} {H : wq_H} {r0 : Nat} {a1 : Int} {a2 : Int} {e : xD} {d : xD} (hW : WT T H) (g0 : T.2.2.2 r0 = some 42) (i1 : (-2147483648) ≤ a1 ∧ a1 ≤ 2147483647) (i2 : 0 ≤ a2 ∧ a2 ≤ 1) (p0 : wKI H r0 = 1) (p1 : XW d) (p2 : ∀ h : Nat, d 0 0 ≤ (h : Int) → h < 24 → e 13 h = 0) (p3 : XN d) (p4 : ∀ h : Nat, h < 24 → 0 ≤ e 13 h ∧ e 13 h ≤ 100) (hRB_r0 : RB T H r0 e d) (hKNN_r0 : KNN T H r0 e d) : wpc kt 9 265 [.ref r0, vI a1, vI a2] T H (uq_265 r0 a1 a2 e d T H) := by
  refine wp_enter e265 (Nat.le_of_ble_eq_true rfl) rfl ?_
  have f0 : wfr [(42, 0), (42, 1), (42, 2), (42, 28), (42, 29), (51, 999), (52, 999)] T H H := wfr.rf
  show wp _ _ 265 0 [(0, .ref r0), (1, vI a1), (2, vI a2)] [] _ H _
  have _b := RB_b hW hRB_r0
  have _nu := RB_n3 hRB_r0
  have _lm := RB_lm hRB_r0
  refine wp_of e265 c265_0 (rw_aload_n (pc' := 1) (v := .ref r0) rfl rfl rfl ?_)
  refine wp_of e265 c265_1 (rw_iconst (pc' := 2) rfl ?_)
  refine wp_of e265 c265_2 (xp_I (pc' := 5) lf_9_48 hW g0 sh_42 (by decide) (by decide) ty_42_0 rfl rfl (by decide) (by decide) ⟨by decide, by decide⟩ rfl (fun H1092 e1093 w1094 => ?_))
  have f1095 := f0.put' e1093 g0 rfl
  have k1096 : H1092 r0 0 = 0 := wq_u_s e1093
  refine wp_of e265 c265_5 (rw_aload_n (pc' := 6) (v := .ref r0) rfl rfl rfl ?_)
  refine wp_of e265 c265_6 (rw_aload_n (pc' := 7) (v := .ref r0) rfl rfl rfl ?_)
  refine wp_of e265 c265_7 (rw_iload_n (pc' := 8) (z := a1) rfl rfl ?_)
  refine wp_of e265 c265_8 (xc_V (pc' := 11) (r := r0) (as := [vI a1]) (st := [.ref r0]) (lm_9_364) rfl rfl (Nat.le_of_ble_eq_true rfl) w1094 g0 sh_42 (by decide) rfl (by decide) (s_213 w1094 g0 ⟨i1.1, i1.2⟩) (fun R1097 T1098 H1099 p1100 => ?_))
  obtain ⟨e1101, e1103, z1105, e1102, b1106, p1104⟩ := p1100
  subst e1101
  subst e1102
  subst e1103
  show wp _ _ 265 11 [(0, .ref r0), (1, vI a1), (2, vI a2)] [vI z1105, .ref r0] _ H1092 _
  have k1107 : H1092 r0 3 = H r0 3 := (wq_u_j e1093 rfl)
  have k1108 : wKI H1092 r0 = wKI H r0 := (wKI_fr hW g0 ((wfr.rf (l := [(42, 0)])).put' e1093 g0 rfl) rfl)
  have h1109 : RB T H1092 r0 e d := (RB_fr hW g0 ((wfr.rf (l := [(42, 0)])).put' e1093 g0 rfl) rfl hRB_r0)
  have h1110 : KNN T H1092 r0 e d := (KNN_fr hW g0 ((wfr.rf (l := [(42, 0)])).put' e1093 g0 rfl) rfl hKNN_r0)
  refine wp_of e265 c265_11 (xc_V (pc' := 14) (r := r0) (as := [vI z1105]) (st := []) (lm_9_447) rfl rfl (Nat.le_of_ble_eq_true rfl) w1094 g0 sh_42 (by decide) rfl (by decide) (u_253 (e := e) (d := d) w1094 g0 ⟨b1106.1, b1106.2⟩ (by omega) (by omega) (by assumption) (by assumption) (by assumption) (by assumption) h1109 h1110) (fun R1111 T1112 H1113 p1114 => ?_))
  obtain ⟨e1115, w1117, f1118, z1119, e1116, b1120, p1121⟩ := p1114
  subst e1115
  subst e1116
  rcases p1121 with ⟨a1122, a1123, a1124, a1125, a1126, a1127, a1128, a1129, a1130, a1131⟩ | ⟨a1132, a1133, a1134, a1135, a1136, a1137, a1138⟩
  · have f1139 := f1095.tr f1118 rfl
    show wp _ _ 265 14 [(0, .ref r0), (1, vI a1), (2, vI a2)] [vI z1119] _ H1113 _
    have k1140 : wLM H1113 r0 = wLM H r0 := ((wLM_fr w1094 g0 f1118 rfl).trans (wLM_fr hW g0 ((wfr.rf (l := [(42, 0)])).put' e1093 g0 rfl) rfl))
    refine wp_of e265 c265_14 (rw_istore_n (pc' := 15) (z := z1119) (L' := [(3, vI z1119), (0, .ref r0), (1, vI a1), (2, vI a2)]) rfl rfl rfl ?_)
    refine wp_of e265 c265_15 (rw_iload_n (pc' := 16) (z := z1119) rfl rfl ?_)
    refine wp_of e265 c265_16 (rw_if_le (p1 := 27) (p2 := 19) (by decide) rfl ⟨Int.le_trans (by decide) b1120.1, Int.le_trans b1120.2 (by decide)⟩ (fun c1141 => ?_) (fun c1141 => ?_))
    · refine wp_of e265 c265_27 (rw_aload_n (pc' := 28) (v := .ref r0) rfl rfl rfl ?_)
      refine wp_of e265 c265_28 (rw_aload_n (pc' := 29) (v := .ref r0) rfl rfl rfl ?_)
      refine wp_of e265 c265_29 (rw_iload_n (pc' := 30) (z := a1) rfl rfl ?_)
      refine wp_of e265 c265_30 (rw_aload_n (pc' := 31) (v := .ref r0) rfl rfl rfl ?_)
      refine wp_of e265 c265_31 (xg_R (pc' := 34) lf_9_27 w1117 g0 sh_42 (by decide) (by decide) ty_42_23 rfl rfl (fun r1142 q1143 g1144 => ?_))
      refine wp_of e265 c265_34 (rw_iload_n (pc' := 35) (z := a2) rfl rfl ?_)
      have k1145 : H1113 r0 3 = H1092 r0 3 := (f1118 r0 3 _ g0 rfl)
      obtain ⟨r1146, q1147, g1148⟩ := (w1117.opt g0 (t' := 54) (n := 33) (j := 3) (p := 0) (q := 0) rfl (by decide) rfl).resolve_left (by omega)
      refine wp_of e265 c265_35 (xc_V (pc' := 38) (r := r0) (as := [vI a1, .ref r1142, vI a2]) (st := [.ref r0]) (lm_9_458) rfl rfl (Nat.le_of_ble_eq_true rfl) w1117 g0 sh_42 (by decide) rfl (by decide) (s_264_m_length w1117 g0 ⟨by omega, by omega⟩ g1144 ⟨i2.1, i2.2⟩ q1147 g1148 (by omega)) (fun R1149 T1150 H1151 p1152 => ?_))
      obtain ⟨e1153, w1155, f1156, z1157, e1154, b1158⟩ := p1152
      subst e1153
      subst e1154
      have f1159 := f1139.tr f1156 rfl
      show wp _ _ 265 38 [(3, vI z1119), (0, .ref r0), (1, vI a1), (2, vI a2)] [vI z1157, .ref r0] _ H1151 _
      refine wp_of e265 c265_38 (xc_V (pc' := 41) (r := r0) (as := [vI z1157]) (st := []) (lm_9_58) rfl rfl (Nat.le_of_ble_eq_true rfl) w1155 g0 sh_42 (by decide) rfl (by decide) (s_209 w1155 g0 ⟨b1158.1, b1158.2⟩) (fun R1160 T1161 H1162 p1163 => ?_))
      obtain ⟨e1164, w1166, f1167, z1168, e1165, b1169⟩ := p1163
      subst e1164
      subst e1165
      have f1170 := f1159.tr f1167 rfl
      show wp _ _ 265 41 [(3, vI z1119), (0, .ref r0), (1, vI a1), (2, vI a2)] [vI z1168] _ H1162 _
      have k1171 : wKI H1162 r0 = wKI H1113 r0 := ((wKI_fr w1155 g0 f1167 rfl).trans (wKI_fr w1117 g0 f1156 rfl))
      have h1172 : KNN T H1162 r0 e d := (KNN_fr w1155 g0 f1167 rfl (KNN_fr w1117 g0 f1156 rfl a1130))
      exact wp_ireturn e265 c265_41 rfl ⟨rfl, w1166, f1170, z1168, rfl, ⟨b1169.1, b1169.2⟩, ⟨by omega, h1172⟩⟩
    · exfalso
      omega
  · have f1173 := f1095.tr f1118 rfl
    show wp _ _ 265 14 [(0, .ref r0), (1, vI a1), (2, vI a2)] [vI z1119] _ H1113 _
    have k1174 : wLM H1113 r0 = wLM H r0 := ((wLM_fr w1094 g0 f1118 rfl).trans (wLM_fr hW g0 ((wfr.rf (l := [(42, 0)])).put' e1093 g0 rfl) rfl))
    refine wp_of e265 c265_14 (rw_istore_n (pc' := 15) (z := z1119) (L' := [(3, vI z1119), (0, .ref r0), (1, vI a1), (2, vI a2)]) rfl rfl rfl ?_)
    refine wp_of e265 c265_15 (rw_iload_n (pc' := 16) (z := z1119) rfl rfl ?_)
    refine wp_of e265 c265_16 (rw_if_le (p1 := 27) (p2 := 19) (by decide) rfl ⟨Int.le_trans (by decide) b1120.1, Int.le_trans b1120.2 (by decide)⟩ (fun c1175 => ?_) (fun c1175 => ?_))
    · exfalso
      omega
    · refine wp_of e265 c265_19 (rw_aload_n (pc' := 20) (v := .ref r0) rfl rfl rfl ?_)
      refine wp_of e265 c265_20 (rw_iload_n (pc' := 21) (z := z1119) rfl rfl ?_)
      refine wp_of e265 c265_21 (xc_V (pc' := 24) (r := r0) (as := [vI z1119]) (st := []) (lm_9_54) rfl rfl (Nat.le_of_ble_eq_true rfl) w1117 g0 sh_42 (by decide) rfl (by decide) (s_170 w1117 g0 ⟨Int.le_trans (by decide) b1120.1, Int.le_trans b1120.2 (by decide)⟩) (fun R1176 T1177 H1178 p1179 => ?_))
      obtain ⟨e1180, w1182, f1183, z1184, e1181, b1185⟩ := p1179
      subst e1180
      subst e1181
      have f1186 := f1173.tr f1183 rfl
      show wp _ _ 265 24 [(3, vI z1119), (0, .ref r0), (1, vI a1), (2, vI a2)] [vI z1184] _ H1178 _
      refine wp_of e265 c265_24 (rw_goto (p1 := 41) (by decide) ?_)
      have k1187 : wKI H1178 r0 = wKI H1113 r0 := (wKI_fr w1117 g0 f1183 rfl)
      have h1188 : KNN T H1178 r0 e d := (KNN_fr w1117 g0 f1183 rfl a1138)
      exact wp_ireturn e265 c265_41 rfl ⟨rfl, w1182, f1186, z1184, rfl, ⟨b1185.1, b1185.2⟩, ⟨by omega, h1188⟩⟩
/-! StrikeAwakeModel.ask()I  -/
abbrev uq_266 (r0 : Nat) (e : xD) (d : xD) (T : wq_T) (H : wq_H) : Option Value → wq_T → wq_H → Prop := fun r T' H' => T = T' ∧ WT T H' ∧ wfr [(42, 0), (42, 1), (42, 2), (42, 28), (42, 29), (51, 999), (53, 999), (52, 999)] T H H' ∧ ∃ z : Int, some (vI z) = r ∧ ((-2147483648) ≤ z ∧ z ≤ 2147483647) ∧ (((wKI H' r0 = 1) ∧ KNN T H' r0 e d))
set_option maxHeartbeats 4000000 in
theorem u_266 {kt : Nat → Option mc_E} {T : wq_T} {H : wq_H} {r0 : Nat} {e : xD} {d : xD} (hW : WT T H) (g0 : T.2.2.2 r0 = some 42) (p0 : wKI H r0 = 1) (p1 : XW d) (p2 : ∀ h : Nat, d 0 0 ≤ (h : Int) → h < 24 → e 13 h = 0) (p3 : XN d) (p4 : ∀ h : Nat, h < 24 → 0 ≤ e 13 h ∧ e 13 h ≤ 100) (hRB_r0 : RB T H r0 e d) (hKNN_r0 : KNN T H r0 e d) : wpc kt 10 266 [.ref r0] T H (uq_266 r0 e d T H) := by
  refine wp_enter e266 (Nat.le_of_ble_eq_true rfl) rfl ?_
  have f0 : wfr [(42, 0), (42, 1), (42, 2), (42, 28), (42, 29), (51, 999), (53, 999), (52, 999)] T H H := wfr.rf
  show wp _ _ 266 0 [(0, .ref r0)] [] _ H _
  have _b := RB_b hW hRB_r0
  have _nu := RB_n3 hRB_r0
  have _lm := RB_lm hRB_r0
  refine wp_of e266 c266_0 (rw_aload_n (pc' := 1) (v := .ref r0) rfl rfl rfl ?_)
  refine wp_of e266 c266_1 (rw_iconst (pc' := 2) rfl ?_)
  refine wp_of e266 c266_2 (xp_I (pc' := 5) lf_9_48 hW g0 sh_42 (by decide) (by decide) ty_42_0 rfl rfl (by decide) (by decide) ⟨by decide, by decide⟩ rfl (fun H1123 e1124 w1125 => ?_))
  have f1126 := f0.put' e1124 g0 rfl
  have k1127 : H1123 r0 0 = 0 := wq_u_s e1124
  refine wp_of e266 c266_5 (rw_aload_n (pc' := 6) (v := .ref r0) rfl rfl rfl ?_)
  refine wp_of e266 c266_6 (rw_aload_n (pc' := 7) (v := .ref r0) rfl rfl rfl ?_)
  have k1128 : H1123 r0 3 = H r0 3 := (wq_u_j e1124 rfl)
  refine wp_of e266 c266_7 (xg_O (pc' := 10) lf_9_337 w1125 g0 sh_42 (by decide) (by decide) ty_42_3 rfl rfl (fun q1130 => ?_) (fun r1129 q1130 g1131 => ?_))
  · refine wp_of e266 c266_10 (rw_ifnull_n (p1 := 17) (p2 := 13) (by decide) rfl ?_)
    refine wp_of e266 c266_17 (rw_iconst (pc' := 18) rfl ?_)
    have k1132 : wKI H1123 r0 = wKI H r0 := (wKI_fr hW g0 ((wfr.rf (l := [(42, 0)])).put' e1124 g0 rfl) rfl)
    have h1133 : RB T H1123 r0 e d := (RB_fr hW g0 ((wfr.rf (l := [(42, 0)])).put' e1124 g0 rfl) rfl hRB_r0)
    have h1134 : KNN T H1123 r0 e d := (KNN_fr hW g0 ((wfr.rf (l := [(42, 0)])).put' e1124 g0 rfl) rfl hKNN_r0)
    refine wp_of e266 c266_18 (xc_V (pc' := 21) (r := r0) (as := [vI 0]) (st := []) (lm_9_467) rfl rfl (Nat.le_of_ble_eq_true rfl) w1125 g0 sh_42 (by decide) rfl (by decide) (u_267 (e := e) (d := d) w1125 g0 ⟨by decide, by decide⟩ (by omega) (by omega) (by assumption) (by assumption) (by assumption) (by assumption) h1133 h1134) (fun R1135 T1136 H1137 p1138 => ?_))
    obtain ⟨e1139, w1141, f1142, z1143, e1140, b1144, p1145⟩ := p1138
    subst e1139
    subst e1140
    obtain ⟨a1146, a1147, a1148, a1149, a1150⟩ := p1145
    have f1151 := f1126.tr f1142 rfl
    show wp _ _ 266 21 [(0, .ref r0)] [vI z1143] _ H1137 _
    have k1152 : wLM H1137 r0 = wLM H r0 := ((wLM_fr w1125 g0 f1142 rfl).trans (wLM_fr hW g0 ((wfr.rf (l := [(42, 0)])).put' e1124 g0 rfl) rfl))
    refine wp_of e266 c266_21 (rw_istore_n (pc' := 22) (z := z1143) (L' := [(1, vI z1143), (0, .ref r0)]) rfl rfl rfl ?_)
    refine wp_of e266 c266_22 (rw_iload_n (pc' := 23) (z := z1143) rfl rfl ?_)
    refine wp_of e266 c266_23 (rw_if_le (p1 := 34) (p2 := 26) (by decide) rfl ⟨Int.le_trans (by decide) b1144.1, Int.le_trans b1144.2 (by decide)⟩ (fun c1153 => ?_) (fun c1153 => ?_))
    · refine wp_of e266 c266_34 (rw_aload_n (pc' := 35) (v := .ref r0) rfl rfl rfl ?_)
      refine wp_of e266 c266_35 (rw_aload_n (pc' := 36) (v := .ref r0) rfl rfl rfl ?_)
      refine wp_of e266 c266_36 (rw_iconst (pc' := 37) rfl ?_)
      have k1154 : H1137 r0 3 = H1123 r0 3 := (f1142 r0 3 _ g0 rfl)
      have q1155 : H1137 r0 3 = -1 := k1154.trans q1130
      obtain ⟨r1156, q1157, g1158⟩ := (w1141.opt g0 (t' := 54) (n := 33) (j := 3) (p := 0) (q := 0) rfl (by decide) rfl).resolve_left (by omega)
      refine wp_of e266 c266_37 (xc_V (pc' := 40) (r := r0) (as := [vI (-1)]) (st := [.ref r0]) (lm_9_470) rfl rfl (Nat.le_of_ble_eq_true rfl) w1141 g0 sh_42 (by decide) rfl (by decide) (s_268 w1141 g0 ⟨by decide, by decide⟩ q1157 g1158 (by omega)) (fun R1159 T1160 H1161 p1162 => ?_))
      obtain ⟨e1163, w1165, f1166, z1167, e1164, b1168⟩ := p1162
      subst e1163
      subst e1164
      have f1169 := f1151.tr f1166 rfl
      show wp _ _ 266 40 [(1, vI z1143), (0, .ref r0)] [vI z1167, .ref r0] _ H1161 _
      refine wp_of e266 c266_40 (xc_V (pc' := 43) (r := r0) (as := [vI z1167]) (st := []) (lm_9_58) rfl rfl (Nat.le_of_ble_eq_true rfl) w1165 g0 sh_42 (by decide) rfl (by decide) (s_209 w1165 g0 ⟨b1168.1, b1168.2⟩) (fun R1170 T1171 H1172 p1173 => ?_))
      obtain ⟨e1174, w1176, f1177, z1178, e1175, b1179⟩ := p1173
      subst e1174
      subst e1175
      have f1180 := f1169.tr f1177 rfl
      show wp _ _ 266 43 [(1, vI z1143), (0, .ref r0)] [vI z1178] _ H1172 _
      have k1181 : wKI H1172 r0 = wKI H1137 r0 := ((wKI_fr w1165 g0 f1177 rfl).trans (wKI_fr w1141 g0 f1166 rfl))
      have h1182 : KNN T H1172 r0 e d := (KNN_fr w1165 g0 f1177 rfl (KNN_fr w1141 g0 f1166 rfl a1150))
      exact wp_ireturn e266 c266_43 rfl ⟨rfl, w1176, f1180, z1178, rfl, ⟨b1179.1, b1179.2⟩, ⟨by omega, h1182⟩⟩
    · refine wp_of e266 c266_26 (rw_aload_n (pc' := 27) (v := .ref r0) rfl rfl rfl ?_)
      refine wp_of e266 c266_27 (rw_iload_n (pc' := 28) (z := z1143) rfl rfl ?_)
      refine wp_of e266 c266_28 (xc_V (pc' := 31) (r := r0) (as := [vI z1143]) (st := []) (lm_9_54) rfl rfl (Nat.le_of_ble_eq_true rfl) w1141 g0 sh_42 (by decide) rfl (by decide) (s_170 w1141 g0 ⟨Int.le_trans (by decide) b1144.1, Int.le_trans b1144.2 (by decide)⟩) (fun R1183 T1184 H1185 p1186 => ?_))
      obtain ⟨e1187, w1189, f1190, z1191, e1188, b1192⟩ := p1186
      subst e1187
      subst e1188
      have f1193 := f1151.tr f1190 rfl
      show wp _ _ 266 31 [(1, vI z1143), (0, .ref r0)] [vI z1191] _ H1185 _
      refine wp_of e266 c266_31 (rw_goto (p1 := 43) (by decide) ?_)
      have k1194 : wKI H1185 r0 = wKI H1137 r0 := (wKI_fr w1141 g0 f1190 rfl)
      have h1195 : KNN T H1185 r0 e d := (KNN_fr w1141 g0 f1190 rfl a1150)
      exact wp_ireturn e266 c266_43 rfl ⟨rfl, w1189, f1193, z1191, rfl, ⟨b1192.1, b1192.2⟩, ⟨by omega, h1195⟩⟩
  · refine wp_of e266 c266_10 (rw_ifnull_r (p1 := 17) (p2 := 13) (by decide) rfl ?_)
    refine wp_of e266 c266_13 (rw_iconst (pc' := 14) rfl ?_)
    refine wp_of e266 c266_14 (rw_goto (p1 := 18) (by decide) ?_)
    have k1196 : wKI H1123 r0 = wKI H r0 := (wKI_fr hW g0 ((wfr.rf (l := [(42, 0)])).put' e1124 g0 rfl) rfl)
    have h1197 : RB T H1123 r0 e d := (RB_fr hW g0 ((wfr.rf (l := [(42, 0)])).put' e1124 g0 rfl) rfl hRB_r0)
    have h1198 : KNN T H1123 r0 e d := (KNN_fr hW g0 ((wfr.rf (l := [(42, 0)])).put' e1124 g0 rfl) rfl hKNN_r0)
    refine wp_of e266 c266_18 (xc_V (pc' := 21) (r := r0) (as := [vI 1]) (st := []) (lm_9_467) rfl rfl (Nat.le_of_ble_eq_true rfl) w1125 g0 sh_42 (by decide) rfl (by decide) (u_267 (e := e) (d := d) w1125 g0 ⟨by decide, by decide⟩ (by omega) (by omega) (by assumption) (by assumption) (by assumption) (by assumption) h1197 h1198) (fun R1199 T1200 H1201 p1202 => ?_))
    obtain ⟨e1203, w1205, f1206, z1207, e1204, b1208, p1209⟩ := p1202
    subst e1203
    subst e1204
    obtain ⟨a1210, a1211, a1212, a1213, a1214⟩ := p1209
    have f1215 := f1126.tr f1206 rfl
    show wp _ _ 266 21 [(0, .ref r0)] [vI z1207] _ H1201 _
    have k1216 : wLM H1201 r0 = wLM H r0 := ((wLM_fr w1125 g0 f1206 rfl).trans (wLM_fr hW g0 ((wfr.rf (l := [(42, 0)])).put' e1124 g0 rfl) rfl))
    refine wp_of e266 c266_21 (rw_istore_n (pc' := 22) (z := z1207) (L' := [(1, vI z1207), (0, .ref r0)]) rfl rfl rfl ?_)
    refine wp_of e266 c266_22 (rw_iload_n (pc' := 23) (z := z1207) rfl rfl ?_)
    refine wp_of e266 c266_23 (rw_if_le (p1 := 34) (p2 := 26) (by decide) rfl ⟨Int.le_trans (by decide) b1208.1, Int.le_trans b1208.2 (by decide)⟩ (fun c1217 => ?_) (fun c1217 => ?_))
    · refine wp_of e266 c266_34 (rw_aload_n (pc' := 35) (v := .ref r0) rfl rfl rfl ?_)
      refine wp_of e266 c266_35 (rw_aload_n (pc' := 36) (v := .ref r0) rfl rfl rfl ?_)
      refine wp_of e266 c266_36 (rw_iconst (pc' := 37) rfl ?_)
      have k1218 : H1201 r0 3 = H1123 r0 3 := (f1206 r0 3 _ g0 rfl)
      have q1219 : H1201 r0 3 = (r1129 : Int) := k1218.trans q1130
      refine wp_of e266 c266_37 (xc_V (pc' := 40) (r := r0) (as := [vI (-1)]) (st := [.ref r0]) (lm_9_470) rfl rfl (Nat.le_of_ble_eq_true rfl) w1205 g0 sh_42 (by decide) rfl (by decide) (s_268 w1205 g0 ⟨by decide, by decide⟩ q1219 g1131 (by omega)) (fun R1220 T1221 H1222 p1223 => ?_))
      obtain ⟨e1224, w1226, f1227, z1228, e1225, b1229⟩ := p1223
      subst e1224
      subst e1225
      have f1230 := f1215.tr f1227 rfl
      show wp _ _ 266 40 [(1, vI z1207), (0, .ref r0)] [vI z1228, .ref r0] _ H1222 _
      refine wp_of e266 c266_40 (xc_V (pc' := 43) (r := r0) (as := [vI z1228]) (st := []) (lm_9_58) rfl rfl (Nat.le_of_ble_eq_true rfl) w1226 g0 sh_42 (by decide) rfl (by decide) (s_209 w1226 g0 ⟨b1229.1, b1229.2⟩) (fun R1231 T1232 H1233 p1234 => ?_))
      obtain ⟨e1235, w1237, f1238, z1239, e1236, b1240⟩ := p1234
      subst e1235
      subst e1236
      have f1241 := f1230.tr f1238 rfl
      show wp _ _ 266 43 [(1, vI z1207), (0, .ref r0)] [vI z1239] _ H1233 _
      have k1242 : wKI H1233 r0 = wKI H1201 r0 := ((wKI_fr w1226 g0 f1238 rfl).trans (wKI_fr w1205 g0 f1227 rfl))
      have h1243 : KNN T H1233 r0 e d := (KNN_fr w1226 g0 f1238 rfl (KNN_fr w1205 g0 f1227 rfl a1214))
      exact wp_ireturn e266 c266_43 rfl ⟨rfl, w1237, f1241, z1239, rfl, ⟨b1240.1, b1240.2⟩, ⟨by omega, h1243⟩⟩
    · refine wp_of e266 c266_26 (rw_aload_n (pc' := 27) (v := .ref r0) rfl rfl rfl ?_)
      refine wp_of e266 c266_27 (rw_iload_n (pc' := 28) (z := z1207) rfl rfl ?_)
      refine wp_of e266 c266_28 (xc_V (pc' := 31) (r := r0) (as := [vI z1207]) (st := []) (lm_9_54) rfl rfl (Nat.le_of_ble_eq_true rfl) w1205 g0 sh_42 (by decide) rfl (by decide) (s_170 w1205 g0 ⟨Int.le_trans (by decide) b1208.1, Int.le_trans b1208.2 (by decide)⟩) (fun R1244 T1245 H1246 p1247 => ?_))
      obtain ⟨e1248, w1250, f1251, z1252, e1249, b1253⟩ := p1247
      subst e1248
      subst e1249
      have f1254 := f1215.tr f1251 rfl
      show wp _ _ 266 31 [(1, vI z1207), (0, .ref r0)] [vI z1252] _ H1246 _
      refine wp_of e266 c266_31 (rw_goto (p1 := 43) (by decide) ?_)
      have k1255 : wKI H1246 r0 = wKI H1201 r0 := (wKI_fr w1205 g0 f1251 rfl)
      have h1256 : KNN T H1246 r0 e d := (KNN_fr w1205 g0 f1251 rfl a1214)
      exact wp_ireturn e266 c266_43 rfl ⟨rfl, w1250, f1254, z1252, rfl, ⟨b1253.1, b1253.2⟩, ⟨by omega, h1256⟩⟩
/-! StrikeAwakeModel.askFor(I)I  -/
abbrev uq_271 (r0 : Nat) (a1 : Int) (e : xD) (d : xD) (T : wq_T) (H : wq_H) : Option Value → wq_T → wq_H → Prop := fun r T' H' => T = T' ∧ WT T H' ∧ wfr [(42, 0), (42, 1), (42, 2), (42, 28), (42, 29), (51, 999), (53, 999), (52, 999)] T H H' ∧ ∃ z : Int, some (vI z) = r ∧ ((-2147483648) ≤ z ∧ z ≤ 2147483647) ∧ (((wKI H' r0 = 1) ∧ KNN T H' r0 e d))
set_option maxHeartbeats 4000000 in
theorem u_271 {kt : Nat → Option mc_E} {T : wq_T} {H : wq_H} {r0 : Nat} {a1 : Int} {e : xD} {d : xD} (hW : WT T H) (g0 : T.2.2.2 r0 = some 42) (i1 : (-2147483648) ≤ a1 ∧ a1 ≤ 2147483647) (p0 : wKI H r0 = 1) (p1 : XW d) (p2 : ∀ h : Nat, d 0 0 ≤ (h : Int) → h < 24 → e 13 h = 0) (p3 : XN d) (p4 : ∀ h : Nat, h < 24 → 0 ≤ e 13 h ∧ e 13 h ≤ 100) (hRB_r0 : RB T H r0 e d) (hKNN_r0 : KNN T H r0 e d) : wpc kt 10 271 [.ref r0, vI a1] T H (uq_271 r0 a1 e d T H) := by
  refine wp_enter e271 (Nat.le_of_ble_eq_true rfl) rfl ?_
  have f0 : wfr [(42, 0), (42, 1), (42, 2), (42, 28), (42, 29), (51, 999), (53, 999), (52, 999)] T H H := wfr.rf
  show wp _ _ 271 0 [(0, .ref r0), (1, vI a1)] [] _ H _
  have _b := RB_b hW hRB_r0
  have _nu := RB_n3 hRB_r0
  have _lm := RB_lm hRB_r0
  refine wp_of e271 c271_0 (rw_aload_n (pc' := 1) (v := .ref r0) rfl rfl rfl ?_)
  refine wp_of e271 c271_1 (rw_iconst (pc' := 2) rfl ?_)
  refine wp_of e271 c271_2 (xp_I (pc' := 5) lf_9_48 hW g0 sh_42 (by decide) (by decide) ty_42_0 rfl rfl (by decide) (by decide) ⟨by decide, by decide⟩ rfl (fun H1074 e1075 w1076 => ?_))
  have f1077 := f0.put' e1075 g0 rfl
  have k1078 : H1074 r0 0 = 0 := wq_u_s e1075
  refine wp_of e271 c271_5 (rw_aload_n (pc' := 6) (v := .ref r0) rfl rfl rfl ?_)
  refine wp_of e271 c271_6 (rw_aload_n (pc' := 7) (v := .ref r0) rfl rfl rfl ?_)
  refine wp_of e271 c271_7 (rw_iload_n (pc' := 8) (z := a1) rfl rfl ?_)
  refine wp_of e271 c271_8 (xc_V (pc' := 11) (r := r0) (as := [vI a1]) (st := [.ref r0]) (lm_9_373) rfl rfl (Nat.le_of_ble_eq_true rfl) w1076 g0 sh_42 (by decide) rfl (by decide) (s_218 w1076 g0 ⟨i1.1, i1.2⟩) (fun R1079 T1080 H1081 p1082 => ?_))
  obtain ⟨e1083, e1085, z1087, e1084, b1088, p1086⟩ := p1082
  subst e1083
  subst e1084
  subst e1085
  show wp _ _ 271 11 [(0, .ref r0), (1, vI a1)] [vI z1087, .ref r0] _ H1074 _
  have k1089 : H1074 r0 3 = H r0 3 := (wq_u_j e1075 rfl)
  have k1090 : wKI H1074 r0 = wKI H r0 := (wKI_fr hW g0 ((wfr.rf (l := [(42, 0)])).put' e1075 g0 rfl) rfl)
  have h1091 : RB T H1074 r0 e d := (RB_fr hW g0 ((wfr.rf (l := [(42, 0)])).put' e1075 g0 rfl) rfl hRB_r0)
  have h1092 : KNN T H1074 r0 e d := (KNN_fr hW g0 ((wfr.rf (l := [(42, 0)])).put' e1075 g0 rfl) rfl hKNN_r0)
  refine wp_of e271 c271_11 (xc_V (pc' := 14) (r := r0) (as := [vI z1087]) (st := []) (lm_9_467) rfl rfl (Nat.le_of_ble_eq_true rfl) w1076 g0 sh_42 (by decide) rfl (by decide) (u_267 (e := e) (d := d) w1076 g0 ⟨b1088.1, b1088.2⟩ (by omega) (by omega) (by assumption) (by assumption) (by assumption) (by assumption) h1091 h1092) (fun R1093 T1094 H1095 p1096 => ?_))
  obtain ⟨e1097, w1099, f1100, z1101, e1098, b1102, p1103⟩ := p1096
  subst e1097
  subst e1098
  obtain ⟨a1104, a1105, a1106, a1107, a1108⟩ := p1103
  have f1109 := f1077.tr f1100 rfl
  show wp _ _ 271 14 [(0, .ref r0), (1, vI a1)] [vI z1101] _ H1095 _
  have k1110 : wLM H1095 r0 = wLM H r0 := ((wLM_fr w1076 g0 f1100 rfl).trans (wLM_fr hW g0 ((wfr.rf (l := [(42, 0)])).put' e1075 g0 rfl) rfl))
  refine wp_of e271 c271_14 (rw_istore_n (pc' := 15) (z := z1101) (L' := [(2, vI z1101), (0, .ref r0), (1, vI a1)]) rfl rfl rfl ?_)
  refine wp_of e271 c271_15 (rw_iload_n (pc' := 16) (z := z1101) rfl rfl ?_)
  refine wp_of e271 c271_16 (rw_if_le (p1 := 27) (p2 := 19) (by decide) rfl ⟨Int.le_trans (by decide) b1102.1, Int.le_trans b1102.2 (by decide)⟩ (fun c1111 => ?_) (fun c1111 => ?_))
  · refine wp_of e271 c271_27 (rw_aload_n (pc' := 28) (v := .ref r0) rfl rfl rfl ?_)
    refine wp_of e271 c271_28 (rw_aload_n (pc' := 29) (v := .ref r0) rfl rfl rfl ?_)
    refine wp_of e271 c271_29 (rw_iload_n (pc' := 30) (z := a1) rfl rfl ?_)
    have k1112 : H1095 r0 3 = H1074 r0 3 := (f1100 r0 3 _ g0 rfl)
    obtain ⟨r1113, q1114, g1115⟩ := (w1099.opt g0 (t' := 54) (n := 33) (j := 3) (p := 0) (q := 0) rfl (by decide) rfl).resolve_left (by omega)
    refine wp_of e271 c271_30 (xc_V (pc' := 33) (r := r0) (as := [vI a1]) (st := [.ref r0]) (lm_9_470) rfl rfl (Nat.le_of_ble_eq_true rfl) w1099 g0 sh_42 (by decide) rfl (by decide) (s_268 w1099 g0 ⟨i1.1, i1.2⟩ q1114 g1115 (by omega)) (fun R1116 T1117 H1118 p1119 => ?_))
    obtain ⟨e1120, w1122, f1123, z1124, e1121, b1125⟩ := p1119
    subst e1120
    subst e1121
    have f1126 := f1109.tr f1123 rfl
    show wp _ _ 271 33 [(2, vI z1101), (0, .ref r0), (1, vI a1)] [vI z1124, .ref r0] _ H1118 _
    refine wp_of e271 c271_33 (xc_V (pc' := 36) (r := r0) (as := [vI z1124]) (st := []) (lm_9_58) rfl rfl (Nat.le_of_ble_eq_true rfl) w1122 g0 sh_42 (by decide) rfl (by decide) (s_209 w1122 g0 ⟨b1125.1, b1125.2⟩) (fun R1127 T1128 H1129 p1130 => ?_))
    obtain ⟨e1131, w1133, f1134, z1135, e1132, b1136⟩ := p1130
    subst e1131
    subst e1132
    have f1137 := f1126.tr f1134 rfl
    show wp _ _ 271 36 [(2, vI z1101), (0, .ref r0), (1, vI a1)] [vI z1135] _ H1129 _
    have k1138 : wKI H1129 r0 = wKI H1095 r0 := ((wKI_fr w1122 g0 f1134 rfl).trans (wKI_fr w1099 g0 f1123 rfl))
    have h1139 : KNN T H1129 r0 e d := (KNN_fr w1122 g0 f1134 rfl (KNN_fr w1099 g0 f1123 rfl a1108))
    exact wp_ireturn e271 c271_36 rfl ⟨rfl, w1133, f1137, z1135, rfl, ⟨b1136.1, b1136.2⟩, ⟨by omega, h1139⟩⟩
  · refine wp_of e271 c271_19 (rw_aload_n (pc' := 20) (v := .ref r0) rfl rfl rfl ?_)
    refine wp_of e271 c271_20 (rw_iload_n (pc' := 21) (z := z1101) rfl rfl ?_)
    refine wp_of e271 c271_21 (xc_V (pc' := 24) (r := r0) (as := [vI z1101]) (st := []) (lm_9_54) rfl rfl (Nat.le_of_ble_eq_true rfl) w1099 g0 sh_42 (by decide) rfl (by decide) (s_170 w1099 g0 ⟨Int.le_trans (by decide) b1102.1, Int.le_trans b1102.2 (by decide)⟩) (fun R1140 T1141 H1142 p1143 => ?_))
    obtain ⟨e1144, w1146, f1147, z1148, e1145, b1149⟩ := p1143
    subst e1144
    subst e1145
    have f1150 := f1109.tr f1147 rfl
    show wp _ _ 271 24 [(2, vI z1101), (0, .ref r0), (1, vI a1)] [vI z1148] _ H1142 _
    refine wp_of e271 c271_24 (rw_goto (p1 := 36) (by decide) ?_)
    have k1151 : wKI H1142 r0 = wKI H1095 r0 := (wKI_fr w1099 g0 f1147 rfl)
    have h1152 : KNN T H1142 r0 e d := (KNN_fr w1099 g0 f1147 rfl a1108)
    exact wp_ireturn e271 c271_36 rfl ⟨rfl, w1146, f1150, z1148, rfl, ⟨b1149.1, b1149.2⟩, ⟨by omega, h1152⟩⟩
