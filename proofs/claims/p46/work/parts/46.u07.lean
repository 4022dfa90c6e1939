/-! what methods do (own work, written by wip/gen3/sx3.py) -/
/-! StrikeAwakeModel.done(I)I  -/
abbrev uq_209 (r0 : Nat) (a1 : Int) (T : wq_T) (H : wq_H) : Option Value → wq_T → wq_H → Prop := fun r T' H' => T = T' ∧ WT T H' ∧ wfr [(42, 1), (42, 2)] T H H' ∧ ∃ z : Int, some (vI z) = r ∧ ((-2147483648) ≤ z ∧ z ≤ 2147483647) ∧ (((z = a1) ∧ (H' r0 1 = 0) ∧ (H' r0 2 = -1)))
set_option maxHeartbeats 4000000 in
theorem u_209 {kt : Nat → Option mc_E} {T : wq_T} {H : wq_H} {r0 : Nat} {a1 : Int} (hW : WT T H) (g0 : T.2.2.2 r0 = some 42) (i1 : (-2147483648) ≤ a1 ∧ a1 ≤ 2147483647) : wpc kt 1 209 [.ref r0, vI a1] T H (uq_209 r0 a1 T H) := by
  refine wp_enter e209 (Nat.le_of_ble_eq_true rfl) rfl ?_
  have f0 : wfr [(42, 1), (42, 2)] T H H := wfr.rf
  show wp _ _ 209 0 [(0, .ref r0), (1, vI a1)] [] _ H _
  refine wp_of e209 c209_0 (rw_aload_n (pc' := 1) (v := .ref r0) rfl rfl rfl ?_)
  refine wp_of e209 c209_1 (rw_iconst (pc' := 2) rfl ?_)
  refine wp_of e209 c209_2 (xp_I (pc' := 5) lf_9_51 hW g0 sh_42 (by decide) (by decide) ty_42_1 rfl rfl (by omega) (by omega) ⟨by omega, by omega⟩ rfl (fun H1011 e1012 w1013 => ?_))
  have f1014 := f0.put' e1012 g0 rfl
  have k1015 : H1011 r0 1 = 0 := wq_u_s e1012
  refine wp_of e209 c209_5 (rw_aload_n (pc' := 6) (v := .ref r0) rfl rfl rfl ?_)
  refine wp_of e209 c209_6 (rw_iconst (pc' := 7) rfl ?_)
  refine wp_of e209 c209_7 (xp_I (pc' := 10) lf_9_9 w1013 g0 sh_42 (by decide) (by decide) ty_42_2 rfl rfl (by omega) (by omega) ⟨by omega, by omega⟩ rfl (fun H1016 e1017 w1018 => ?_))
  have f1019 := f1014.put' e1017 g0 rfl
  have k1020 : H1016 r0 2 = -1 := wq_u_s e1017
  refine wp_of e209 c209_10 (rw_iload_n (pc' := 11) (z := a1) rfl rfl ?_)
  have k1021 : H1016 r0 1 = H1011 r0 1 := (wq_u_j e1017 rfl)
  exact wp_ireturn e209 c209_11 rfl ⟨rfl, w1018, f1019, a1, rfl, ⟨by omega, by omega⟩, ⟨by omega, by omega, by omega⟩⟩
/-! StrikeAwakeModel.parish(I)I c -/
abbrev uq_169_c (r0 : Nat) (a1 : Int) (rp : Nat) (rb : Nat) (B : Nat → Int) (T : wq_T) (H : wq_H) : Option Value → wq_T → wq_H → Prop := fun r T' H' => T = T' ∧ WT T H' ∧ wfr [(54, 0), (54, 1), (54, 2), (54, 3), (54, 4), (54, 5), (54, 6), (54, 7), (54, 8), (42, 1), (42, 2), (42, 3), (42, 4), (42, 8), (42, 9), (42, 10), (42, 11), (42, 12), (42, 13), (42, 14), (42, 15), (42, 16), (42, 17), (42, 18), (42, 19), (42, 28), (42, 32), (48, 999), (49, 999), (46, 999), (47, 999), (50, 999), (45, 999), (44, 999), (64, 999), (65, 999), (56, 999), (57, 999), (66, 999), (60, 999), (63, 999), (58, 999), (59, 999), (55, 999), (61, 999), (62, 999), (72, 999), (71, 999), (67, 999), (68, 999), (69, 999)] T H H' ∧ ∃ z : Int, some (vI z) = r ∧ ((-2147483648) ≤ z ∧ z ≤ 2147483647) ∧ (((z = -1) ∧ ((xparse B a1).1.1 ≠ 0) ∧ (H' r0 1 = 4) ∧ (H' r0 2 = (xparse B a1).1.2.1) ∧ (H' r0 13 = (xparse B a1).1.1) ∧ (wKI H' r0 = 1) ∧ (H' r0 6 = H r0 6) ∧ (H' r0 3 = H r0 3)) ∨ ((0 ≤ z ∧ z ≤ 6) ∧ ((xparse B a1).1.1 = 0) ∧ (z = (xparse B a1).2 0 3) ∧ (H' r0 1 = 0) ∧ (H' r0 2 = -1) ∧ (H' r0 13 = 0) ∧ (wKI H' r0 = 1) ∧ (H' r0 6 = H r0 6) ∧ (H' r0 3 = (rp : Int))))
set_option maxHeartbeats 4000000 in
theorem u_169_c {kt : Nat → Option mc_E} {T : wq_T} {H : wq_H} {r0 : Nat} {a1 : Int} {rp : Nat} {rb : Nat} {B : Nat → Int} (hW : WT T H) (g0 : T.2.2.2 r0 = some 42) (i1 : 0 ≤ a1 ∧ a1 ≤ 900) (grp : T.2.2.2 rp = some 54) (qrb : H r0 5 = (rb : Int)) (grb : T.2.2.2 rb = some 43) (p0 : wKI H r0 = 1) (p1 : H r0 3 ≠ (rp : Int)) (p2 : H r0 8 = 0) (p3 : H r0 7 = a1) (p4 : H r0 13 = 0) (hTM_rb : TM T H rb B) (hDM_rp : DM T H rp r0 xD0) : wp kt 9 169 56 [(0, .ref r0), (1, vI a1)] [.ref rp, .ref r0] T H (uq_169_c r0 a1 rp rb B T H) := by
  have f0 : wfr [(54, 0), (54, 1), (54, 2), (54, 3), (54, 4), (54, 5), (54, 6), (54, 7), (54, 8), (42, 1), (42, 2), (42, 3), (42, 4), (42, 8), (42, 9), (42, 10), (42, 11), (42, 12), (42, 13), (42, 14), (42, 15), (42, 16), (42, 17), (42, 18), (42, 19), (42, 28), (42, 32), (48, 999), (49, 999), (46, 999), (47, 999), (50, 999), (45, 999), (44, 999), (64, 999), (65, 999), (56, 999), (57, 999), (66, 999), (60, 999), (63, 999), (58, 999), (59, 999), (55, 999), (61, 999), (62, 999), (72, 999), (71, 999), (67, 999), (68, 999), (69, 999)] T H H := wfr.rf
  show wp _ _ 169 56 [(0, .ref r0), (1, vI a1)] [.ref rp, .ref r0] _ H _
  have u1484 := DM_k hDM_rp
  have b1485 : 0 ≤ H r0 8 ∧ H r0 8 ≤ 900 := hW.box g0 (n := 33) rfl (by decide) rfl
  have b1486 : 0 ≤ H r0 6 ∧ H r0 6 ≤ 900 := hW.box g0 (n := 33) rfl (by decide) rfl
  have b1487 : 0 ≤ H r0 28 ∧ H r0 28 ≤ 1 := hW.box g0 (n := 33) rfl (by decide) rfl
  have b1488 : 0 ≤ H r0 29 ∧ H r0 29 ≤ 20000 := hW.box g0 (n := 33) rfl (by decide) rfl
  have b1489 : 0 ≤ H r0 7 ∧ H r0 7 ≤ 900 := hW.box g0 (n := 33) rfl (by decide) rfl
  have b1490 : (-2147483648) ≤ H r0 13 ∧ H r0 13 ≤ 2147483647 := hW.box g0 (n := 33) rfl (by decide) rfl
  have hk := wKI_1.mp p0
  have hne := p1
  have _f1 : (xpf B a1 902 (xG 32 32 B a1 0) xD0).1.1 = (xparse B a1).1.1 := rfl
  have _f2 : (xpf B a1 902 (xG 32 32 B a1 0) xD0).1.2.1 = (xparse B a1).1.2.1 := rfl
  have _f3 : (xpf B a1 902 (xG 32 32 B a1 0) xD0).2 0 3 = (xparse B a1).2 0 3 := rfl
  refine wp_of e169 c169_56 (xp_R (pc' := 59) lf_9_166 hW g0 sh_42 (by decide) (by decide) rfl rfl (wok_3 ty_42_4 grp) rfl (fun H1491 e1492 w1493 => ?_))
  have f1494 := f0.put' e1492 g0 rfl
  have q1495 : H1491 r0 4 = (rp : Int) := wq_u_s e1492
  refine wp_of e169 c169_59 (rw_aload_n (pc' := 60) (v := .ref r0) rfl rfl rfl ?_)
  refine wp_of e169 c169_60 (rw_iconst (pc' := 61) rfl ?_)
  refine wp_of e169 c169_61 (xp_I (pc' := 64) lf_9_75 w1493 g0 sh_42 (by decide) (by decide) ty_42_9 rfl rfl (by omega) (by omega) ⟨by omega, by omega⟩ rfl (fun H1496 e1497 w1498 => ?_))
  have f1499 := f1494.put' e1497 g0 rfl
  have k1500 : H1496 r0 9 = 0 := wq_u_s e1497
  refine wp_of e169 c169_64 (rw_aload_n (pc' := 65) (v := .ref r0) rfl rfl rfl ?_)
  have k1501 : H1496 r0 5 = H r0 5 := ((wq_u_j e1497 rfl).trans (wq_u_j e1492 rfl))
  have q1502 : H1496 r0 5 = (rb : Int) := k1501.trans qrb
  have k1503 : H1496 r0 8 = H r0 8 := ((wq_u_j e1497 rfl).trans (wq_u_j e1492 rfl))
  have k1504 : H1496 r0 7 = H r0 7 := ((wq_u_j e1497 rfl).trans (wq_u_j e1492 rfl))
  have k1505 : H1496 r0 13 = H r0 13 := ((wq_u_j e1497 rfl).trans (wq_u_j e1492 rfl))
  have h1506 : TM T H1496 rb B := (TM_fr w1493 grb ((wfr.rf (l := [(42, 9)])).put' e1497 g0 rfl) rfl (TM_fr hW grb ((wfr.rf (l := [(42, 4)])).put' e1492 g0 rfl) rfl hTM_rb))
  refine wp_of e169 c169_65 (xc_V (pc' := 68) (r := r0) (as := []) (st := []) (lm_9_118) rfl rfl (Nat.le_of_ble_eq_true rfl) w1498 g0 sh_42 (by decide) rfl (by decide) (u_172_k (B := B) (n := a1) (a := 0) (q := (xG 32 32 B a1 0)) w1498 g0 q1502 grb (by omega) (by omega) (by omega) (by omega) (by omega) (rfl) h1506) (fun R1507 T1508 H1509 p1510 => ?_))
  obtain ⟨e1511, w1513, f1514, e1512, p1515⟩ := p1510
  subst e1511
  subst e1512
  have f1517 := f1499.tr f1514 rfl
  show wp _ _ 169 68 [(0, .ref r0), (1, vI a1)] [] _ H1509 _
  have u1518 := RC_k p1515
  refine wp_of e169 c169_68 (rw_aload_n (pc' := 69) (v := .ref r0) rfl rfl rfl ?_)
  have k1519 : H1509 r0 4 = H1491 r0 4 := ((f1514 r0 4 _ g0 rfl).trans (wq_u_j e1497 rfl))
  have q1520 : H1509 r0 4 = (rp : Int) := k1519.trans q1495
  have k1521 : H1509 r0 5 = H1496 r0 5 := (f1514 r0 5 _ g0 rfl)
  have q1522 : H1509 r0 5 = (rb : Int) := k1521.trans q1502
  have h1523 : DM T H1509 rp r0 xD0 := (DM_fr w1498 grp f1514 rfl (DM_fr w1493 grp ((wfr.rf (l := [(42, 9)])).put' e1497 g0 rfl) rfl (DM_fr hW grp ((wfr.rf (l := [(42, 4)])).put' e1492 g0 rfl) rfl hDM_rp)))
  refine wp_of e169 c169_69 (xc_V (pc' := 72) (r := r0) (as := []) (st := []) (lm_9_334) rfl rfl (Nat.le_of_ble_eq_true rfl) w1513 g0 sh_42 (by decide) rfl (by decide) (u_176_k (B := B) (n := a1) (q := ((xG 32 32 B a1 0))) (d := xD0) (f := 902) w1513 g0 q1520 grp q1522 grb (by omega) p1515 h1523) (fun R1524 T1525 H1526 p1527 => ?_))
  obtain ⟨e1528, w1530, f1531, e1529, p1532⟩ := p1527
  subst e1528
  subst e1529
  rcases p1532 with ⟨a1533, a1534, a1535, a1536⟩ | ⟨a1537, a1538, a1539⟩
  · have f1540 := f1517.tr f1531 rfl
    show wp _ _ 169 72 [(0, .ref r0), (1, vI a1)] [] _ H1526 _
    have u1541 := DM_k a1536
    refine wp_of e169 c169_72 (rw_aload_n (pc' := 73) (v := .ref r0) rfl rfl rfl ?_)
    refine wp_of e169 c169_73 (xg_I (pc' := 76) lf_9_104 w1530 g0 sh_42 (by decide) (by decide) ty_42_13 rfl rfl (fun b1542 b1543 => ?_))
    refine wp_of e169 c169_76 (rw_if_le (p1 := 94) (p2 := 79) (by decide) rfl ⟨by omega, by omega⟩ (fun c1544 => ?_) (fun c1544 => ?_))
    · refine wp_of e169 c169_94 (rw_aload_n (pc' := 95) (v := .ref r0) rfl rfl rfl ?_)
      refine wp_of e169 c169_95 (rw_aload_n (pc' := 96) (v := .ref r0) rfl rfl rfl ?_)
      have k1545 : H1526 r0 4 = H1509 r0 4 := (f1531 r0 4 _ g0 rfl)
      have q1546 : H1526 r0 4 = (rp : Int) := k1545.trans q1520
      refine wp_of e169 c169_96 (xg_K (pc' := 99) lf_9_166 w1530 g0 sh_42 (by decide) (by decide) rfl q1546 rfl ?_)
      refine wp_of e169 c169_99 (xp_R (pc' := 102) lf_9_337 w1530 g0 sh_42 (by decide) (by decide) rfl rfl (wok_3 ty_42_3 grp) rfl (fun H1547 e1548 w1549 => ?_))
      have f1550 := f1540.put' e1548 g0 rfl
      have q1551 : H1547 r0 3 = (rp : Int) := wq_u_s e1548
      refine wp_of e169 c169_102 (rw_aload_n (pc' := 103) (v := .ref r0) rfl rfl rfl ?_)
      refine wp_of e169 c169_103 (rw_iconst (pc' := 104) rfl ?_)
      refine wp_of e169 c169_104 (xp_I (pc' := 107) lf_9_340 w1549 g0 sh_42 (by decide) (by decide) ty_42_32 rfl rfl (by omega) (by omega) ⟨by omega, by omega⟩ rfl (fun H1552 e1553 w1554 => ?_))
      have f1555 := f1550.put' e1553 g0 rfl
      have k1556 : H1552 r0 32 = 0 := wq_u_s e1553
      refine wp_of e169 c169_107 (rw_aload_n (pc' := 108) (v := .ref r0) rfl rfl rfl ?_)
      refine wp_of e169 c169_108 (rw_iconst (pc' := 109) rfl ?_)
      refine wp_of e169 c169_109 (rw_aload_n (pc' := 110) (v := .ref r0) rfl rfl rfl ?_)
      have k1557 : H1552 r0 3 = H1547 r0 3 := (wq_u_j e1553 rfl)
      have q1558 : H1552 r0 3 = (rp : Int) := k1557.trans q1551
      refine wp_of e169 c169_110 (xg_K (pc' := 113) lf_9_337 w1554 g0 sh_42 (by decide) (by decide) rfl q1558 rfl ?_)
      have k1559 : H1552 rp 0 = H1526 rp 0 := ((wq_u_t e1553 g0 grp rfl 0).trans (wq_u_t e1548 g0 grp rfl 0))
      refine wp_of e169 c169_113 (xg_I (pc' := 116) lf_9_185 w1554 grp sh_54 (by decide) (by decide) ty_54_0 rfl rfl (fun b1560 b1561 => ?_))
      refine wp_of e169 c169_116 (rw_ishl (pc' := 117) rfl ?_)
      obtain ⟨v1562, e1563⟩ : ∃ x : Int, x = wq_shl 1 (H1552 rp 0) := ⟨_, rfl⟩
      rw [← e1563]
      have b1564 : -2147483648 ≤ v1562 ∧ v1562 ≤ 2147483647 := by
        rw [e1563]
        exact wI_shl _ _
      refine wp_of e169 c169_117 (rw_iconst (pc' := 118) rfl ?_)
      refine wp_of e169 c169_118 (rw_isubw (pc' := 119) rfl ?_)
      obtain ⟨v1565, e1566⟩ : ∃ x : Int, x = wq_w (v1562 - 1) := ⟨_, rfl⟩
      rw [← e1566]
      have b1567 : -2147483648 ≤ v1565 ∧ v1565 ≤ 2147483647 := by
        rw [e1566]
        exact wI_w _
      have b1568 : (-2147483648 ≤ v1562 - 1 ∧ v1562 - 1 ≤ 2147483647) → v1565 = v1562 - 1 := fun h => by rw [e1566]; exact wq_w_id h
      refine wp_of e169 c169_119 (xp_I (pc' := 122) lf_9_343 w1554 g0 sh_42 (by decide) (by decide) ty_42_19 rfl rfl (by omega) (by omega) ⟨by omega, by omega⟩ rfl (fun H1569 e1570 w1571 => ?_))
      have f1572 := f1555.put' e1570 g0 rfl
      have k1573 : H1569 r0 19 = v1565 := wq_u_s e1570
      refine wp_of e169 c169_122 (rw_iconst (pc' := 123) rfl ?_)
      refine wp_of e169 c169_123 (rw_istore_n (pc' := 124) (z := 0) (L' := [(2, vI 0), (0, .ref r0), (1, vI a1)]) rfl rfl rfl ?_)
      have lp1830 : ∀ (n1831 : Nat) (v1833 : Int) (H1834 : wq_H), WT T H1834 → wfr [(44, 999)] T H1569 H1834 → (0 ≤ v1833 ∧ v1833 ≤ 24) → (24 - v1833).toNat = n1831 → wp kt 9 169 124 [(2, vI v1833), (0, .ref r0)] [] T H1834 (uq_169_c r0 a1 rp rb B T H) := by
        intro n1831
        induction n1831 using Nat.strongRecOn with
        | _ n1831 ih1832 =>
          intro v1833 H1834 w1835 f1836 b1837 m1838
          have f1839 := f1572.tr f1836 rfl
          refine wp_of e169 c169_124 (rw_iload_n (pc' := 125) (z := v1833) rfl rfl ?_)
          refine wp_of e169 c169_125 (rw_bipush (pc' := 127) (z := 24) rfl (by decide) ?_)
          refine wp_of e169 c169_127 (rw_icmp_ge (p1 := 166) (p2 := 130) (by decide) rfl ⟨by omega, by omega⟩ ⟨by omega, by omega⟩ (fun c1840 => ?_) (fun c1840 => ?_))
          · refine wp_of e169 c169_166 (rw_iconst (pc' := 167) rfl ?_)
            refine wp_of e169 c169_167 (rw_istore_n (pc' := 168) (z := 0) (L' := [(2, vI 0), (0, .ref r0)]) rfl rfl rfl ?_)
            have lp1897 : ∀ (n1898 : Nat) (v1900 : Int) (H1901 : wq_H), WT T H1901 → wfr [(50, 999)] T H1834 H1901 → (0 ≤ v1900 ∧ v1900 ≤ 6) → (6 - v1900).toNat = n1898 → wp kt 9 169 168 [(2, vI v1900), (0, .ref r0)] [] T H1901 (uq_169_c r0 a1 rp rb B T H) := by
              intro n1898
              induction n1898 using Nat.strongRecOn with
              | _ n1898 ih1899 =>
                intro v1900 H1901 w1902 f1903 b1904 m1905
                have f1906 := f1839.tr f1903 rfl
                refine wp_of e169 c169_168 (rw_iload_n (pc' := 169) (z := v1900) rfl rfl ?_)
                refine wp_of e169 c169_169 (rw_bipush (pc' := 171) (z := 6) rfl (by decide) ?_)
                refine wp_of e169 c169_171 (rw_icmp_ge (p1 := 187) (p2 := 174) (by decide) rfl ⟨by omega, by omega⟩ ⟨by omega, by omega⟩ (fun c1907 => ?_) (fun c1907 => ?_))
                · have h1909 : DM T H1901 rp r0 ((xpf B a1 902 ((xG 32 32 B a1 0)) xD0).2) := (DM_fr w1835 grp f1903 rfl (DM_fr w1571 grp f1836 rfl (DM_fr w1554 grp ((wfr.rf (l := [(42, 19)])).put' e1570 g0 rfl) rfl (DM_fr w1549 grp ((wfr.rf (l := [(42, 32)])).put' e1553 g0 rfl) rfl (DM_fr w1530 grp ((wfr.rf (l := [(42, 3)])).put' e1548 g0 rfl) rfl a1536)))))
                  have k1908 : wPI H1901 rp = 1 := wPI_dm h1909
                  refine wp_of e169 c169_187 (rw_aload_n (pc' := 188) (v := .ref r0) rfl rfl rfl ?_)
                  have k1910 : H1901 r0 3 = H1552 r0 3 := ((f1903 r0 3 _ g0 rfl).trans ((f1836 r0 3 _ g0 rfl).trans (wq_u_j e1570 rfl)))
                  have q1911 : H1901 r0 3 = (rp : Int) := k1910.trans q1558
                  refine wp_of e169 c169_188 (xc_V (pc' := 191) (r := r0) (as := []) (st := []) (lm_9_350) rfl rfl (Nat.le_of_ble_eq_true rfl) w1902 g0 sh_42 (by decide) rfl (by decide) (s_206 w1902 g0 q1911 grp (by omega)) (fun R1912 T1913 H1914 p1915 => ?_))
                  obtain ⟨e1916, w1918, f1919, e1917⟩ := p1915
                  subst e1916
                  subst e1917
                  have f1920 := f1906.tr f1919 rfl
                  show wp _ _ 169 191 [(2, vI v1900), (0, .ref r0)] [] _ H1914 _
                  refine wp_of e169 c169_191 (rw_aload_n (pc' := 192) (v := .ref r0) rfl rfl rfl ?_)
                  refine wp_of e169 c169_192 (rw_iconst (pc' := 193) rfl ?_)
                  refine wp_of e169 c169_193 (xp_Z (pc' := 196) lf_9_353 w1918 g0 sh_42 (by decide) (by decide) ty_42_28 rfl rfl (by omega) (by omega) rfl (fun H1921 e1922 w1923 => ?_))
                  have f1924 := f1920.put' e1922 g0 rfl
                  have k1925 : H1921 r0 28 = 0 := wq_u_s e1922
                  refine wp_of e169 c169_196 (rw_aload_n (pc' := 197) (v := .ref r0) rfl rfl rfl ?_)
                  refine wp_of e169 c169_197 (rw_aload_n (pc' := 198) (v := .ref r0) rfl rfl rfl ?_)
                  have k1926 : H1921 r0 3 = H1901 r0 3 := ((wq_u_j e1922 rfl).trans (f1919 r0 3 _ g0 rfl))
                  have q1927 : H1921 r0 3 = (rp : Int) := k1926.trans q1911
                  refine wp_of e169 c169_198 (xg_K (pc' := 201) lf_9_337 w1923 g0 sh_42 (by decide) (by decide) rfl q1927 rfl ?_)
                  have k1928 : H1921 rp 3 = H1526 rp 3 := ((wq_u_t e1922 g0 grp rfl 3).trans ((f1919 rp 3 _ grp rfl).trans ((f1903 rp 3 _ grp rfl).trans ((f1836 rp 3 _ grp rfl).trans ((wq_u_t e1570 g0 grp rfl 3).trans ((wq_u_t e1553 g0 grp rfl 3).trans (wq_u_t e1548 g0 grp rfl 3)))))))
                  refine wp_of e169 c169_201 (xg_I (pc' := 204) lf_9_188 w1923 grp sh_54 (by decide) (by decide) ty_54_3 rfl rfl (fun b1929 b1930 => ?_))
                  refine wp_of e169 c169_204 (xc_V (pc' := 207) (r := r0) (as := [vI (H1921 rp 3)]) (st := []) (lm_9_58) rfl rfl (Nat.le_of_ble_eq_true rfl) w1923 g0 sh_42 (by decide) rfl (by decide) (u_209  w1923 g0 ⟨by omega, by omega⟩) (fun R1931 T1932 H1933 p1934 => ?_))
                  obtain ⟨e1935, w1937, f1938, z1939, e1936, b1940, p1941⟩ := p1934
                  subst e1935
                  subst e1936
                  obtain ⟨a1942, a1943, a1944⟩ := p1941
                  have f1945 := f1924.tr f1938 rfl
                  show wp _ _ 169 207 [(2, vI v1900), (0, .ref r0)] [vI z1939] _ H1933 _
                  have k1946 : H1933 r0 28 = H1921 r0 28 := (f1938 r0 28 _ g0 rfl)
                  have k1947 : H1933 r0 29 = H r0 29 := ((f1938 r0 29 _ g0 rfl).trans ((wq_u_j e1922 rfl).trans ((f1919 r0 29 _ g0 rfl).trans ((f1903 r0 29 _ g0 rfl).trans ((f1836 r0 29 _ g0 rfl).trans ((wq_u_j e1570 rfl).trans ((wq_u_j e1553 rfl).trans ((wq_u_j e1548 rfl).trans ((f1531 r0 29 _ g0 rfl).trans ((f1514 r0 29 _ g0 rfl).trans ((wq_u_j e1497 rfl).trans (wq_u_j e1492 rfl))))))))))))
                  have k1948 : wKI H1933 r0 = 1 := wKI_1.mpr (by omega)
                  have k1949 : H1933 r0 6 = H r0 6 := ((f1938 r0 6 _ g0 rfl).trans ((wq_u_j e1922 rfl).trans ((f1919 r0 6 _ g0 rfl).trans ((f1903 r0 6 _ g0 rfl).trans ((f1836 r0 6 _ g0 rfl).trans ((wq_u_j e1570 rfl).trans ((wq_u_j e1553 rfl).trans ((wq_u_j e1548 rfl).trans ((f1531 r0 6 _ g0 rfl).trans ((f1514 r0 6 _ g0 rfl).trans ((wq_u_j e1497 rfl).trans (wq_u_j e1492 rfl))))))))))))
                  have k1950 : H1933 r0 13 = H1526 r0 13 := ((f1938 r0 13 _ g0 rfl).trans ((wq_u_j e1922 rfl).trans ((f1919 r0 13 _ g0 rfl).trans ((f1903 r0 13 _ g0 rfl).trans ((f1836 r0 13 _ g0 rfl).trans ((wq_u_j e1570 rfl).trans ((wq_u_j e1553 rfl).trans (wq_u_j e1548 rfl))))))))
                  have k1951 : H1933 r0 3 = H1921 r0 3 := (f1938 r0 3 _ g0 rfl)
                  have q1952 : H1933 r0 3 = (rp : Int) := k1951.trans q1927
                  exact wp_ireturn e169 c169_207 rfl ⟨rfl, w1937, f1945, z1939, rfl, ⟨by omega, by omega⟩, (Or.inr ⟨by omega, by omega, by omega, by omega, by omega, by omega, by omega, by omega, by omega⟩)⟩
                · refine wp_of e169 c169_174 (rw_aload_n (pc' := 175) (v := .ref r0) rfl rfl rfl ?_)
                  refine wp_of e169 c169_175 (xg_R (pc' := 178) lf_9_36 w1902 g0 sh_42 (by decide) (by decide) ty_42_26 rfl rfl (fun r1953 q1954 g1955 => ?_))
                  refine wp_of e169 c169_178 (rw_iload_n (pc' := 179) (z := v1900) rfl rfl ?_)
                  refine wp_of e169 c169_179 (rw_iconst (pc' := 180) rfl ?_)
                  refine wp_of e169 c169_180 (xs_I (pc' := 181) w1902 g1955 (by decide) sh_50 (by decide) (ty_50 _) (by omega) (by omega) ⟨by omega, by omega⟩ (by omega) (by omega) rfl (fun H1956 e1957 w1958 => ?_))
                  have f1959 := f1906.put' e1957 g1955 rfl
                  have f1960 := f1903.put' e1957 g1955 rfl
                  refine wp_of e169 c169_181 (rw_iinc (pc' := 184) (z := v1900) (L' := [(2, vI (v1900 + 1)), (0, .ref r0)]) rfl rfl rfl rfl ?_)
                  refine wp_of e169 c169_184 (rw_goto (p1 := 168) (by decide) ?_)
                  exact wp_lc (ks := [2, 0]) (wl_c rfl (wl_c rfl wl_n)) rfl (by decide) (ih1899 _ (by omega) (v1900 + 1) H1956 w1958 f1960 ⟨by omega, by omega⟩ rfl)
            exact wp_lc (ks := [2, 0]) (wl_c rfl (wl_c rfl wl_n)) rfl (by decide) (lp1897 _ 0 H1834 w1835 wfr.rf ⟨by omega, by omega⟩ rfl)
          · refine wp_of e169 c169_130 (rw_aload_n (pc' := 131) (v := .ref r0) rfl rfl rfl ?_)
            refine wp_of e169 c169_131 (xg_R (pc' := 134) lf_9_17 w1835 g0 sh_42 (by decide) (by decide) ty_42_20 rfl rfl (fun r1961 q1962 g1963 => ?_))
            refine wp_of e169 c169_134 (rw_iload_n (pc' := 135) (z := v1833) rfl rfl ?_)
            refine wp_of e169 c169_135 (rw_aload_n (pc' := 136) (v := .ref r0) rfl rfl rfl ?_)
            have k1964 : H1834 r0 19 = H1569 r0 19 := (f1836 r0 19 _ g0 rfl)
            refine wp_of e169 c169_136 (xg_I (pc' := 139) lf_9_343 w1835 g0 sh_42 (by decide) (by decide) ty_42_19 rfl rfl (fun b1965 b1966 => ?_))
            refine wp_of e169 c169_139 (rw_iload_n (pc' := 140) (z := v1833) rfl rfl ?_)
            refine wp_of e169 c169_140 (xc_S (pc' := 143) (as := [vI (H1834 r0 19), vI v1833]) (st := [vI v1833, .ref r1961]) (lm_9_346) rfl rfl (Nat.le_of_ble_eq_true rfl) rfl (by decide) (s_205 w1835 ⟨by omega, by omega⟩ ⟨by omega, by omega⟩) (fun R1967 T1968 H1969 p1970 => ?_))
            obtain ⟨e1971, e1973, z1974, e1972, b1975⟩ := p1970
            subst e1971
            subst e1972
            subst e1973
            show wp _ _ 169 143 [(2, vI v1833), (0, .ref r0)] [vI z1974, vI v1833, .ref r1961] _ H1834 _
            refine wp_of e169 c169_143 (rw_if_eq (p1 := 158) (p2 := 146) (by decide) rfl ⟨by omega, by omega⟩ (fun c1976 => ?_) (fun c1976 => ?_))
            · refine wp_of e169 c169_158 (rw_iconst (pc' := 159) rfl ?_)
              refine wp_of e169 c169_159 (xs_I (pc' := 160) w1835 g1963 (by decide) sh_44 (by decide) (ty_44 _) (by omega) (by omega) ⟨by omega, by omega⟩ (by omega) (by omega) rfl (fun H1977 e1978 w1979 => ?_))
              have f1980 := f1839.put' e1978 g1963 rfl
              have f1981 := f1836.put' e1978 g1963 rfl
              refine wp_of e169 c169_160 (rw_iinc (pc' := 163) (z := v1833) (L' := [(2, vI (v1833 + 1)), (0, .ref r0)]) rfl rfl rfl rfl ?_)
              refine wp_of e169 c169_163 (rw_goto (p1 := 124) (by decide) ?_)
              exact wp_lc (ks := [2, 0]) (wl_c rfl (wl_c rfl wl_n)) rfl (by decide) (ih1832 _ (by omega) (v1833 + 1) H1977 w1979 f1981 ⟨by omega, by omega⟩ rfl)
            · refine wp_of e169 c169_146 (rw_aload_n (pc' := 147) (v := .ref r0) rfl rfl rfl ?_)
              have k1982 : H1834 r0 3 = H1552 r0 3 := ((f1836 r0 3 _ g0 rfl).trans (wq_u_j e1570 rfl))
              have q1983 : H1834 r0 3 = (rp : Int) := k1982.trans q1558
              refine wp_of e169 c169_147 (xg_K (pc' := 150) lf_9_337 w1835 g0 sh_42 (by decide) (by decide) rfl q1983 rfl ?_)
              refine wp_of e169 c169_150 (xg_R (pc' := 153) lf_9_296 w1835 grp sh_54 (by decide) (by decide) ty_54_21 rfl rfl (fun r1984 q1985 g1986 => ?_))
              refine wp_of e169 c169_153 (rw_iload_n (pc' := 154) (z := v1833) rfl rfl ?_)
              refine wp_of e169 c169_154 (xa_I (so := 0) (pc' := 155) w1835 g1986 sh_67 (by decide) (ty_67 _) (by omega) (by omega) rfl (fun b1987 b1988 => ?_))
              refine wp_of e169 c169_155 (rw_goto (p1 := 159) (by decide) ?_)
              refine wp_of e169 c169_159 (xs_I (pc' := 160) w1835 g1963 (by decide) sh_44 (by decide) (ty_44 _) (by omega) (by omega) ⟨by omega, by omega⟩ (by omega) (by omega) rfl (fun H1989 e1990 w1991 => ?_))
              have f1992 := f1839.put' e1990 g1963 rfl
              have f1993 := f1836.put' e1990 g1963 rfl
              refine wp_of e169 c169_160 (rw_iinc (pc' := 163) (z := v1833) (L' := [(2, vI (v1833 + 1)), (0, .ref r0)]) rfl rfl rfl rfl ?_)
              refine wp_of e169 c169_163 (rw_goto (p1 := 124) (by decide) ?_)
              exact wp_lc (ks := [2, 0]) (wl_c rfl (wl_c rfl wl_n)) rfl (by decide) (ih1832 _ (by omega) (v1833 + 1) H1989 w1991 f1993 ⟨by omega, by omega⟩ rfl)
      exact wp_lc (ks := [2, 0, 1]) (wl_c rfl (wl_c rfl wl_n)) rfl (by decide) (lp1830 _ 0 H1569 w1571 wfr.rf ⟨by omega, by omega⟩ rfl)
    · exfalso
      omega
  · have f1994 := f1517.tr f1531 rfl
    show wp _ _ 169 72 [(0, .ref r0), (1, vI a1)] [] _ H1526 _
    have u1995 := RO_k a1539
    refine wp_of e169 c169_72 (rw_aload_n (pc' := 73) (v := .ref r0) rfl rfl rfl ?_)
    refine wp_of e169 c169_73 (xg_I (pc' := 76) lf_9_104 w1530 g0 sh_42 (by decide) (by decide) ty_42_13 rfl rfl (fun b1996 b1997 => ?_))
    refine wp_of e169 c169_76 (rw_if_le (p1 := 94) (p2 := 79) (by decide) rfl ⟨by omega, by omega⟩ (fun c1998 => ?_) (fun c1998 => ?_))
    · exfalso
      omega
    · refine wp_of e169 c169_79 (rw_aload_n (pc' := 80) (v := .ref r0) rfl rfl rfl ?_)
      refine wp_of e169 c169_80 (rw_iconst (pc' := 81) rfl ?_)
      refine wp_of e169 c169_81 (xp_I (pc' := 84) lf_9_51 w1530 g0 sh_42 (by decide) (by decide) ty_42_1 rfl rfl (by omega) (by omega) ⟨by omega, by omega⟩ rfl (fun H1999 e2000 w2001 => ?_))
      have f2002 := f1994.put' e2000 g0 rfl
      have k2003 : H1999 r0 1 = 4 := wq_u_s e2000
      refine wp_of e169 c169_84 (rw_aload_n (pc' := 85) (v := .ref r0) rfl rfl rfl ?_)
      refine wp_of e169 c169_85 (rw_aload_n (pc' := 86) (v := .ref r0) rfl rfl rfl ?_)
      have k2004 : H1999 r0 14 = H1526 r0 14 := (wq_u_j e2000 rfl)
      refine wp_of e169 c169_86 (xg_I (pc' := 89) lf_9_107 w2001 g0 sh_42 (by decide) (by decide) ty_42_14 rfl rfl (fun b2005 b2006 => ?_))
      refine wp_of e169 c169_89 (xp_I (pc' := 92) lf_9_9 w2001 g0 sh_42 (by decide) (by decide) ty_42_2 rfl rfl (by omega) (by omega) ⟨by omega, by omega⟩ rfl (fun H2007 e2008 w2009 => ?_))
      have f2010 := f2002.put' e2008 g0 rfl
      have k2011 : H2007 r0 2 = H1999 r0 14 := wq_u_s e2008
      refine wp_of e169 c169_92 (rw_iconst (pc' := 93) rfl ?_)
      have k2012 : H2007 r0 28 = H r0 28 := ((wq_u_j e2008 rfl).trans ((wq_u_j e2000 rfl).trans ((f1531 r0 28 _ g0 rfl).trans ((f1514 r0 28 _ g0 rfl).trans ((wq_u_j e1497 rfl).trans (wq_u_j e1492 rfl))))))
      have k2013 : H2007 r0 29 = H r0 29 := ((wq_u_j e2008 rfl).trans ((wq_u_j e2000 rfl).trans ((f1531 r0 29 _ g0 rfl).trans ((f1514 r0 29 _ g0 rfl).trans ((wq_u_j e1497 rfl).trans (wq_u_j e1492 rfl))))))
      have k2014 : wLM H2007 r0 = wLM H r0 := wLM_ot hW g0 (((wq_u_j e2008 rfl).trans ((wq_u_j e2000 rfl).trans ((f1531 r0 3 _ g0 rfl).trans ((f1514 r0 3 _ g0 rfl).trans ((wq_u_j e1497 rfl).trans (wq_u_j e1492 rfl))))))) (((wq_u_j e2008 rfl).trans ((wq_u_j e2000 rfl).trans ((f1531 r0 21 _ g0 rfl).trans ((f1514 r0 21 _ g0 rfl).trans ((wq_u_j e1497 rfl).trans (wq_u_j e1492 rfl))))))) (fun sp gs => funext (fun j => ((wq_u_t e2008 g0 gs rfl j).trans ((wq_u_t e2000 g0 gs rfl j).trans ((f1531 sp j _ gs rfl).trans ((f1514 sp j _ gs rfl).trans ((wq_u_t e1497 g0 gs rfl j).trans (wq_u_t e1492 g0 gs rfl j)))))))) (fun a ha ga => ((wq_u_t e2008 g0 ga rfl 3).trans ((wq_u_t e2000 g0 ga rfl 3).trans ((a1538 a ha ga).trans ((f1514 a 3 _ ga rfl).trans ((wq_u_t e1497 g0 ga rfl 3).trans (wq_u_t e1492 g0 ga rfl 3))))))) hne
      have k2015 : wKI H2007 r0 = 1 := wKI_1.mpr (by omega)
      have k2016 : H2007 r0 6 = H r0 6 := ((wq_u_j e2008 rfl).trans ((wq_u_j e2000 rfl).trans ((f1531 r0 6 _ g0 rfl).trans ((f1514 r0 6 _ g0 rfl).trans ((wq_u_j e1497 rfl).trans (wq_u_j e1492 rfl))))))
      have k2017 : H2007 r0 1 = H1999 r0 1 := (wq_u_j e2008 rfl)
      have k2018 : H2007 r0 13 = H1526 r0 13 := ((wq_u_j e2008 rfl).trans (wq_u_j e2000 rfl))
      have k2019 : H2007 r0 3 = H r0 3 := ((wq_u_j e2008 rfl).trans ((wq_u_j e2000 rfl).trans ((f1531 r0 3 _ g0 rfl).trans ((f1514 r0 3 _ g0 rfl).trans ((wq_u_j e1497 rfl).trans (wq_u_j e1492 rfl))))))
      exact wp_ireturn e169 c169_93 rfl ⟨rfl, w2009, f2010, -1, rfl, ⟨by omega, by omega⟩, (Or.inl ⟨by omega, by omega, by omega, by omega, by omega, by omega, by omega, by omega⟩)⟩
/-! StrikeAwakeModel.parish(I)I  -/
abbrev uq_169 (r0 : Nat) (a1 : Int) (rb : Nat) (B : Nat → Int) (y : Int) (T : wq_T) (H : wq_H) : Option Value → wq_T → wq_H → Prop := fun r T' H' => (∀ a t, T.2.2.2 a = some t → T'.2.2.2 a = some t) ∧ T'.2.1 ≤ T.2.1 + 19 ∧ T'.2.2.1 ≤ T.2.2.1 + 459 ∧ WT T' H' ∧ wfr [(54, 0), (54, 1), (54, 2), (54, 3), (54, 4), (54, 5), (54, 6), (54, 7), (54, 8), (42, 0), (42, 1), (42, 2), (42, 3), (42, 4), (42, 6), (42, 7), (42, 8), (42, 9), (42, 10), (42, 11), (42, 12), (42, 13), (42, 14), (42, 15), (42, 16), (42, 17), (42, 18), (42, 19), (42, 28), (42, 32), (48, 999), (49, 999), (46, 999), (47, 999), (50, 999), (45, 999), (44, 999), (64, 999), (65, 999), (56, 999), (57, 999), (66, 999), (60, 999), (63, 999), (58, 999), (59, 999), (55, 999), (61, 999), (62, 999), (72, 999), (71, 999), (67, 999), (68, 999), (69, 999)] T H H' ∧ ∃ z : Int, some (vI z) = r ∧ ((-2147483648) ≤ z ∧ z ≤ 2147483647) ∧ (((z = -1) ∧ (a1 < 0 ∨ H r0 6 < a1) ∧ (H' r0 6 = H r0 6) ∧ (H' r0 1 = 2) ∧ (H' r0 2 = -1) ∧ (H' r0 13 = H r0 13) ∧ (H' r0 3 = H r0 3) ∧ (wKI H' r0 = 1)) ∨ ((z = -1) ∧ (0 ≤ a1 ∧ a1 ≤ H r0 6) ∧ (H' r0 6 = 0) ∧ ((xparse B y).1.1 ≠ 0) ∧ (H' r0 1 = 4) ∧ (H' r0 2 = (xparse B y).1.2.1) ∧ (H' r0 13 = (xparse B y).1.1) ∧ (H' r0 3 = H r0 3) ∧ (wKI H' r0 = 1)) ∨ ((0 ≤ z ∧ z ≤ 6) ∧ (0 ≤ a1 ∧ a1 ≤ H r0 6) ∧ (H' r0 6 = 0) ∧ ((xparse B y).1.1 = 0) ∧ (z = (xparse B y).2 0 3) ∧ (H' r0 1 = 0) ∧ (H' r0 2 = -1) ∧ (H' r0 13 = 0) ∧ (H' r0 3 ≠ -1) ∧ (wKI H' r0 = 1)))
set_option maxHeartbeats 4000000 in
theorem u_169 {kt : Nat → Option mc_E} {T : wq_T} {H : wq_H} {r0 : Nat} {a1 : Int} {rb : Nat} {B : Nat → Int} {y : Int} (hW : WT T H) (g0 : T.2.2.2 r0 = some 42) (i1 : (-2147483648) ≤ a1 ∧ a1 ≤ 2147483647) (qrb : H r0 5 = (rb : Int)) (grb : T.2.2.2 rb = some 43) (p0 : wKI H r0 = 1) (p1 : a1 = y) (hTM_rb : TM T H rb B) : wpc kt 10 169 [.ref r0, vI a1] T H (uq_169 r0 a1 rb B y T H) := by
  refine wp_enter e169 (Nat.le_of_ble_eq_true rfl) rfl ?_
  have f0 : wfr [(54, 0), (54, 1), (54, 2), (54, 3), (54, 4), (54, 5), (54, 6), (54, 7), (54, 8), (42, 0), (42, 1), (42, 2), (42, 3), (42, 4), (42, 6), (42, 7), (42, 8), (42, 9), (42, 10), (42, 11), (42, 12), (42, 13), (42, 14), (42, 15), (42, 16), (42, 17), (42, 18), (42, 19), (42, 28), (42, 32), (48, 999), (49, 999), (46, 999), (47, 999), (50, 999), (45, 999), (44, 999), (64, 999), (65, 999), (56, 999), (57, 999), (66, 999), (60, 999), (63, 999), (58, 999), (59, 999), (55, 999), (61, 999), (62, 999), (72, 999), (71, 999), (67, 999), (68, 999), (69, 999)] T H H := wfr.rf
  show wp _ _ 169 0 [(0, .ref r0), (1, vI a1)] [] _ H _
  have b1066 : 0 ≤ H r0 6 ∧ H r0 6 ≤ 900 := hW.box g0 (n := 33) rfl (by decide) rfl
  have b1067 : (-2147483648) ≤ H r0 13 ∧ H r0 13 ≤ 2147483647 := hW.box g0 (n := 33) rfl (by decide) rfl
  have _y1 : (xparse B a1).1.1 = (xparse B y).1.1 := by rw [p1]
  have _y2 : (xparse B a1).1.2.1 = (xparse B y).1.2.1 := by rw [p1]
  have _y3 : (xparse B a1).2 0 3 = (xparse B y).2 0 3 := by rw [p1]
  refine wp_of e169 c169_0 (rw_aload_n (pc' := 1) (v := .ref r0) rfl rfl rfl ?_)
  refine wp_of e169 c169_1 (rw_iconst (pc' := 2) rfl ?_)
  refine wp_of e169 c169_2 (xp_I (pc' := 5) lf_9_48 hW g0 sh_42 (by decide) (by decide) ty_42_0 rfl rfl (by omega) (by omega) ⟨by omega, by omega⟩ rfl (fun H1068 e1069 w1070 => ?_))
  have f1071 := f0.put' e1069 g0 rfl
  have k1072 : H1068 r0 0 = 0 := wq_u_s e1069
  refine wp_of e169 c169_5 (rw_iload_n (pc' := 6) (z := a1) rfl rfl ?_)
  refine wp_of e169 c169_6 (rw_if_lt (p1 := 17) (p2 := 9) (by decide) rfl ⟨by omega, by omega⟩ (fun c1073 => ?_) (fun c1073 => ?_))
  · refine wp_of e169 c169_17 (rw_aload_n (pc' := 18) (v := .ref r0) rfl rfl rfl ?_)
    refine wp_of e169 c169_18 (rw_iconst (pc' := 19) rfl ?_)
    refine wp_of e169 c169_19 (xc_V (pc' := 22) (r := r0) (as := [vI 2]) (st := []) (lm_9_54) rfl rfl (Nat.le_of_ble_eq_true rfl) w1070 g0 sh_42 (by decide) rfl (by decide) (u_170  w1070 g0 ⟨by omega, by omega⟩) (fun R1074 T1075 H1076 p1077 => ?_))
    obtain ⟨e1078, w1080, f1081, z1082, e1079, b1083, p1084⟩ := p1077
    subst e1078
    subst e1079
    obtain ⟨a1085, a1086, a1087⟩ := p1084
    have f1088 := f1071.tr f1081 rfl
    show wp _ _ 169 22 [(0, .ref r0), (1, vI a1)] [vI z1082] _ H1076 _
    have k1089 : wKI H1076 r0 = wKI H r0 := ((wKI_fr w1070 g0 f1081 rfl).trans (wKI_fr hW g0 ((wfr.rf (l := [(42, 0)])).put' e1069 g0 rfl) rfl))
    have k1090 : H1076 r0 6 = H r0 6 := ((f1081 r0 6 _ g0 rfl).trans (wq_u_j e1069 rfl))
    have k1091 : H1076 r0 13 = H r0 13 := ((f1081 r0 13 _ g0 rfl).trans (wq_u_j e1069 rfl))
    have k1092 : H1076 r0 3 = H r0 3 := ((f1081 r0 3 _ g0 rfl).trans (wq_u_j e1069 rfl))
    exact wp_ireturn e169 c169_22 rfl ⟨fun _ _ h => h, by omega, by omega, w1080, f1088, z1082, rfl, ⟨by omega, by omega⟩, (Or.inl ⟨by omega, by omega, by omega, by omega, by omega, by omega, by omega, by omega⟩)⟩
  · refine wp_of e169 c169_9 (rw_iload_n (pc' := 10) (z := a1) rfl rfl ?_)
    refine wp_of e169 c169_10 (rw_aload_n (pc' := 11) (v := .ref r0) rfl rfl rfl ?_)
    have k1093 : H1068 r0 6 = H r0 6 := (wq_u_j e1069 rfl)
    refine wp_of e169 c169_11 (xg_I (pc' := 14) lf_9_330 w1070 g0 sh_42 (by decide) (by decide) ty_42_6 rfl rfl (fun b1094 b1095 => ?_))
    refine wp_of e169 c169_14 (rw_icmp_le (p1 := 23) (p2 := 17) (by decide) rfl ⟨by omega, by omega⟩ ⟨by omega, by omega⟩ (fun c1096 => ?_) (fun c1096 => ?_))
    · refine wp_of e169 c169_23 (rw_aload_n (pc' := 24) (v := .ref r0) rfl rfl rfl ?_)
      refine wp_of e169 c169_24 (rw_iload_n (pc' := 25) (z := a1) rfl rfl ?_)
      refine wp_of e169 c169_25 (xp_I (pc' := 28) lf_9_61 w1070 g0 sh_42 (by decide) (by decide) ty_42_7 rfl rfl (by omega) (by omega) ⟨by omega, by omega⟩ rfl (fun H1097 e1098 w1099 => ?_))
      have f1100 := f1071.put' e1098 g0 rfl
      have k1101 : H1097 r0 7 = a1 := wq_u_s e1098
      refine wp_of e169 c169_28 (rw_aload_n (pc' := 29) (v := .ref r0) rfl rfl rfl ?_)
      refine wp_of e169 c169_29 (rw_iconst (pc' := 30) rfl ?_)
      refine wp_of e169 c169_30 (xp_I (pc' := 33) lf_9_330 w1099 g0 sh_42 (by decide) (by decide) ty_42_6 rfl rfl (by omega) (by omega) ⟨by omega, by omega⟩ rfl (fun H1102 e1103 w1104 => ?_))
      have f1105 := f1100.put' e1103 g0 rfl
      have k1106 : H1102 r0 6 = 0 := wq_u_s e1103
      refine wp_of e169 c169_33 (rw_aload_n (pc' := 34) (v := .ref r0) rfl rfl rfl ?_)
      refine wp_of e169 c169_34 (rw_iconst (pc' := 35) rfl ?_)
      refine wp_of e169 c169_35 (xp_I (pc' := 38) lf_9_78 w1104 g0 sh_42 (by decide) (by decide) ty_42_8 rfl rfl (by omega) (by omega) ⟨by omega, by omega⟩ rfl (fun H1107 e1108 w1109 => ?_))
      have f1110 := f1105.put' e1108 g0 rfl
      have k1111 : H1107 r0 8 = 0 := wq_u_s e1108
      refine wp_of e169 c169_38 (rw_aload_n (pc' := 39) (v := .ref r0) rfl rfl rfl ?_)
      refine wp_of e169 c169_39 (rw_iconst (pc' := 40) rfl ?_)
      refine wp_of e169 c169_40 (xp_I (pc' := 43) lf_9_104 w1109 g0 sh_42 (by decide) (by decide) ty_42_13 rfl rfl (by omega) (by omega) ⟨by omega, by omega⟩ rfl (fun H1112 e1113 w1114 => ?_))
      have f1115 := f1110.put' e1113 g0 rfl
      have k1116 : H1112 r0 13 = 0 := wq_u_s e1113
      refine wp_of e169 c169_43 (rw_aload_n (pc' := 44) (v := .ref r0) rfl rfl rfl ?_)
      refine wp_of e169 c169_44 (rw_iconst (pc' := 45) rfl ?_)
      refine wp_of e169 c169_45 (xp_I (pc' := 48) lf_9_293 w1114 g0 sh_42 (by decide) (by decide) ty_42_16 rfl rfl (by omega) (by omega) ⟨by omega, by omega⟩ rfl (fun H1117 e1118 w1119 => ?_))
      have f1120 := f1115.put' e1118 g0 rfl
      have k1121 : H1117 r0 16 = 0 := wq_u_s e1118
      refine wp_of e169 c169_48 (rw_aload_n (pc' := 49) (v := .ref r0) rfl rfl rfl ?_)
      have k1122 : wKI H1117 r0 = wKI H r0 := ((wKI_fr w1114 g0 ((wfr.rf (l := [(42, 16)])).put' e1118 g0 rfl) rfl).trans ((wKI_fr w1109 g0 ((wfr.rf (l := [(42, 13)])).put' e1113 g0 rfl) rfl).trans ((wKI_fr w1104 g0 ((wfr.rf (l := [(42, 8)])).put' e1108 g0 rfl) rfl).trans ((wKI_fr w1099 g0 ((wfr.rf (l := [(42, 6)])).put' e1103 g0 rfl) rfl).trans ((wKI_fr w1070 g0 ((wfr.rf (l := [(42, 7)])).put' e1098 g0 rfl) rfl).trans (wKI_fr hW g0 ((wfr.rf (l := [(42, 0)])).put' e1069 g0 rfl) rfl))))))
      have k1123 : H1117 r0 6 = H1102 r0 6 := ((wq_u_j e1118 rfl).trans ((wq_u_j e1113 rfl).trans (wq_u_j e1108 rfl)))
      have k1124 : H1117 r0 8 = H1107 r0 8 := ((wq_u_j e1118 rfl).trans (wq_u_j e1113 rfl))
      have k1125 : H1117 r0 7 = H1097 r0 7 := ((wq_u_j e1118 rfl).trans ((wq_u_j e1113 rfl).trans ((wq_u_j e1108 rfl).trans (wq_u_j e1103 rfl))))
      have k1126 : H1117 r0 13 = H1112 r0 13 := (wq_u_j e1118 rfl)
      have k1127 : H1117 r0 3 = H r0 3 := ((wq_u_j e1118 rfl).trans ((wq_u_j e1113 rfl).trans ((wq_u_j e1108 rfl).trans ((wq_u_j e1103 rfl).trans ((wq_u_j e1098 rfl).trans (wq_u_j e1069 rfl))))))
      have h1128 : TM T H1117 rb B := (TM_fr w1114 grb ((wfr.rf (l := [(42, 16)])).put' e1118 g0 rfl) rfl (TM_fr w1109 grb ((wfr.rf (l := [(42, 13)])).put' e1113 g0 rfl) rfl (TM_fr w1104 grb ((wfr.rf (l := [(42, 8)])).put' e1108 g0 rfl) rfl (TM_fr w1099 grb ((wfr.rf (l := [(42, 6)])).put' e1103 g0 rfl) rfl (TM_fr w1070 grb ((wfr.rf (l := [(42, 7)])).put' e1098 g0 rfl) rfl (TM_fr hW grb ((wfr.rf (l := [(42, 0)])).put' e1069 g0 rfl) rfl hTM_rb))))))
      have k1129 : H1117 r0 5 = H r0 5 := ((wq_u_j e1118 rfl).trans ((wq_u_j e1113 rfl).trans ((wq_u_j e1108 rfl).trans ((wq_u_j e1103 rfl).trans ((wq_u_j e1098 rfl).trans (wq_u_j e1069 rfl))))))
      have q1130 : H1117 r0 5 = (rb : Int) := k1129.trans qrb
      refine wp_of e169 c169_49 (rw_new10 (pc' := 52) (e := _) rfl rfl rfl (fun hfr => ?_))
      refine wp_of e169 c169_52 (rw_dup (pc' := 53) rfl rfl ?_)
      refine wp_of e169 c169_53 (rw_calI (pc' := 56) (nn := 27) (as := []) (st := [.ref (256 + T.2.1), .ref r0]) lm_9_333 rfl rfl (Nat.le_of_ble_eq_true rfl) (by omega) (if_pos rfl) rfl (((u_171 w1119 hfr).deep (by decide)).imp (fun R9 T9 H9 p9 => ?_)))
      obtain ⟨⟨w9, m9, g9, o9, pi9, n9, z9, e9⟩, dm9⟩ := p9
      subst e9
      show wp _ _ 169 56 [(0, .ref r0), (1, vI a1)] [.ref (256 + T.2.1), .ref r0] T9 H9 _
      have hb : ∀ a t, T.2.2.2 a = some t → a < 256 + T.2.1 := fun a t h => by
        by_cases q : a < 256 + T.2.1
        · exact q
        · have h1 := (hW.2 a t h).1
          rw [hfr a (by omega)] at h1
          cases h1
      have k9 : H9 r0 = H1117 r0 := o9 r0 (hb _ _ g0)
      have k96 : H9 r0 6 = H1117 r0 6 := congrFun k9 6
      have k98 : H9 r0 8 = H1117 r0 8 := congrFun k9 8
      have k93 : H9 r0 3 = H1117 r0 3 := congrFun k9 3
      have k97 : H9 r0 7 = H1117 r0 7 := congrFun k9 7
      have k913 : H9 r0 13 = H1117 r0 13 := congrFun k9 13
      have k916 : H9 r0 16 = H1117 r0 16 := congrFun k9 16
      have k95 : H9 r0 5 = H1117 r0 5 := congrFun k9 5
      have kki : wKI H9 r0 = wKI H1117 r0 := wKI_old w1119 g0 (fun a t h => o9 a (hb a t h))
      have hne : H9 r0 3 ≠ ((256 + T.2.1 : Nat) : Int) := by
        rcases w1119.opt g0 (t' := 54) (n := 33) (j := 3) (p := 0) (q := 0) rfl (by decide) rfl with h5 | ⟨pp, h5, h6⟩
        · omega
        · have := hb pp _ h6
          omega
      have tm9 : TM T9 H9 rb B := fun j hj => by
        rw [o9 rb (hb _ _ grb)]
        exact h1128 j hj
      refine (u_169_c (B := B) w9 (m9 _ _ g0) ⟨by omega, by omega⟩ g9 (k95.trans q1130) (m9 _ _ grb) (by omega) hne (by omega) (by omega) (by omega) tm9 (dm9 r0 g0 (by omega))).imp (fun r T2 H2 q => ?_)
      obtain ⟨eT, w2, f2, z2, er, bz, pa⟩ := q
      subst eT
      subst er
      have fr9 : wfr [(54, 0), (54, 1), (54, 2), (54, 3), (54, 4), (54, 5), (54, 6), (54, 7), (54, 8), (42, 0), (42, 1), (42, 2), (42, 3), (42, 4), (42, 6), (42, 7), (42, 8), (42, 9), (42, 10), (42, 11), (42, 12), (42, 13), (42, 14), (42, 15), (42, 16), (42, 17), (42, 18), (42, 19), (42, 28), (42, 32), (48, 999), (49, 999), (46, 999), (47, 999), (50, 999), (45, 999), (44, 999), (64, 999), (65, 999), (56, 999), (57, 999), (66, 999), (60, 999), (63, 999), (58, 999), (59, 999), (55, 999), (61, 999), (62, 999), (72, 999), (71, 999), (67, 999), (68, 999), (69, 999)] T H H2 := fun a j t ht hm => (f2 a j t (m9 _ _ ht) (wsub_of (l := [(54, 0), (54, 1), (54, 2), (54, 3), (54, 4), (54, 5), (54, 6), (54, 7), (54, 8), (42, 1), (42, 2), (42, 3), (42, 4), (42, 8), (42, 9), (42, 10), (42, 11), (42, 12), (42, 13), (42, 14), (42, 15), (42, 16), (42, 17), (42, 18), (42, 19), (42, 28), (42, 32), (48, 999), (49, 999), (46, 999), (47, 999), (50, 999), (45, 999), (44, 999), (64, 999), (65, 999), (56, 999), (57, 999), (66, 999), (60, 999), (63, 999), (58, 999), (59, 999), (55, 999), (61, 999), (62, 999), (72, 999), (71, 999), (67, 999), (68, 999), (69, 999)]) (l' := [(54, 0), (54, 1), (54, 2), (54, 3), (54, 4), (54, 5), (54, 6), (54, 7), (54, 8), (42, 0), (42, 1), (42, 2), (42, 3), (42, 4), (42, 6), (42, 7), (42, 8), (42, 9), (42, 10), (42, 11), (42, 12), (42, 13), (42, 14), (42, 15), (42, 16), (42, 17), (42, 18), (42, 19), (42, 28), (42, 32), (48, 999), (49, 999), (46, 999), (47, 999), (50, 999), (45, 999), (44, 999), (64, 999), (65, 999), (56, 999), (57, 999), (66, 999), (60, 999), (63, 999), (58, 999), (59, 999), (55, 999), (61, 999), (62, 999), (72, 999), (71, 999), (67, 999), (68, 999), (69, 999)]) rfl hm)).trans ((congrFun (o9 a (hb a t ht)) j).trans (f1120 a j t ht hm))
      rcases pa with ⟨y0, y1, y2, y3, y4, y5, y6, y7⟩ | ⟨y0, y1, y2, y3, y4, y5, y6, y7, y8⟩
      · exact ⟨m9, by omega, by omega, w2, fr9, z2, rfl, bz, Or.inr (Or.inl ⟨by omega, by omega, by omega, by omega, by omega, by omega, by omega, by omega, by omega⟩)⟩
      · exact ⟨m9, by omega, by omega, w2, fr9, z2, rfl, bz, Or.inr (Or.inr ⟨by omega, by omega, by omega, by omega, by omega, by omega, by omega, by omega, by omega, by omega⟩)⟩
    · refine wp_of e169 c169_17 (rw_aload_n (pc' := 18) (v := .ref r0) rfl rfl rfl ?_)
      refine wp_of e169 c169_18 (rw_iconst (pc' := 19) rfl ?_)
      refine wp_of e169 c169_19 (xc_V (pc' := 22) (r := r0) (as := [vI 2]) (st := []) (lm_9_54) rfl rfl (Nat.le_of_ble_eq_true rfl) w1070 g0 sh_42 (by decide) rfl (by decide) (u_170  w1070 g0 ⟨by omega, by omega⟩) (fun R1131 T1132 H1133 p1134 => ?_))
      obtain ⟨e1135, w1137, f1138, z1139, e1136, b1140, p1141⟩ := p1134
      subst e1135
      subst e1136
      obtain ⟨a1142, a1143, a1144⟩ := p1141
      have f1145 := f1071.tr f1138 rfl
      show wp _ _ 169 22 [(0, .ref r0), (1, vI a1)] [vI z1139] _ H1133 _
      have k1146 : wKI H1133 r0 = wKI H r0 := ((wKI_fr w1070 g0 f1138 rfl).trans (wKI_fr hW g0 ((wfr.rf (l := [(42, 0)])).put' e1069 g0 rfl) rfl))
      have k1147 : H1133 r0 6 = H1068 r0 6 := (f1138 r0 6 _ g0 rfl)
      have k1148 : H1133 r0 13 = H r0 13 := ((f1138 r0 13 _ g0 rfl).trans (wq_u_j e1069 rfl))
      have k1149 : H1133 r0 3 = H r0 3 := ((f1138 r0 3 _ g0 rfl).trans (wq_u_j e1069 rfl))
      exact wp_ireturn e169 c169_22 rfl ⟨fun _ _ h => h, by omega, by omega, w1137, f1145, z1139, rfl, ⟨by omega, by omega⟩, (Or.inl ⟨by omega, by omega, by omega, by omega, by omega, by omega, by omega, by omega⟩)⟩
/-! StrikeAwakeModel.denied(I)Z  -/
abbrev uq_223 (r0 : Nat) (a1 : Int) (T : wq_T) (H : wq_H) : Option Value → wq_T → wq_H → Prop := fun r T' H' => T = T' ∧ WT T H' ∧ wfr [(42, 1), (42, 2)] T H H' ∧ ∃ z : Int, some (vI z) = r ∧ (0 ≤ z ∧ z ≤ 1) ∧ (((z = 0) ∧ (H' r0 1 = a1) ∧ (H' r0 2 = -1)))
set_option maxHeartbeats 4000000 in
theorem u_223 {kt : Nat → Option mc_E} {T : wq_T} {H : wq_H} {r0 : Nat} {a1 : Int} (hW : WT T H) (g0 : T.2.2.2 r0 = some 42) (i1 : (-2147483648) ≤ a1 ∧ a1 ≤ 2147483647) : wpc kt 2 223 [.ref r0, vI a1] T H (uq_223 r0 a1 T H) := by
  refine wp_enter e223 (Nat.le_of_ble_eq_true rfl) rfl ?_
  have f0 : wfr [(42, 1), (42, 2)] T H H := wfr.rf
  show wp _ _ 223 0 [(0, .ref r0), (1, vI a1)] [] _ H _
  refine wp_of e223 c223_0 (rw_aload_n (pc' := 1) (v := .ref r0) rfl rfl rfl ?_)
  refine wp_of e223 c223_1 (rw_iload_n (pc' := 2) (z := a1) rfl rfl ?_)
  refine wp_of e223 c223_2 (xc_V (pc' := 5) (r := r0) (as := [vI a1]) (st := []) (lm_9_54) rfl rfl (Nat.le_of_ble_eq_true rfl) hW g0 sh_42 (by decide) rfl (by decide) (u_170  hW g0 ⟨by omega, by omega⟩) (fun R1016 T1017 H1018 p1019 => ?_))
  obtain ⟨e1020, w1022, f1023, z1024, e1021, b1025, p1026⟩ := p1019
  subst e1020
  subst e1021
  obtain ⟨a1027, a1028, a1029⟩ := p1026
  have f1030 := f0.tr f1023 rfl
  show wp _ _ 223 5 [(0, .ref r0), (1, vI a1)] [vI z1024] _ H1018 _
  refine wp_of e223 c223_5 (rw_pop (pc' := 6) rfl rfl ?_)
  refine wp_of e223 c223_6 (rw_iconst (pc' := 7) rfl ?_)
  exact wp_zreturn e223 c223_7 rfl (by omega) ⟨rfl, w1022, f1030, 0, rfl, ⟨by omega, by omega⟩, ⟨by omega, by omega, by omega⟩⟩
/-! StrikeAwakeModel.granted()Z  -/
abbrev uq_224 (r0 : Nat) (T : wq_T) (H : wq_H) : Option Value → wq_T → wq_H → Prop := fun r T' H' => T = T' ∧ WT T H' ∧ wfr [(42, 1), (42, 2)] T H H' ∧ ∃ z : Int, some (vI z) = r ∧ (0 ≤ z ∧ z ≤ 1) ∧ (((z = 1) ∧ (H' r0 1 = 0) ∧ (H' r0 2 = -1)))
set_option maxHeartbeats 4000000 in
theorem u_224 {kt : Nat → Option mc_E} {T : wq_T} {H : wq_H} {r0 : Nat} (hW : WT T H) (g0 : T.2.2.2 r0 = some 42) : wpc kt 2 224 [.ref r0] T H (uq_224 r0 T H) := by
  refine wp_enter e224 (Nat.le_of_ble_eq_true rfl) rfl ?_
  have f0 : wfr [(42, 1), (42, 2)] T H H := wfr.rf
  show wp _ _ 224 0 [(0, .ref r0)] [] _ H _
  refine wp_of e224 c224_0 (rw_aload_n (pc' := 1) (v := .ref r0) rfl rfl rfl ?_)
  refine wp_of e224 c224_1 (rw_iconst (pc' := 2) rfl ?_)
  refine wp_of e224 c224_2 (xc_V (pc' := 5) (r := r0) (as := [vI 0]) (st := []) (lm_9_58) rfl rfl (Nat.le_of_ble_eq_true rfl) hW g0 sh_42 (by decide) rfl (by decide) (u_209  hW g0 ⟨by omega, by omega⟩) (fun R1016 T1017 H1018 p1019 => ?_))
  obtain ⟨e1020, w1022, f1023, z1024, e1021, b1025, p1026⟩ := p1019
  subst e1020
  subst e1021
  obtain ⟨a1027, a1028, a1029⟩ := p1026
  have f1030 := f0.tr f1023 rfl
  show wp _ _ 224 5 [(0, .ref r0)] [vI z1024] _ H1018 _
  refine wp_of e224 c224_5 (rw_pop (pc' := 6) rfl rfl ?_)
  refine wp_of e224 c224_6 (rw_iconst (pc' := 7) rfl ?_)
  exact wp_zreturn e224 c224_7 rfl (by omega) ⟨rfl, w1022, f1030, 1, rfl, ⟨by omega, by omega⟩, ⟨by omega, by omega, by omega⟩⟩
/-! StrikeAwakeModel.again()Z  -/
abbrev uq_290 (r0 : Nat) (T : wq_T) (H : wq_H) : Option Value → wq_T → wq_H → Prop := fun r T' H' => T = T' ∧ WT T H' ∧ wfr [(42, 0), (42, 1), (42, 2), (42, 32)] T H H' ∧ ∃ z : Int, some (vI z) = r ∧ (0 ≤ z ∧ z ≤ 1) ∧ (((z = 1) ∧ (H r0 3 ≠ -1)) ∨ ((z = 0) ∧ (H r0 3 = -1)))
set_option maxHeartbeats 4000000 in
theorem u_290 {kt : Nat → Option mc_E} {T : wq_T} {H : wq_H} {r0 : Nat} (hW : WT T H) (g0 : T.2.2.2 r0 = some 42) : wpc kt 3 290 [.ref r0] T H (uq_290 r0 T H) := by
  refine wp_enter e290 (Nat.le_of_ble_eq_true rfl) rfl ?_
  have f0 : wfr [(42, 0), (42, 1), (42, 2), (42, 32)] T H H := wfr.rf
  show wp _ _ 290 0 [(0, .ref r0)] [] _ H _
  refine wp_of e290 c290_0 (rw_aload_n (pc' := 1) (v := .ref r0) rfl rfl rfl ?_)
  refine wp_of e290 c290_1 (rw_iconst (pc' := 2) rfl ?_)
  refine wp_of e290 c290_2 (xp_I (pc' := 5) lf_9_48 hW g0 sh_42 (by decide) (by decide) ty_42_0 rfl rfl (by omega) (by omega) ⟨by omega, by omega⟩ rfl (fun H1045 e1046 w1047 => ?_))
  have f1048 := f0.put' e1046 g0 rfl
  have k1049 : H1045 r0 0 = 0 := wq_u_s e1046
  refine wp_of e290 c290_5 (rw_aload_n (pc' := 6) (v := .ref r0) rfl rfl rfl ?_)
  have k1050 : H1045 r0 3 = H r0 3 := (wq_u_j e1046 rfl)
  refine wp_of e290 c290_6 (xg_O (pc' := 9) lf_9_337 w1047 g0 sh_42 (by decide) (by decide) ty_42_3 rfl rfl (fun q1052 => ?_) (fun r1051 q1052 g1053 => ?_))
  · refine wp_of e290 c290_9 (rw_ifnonnull_n (p1 := 18) (p2 := 12) (by decide) rfl ?_)
    refine wp_of e290 c290_12 (rw_aload_n (pc' := 13) (v := .ref r0) rfl rfl rfl ?_)
    refine wp_of e290 c290_13 (rw_iconst (pc' := 14) rfl ?_)
    refine wp_of e290 c290_14 (xc_V (pc' := 17) (r := r0) (as := [vI 1]) (st := []) (lm_9_400) rfl rfl (Nat.le_of_ble_eq_true rfl) w1047 g0 sh_42 (by decide) rfl (by decide) (u_223  w1047 g0 ⟨by omega, by omega⟩) (fun R1054 T1055 H1056 p1057 => ?_))
    obtain ⟨e1058, w1060, f1061, z1062, e1059, b1063, p1064⟩ := p1057
    subst e1058
    subst e1059
    obtain ⟨a1065, a1066, a1067⟩ := p1064
    have f1068 := f1048.tr f1061 rfl
    show wp _ _ 290 17 [(0, .ref r0)] [vI z1062] _ H1056 _
    have k1069 : H1056 r0 3 = H1045 r0 3 := (f1061 r0 3 _ g0 rfl)
    have q1070 : H1056 r0 3 = -1 := k1069.trans q1052
    exact wp_zreturn e290 c290_17 rfl (by omega) ⟨rfl, w1060, f1068, z1062, rfl, ⟨by omega, by omega⟩, (Or.inr ⟨by omega, by omega⟩)⟩
  · refine wp_of e290 c290_9 (rw_ifnonnull_r (p1 := 18) (p2 := 12) (by decide) rfl ?_)
    refine wp_of e290 c290_18 (rw_aload_n (pc' := 19) (v := .ref r0) rfl rfl rfl ?_)
    refine wp_of e290 c290_19 (rw_iconst (pc' := 20) rfl ?_)
    refine wp_of e290 c290_20 (xp_I (pc' := 23) lf_9_340 w1047 g0 sh_42 (by decide) (by decide) ty_42_32 rfl rfl (by omega) (by omega) ⟨by omega, by omega⟩ rfl (fun H1071 e1072 w1073 => ?_))
    have f1074 := f1048.put' e1072 g0 rfl
    have k1075 : H1071 r0 32 = 0 := wq_u_s e1072
    refine wp_of e290 c290_23 (rw_aload_n (pc' := 24) (v := .ref r0) rfl rfl rfl ?_)
    refine wp_of e290 c290_24 (xc_V (pc' := 27) (r := r0) (as := []) (st := []) (lm_9_403) rfl rfl (Nat.le_of_ble_eq_true rfl) w1073 g0 sh_42 (by decide) rfl (by decide) (u_224  w1073 g0) (fun R1076 T1077 H1078 p1079 => ?_))
    obtain ⟨e1080, w1082, f1083, z1084, e1081, b1085, p1086⟩ := p1079
    subst e1080
    subst e1081
    obtain ⟨a1087, a1088, a1089⟩ := p1086
    have f1090 := f1074.tr f1083 rfl
    show wp _ _ 290 27 [(0, .ref r0)] [vI z1084] _ H1078 _
    have k1091 : H1078 r0 3 = H1045 r0 3 := ((f1083 r0 3 _ g0 rfl).trans (wq_u_j e1072 rfl))
    have q1092 : H1078 r0 3 = (r1051 : Int) := k1091.trans q1052
    exact wp_zreturn e290 c290_27 rfl (by omega) ⟨rfl, w1082, f1090, z1084, rfl, ⟨by omega, by omega⟩, (Or.inl ⟨by omega, by omega⟩)⟩
