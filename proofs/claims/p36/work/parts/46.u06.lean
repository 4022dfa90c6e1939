/-! what methods do (own work, written by wip/gen3/sx3.py) -/
/-! StrikeAwakeModel.feed(IIIII)I  -/
abbrev uq_168 (r0 : Nat) (a1 : Int) (a2 : Int) (a3 : Int) (a4 : Int) (a5 : Int) (rb : Nat) (B : Nat → Int) (t : Int) (b1 : Int) (b2 : Int) (b3 : Int) (b4 : Int) (b5 : Int) (T : wq_T) (H : wq_H) : Option Value → wq_T → wq_H → Prop := fun r T' H' => T = T' ∧ WT T H' ∧ wfr [(42, 0), (42, 6), (43, 999)] T H H' ∧ ∃ z : Int, some (vI z) = r ∧ ((-2147483648) ≤ z ∧ z ≤ 2147483647) ∧ (((z = -1) ∧ (880 < t) ∧ (H' r0 6 = t) ∧ TM T H' rb B) ∨ ((0 ≤ z ∧ z ≤ 900) ∧ (t ≤ 880) ∧ (z = t + 20) ∧ (H' r0 6 = t + 20) ∧ TM T H' rb (xfk B t b1 b2 b3 b4 b5 20)))
set_option maxHeartbeats 4000000 in
theorem u_168 {kt : Nat → Option mc_E} {T : wq_T} {H : wq_H} {r0 : Nat} {a1 : Int} {a2 : Int} {a3 : Int} {a4 : Int} {a5 : Int} {rb : Nat} {B : Nat → Int} {t : Int} {b1 : Int} {b2 : Int} {b3 : Int} {b4 : Int} {b5 : Int} (hW : WT T H) (g0 : T.2.2.2 r0 = some 42) (i1 : (-2147483648) ≤ a1 ∧ a1 ≤ 2147483647) (i2 : (-2147483648) ≤ a2 ∧ a2 ≤ 2147483647) (i3 : (-2147483648) ≤ a3 ∧ a3 ≤ 2147483647) (i4 : (-2147483648) ≤ a4 ∧ a4 ≤ 2147483647) (i5 : (-2147483648) ≤ a5 ∧ a5 ≤ 2147483647) (qrb : H r0 5 = (rb : Int)) (grb : T.2.2.2 rb = some 43) (p0 : H r0 6 = t) (p1 : a1 = b1) (p2 : a2 = b2) (p3 : a3 = b3) (p4 : a4 = b4) (p5 : a5 = b5) (hTM_rb : TM T H rb B) : wpc kt 1 168 [.ref r0, vI a1, vI a2, vI a3, vI a4, vI a5] T H (uq_168 r0 a1 a2 a3 a4 a5 rb B t b1 b2 b3 b4 b5 T H) := by
  refine wp_enter e168 (Nat.le_of_ble_eq_true rfl) rfl ?_
  have f0 : wfr [(42, 0), (42, 6), (43, 999)] T H H := wfr.rf
  show wp _ _ 168 0 [(0, .ref r0), (1, vI a1), (2, vI a2), (3, vI a3), (4, vI a4), (5, vI a5)] [] _ H _
  have b1311 : 0 ≤ H r0 6 ∧ H r0 6 ≤ 900 := hW.box g0 (n := 33) rfl (by decide) rfl
  refine wp_of e168 c168_0 (rw_aload_n (pc' := 1) (v := .ref r0) rfl rfl rfl ?_)
  refine wp_of e168 c168_1 (rw_iconst (pc' := 2) rfl ?_)
  refine wp_of e168 c168_2 (xp_I (pc' := 5) lf_9_48 hW g0 sh_42 (by decide) (by decide) ty_42_0 rfl rfl (by decide) (by decide) ⟨by decide, by decide⟩ rfl (fun H1312 e1313 w1314 => ?_))
  have f1315 := f0.put' e1313 g0 rfl
  have k1316 : H1312 r0 0 = 0 := wq_u_s e1313
  refine wp_of e168 c168_5 (rw_aload_n (pc' := 6) (v := .ref r0) rfl rfl rfl ?_)
  have k1317 : H1312 r0 6 = H r0 6 := (wq_u_j e1313 rfl)
  refine wp_of e168 c168_6 (xg_I (pc' := 9) lf_9_330 w1314 g0 sh_42 (by decide) (by decide) ty_42_6 rfl rfl (fun b1318 b1319 => ?_))
  refine wp_of e168 c168_9 (rw_bipush (pc' := 11) (z := 20) rfl (by decide) ?_)
  refine wp_of e168 c168_11 (rw_iadd (pc' := 12) rfl ?_)
  refine wp_of e168 c168_12 (rw_sipush (pc' := 15) (z := 900) rfl (by decide) ?_)
  refine wp_of e168 c168_15 (rw_icmp_le (p1 := 20) (p2 := 18) (by decide) rfl ⟨by omega, by omega⟩ ⟨by decide, by decide⟩ (fun c1320 => ?_) (fun c1320 => ?_))
  · refine wp_of e168 c168_20 (rw_iconst (pc' := 21) rfl ?_)
    refine wp_of e168 c168_21 (rw_istore (pc' := 23) (z := 0) (L' := [(6, vI 0), (0, .ref r0), (1, vI a1), (2, vI a2), (3, vI a3), (4, vI a4), (5, vI a5)]) rfl rfl rfl ?_)
    have lp1582 : ∀ (n1583 : Nat) (v1585 : Int) (H1586 : wq_H) (ii1587 : Nat), WT T H1586 → wfr [(42, 6), (43, 999)] T H1312 H1586 → (0 ≤ v1585 ∧ v1585 ≤ 20) → TM T H1586 rb (xfk B t a1 a2 a3 a4 a5 ii1587) → (v1585 = (ii1587 : Int)) → (ii1587 ≤ 20) → (H1586 r0 6 = t + (ii1587 : Int)) → (20 - v1585).toNat = n1583 → wp kt 0 168 23 [(6, vI v1585), (0, .ref r0), (1, vI a1), (2, vI a2), (3, vI a3), (4, vI a4), (5, vI a5)] [] T H1586 (uq_168 r0 a1 a2 a3 a4 a5 rb B t b1 b2 b3 b4 b5 T H) := by
      intro n1583
      induction n1583 using Nat.strongRecOn with
      | _ n1583 ih1584 =>
        intro v1585 H1586 ii1587 w1588 f1589 b1590 h1592 x1593 x1594 x1595 m1591
        have f1596 := f1315.tr f1589 rfl
        refine wp_of e168 c168_23 (rw_iload (pc' := 25) (z := v1585) rfl rfl ?_)
        refine wp_of e168 c168_25 (rw_bipush (pc' := 27) (z := 20) rfl (by decide) ?_)
        refine wp_of e168 c168_27 (rw_icmp_ge (p1 := 117) (p2 := 30) (by decide) rfl ⟨Int.le_trans (by decide) b1590.1, Int.le_trans b1590.2 (by decide)⟩ ⟨by decide, by decide⟩ (fun c1597 => ?_) (fun c1597 => ?_))
        · refine wp_of e168 c168_117 (rw_aload_n (pc' := 118) (v := .ref r0) rfl rfl rfl ?_)
          refine wp_of e168 c168_118 (xg_I (pc' := 121) lf_9_330 w1588 g0 sh_42 (by decide) (by decide) ty_42_6 rfl rfl (fun b1598 b1599 => ?_))
          exact wp_ireturn e168 c168_121 rfl ⟨rfl, w1588, f1596, H1586 r0 6, rfl, ⟨Int.le_trans (by decide) b1598, Int.le_trans b1599 (by decide)⟩, (Or.inr ⟨by omega, by omega, by omega, by omega, by
            rw [← p1, ← p2, ← p3, ← p4, ← p5]
            have e4 : ii1587 = 20 := by omega
            rw [← e4]
            exact h1592⟩)⟩
        · have jn1605 : ∀ (v1604 : Int), ((-2147483648) ≤ v1604 ∧ v1604 ≤ 2147483647) → (v1604 = xw5 a1 a2 a3 a4 a5 (ii1587 / 4)) → wp kt 0 168 78 [(7, vI v1604), (0, .ref r0), (1, vI a1), (2, vI a2), (3, vI a3), (4, vI a4), (5, vI a5), (6, vI v1585)] [] T H1586 (uq_168 r0 a1 a2 a3 a4 a5 rb B t b1 b2 b3 b4 b5 T H) := by
            intro v1604 b1608 x1609
            have _w := @xw5_e ii1587 a1 a2 a3 a4 a5
            refine wp_of e168 c168_78 (rw_aload_n (pc' := 79) (v := .ref r0) rfl rfl rfl ?_)
            have k1610 : H1586 r0 5 = H r0 5 := ((f1589 r0 5 _ g0 rfl).trans (wq_u_j e1313 rfl))
            have q1611 : H1586 r0 5 = (rb : Int) := k1610.trans qrb
            refine wp_of e168 c168_79 (xg_K (pc' := 82) lf_9_13 w1588 g0 sh_42 (by decide) (by decide) rfl q1611 rfl ?_)
            refine wp_of e168 c168_82 (rw_aload_n (pc' := 83) (v := .ref r0) rfl rfl rfl ?_)
            refine wp_of e168 c168_83 (xg_I (pc' := 86) lf_9_330 w1588 g0 sh_42 (by decide) (by decide) ty_42_6 rfl rfl (fun b1612 b1613 => ?_))
            refine wp_of e168 c168_86 (rw_iload (pc' := 88) (z := v1604) rfl rfl ?_)
            refine wp_of e168 c168_88 (rw_bipush (pc' := 90) (z := 24) rfl (by decide) ?_)
            refine wp_of e168 c168_90 (rw_bipush (pc' := 92) (z := 8) rfl (by decide) ?_)
            refine wp_of e168 c168_92 (rw_iload (pc' := 94) (z := v1585) rfl rfl ?_)
            refine wp_of e168 c168_94 (rw_iconst (pc' := 95) rfl ?_)
            refine wp_of e168 c168_95 (rw_irem (pc' := 96) rfl ⟨by omega, by omega⟩ (by omega) ?_)
            obtain ⟨v1614, e1615⟩ : ∃ x : Int, x = wq_rem v1585 4 := ⟨_, rfl⟩
            rw [← e1615]
            have b1616 : v1614 = v1585 % 4 := by
              rw [e1615]
              exact wq_rem_e ⟨by omega, by omega⟩ ⟨by omega, by omega⟩
            refine wp_of e168 c168_96 (rw_imul (pc' := 97) rfl ?_)
            refine wp_of e168 c168_97 (rw_isub (pc' := 98) rfl ?_)
            refine wp_of e168 c168_98 (rw_ishr (pc' := 99) rfl ?_)
            obtain ⟨v1617, e1618⟩ : ∃ x : Int, x = wq_shr v1604 (24 - (8 * v1614)) := ⟨_, rfl⟩
            rw [← e1618]
            have b1619 : -2147483648 ≤ v1617 ∧ v1617 ≤ 2147483647 := by
              rw [e1618]
              exact wI_shr _ _
            refine wp_of e168 c168_99 (rw_i2b (pc' := 100) rfl ?_)
            obtain ⟨v1620, e1621⟩ : ∃ x : Int, x = wq_i2b v1617 := ⟨_, rfl⟩
            rw [← e1621]
            have b1622 : -128 ≤ v1620 ∧ v1620 ≤ 127 := by
              rw [e1621]
              exact wq_i2b_b _
            have o1623 : v1620 = wq_i2b (wq_shr v1604 (24 - (8 * v1614))) := by
              subst_vars
              rfl
            refine wp_of e168 c168_100 (xs_B (pc' := 101) w1588 grb (by decide) sh_43 (by decide) (ty_43 _) (b1622.1) (b1622.2) ⟨b1622.1, b1622.2⟩ (b1612) (by omega) rfl (fun H1624 e1625 w1626 => ?_))
            have f1627 := f1596.put' e1625 grb rfl
            have f1628 := f1589.put' e1625 grb rfl
            have h1629 : TM T H1624 rb (xfk B t a1 a2 a3 a4 a5 (ii1587 + 1)) := TM_fk h1592 e1625 (by omega) o1623 (by omega) (by omega)
            refine wp_of e168 c168_101 (rw_aload_n (pc' := 102) (v := .ref r0) rfl rfl rfl ?_)
            refine wp_of e168 c168_102 (rw_dup (pc' := 103) rfl rfl ?_)
            have k1630 : H1624 r0 6 = H1586 r0 6 := (wq_u_t e1625 grb g0 rfl 6)
            refine wp_of e168 c168_103 (xg_I (pc' := 106) lf_9_330 w1626 g0 sh_42 (by decide) (by decide) ty_42_6 rfl rfl (fun b1631 b1632 => ?_))
            refine wp_of e168 c168_106 (rw_iconst (pc' := 107) rfl ?_)
            refine wp_of e168 c168_107 (rw_iadd (pc' := 108) rfl ?_)
            refine wp_of e168 c168_108 (xp_I (pc' := 111) lf_9_330 w1626 g0 sh_42 (by decide) (by decide) ty_42_6 rfl rfl (by omega) (by omega) ⟨by omega, by omega⟩ rfl (fun H1633 e1634 w1635 => ?_))
            have f1636 := f1627.put' e1634 g0 rfl
            have f1637 := f1628.put' e1634 g0 rfl
            have k1638 : H1633 r0 6 = (H1624 r0 6) + 1 := wq_u_s e1634
            refine wp_of e168 c168_111 (rw_iinc (pc' := 114) (z := v1585) (L' := [(6, vI (v1585 + 1)), (7, vI v1604), (0, .ref r0), (1, vI a1), (2, vI a2), (3, vI a3), (4, vI a4), (5, vI a5)]) rfl rfl rfl rfl ?_)
            refine wp_of e168 c168_114 (rw_goto (p1 := 23) (by decide) ?_)
            have h1639 : TM T H1633 rb (xfk B t a1 a2 a3 a4 a5 (ii1587 + 1)) := (TM_fr w1626 grb ((wfr.rf (l := [(42, 6)])).put' e1634 g0 rfl) rfl h1629)
            exact wp_lc (ks := [6, 7, 0, 1, 2, 3, 4, 5]) (wl_c rfl (wl_c rfl (wl_c rfl (wl_c rfl (wl_c rfl (wl_c rfl (wl_c rfl wl_n))))))) rfl (by decide) (ih1584 _ (by omega) (v1585 + 1) H1633 ((ii1587 + 1)) w1635 f1637 ⟨by omega, by omega⟩ h1639 (by omega) (by omega) (by omega) rfl)
          refine wp_of e168 c168_30 (rw_iload (pc' := 32) (z := v1585) rfl rfl ?_)
          refine wp_of e168 c168_32 (rw_iconst (pc' := 33) rfl ?_)
          refine wp_of e168 c168_33 (rw_icmp_ge (p1 := 40) (p2 := 36) (by decide) rfl ⟨Int.le_trans (by decide) b1590.1, Int.le_trans b1590.2 (by decide)⟩ ⟨by decide, by decide⟩ (fun c1640 => ?_) (fun c1640 => ?_))
          · refine wp_of e168 c168_40 (rw_iload (pc' := 42) (z := v1585) rfl rfl ?_)
            refine wp_of e168 c168_42 (rw_bipush (pc' := 44) (z := 8) rfl (by decide) ?_)
            refine wp_of e168 c168_44 (rw_icmp_ge (p1 := 51) (p2 := 47) (by decide) rfl ⟨Int.le_trans (by decide) b1590.1, Int.le_trans b1590.2 (by decide)⟩ ⟨by decide, by decide⟩ (fun c1641 => ?_) (fun c1641 => ?_))
            · refine wp_of e168 c168_51 (rw_iload (pc' := 53) (z := v1585) rfl rfl ?_)
              refine wp_of e168 c168_53 (rw_bipush (pc' := 55) (z := 12) rfl (by decide) ?_)
              refine wp_of e168 c168_55 (rw_icmp_ge (p1 := 62) (p2 := 58) (by decide) rfl ⟨Int.le_trans (by decide) b1590.1, Int.le_trans b1590.2 (by decide)⟩ ⟨by decide, by decide⟩ (fun c1642 => ?_) (fun c1642 => ?_))
              · refine wp_of e168 c168_62 (rw_iload (pc' := 64) (z := v1585) rfl rfl ?_)
                refine wp_of e168 c168_64 (rw_bipush (pc' := 66) (z := 16) rfl (by decide) ?_)
                refine wp_of e168 c168_66 (rw_icmp_ge (p1 := 74) (p2 := 69) (by decide) rfl ⟨Int.le_trans (by decide) b1590.1, Int.le_trans b1590.2 (by decide)⟩ ⟨by decide, by decide⟩ (fun c1643 => ?_) (fun c1643 => ?_))
                · refine wp_of e168 c168_74 (rw_iload (pc' := 76) (z := a5) rfl rfl ?_)
                  refine wp_of e168 c168_76 (rw_istore (pc' := 78) (z := a5) (L' := [(7, vI a5), (6, vI v1585), (0, .ref r0), (1, vI a1), (2, vI a2), (3, vI a3), (4, vI a4), (5, vI a5)]) rfl rfl rfl ?_)
                  have _w := @xw5_e ii1587 a1 a2 a3 a4 a5
                  exact wp_lc (ks := [7, 6, 0, 1, 2, 3, 4, 5]) (wl_c rfl (wl_c rfl (wl_c rfl (wl_c rfl (wl_c rfl (wl_c rfl (wl_c rfl (wl_c rfl wl_n)))))))) rfl (by decide) (jn1605 a5 ⟨by omega, by omega⟩ (by omega))
                · refine wp_of e168 c168_69 (rw_iload (pc' := 71) (z := a4) rfl rfl ?_)
                  refine wp_of e168 c168_71 (rw_goto (p1 := 76) (by decide) ?_)
                  refine wp_of e168 c168_76 (rw_istore (pc' := 78) (z := a4) (L' := [(7, vI a4), (6, vI v1585), (0, .ref r0), (1, vI a1), (2, vI a2), (3, vI a3), (4, vI a4), (5, vI a5)]) rfl rfl rfl ?_)
                  have _w := @xw5_e ii1587 a1 a2 a3 a4 a5
                  exact wp_lc (ks := [7, 6, 0, 1, 2, 3, 4, 5]) (wl_c rfl (wl_c rfl (wl_c rfl (wl_c rfl (wl_c rfl (wl_c rfl (wl_c rfl (wl_c rfl wl_n)))))))) rfl (by decide) (jn1605 a4 ⟨by omega, by omega⟩ (by omega))
              · refine wp_of e168 c168_58 (rw_iload_n (pc' := 59) (z := a3) rfl rfl ?_)
                refine wp_of e168 c168_59 (rw_goto (p1 := 76) (by decide) ?_)
                refine wp_of e168 c168_76 (rw_istore (pc' := 78) (z := a3) (L' := [(7, vI a3), (6, vI v1585), (0, .ref r0), (1, vI a1), (2, vI a2), (3, vI a3), (4, vI a4), (5, vI a5)]) rfl rfl rfl ?_)
                have _w := @xw5_e ii1587 a1 a2 a3 a4 a5
                exact wp_lc (ks := [7, 6, 0, 1, 2, 3, 4, 5]) (wl_c rfl (wl_c rfl (wl_c rfl (wl_c rfl (wl_c rfl (wl_c rfl (wl_c rfl (wl_c rfl wl_n)))))))) rfl (by decide) (jn1605 a3 ⟨by omega, by omega⟩ (by omega))
            · refine wp_of e168 c168_47 (rw_iload_n (pc' := 48) (z := a2) rfl rfl ?_)
              refine wp_of e168 c168_48 (rw_goto (p1 := 76) (by decide) ?_)
              refine wp_of e168 c168_76 (rw_istore (pc' := 78) (z := a2) (L' := [(7, vI a2), (6, vI v1585), (0, .ref r0), (1, vI a1), (2, vI a2), (3, vI a3), (4, vI a4), (5, vI a5)]) rfl rfl rfl ?_)
              have _w := @xw5_e ii1587 a1 a2 a3 a4 a5
              exact wp_lc (ks := [7, 6, 0, 1, 2, 3, 4, 5]) (wl_c rfl (wl_c rfl (wl_c rfl (wl_c rfl (wl_c rfl (wl_c rfl (wl_c rfl (wl_c rfl wl_n)))))))) rfl (by decide) (jn1605 a2 ⟨by omega, by omega⟩ (by omega))
          · refine wp_of e168 c168_36 (rw_iload_n (pc' := 37) (z := a1) rfl rfl ?_)
            refine wp_of e168 c168_37 (rw_goto (p1 := 76) (by decide) ?_)
            refine wp_of e168 c168_76 (rw_istore (pc' := 78) (z := a1) (L' := [(7, vI a1), (6, vI v1585), (0, .ref r0), (1, vI a1), (2, vI a2), (3, vI a3), (4, vI a4), (5, vI a5)]) rfl rfl rfl ?_)
            have _w := @xw5_e ii1587 a1 a2 a3 a4 a5
            exact wp_lc (ks := [7, 6, 0, 1, 2, 3, 4, 5]) (wl_c rfl (wl_c rfl (wl_c rfl (wl_c rfl (wl_c rfl (wl_c rfl (wl_c rfl (wl_c rfl wl_n)))))))) rfl (by decide) (jn1605 a1 ⟨by omega, by omega⟩ (by omega))
    have h1644 : TM T H1312 rb B := (TM_fr hW grb ((wfr.rf (l := [(42, 0)])).put' e1313 g0 rfl) rfl hTM_rb)
    have h1645 : TM T H1312 rb (xfk B t a1 a2 a3 a4 a5 0) := h1644
    exact wp_lc (ks := [6, 0, 1, 2, 3, 4, 5]) (wl_c rfl (wl_c rfl (wl_c rfl (wl_c rfl (wl_c rfl (wl_c rfl (wl_c rfl wl_n))))))) rfl (by decide) (lp1582 _ 0 H1312 0 w1314 wfr.rf ⟨by decide, by decide⟩ h1645 (by omega) (by omega) (by omega) rfl)
  · refine wp_of e168 c168_18 (rw_iconst (pc' := 19) rfl ?_)
    have h1646 : TM T H1312 rb B := (TM_fr hW grb ((wfr.rf (l := [(42, 0)])).put' e1313 g0 rfl) rfl hTM_rb)
    exact wp_ireturn e168 c168_19 rfl ⟨rfl, w1314, f1315, -1, rfl, ⟨by decide, by decide⟩, (Or.inl ⟨by omega, by omega, by omega, h1646⟩)⟩
/-! StrikeAwakeModel.refused(I)I  -/
abbrev uq_170 (r0 : Nat) (a1 : Int) (T : wq_T) (H : wq_H) : Option Value → wq_T → wq_H → Prop := fun r T' H' => T = T' ∧ WT T H' ∧ wfr [(42, 1), (42, 2)] T H H' ∧ ∃ z : Int, some (vI z) = r ∧ ((-2147483648) ≤ z ∧ z ≤ 2147483647) ∧ (((z = -1) ∧ (H' r0 1 = a1) ∧ (H' r0 2 = -1)))
set_option maxHeartbeats 4000000 in
theorem u_170 {kt : Nat → Option mc_E} {T : wq_T} {H : wq_H} {r0 : Nat} {a1 : Int} (hW : WT T H) (g0 : T.2.2.2 r0 = some 42) (i1 : (-2147483648) ≤ a1 ∧ a1 ≤ 2147483647) : wpc kt 1 170 [.ref r0, vI a1] T H (uq_170 r0 a1 T H) := by
  refine wp_enter e170 (Nat.le_of_ble_eq_true rfl) rfl ?_
  have f0 : wfr [(42, 1), (42, 2)] T H H := wfr.rf
  show wp _ _ 170 0 [(0, .ref r0), (1, vI a1)] [] _ H _
  refine wp_of e170 c170_0 (rw_aload_n (pc' := 1) (v := .ref r0) rfl rfl rfl ?_)
  refine wp_of e170 c170_1 (rw_iload_n (pc' := 2) (z := a1) rfl rfl ?_)
  refine wp_of e170 c170_2 (xp_I (pc' := 5) lf_9_51 hW g0 sh_42 (by decide) (by decide) ty_42_1 rfl rfl (i1.1) (i1.2) ⟨i1.1, i1.2⟩ rfl (fun H1011 e1012 w1013 => ?_))
  have f1014 := f0.put' e1012 g0 rfl
  have k1015 : H1011 r0 1 = a1 := wq_u_s e1012
  refine wp_of e170 c170_5 (rw_aload_n (pc' := 6) (v := .ref r0) rfl rfl rfl ?_)
  refine wp_of e170 c170_6 (rw_iconst (pc' := 7) rfl ?_)
  refine wp_of e170 c170_7 (xp_I (pc' := 10) lf_9_9 w1013 g0 sh_42 (by decide) (by decide) ty_42_2 rfl rfl (by decide) (by decide) ⟨by decide, by decide⟩ rfl (fun H1016 e1017 w1018 => ?_))
  have f1019 := f1014.put' e1017 g0 rfl
  have k1020 : H1016 r0 2 = -1 := wq_u_s e1017
  refine wp_of e170 c170_10 (rw_iconst (pc' := 11) rfl ?_)
  have k1021 : H1016 r0 1 = H1011 r0 1 := (wq_u_j e1017 rfl)
  exact wp_ireturn e170 c170_11 rfl ⟨rfl, w1018, f1019, -1, rfl, ⟨by decide, by decide⟩, ⟨by omega, by omega, by omega⟩⟩
/-! StrikeAwakeModel.done(I)I  -/
abbrev uq_209 (r0 : Nat) (a1 : Int) (T : wq_T) (H : wq_H) : Option Value → wq_T → wq_H → Prop := fun r T' H' => T = T' ∧ WT T H' ∧ wfr [(42, 1), (42, 2)] T H H' ∧ ∃ z : Int, some (vI z) = r ∧ ((-2147483648) ≤ z ∧ z ≤ 2147483647) ∧ (((z = a1) ∧ (H' r0 1 = 0) ∧ (H' r0 2 = -1)))
set_option maxHeartbeats 4000000 in
theorem u_209 {kt : Nat → Option mc_E} {T : wq_T} {H : wq_H} {r0 : Nat} {a1 : Int} (hW : WT T H) (g0 : T.2.2.2 r0 = some 42) (i1 : (-2147483648) ≤ a1 ∧ a1 ≤ 2147483647) : wpc kt 1 209 [.ref r0, vI a1] T H (uq_209 r0 a1 T H) := by
  refine wp_enter e209 (Nat.le_of_ble_eq_true rfl) rfl ?_
  have f0 : wfr [(42, 1), (42, 2)] T H H := wfr.rf
  show wp _ _ 209 0 [(0, .ref r0), (1, vI a1)] [] _ H _
  refine wp_of e209 c209_0 (rw_aload_n (pc' := 1) (v := .ref r0) rfl rfl rfl ?_)
  refine wp_of e209 c209_1 (rw_iconst (pc' := 2) rfl ?_)
  refine wp_of e209 c209_2 (xp_I (pc' := 5) lf_9_51 hW g0 sh_42 (by decide) (by decide) ty_42_1 rfl rfl (by decide) (by decide) ⟨by decide, by decide⟩ rfl (fun H1011 e1012 w1013 => ?_))
  have f1014 := f0.put' e1012 g0 rfl
  have k1015 : H1011 r0 1 = 0 := wq_u_s e1012
  refine wp_of e209 c209_5 (rw_aload_n (pc' := 6) (v := .ref r0) rfl rfl rfl ?_)
  refine wp_of e209 c209_6 (rw_iconst (pc' := 7) rfl ?_)
  refine wp_of e209 c209_7 (xp_I (pc' := 10) lf_9_9 w1013 g0 sh_42 (by decide) (by decide) ty_42_2 rfl rfl (by decide) (by decide) ⟨by decide, by decide⟩ rfl (fun H1016 e1017 w1018 => ?_))
  have f1019 := f1014.put' e1017 g0 rfl
  have k1020 : H1016 r0 2 = -1 := wq_u_s e1017
  refine wp_of e209 c209_10 (rw_iload_n (pc' := 11) (z := a1) rfl rfl ?_)
  have k1021 : H1016 r0 1 = H1011 r0 1 := (wq_u_j e1017 rfl)
  exact wp_ireturn e209 c209_11 rfl ⟨rfl, w1018, f1019, a1, rfl, ⟨i1.1, i1.2⟩, ⟨by omega, by omega, by omega⟩⟩
/-! StrikeAwakeModel.parish(I)I c -/
abbrev uq_169_c (r0 : Nat) (a1 : Int) (rp : Nat) (rb : Nat) (B : Nat → Int) (N0 : Nat) (H0 : wq_H) (T : wq_T) (H : wq_H) : Option Value → wq_T → wq_H → Prop := fun r T' H' => T = T' ∧ WT T H' ∧ wfr [(54, 0), (54, 1), (54, 2), (54, 3), (54, 4), (54, 5), (54, 6), (54, 7), (54, 8), (42, 1), (42, 2), (42, 3), (42, 4), (42, 8), (42, 9), (42, 10), (42, 11), (42, 12), (42, 13), (42, 14), (42, 15), (42, 16), (42, 17), (42, 18), (42, 19), (42, 28), (42, 32), (48, 999), (49, 999), (46, 999), (47, 999), (50, 999), (45, 999), (44, 999), (64, 999), (65, 999), (56, 999), (57, 999), (66, 999), (60, 999), (63, 999), (58, 999), (59, 999), (55, 999), (61, 999), (62, 999), (72, 999), (71, 999), (67, 999), (68, 999), (69, 999)] T H H' ∧ ∃ z : Int, some (vI z) = r ∧ ((-2147483648) ≤ z ∧ z ≤ 2147483647) ∧ (((z = -1) ∧ ((xparse B a1).1.1 ≠ 0) ∧ (H' r0 1 = 4) ∧ (H' r0 2 = (xparse B a1).1.2.1) ∧ (H' r0 13 = (xparse B a1).1.1) ∧ (wKI H' r0 = 1) ∧ (H' r0 6 = H r0 6) ∧ (H' r0 3 = H r0 3) ∧ (∀ a t, T.2.2.2 a = some t → 54 ≤ t → t ≤ 72 → a < N0 → H' a = H0 a) ∧ ML T H' r0 H) ∨ ((0 ≤ z ∧ z ≤ 6) ∧ ((xparse B a1).1.1 = 0) ∧ (z = (xparse B a1).2 0 3) ∧ (H' r0 1 = 0) ∧ (H' r0 2 = -1) ∧ (H' r0 13 = 0) ∧ (wKI H' r0 = 1) ∧ (H' r0 6 = H r0 6) ∧ (H' r0 3 = (rp : Int)) ∧ (H' r0 28 = 0) ∧ RP T H' r0 rp (xset (xparse B a1).2) (xset (xparse B a1).2) ∧ RY T H' r0 ((xparse B a1).2 0 3) (fun _ => 0) 0))
set_option maxHeartbeats 4000000 in
theorem u_169_c {kt : Nat → Option mc_E} {T : wq_T} {H : wq_H} {r0 : Nat} {a1 : Int} {rp : Nat} {rb : Nat} {B : Nat → Int} {N0 : Nat} {H0 : wq_H} (hW : WT T H) (g0 : T.2.2.2 r0 = some 42) (i1 : 0 ≤ a1 ∧ a1 ≤ 900) (grp : T.2.2.2 rp = some 54) (qrb : H r0 5 = (rb : Int)) (grb : T.2.2.2 rb = some 43) (p0 : wKI H r0 = 1) (p1 : H r0 3 ≠ (rp : Int)) (p2 : H r0 8 = 0) (p3 : H r0 7 = a1) (p4 : H r0 13 = 0) (hTM_rb : TM T H rb B) (hDM_rp : DM T H rp r0 xD0) (hFZ_rp : FZ T H rp N0 H0) : wp kt 9 169 56 [(0, .ref r0), (1, vI a1)] [.ref rp, .ref r0] T H (uq_169_c r0 a1 rp rb B N0 H0 T H) := by
  have f0 : wfr [(54, 0), (54, 1), (54, 2), (54, 3), (54, 4), (54, 5), (54, 6), (54, 7), (54, 8), (42, 1), (42, 2), (42, 3), (42, 4), (42, 8), (42, 9), (42, 10), (42, 11), (42, 12), (42, 13), (42, 14), (42, 15), (42, 16), (42, 17), (42, 18), (42, 19), (42, 28), (42, 32), (48, 999), (49, 999), (46, 999), (47, 999), (50, 999), (45, 999), (44, 999), (64, 999), (65, 999), (56, 999), (57, 999), (66, 999), (60, 999), (63, 999), (58, 999), (59, 999), (55, 999), (61, 999), (62, 999), (72, 999), (71, 999), (67, 999), (68, 999), (69, 999)] T H H := wfr.rf
  show wp _ _ 169 56 [(0, .ref r0), (1, vI a1)] [.ref rp, .ref r0] _ H _
  have u1549 := DM_k hDM_rp
  have b1550 : 0 ≤ H r0 8 ∧ H r0 8 ≤ 900 := hW.box g0 (n := 33) rfl (by decide) rfl
  have b1551 : 0 ≤ H r0 6 ∧ H r0 6 ≤ 900 := hW.box g0 (n := 33) rfl (by decide) rfl
  have b1552 : 0 ≤ H r0 28 ∧ H r0 28 ≤ 1 := hW.box g0 (n := 33) rfl (by decide) rfl
  have b1553 : 0 ≤ H r0 29 ∧ H r0 29 ≤ 20000 := hW.box g0 (n := 33) rfl (by decide) rfl
  have b1554 : 0 ≤ H r0 7 ∧ H r0 7 ≤ 900 := hW.box g0 (n := 33) rfl (by decide) rfl
  have b1555 : (-2147483648) ≤ H r0 13 ∧ H r0 13 ≤ 2147483647 := hW.box g0 (n := 33) rfl (by decide) rfl
  have h1556 : ML T H r0 H := ML_0
  have hk := wKI_1.mp p0
  have hne := p1
  have _f1 : (xpf B a1 902 (xG 32 32 B a1 0) xD0).1.1 = (xparse B a1).1.1 := rfl
  have _f2 : (xpf B a1 902 (xG 32 32 B a1 0) xD0).1.2.1 = (xparse B a1).1.2.1 := rfl
  have _f3 : (xpf B a1 902 (xG 32 32 B a1 0) xD0).2 0 3 = (xparse B a1).2 0 3 := rfl
  refine wp_of e169 c169_56 (xp_R (pc' := 59) lf_9_166 hW g0 sh_42 (by decide) (by decide) rfl rfl (wok_3 ty_42_4 grp) rfl (fun H1557 e1558 w1559 => ?_))
  have f1560 := f0.put' e1558 g0 rfl
  have q1561 : H1557 r0 4 = (rp : Int) := wq_u_s e1558
  refine wp_of e169 c169_59 (rw_aload_n (pc' := 60) (v := .ref r0) rfl rfl rfl ?_)
  refine wp_of e169 c169_60 (rw_iconst (pc' := 61) rfl ?_)
  refine wp_of e169 c169_61 (xp_I (pc' := 64) lf_9_75 w1559 g0 sh_42 (by decide) (by decide) ty_42_9 rfl rfl (by decide) (by decide) ⟨by decide, by decide⟩ rfl (fun H1562 e1563 w1564 => ?_))
  have f1565 := f1560.put' e1563 g0 rfl
  have k1566 : H1562 r0 9 = 0 := wq_u_s e1563
  refine wp_of e169 c169_64 (rw_aload_n (pc' := 65) (v := .ref r0) rfl rfl rfl ?_)
  have k1567 : H1562 r0 5 = H r0 5 := ((wq_u_j e1563 rfl).trans (wq_u_j e1558 rfl))
  have q1568 : H1562 r0 5 = (rb : Int) := k1567.trans qrb
  have k1569 : H1562 r0 8 = H r0 8 := ((wq_u_j e1563 rfl).trans (wq_u_j e1558 rfl))
  have k1570 : H1562 r0 7 = H r0 7 := ((wq_u_j e1563 rfl).trans (wq_u_j e1558 rfl))
  have k1571 : H1562 r0 13 = H r0 13 := ((wq_u_j e1563 rfl).trans (wq_u_j e1558 rfl))
  have h1572 : TM T H1562 rb B := (TM_fr w1559 grb ((wfr.rf (l := [(42, 9)])).put' e1563 g0 rfl) rfl (TM_fr hW grb ((wfr.rf (l := [(42, 4)])).put' e1558 g0 rfl) rfl hTM_rb))
  refine wp_of e169 c169_65 (xc_V (pc' := 68) (r := r0) (as := []) (st := []) (lm_9_118) rfl rfl (Nat.le_of_ble_eq_true rfl) w1564 g0 sh_42 (by decide) rfl (by decide) (u_172_k (B := B) (n := a1) (a := 0) (q := (xG 32 32 B a1 0)) w1564 g0 q1568 grb (by omega) (by omega) (by omega) (by omega) (by omega) (rfl) h1572) (fun R1573 T1574 H1575 p1576 => ?_))
  obtain ⟨e1577, w1579, f1580, e1578, p1581⟩ := p1576
  subst e1577
  subst e1578
  have f1583 := f1565.tr f1580 rfl
  show wp _ _ 169 68 [(0, .ref r0), (1, vI a1)] [] _ H1575 _
  have u1584 := RC_k p1581
  refine wp_of e169 c169_68 (rw_aload_n (pc' := 69) (v := .ref r0) rfl rfl rfl ?_)
  have k1585 : H1575 r0 4 = H1557 r0 4 := ((f1580 r0 4 _ g0 rfl).trans (wq_u_j e1563 rfl))
  have q1586 : H1575 r0 4 = (rp : Int) := k1585.trans q1561
  have k1587 : H1575 r0 5 = H1562 r0 5 := (f1580 r0 5 _ g0 rfl)
  have q1588 : H1575 r0 5 = (rb : Int) := k1587.trans q1568
  have h1589 : DM T H1575 rp r0 xD0 := (DM_fr w1564 grp f1580 rfl (DM_fr w1559 grp ((wfr.rf (l := [(42, 9)])).put' e1563 g0 rfl) rfl (DM_fr hW grp ((wfr.rf (l := [(42, 4)])).put' e1558 g0 rfl) rfl hDM_rp)))
  have h1590 : FZ T H1575 rp N0 H0 := (FZ_fr w1564 grp f1580 rfl (FZ_fr w1559 grp ((wfr.rf (l := [(42, 9)])).put' e1563 g0 rfl) rfl (FZ_fr hW grp ((wfr.rf (l := [(42, 4)])).put' e1558 g0 rfl) rfl hFZ_rp)))
  refine wp_of e169 c169_69 (xc_V (pc' := 72) (r := r0) (as := []) (st := []) (lm_9_334) rfl rfl (Nat.le_of_ble_eq_true rfl) w1579 g0 sh_42 (by decide) rfl (by decide) (u_176_k (B := B) (n := a1) (q := ((xG 32 32 B a1 0))) (d := xD0) (f := 902) (N0 := N0) (H0 := H0) w1579 g0 q1586 grp q1588 grb (by omega) p1581 h1589 h1590) (fun R1591 T1592 H1593 p1594 => ?_))
  obtain ⟨e1595, w1597, f1598, e1596, p1599⟩ := p1594
  subst e1595
  subst e1596
  rcases p1599 with ⟨a1600, a1601, a1602, a1603, a1604⟩ | ⟨a1605, a1606, a1607, a1608⟩
  · have f1609 := f1583.tr f1598 rfl
    show wp _ _ 169 72 [(0, .ref r0), (1, vI a1)] [] _ H1593 _
    have u1610 := DM_k a1603
    refine wp_of e169 c169_72 (rw_aload_n (pc' := 73) (v := .ref r0) rfl rfl rfl ?_)
    refine wp_of e169 c169_73 (xg_I (pc' := 76) lf_9_104 w1597 g0 sh_42 (by decide) (by decide) ty_42_13 rfl rfl (fun b1611 b1612 => ?_))
    refine wp_of e169 c169_76 (rw_if_le (p1 := 94) (p2 := 79) (by decide) rfl ⟨b1611, b1612⟩ (fun c1613 => ?_) (fun c1613 => ?_))
    · refine wp_of e169 c169_94 (rw_aload_n (pc' := 95) (v := .ref r0) rfl rfl rfl ?_)
      refine wp_of e169 c169_95 (rw_aload_n (pc' := 96) (v := .ref r0) rfl rfl rfl ?_)
      have k1614 : H1593 r0 4 = H1575 r0 4 := (f1598 r0 4 _ g0 rfl)
      have q1615 : H1593 r0 4 = (rp : Int) := k1614.trans q1586
      refine wp_of e169 c169_96 (xg_K (pc' := 99) lf_9_166 w1597 g0 sh_42 (by decide) (by decide) rfl q1615 rfl ?_)
      refine wp_of e169 c169_99 (xp_R (pc' := 102) lf_9_337 w1597 g0 sh_42 (by decide) (by decide) rfl rfl (wok_3 ty_42_3 grp) rfl (fun H1616 e1617 w1618 => ?_))
      have f1619 := f1609.put' e1617 g0 rfl
      have q1620 : H1616 r0 3 = (rp : Int) := wq_u_s e1617
      refine wp_of e169 c169_102 (rw_aload_n (pc' := 103) (v := .ref r0) rfl rfl rfl ?_)
      refine wp_of e169 c169_103 (rw_iconst (pc' := 104) rfl ?_)
      refine wp_of e169 c169_104 (xp_I (pc' := 107) lf_9_340 w1618 g0 sh_42 (by decide) (by decide) ty_42_32 rfl rfl (by decide) (by decide) ⟨by decide, by decide⟩ rfl (fun H1621 e1622 w1623 => ?_))
      have f1624 := f1619.put' e1622 g0 rfl
      have k1625 : H1621 r0 32 = 0 := wq_u_s e1622
      refine wp_of e169 c169_107 (rw_aload_n (pc' := 108) (v := .ref r0) rfl rfl rfl ?_)
      refine wp_of e169 c169_108 (rw_iconst (pc' := 109) rfl ?_)
      refine wp_of e169 c169_109 (rw_aload_n (pc' := 110) (v := .ref r0) rfl rfl rfl ?_)
      have k1626 : H1621 r0 3 = H1616 r0 3 := (wq_u_j e1622 rfl)
      have q1627 : H1621 r0 3 = (rp : Int) := k1626.trans q1620
      refine wp_of e169 c169_110 (xg_K (pc' := 113) lf_9_337 w1623 g0 sh_42 (by decide) (by decide) rfl q1627 rfl ?_)
      have k1628 : H1621 rp 0 = H1593 rp 0 := ((wq_u_t e1622 g0 grp rfl 0).trans (wq_u_t e1617 g0 grp rfl 0))
      refine wp_of e169 c169_113 (xg_I (pc' := 116) lf_9_185 w1623 grp sh_54 (by decide) (by decide) ty_54_0 rfl rfl (fun b1629 b1630 => ?_))
      refine wp_of e169 c169_116 (rw_ishl (pc' := 117) rfl ?_)
      obtain ⟨v1631, e1632⟩ : ∃ x : Int, x = wq_shl 1 (H1621 rp 0) := ⟨_, rfl⟩
      rw [← e1632]
      have b1633 : -2147483648 ≤ v1631 ∧ v1631 ≤ 2147483647 := by
        rw [e1632]
        exact wI_shl _ _
      refine wp_of e169 c169_117 (rw_iconst (pc' := 118) rfl ?_)
      refine wp_of e169 c169_118 (rw_isubw (pc' := 119) rfl ?_)
      obtain ⟨v1634, e1635⟩ : ∃ x : Int, x = wq_w (v1631 - 1) := ⟨_, rfl⟩
      rw [← e1635]
      have b1636 : -2147483648 ≤ v1634 ∧ v1634 ≤ 2147483647 := by
        rw [e1635]
        exact wI_w _
      have b1637 : (-2147483648 ≤ v1631 - 1 ∧ v1631 - 1 ≤ 2147483647) → v1634 = v1631 - 1 := fun h => by rw [e1635]; exact wq_w_id h
      have h1638 : DM T H1621 rp r0 ((xpf B a1 902 ((xG 32 32 B a1 0)) xD0).2) := (DM_fr w1618 grp ((wfr.rf (l := [(42, 32)])).put' e1622 g0 rfl) rfl (DM_fr w1597 grp ((wfr.rf (l := [(42, 3)])).put' e1617 g0 rfl) rfl a1603))
      have _dm : MS H1621 rp r0 (xparse B a1).2 := (h1638).2.1
      unfold MS at _dm
      have _al : v1634 = xal (xparse B a1).2 := by
        unfold xal
        rw [e1635, e1632, show H1621 rp 0 = (xparse B a1).2 0 0 by omega]
        exact all_ok (by omega) (by omega)
      refine wp_of e169 c169_119 (xp_I (pc' := 122) lf_9_343 w1623 g0 sh_42 (by decide) (by decide) ty_42_19 rfl rfl (b1636.1) (b1636.2) ⟨b1636.1, b1636.2⟩ rfl (fun H1639 e1640 w1641 => ?_))
      have f1642 := f1624.put' e1640 g0 rfl
      have k1643 : H1639 r0 19 = v1634 := wq_u_s e1640
      have h1644 : DM T H1639 rp r0 ((xpf B a1 902 ((xG 32 32 B a1 0)) xD0).2) := (DM_fr w1623 grp ((wfr.rf (l := [(42, 19)])).put' e1640 g0 rfl) rfl h1638)
      have h1645 : MA21 T H1639 rp ((xparse B a1).2 13) := (h1644).2.2.2.2.2.2.2.2.2.2.2.2.2.2.2.1
      refine wp_of e169 c169_122 (rw_iconst (pc' := 123) rfl ?_)
      refine wp_of e169 c169_123 (rw_istore_n (pc' := 124) (z := 0) (L' := [(2, vI 0), (0, .ref r0), (1, vI a1)]) rfl rfl rfl ?_)
      have lp1950 : ∀ (n1951 : Nat) (v1953 : Int) (H1954 : wq_H), WT T H1954 → wfr [(44, 999)] T H1639 H1954 → (0 ≤ v1953 ∧ v1953 ≤ 24) → MN20 T H1954 r0 v1953 (xcu ((xparse B a1).2 13) ((xparse B a1).2 0 0) 24) → (24 - v1953).toNat = n1951 → wp kt 9 169 124 [(2, vI v1953), (0, .ref r0)] [] T H1954 (uq_169_c r0 a1 rp rb B N0 H0 T H) := by
        intro n1951
        induction n1951 using Nat.strongRecOn with
        | _ n1951 ih1952 =>
          intro v1953 H1954 w1955 f1956 b1957 h1959 m1958
          have f1960 := f1642.tr f1956 rfl
          refine wp_of e169 c169_124 (rw_iload_n (pc' := 125) (z := v1953) rfl rfl ?_)
          refine wp_of e169 c169_125 (rw_bipush (pc' := 127) (z := 24) rfl (by decide) ?_)
          refine wp_of e169 c169_127 (rw_icmp_ge (p1 := 166) (p2 := 130) (by decide) rfl ⟨Int.le_trans (by decide) b1957.1, Int.le_trans b1957.2 (by decide)⟩ ⟨by decide, by decide⟩ (fun c1961 => ?_) (fun c1961 => ?_))
          · have h1962 : MN20 T H1954 r0 24 (xset (xparse B a1).2 13) := DA_cg h1959 (by omega) rfl
            refine wp_of e169 c169_166 (rw_iconst (pc' := 167) rfl ?_)
            refine wp_of e169 c169_167 (rw_istore_n (pc' := 168) (z := 0) (L' := [(2, vI 0), (0, .ref r0)]) rfl rfl rfl ?_)
            have lp2019 : ∀ (n2020 : Nat) (v2022 : Int) (H2023 : wq_H), WT T H2023 → wfr [(50, 999)] T H1954 H2023 → (0 ≤ v2022 ∧ v2022 ≤ 6) → MN26 T H2023 r0 v2022 (fun _ => 0) → (6 - v2022).toNat = n2020 → wp kt 9 169 168 [(2, vI v2022), (0, .ref r0)] [] T H2023 (uq_169_c r0 a1 rp rb B N0 H0 T H) := by
              intro n2020
              induction n2020 using Nat.strongRecOn with
              | _ n2020 ih2021 =>
                intro v2022 H2023 w2024 f2025 b2026 h2028 m2027
                have f2029 := f1960.tr f2025 rfl
                refine wp_of e169 c169_168 (rw_iload_n (pc' := 169) (z := v2022) rfl rfl ?_)
                refine wp_of e169 c169_169 (rw_bipush (pc' := 171) (z := 6) rfl (by decide) ?_)
                refine wp_of e169 c169_171 (rw_icmp_ge (p1 := 187) (p2 := 174) (by decide) rfl ⟨Int.le_trans (by decide) b2026.1, Int.le_trans b2026.2 (by decide)⟩ ⟨by decide, by decide⟩ (fun c2030 => ?_) (fun c2030 => ?_))
                · have h2032 : DM T H2023 rp r0 ((xpf B a1 902 ((xG 32 32 B a1 0)) xD0).2) := (DM_fr w1955 grp f2025 rfl (DM_fr w1641 grp f1956 rfl h1644))
                  have k2031 : wPI H2023 rp = 1 := wPI_dm h2032
                  have _dm2 : MS H2023 rp r0 (xparse B a1).2 := (h2032).2.1
                  unfold MS at _dm2
                  have _b6 : (0 : Int) ≤ H2023 rp 3 ∧ H2023 rp 3 ≤ 6 := w2024.box grp (n := 27) rfl (by decide) rfl
                  have h2033 : DMQ T H2023 rp (xparse B a1).2 := DM_q h2032
                  have h2034 : MN26 T H2023 r0 ((xparse B a1).2 0 3) (fun _ => 0) := DA_le h2028 (by omega)
                  refine wp_of e169 c169_187 (rw_aload_n (pc' := 188) (v := .ref r0) rfl rfl rfl ?_)
                  have k2035 : H2023 r0 3 = H1621 r0 3 := ((f2025 r0 3 _ g0 rfl).trans ((f1956 r0 3 _ g0 rfl).trans (wq_u_j e1640 rfl)))
                  have q2036 : H2023 r0 3 = (rp : Int) := k2035.trans q1627
                  have k2037 : H2023 r0 19 = H1639 r0 19 := ((f2025 r0 19 _ g0 rfl).trans (f1956 r0 19 _ g0 rfl))
                  have k2038 : H2023 rp 3 = H1593 rp 3 := ((f2025 rp 3 _ grp rfl).trans ((f1956 rp 3 _ grp rfl).trans ((wq_u_t e1640 g0 grp rfl 3).trans ((wq_u_t e1622 g0 grp rfl 3).trans (wq_u_t e1617 g0 grp rfl 3)))))
                  have h2039 : MN20 T H2023 r0 24 (xset (xparse B a1).2 13) := (MN20_fr w1955 g0 f2025 rfl h1962)
                  refine wp_of e169 c169_188 (xc_V (pc' := 191) (r := r0) (as := []) (st := []) (lm_9_350) rfl rfl (Nat.le_of_ble_eq_true rfl) w2024 g0 sh_42 (by decide) rfl (by decide) (u_206 (dm := ((xparse B a1).2)) w2024 g0 q2036 grp (by omega) h2033 h2039) (fun R2040 T2041 H2042 p2043 => ?_))
                  obtain ⟨e2044, w2046, f2047, e2045, p2048⟩ := p2043
                  subst e2044
                  subst e2045
                  obtain ⟨a2049, a2050, a2051, a2052, a2053⟩ := p2048
                  have f2054 := f2029.tr f2047 rfl
                  show wp _ _ 169 191 [(2, vI v2022), (0, .ref r0)] [] _ H2042 _
                  refine wp_of e169 c169_191 (rw_aload_n (pc' := 192) (v := .ref r0) rfl rfl rfl ?_)
                  refine wp_of e169 c169_192 (rw_iconst (pc' := 193) rfl ?_)
                  refine wp_of e169 c169_193 (xp_Z (pc' := 196) lf_9_353 w2046 g0 sh_42 (by decide) (by decide) ty_42_28 rfl rfl (by decide) (by decide) rfl (fun H2055 e2056 w2057 => ?_))
                  have f2058 := f2054.put' e2056 g0 rfl
                  have k2059 : H2055 r0 28 = 0 := wq_u_s e2056
                  refine wp_of e169 c169_196 (rw_aload_n (pc' := 197) (v := .ref r0) rfl rfl rfl ?_)
                  refine wp_of e169 c169_197 (rw_aload_n (pc' := 198) (v := .ref r0) rfl rfl rfl ?_)
                  have k2060 : H2055 r0 3 = H2023 r0 3 := ((wq_u_j e2056 rfl).trans (f2047 r0 3 _ g0 rfl))
                  have q2061 : H2055 r0 3 = (rp : Int) := k2060.trans q2036
                  refine wp_of e169 c169_198 (xg_K (pc' := 201) lf_9_337 w2057 g0 sh_42 (by decide) (by decide) rfl q2061 rfl ?_)
                  have k2062 : H2055 rp 3 = H2023 rp 3 := ((wq_u_t e2056 g0 grp rfl 3).trans (f2047 rp 3 _ grp rfl))
                  refine wp_of e169 c169_201 (xg_I (pc' := 204) lf_9_188 w2057 grp sh_54 (by decide) (by decide) ty_54_3 rfl rfl (fun b2063 b2064 => ?_))
                  refine wp_of e169 c169_204 (xc_V (pc' := 207) (r := r0) (as := [vI (H2055 rp 3)]) (st := []) (lm_9_58) rfl rfl (Nat.le_of_ble_eq_true rfl) w2057 g0 sh_42 (by decide) rfl (by decide) (u_209  w2057 g0 ⟨Int.le_trans (by decide) b2063, Int.le_trans b2064 (by decide)⟩) (fun R2065 T2066 H2067 p2068 => ?_))
                  obtain ⟨e2069, w2071, f2072, z2073, e2070, b2074, p2075⟩ := p2068
                  subst e2069
                  subst e2070
                  obtain ⟨a2076, a2077, a2078⟩ := p2075
                  have f2079 := f2058.tr f2072 rfl
                  show wp _ _ 169 207 [(2, vI v2022), (0, .ref r0)] [vI z2073] _ H2067 _
                  have k2080 : H2067 r0 28 = H2055 r0 28 := (f2072 r0 28 _ g0 rfl)
                  have k2081 : H2067 r0 29 = H r0 29 := ((f2072 r0 29 _ g0 rfl).trans ((wq_u_j e2056 rfl).trans ((f2047 r0 29 _ g0 rfl).trans ((f2025 r0 29 _ g0 rfl).trans ((f1956 r0 29 _ g0 rfl).trans ((wq_u_j e1640 rfl).trans ((wq_u_j e1622 rfl).trans ((wq_u_j e1617 rfl).trans ((f1598 r0 29 _ g0 rfl).trans ((f1580 r0 29 _ g0 rfl).trans ((wq_u_j e1563 rfl).trans (wq_u_j e1558 rfl))))))))))))
                  have k2082 : wKI H2067 r0 = 1 := wKI_1.mpr (by omega)
                  have k2083 : H2067 r0 6 = H r0 6 := ((f2072 r0 6 _ g0 rfl).trans ((wq_u_j e2056 rfl).trans ((f2047 r0 6 _ g0 rfl).trans ((f2025 r0 6 _ g0 rfl).trans ((f1956 r0 6 _ g0 rfl).trans ((wq_u_j e1640 rfl).trans ((wq_u_j e1622 rfl).trans ((wq_u_j e1617 rfl).trans ((f1598 r0 6 _ g0 rfl).trans ((f1580 r0 6 _ g0 rfl).trans ((wq_u_j e1563 rfl).trans (wq_u_j e1558 rfl))))))))))))
                  have k2084 : H2067 r0 13 = H1593 r0 13 := ((f2072 r0 13 _ g0 rfl).trans ((wq_u_j e2056 rfl).trans ((f2047 r0 13 _ g0 rfl).trans ((f2025 r0 13 _ g0 rfl).trans ((f1956 r0 13 _ g0 rfl).trans ((wq_u_j e1640 rfl).trans ((wq_u_j e1622 rfl).trans (wq_u_j e1617 rfl))))))))
                  have k2085 : H2067 r0 3 = H2055 r0 3 := (f2072 r0 3 _ g0 rfl)
                  have q2086 : H2067 r0 3 = (rp : Int) := k2085.trans q2061
                  have k2087 : H2067 r0 19 = H2023 r0 19 := ((f2072 r0 19 _ g0 rfl).trans ((wq_u_j e2056 rfl).trans (f2047 r0 19 _ g0 rfl)))
                  have k2088 : H2067 r0 32 = H1621 r0 32 := ((f2072 r0 32 _ g0 rfl).trans ((wq_u_j e2056 rfl).trans ((f2047 r0 32 _ g0 rfl).trans ((f2025 r0 32 _ g0 rfl).trans ((f1956 r0 32 _ g0 rfl).trans (wq_u_j e1640 rfl))))))
                  have h2089 : DMQ T H2067 rp (xparse B a1).2 := (DMQ_fr w2057 grp f2072 rfl (DMQ_fr w2046 grp ((wfr.rf (l := [(42, 28)])).put' e2056 g0 rfl) rfl (DMQ_fr w2024 grp f2047 rfl h2033)))
                  have h2090 : MN20 T H2067 r0 24 (xset (xparse B a1).2 13) := (MN20_fr w2057 g0 f2072 rfl (MN20_fr w2046 g0 ((wfr.rf (l := [(42, 28)])).put' e2056 g0 rfl) rfl (MN20_fr w2024 g0 f2047 rfl h2039)))
                  have h2091 : MN21 T H2067 r0 (((xparse B a1).2) 0 3) (lln (xsp (xset ((xparse B a1).2)))) := (MN21_fr w2057 g0 f2072 rfl (MN21_fr w2046 g0 ((wfr.rf (l := [(42, 28)])).put' e2056 g0 rfl) rfl a2049))
                  have h2092 : LB22 T H2067 r0 yb (xsq (xset ((xparse B a1).2))) := (LB22_fr w2057 g0 f2072 rfl (LB22_fr w2046 g0 ((wfr.rf (l := [(42, 28)])).put' e2056 g0 rfl) rfl a2050))
                  have h2093 : LB23 T H2067 r0 yl (xsq (xset ((xparse B a1).2))) := (LB23_fr w2057 g0 f2072 rfl (LB23_fr w2046 g0 ((wfr.rf (l := [(42, 28)])).put' e2056 g0 rfl) rfl a2051))
                  have h2094 : LB24 T H2067 r0 (xas (xset ((xparse B a1).2))) (xsq (xset ((xparse B a1).2))) := (LB24_fr w2057 g0 f2072 rfl (LB24_fr w2046 g0 ((wfr.rf (l := [(42, 28)])).put' e2056 g0 rfl) rfl a2052))
                  have h2095 : LB25 T H2067 r0 (xwk (xset ((xparse B a1).2))) (xsq (xset ((xparse B a1).2))) := (LB25_fr w2057 g0 f2072 rfl (LB25_fr w2046 g0 ((wfr.rf (l := [(42, 28)])).put' e2056 g0 rfl) rfl a2053))
                  have h2096 : MN26 T H2067 r0 ((xparse B a1).2 0 3) (fun _ => 0) := (MN26_fr w2057 g0 f2072 rfl (MN26_fr w2046 g0 ((wfr.rf (l := [(42, 28)])).put' e2056 g0 rfl) rfl (MN26_fr w2024 g0 f2047 rfl h2034)))
                  exact wp_ireturn e169 c169_207 rfl ⟨rfl, w2071, f2079, z2073, rfl, ⟨b2074.1, b2074.2⟩, (Or.inr ⟨by omega, by omega, by omega, by omega, by omega, by omega, by omega, by omega, by omega, by omega, ⟨grp, ⟨(xparse B a1).2, h2089, rfl⟩, by show _ = xal (xparse B a1).2; omega, h2090, h2091, h2092, h2093, h2094, h2095⟩, ⟨h2096, by omega⟩⟩)⟩
                · refine wp_of e169 c169_174 (rw_aload_n (pc' := 175) (v := .ref r0) rfl rfl rfl ?_)
                  refine wp_of e169 c169_175 (xg_R (pc' := 178) lf_9_36 w2024 g0 sh_42 (by decide) (by decide) ty_42_26 rfl rfl (fun r2097 q2098 g2099 => ?_))
                  refine wp_of e169 c169_178 (rw_iload_n (pc' := 179) (z := v2022) rfl rfl ?_)
                  refine wp_of e169 c169_179 (rw_iconst (pc' := 180) rfl ?_)
                  refine wp_of e169 c169_180 (xs_I (pc' := 181) w2024 g2099 (by decide) sh_50 (by decide) (ty_50 _) (by decide) (by decide) ⟨by decide, by decide⟩ (b2026.1) (by omega) rfl (fun H2100 e2101 w2102 => ?_))
                  have f2103 := f2029.put' e2101 g2099 rfl
                  have f2104 := f2025.put' e2101 g2099 rfl
                  have h2105 : MN26 T H2100 r0 (v2022 + 1) (fun _ => 0) := DAo_put h2028 q2098 g0 g2099 (by decide) e2101 (by omega) rfl rfl (fun _ _ => rfl)
                  refine wp_of e169 c169_181 (rw_iinc (pc' := 184) (z := v2022) (L' := [(2, vI (v2022 + 1)), (0, .ref r0)]) rfl rfl rfl rfl ?_)
                  refine wp_of e169 c169_184 (rw_goto (p1 := 168) (by decide) ?_)
                  exact wp_lc (ks := [2, 0]) (wl_c rfl (wl_c rfl wl_n)) rfl (by decide) (ih2021 _ (by omega) (v2022 + 1) H2100 w2102 f2104 ⟨by omega, by omega⟩ h2105 rfl)
            have h2106 : MN26 T H1954 r0 0 (fun _ => 0) := DAo_0 (w1955.ref g0 (n := 33) (p := 0) (q := 0) rfl (by decide) rfl) (Int.le_refl _)
            exact wp_lc (ks := [2, 0]) (wl_c rfl (wl_c rfl wl_n)) rfl (by decide) (lp2019 _ 0 H1954 w1955 wfr.rf ⟨by decide, by decide⟩ h2106 rfl)
          · refine wp_of e169 c169_130 (rw_aload_n (pc' := 131) (v := .ref r0) rfl rfl rfl ?_)
            refine wp_of e169 c169_131 (xg_R (pc' := 134) lf_9_17 w1955 g0 sh_42 (by decide) (by decide) ty_42_20 rfl rfl (fun r2107 q2108 g2109 => ?_))
            refine wp_of e169 c169_134 (rw_iload_n (pc' := 135) (z := v1953) rfl rfl ?_)
            refine wp_of e169 c169_135 (rw_aload_n (pc' := 136) (v := .ref r0) rfl rfl rfl ?_)
            have k2110 : H1954 r0 19 = H1639 r0 19 := (f1956 r0 19 _ g0 rfl)
            refine wp_of e169 c169_136 (xg_I (pc' := 139) lf_9_343 w1955 g0 sh_42 (by decide) (by decide) ty_42_19 rfl rfl (fun b2111 b2112 => ?_))
            refine wp_of e169 c169_139 (rw_iload_n (pc' := 140) (z := v1953) rfl rfl ?_)
            have _b := @bit_ok ((xparse B a1).2 0 0) v1953 (by omega) (by omega) (by omega) (by omega)
            have _a : H1954 r0 19 = xhs 0 ((xparse B a1).2 0 0) := by
              show _ = xal (xparse B a1).2
              omega
            rw [← _a] at _b
            have _x := @xcu_at ((xparse B a1).2 13) ((xparse B a1).2 0 0) v1953 (by omega) (by omega)
            refine wp_of e169 c169_140 (xc_S (pc' := 143) (as := [vI (H1954 r0 19), vI v1953]) (st := [vI v1953, .ref r2107]) (lm_9_346) rfl rfl (Nat.le_of_ble_eq_true rfl) rfl (by decide) (u_205  w1955 ⟨b2111, b2112⟩ ⟨Int.le_trans (by decide) b1957.1, Int.le_trans b1957.2 (by decide)⟩) (fun R2113 T2114 H2115 p2116 => ?_))
            obtain ⟨e2117, e2119, z2120, e2118, b2121, p2122⟩ := p2116
            subst e2117
            subst e2118
            subst e2119
            rcases p2122 with ⟨a2123, a2124⟩ | ⟨a2125, a2126⟩
            · show wp _ _ 169 143 [(2, vI v1953), (0, .ref r0)] [vI z2120, vI v1953, .ref r2107] _ H1954 _
              refine wp_of e169 c169_143 (rw_if_eq (p1 := 158) (p2 := 146) (by decide) rfl ⟨Int.le_trans (by decide) b2121.1, Int.le_trans b2121.2 (by decide)⟩ (fun c2127 => ?_) (fun c2127 => ?_))
              · exfalso
                omega
              · refine wp_of e169 c169_146 (rw_aload_n (pc' := 147) (v := .ref r0) rfl rfl rfl ?_)
                have k2128 : H1954 r0 3 = H1621 r0 3 := ((f1956 r0 3 _ g0 rfl).trans (wq_u_j e1640 rfl))
                have q2129 : H1954 r0 3 = (rp : Int) := k2128.trans q1627
                refine wp_of e169 c169_147 (xg_K (pc' := 150) lf_9_337 w1955 g0 sh_42 (by decide) (by decide) rfl q2129 rfl ?_)
                refine wp_of e169 c169_150 (xg_R (pc' := 153) lf_9_296 w1955 grp sh_54 (by decide) (by decide) ty_54_21 rfl rfl (fun r2130 q2131 g2132 => ?_))
                refine wp_of e169 c169_153 (rw_iload_n (pc' := 154) (z := v1953) rfl rfl ?_)
                refine wp_of e169 c169_154 (xa_I (so := 0) (pc' := 155) w1955 g2132 sh_67 (by decide) (ty_67 _) (b1957.1) (by omega) rfl (fun b2133 b2134 => ?_))
                have h2135 : MA21 T H1954 rp ((xparse B a1).2 13) := (MA21_fr w1641 grp f1956 rfl h1645)
                have _s := MA_at h2135 q2131 (k := (v1953.toNat)) (by omega)
                refine wp_of e169 c169_155 (rw_goto (p1 := 159) (by decide) ?_)
                refine wp_of e169 c169_159 (xs_I (pc' := 160) w1955 g2109 (by decide) sh_44 (by decide) (ty_44 _) (b2133) (b2134) ⟨b2133, b2134⟩ (b1957.1) (by omega) rfl (fun H2136 e2137 w2138 => ?_))
                have f2139 := f1960.put' e2137 g2109 rfl
                have f2140 := f1956.put' e2137 g2109 rfl
                have h2141 : MN20 T H2136 r0 (v1953 + 1) (xcu ((xparse B a1).2 13) ((xparse B a1).2 0 0) 24) := DAo_put h1959 q2108 g0 g2109 (by decide) e2137 (by omega) rfl (by omega) (fun _ _ => rfl)
                refine wp_of e169 c169_160 (rw_iinc (pc' := 163) (z := v1953) (L' := [(2, vI (v1953 + 1)), (0, .ref r0)]) rfl rfl rfl rfl ?_)
                refine wp_of e169 c169_163 (rw_goto (p1 := 124) (by decide) ?_)
                exact wp_lc (ks := [2, 0]) (wl_c rfl (wl_c rfl wl_n)) rfl (by decide) (ih1952 _ (by omega) (v1953 + 1) H2136 w2138 f2140 ⟨by omega, by omega⟩ h2141 rfl)
            · show wp _ _ 169 143 [(2, vI v1953), (0, .ref r0)] [vI z2120, vI v1953, .ref r2107] _ H1954 _
              refine wp_of e169 c169_143 (rw_if_eq (p1 := 158) (p2 := 146) (by decide) rfl ⟨Int.le_trans (by decide) b2121.1, Int.le_trans b2121.2 (by decide)⟩ (fun c2142 => ?_) (fun c2142 => ?_))
              · refine wp_of e169 c169_158 (rw_iconst (pc' := 159) rfl ?_)
                refine wp_of e169 c169_159 (xs_I (pc' := 160) w1955 g2109 (by decide) sh_44 (by decide) (ty_44 _) (by decide) (by decide) ⟨by decide, by decide⟩ (b1957.1) (by omega) rfl (fun H2143 e2144 w2145 => ?_))
                have f2146 := f1960.put' e2144 g2109 rfl
                have f2147 := f1956.put' e2144 g2109 rfl
                have h2148 : MN20 T H2143 r0 (v1953 + 1) (xcu ((xparse B a1).2 13) ((xparse B a1).2 0 0) 24) := DAo_put h1959 q2108 g0 g2109 (by decide) e2144 (by omega) rfl (by omega) (fun _ _ => rfl)
                refine wp_of e169 c169_160 (rw_iinc (pc' := 163) (z := v1953) (L' := [(2, vI (v1953 + 1)), (0, .ref r0)]) rfl rfl rfl rfl ?_)
                refine wp_of e169 c169_163 (rw_goto (p1 := 124) (by decide) ?_)
                exact wp_lc (ks := [2, 0]) (wl_c rfl (wl_c rfl wl_n)) rfl (by decide) (ih1952 _ (by omega) (v1953 + 1) H2143 w2145 f2147 ⟨by omega, by omega⟩ h2148 rfl)
              · exfalso
                omega
      have h2149 : MN20 T H1639 r0 0 (xcu ((xparse B a1).2 13) ((xparse B a1).2 0 0) 24) := DAo_0 (w1641.ref g0 (n := 33) (p := 0) (q := 0) rfl (by decide) rfl) (Int.le_refl _)
      exact wp_lc (ks := [2, 0, 1]) (wl_c rfl (wl_c rfl wl_n)) rfl (by decide) (lp1950 _ 0 H1639 w1641 wfr.rf ⟨by decide, by decide⟩ h2149 rfl)
    · exfalso
      omega
  · have f2150 := f1583.tr f1598 rfl
    show wp _ _ 169 72 [(0, .ref r0), (1, vI a1)] [] _ H1593 _
    have u2151 := RO_k a1607
    refine wp_of e169 c169_72 (rw_aload_n (pc' := 73) (v := .ref r0) rfl rfl rfl ?_)
    refine wp_of e169 c169_73 (xg_I (pc' := 76) lf_9_104 w1597 g0 sh_42 (by decide) (by decide) ty_42_13 rfl rfl (fun b2152 b2153 => ?_))
    refine wp_of e169 c169_76 (rw_if_le (p1 := 94) (p2 := 79) (by decide) rfl ⟨b2152, b2153⟩ (fun c2154 => ?_) (fun c2154 => ?_))
    · exfalso
      omega
    · refine wp_of e169 c169_79 (rw_aload_n (pc' := 80) (v := .ref r0) rfl rfl rfl ?_)
      refine wp_of e169 c169_80 (rw_iconst (pc' := 81) rfl ?_)
      refine wp_of e169 c169_81 (xp_I (pc' := 84) lf_9_51 w1597 g0 sh_42 (by decide) (by decide) ty_42_1 rfl rfl (by decide) (by decide) ⟨by decide, by decide⟩ rfl (fun H2155 e2156 w2157 => ?_))
      have f2158 := f2150.put' e2156 g0 rfl
      have k2159 : H2155 r0 1 = 4 := wq_u_s e2156
      refine wp_of e169 c169_84 (rw_aload_n (pc' := 85) (v := .ref r0) rfl rfl rfl ?_)
      refine wp_of e169 c169_85 (rw_aload_n (pc' := 86) (v := .ref r0) rfl rfl rfl ?_)
      have k2160 : H2155 r0 14 = H1593 r0 14 := (wq_u_j e2156 rfl)
      refine wp_of e169 c169_86 (xg_I (pc' := 89) lf_9_107 w2157 g0 sh_42 (by decide) (by decide) ty_42_14 rfl rfl (fun b2161 b2162 => ?_))
      refine wp_of e169 c169_89 (xp_I (pc' := 92) lf_9_9 w2157 g0 sh_42 (by decide) (by decide) ty_42_2 rfl rfl (b2161) (b2162) ⟨b2161, b2162⟩ rfl (fun H2163 e2164 w2165 => ?_))
      have f2166 := f2158.put' e2164 g0 rfl
      have k2167 : H2163 r0 2 = H2155 r0 14 := wq_u_s e2164
      refine wp_of e169 c169_92 (rw_iconst (pc' := 93) rfl ?_)
      have k2168 : H2163 r0 28 = H r0 28 := ((wq_u_j e2164 rfl).trans ((wq_u_j e2156 rfl).trans ((f1598 r0 28 _ g0 rfl).trans ((f1580 r0 28 _ g0 rfl).trans ((wq_u_j e1563 rfl).trans (wq_u_j e1558 rfl))))))
      have k2169 : H2163 r0 29 = H r0 29 := ((wq_u_j e2164 rfl).trans ((wq_u_j e2156 rfl).trans ((f1598 r0 29 _ g0 rfl).trans ((f1580 r0 29 _ g0 rfl).trans ((wq_u_j e1563 rfl).trans (wq_u_j e1558 rfl))))))
      have k2170 : wLM H2163 r0 = wLM H r0 := wLM_ot hW g0 (((wq_u_j e2164 rfl).trans ((wq_u_j e2156 rfl).trans ((f1598 r0 3 _ g0 rfl).trans ((f1580 r0 3 _ g0 rfl).trans ((wq_u_j e1563 rfl).trans (wq_u_j e1558 rfl))))))) (((wq_u_j e2164 rfl).trans ((wq_u_j e2156 rfl).trans ((f1598 r0 21 _ g0 rfl).trans ((f1580 r0 21 _ g0 rfl).trans ((wq_u_j e1563 rfl).trans (wq_u_j e1558 rfl))))))) (fun sp gs => funext (fun j => ((wq_u_t e2164 g0 gs rfl j).trans ((wq_u_t e2156 g0 gs rfl j).trans ((f1598 sp j _ gs rfl).trans ((f1580 sp j _ gs rfl).trans ((wq_u_t e1563 g0 gs rfl j).trans (wq_u_t e1558 g0 gs rfl j)))))))) (fun a ha ga => ((wq_u_t e2164 g0 ga rfl 3).trans ((wq_u_t e2156 g0 ga rfl 3).trans ((a1606 a ha ga).trans ((f1580 a 3 _ ga rfl).trans ((wq_u_t e1563 g0 ga rfl 3).trans (wq_u_t e1558 g0 ga rfl 3))))))) hne
      have k2171 : wKI H2163 r0 = 1 := wKI_1.mpr (by omega)
      have k2172 : H2163 r0 6 = H r0 6 := ((wq_u_j e2164 rfl).trans ((wq_u_j e2156 rfl).trans ((f1598 r0 6 _ g0 rfl).trans ((f1580 r0 6 _ g0 rfl).trans ((wq_u_j e1563 rfl).trans (wq_u_j e1558 rfl))))))
      have k2173 : H2163 r0 1 = H2155 r0 1 := (wq_u_j e2164 rfl)
      have k2174 : H2163 r0 13 = H1593 r0 13 := ((wq_u_j e2164 rfl).trans (wq_u_j e2156 rfl))
      have k2175 : H2163 r0 3 = H r0 3 := ((wq_u_j e2164 rfl).trans ((wq_u_j e2156 rfl).trans ((f1598 r0 3 _ g0 rfl).trans ((f1580 r0 3 _ g0 rfl).trans ((wq_u_j e1563 rfl).trans (wq_u_j e1558 rfl))))))
      have h2176 : FZ T H2163 rp N0 H0 := (FZ_fr w2157 grp ((wfr.rf (l := [(42, 2)])).put' e2164 g0 rfl) rfl (FZ_fr w1597 grp ((wfr.rf (l := [(42, 1)])).put' e2156 g0 rfl) rfl a1608))
      have h2177 : ML T H2163 r0 H := (ML_fr w2157 g0 ((wfr.rf (l := [(42, 2)])).put' e2164 g0 rfl) rfl (ML_fr w1597 g0 ((wfr.rf (l := [(42, 1)])).put' e2156 g0 rfl) rfl (ML_fr w1579 g0 f1598 rfl (ML_fr w1564 g0 f1580 rfl (ML_fr w1559 g0 ((wfr.rf (l := [(42, 9)])).put' e1563 g0 rfl) rfl (ML_fr hW g0 ((wfr.rf (l := [(42, 4)])).put' e1558 g0 rfl) rfl h1556))))))
      exact wp_ireturn e169 c169_93 rfl ⟨rfl, w2165, f2166, -1, rfl, ⟨by decide, by decide⟩, (Or.inl ⟨by omega, by omega, by omega, by omega, by omega, by omega, by omega, by omega, (h2176).1, h2177⟩)⟩
/-! StrikeAwakeModel.parish(I)I  -/
abbrev uq_169 (r0 : Nat) (a1 : Int) (rb : Nat) (B : Nat → Int) (y : Int) (T : wq_T) (H : wq_H) : Option Value → wq_T → wq_H → Prop := fun r T' H' => (∀ a t, T.2.2.2 a = some t → T'.2.2.2 a = some t) ∧ T'.2.1 ≤ T.2.1 + 19 ∧ T'.2.2.1 ≤ T.2.2.1 + 459 ∧ WT T' H' ∧ wfr [(54, 0), (54, 1), (54, 2), (54, 3), (54, 4), (54, 5), (54, 6), (54, 7), (54, 8), (42, 0), (42, 1), (42, 2), (42, 3), (42, 4), (42, 6), (42, 7), (42, 8), (42, 9), (42, 10), (42, 11), (42, 12), (42, 13), (42, 14), (42, 15), (42, 16), (42, 17), (42, 18), (42, 19), (42, 28), (42, 32), (48, 999), (49, 999), (46, 999), (47, 999), (50, 999), (45, 999), (44, 999), (64, 999), (65, 999), (56, 999), (57, 999), (66, 999), (60, 999), (63, 999), (58, 999), (59, 999), (55, 999), (61, 999), (62, 999), (72, 999), (71, 999), (67, 999), (68, 999), (69, 999)] T H H' ∧ ∃ z : Int, some (vI z) = r ∧ ((-2147483648) ≤ z ∧ z ≤ 2147483647) ∧ (((z = -1) ∧ (a1 < 0 ∨ H r0 6 < a1) ∧ (H' r0 6 = H r0 6) ∧ (H' r0 1 = 2) ∧ (H' r0 2 = -1) ∧ (H' r0 13 = H r0 13) ∧ (H' r0 3 = H r0 3) ∧ (wKI H' r0 = 1) ∧ (∀ a t, T'.2.2.2 a = some t → T.2.2.2 a = some t ∨ 54 ≤ t) ∧ MO_ T H' r0 H) ∨ ((z = -1) ∧ (0 ≤ a1 ∧ a1 ≤ H r0 6) ∧ (H' r0 6 = 0) ∧ ((xparse B y).1.1 ≠ 0) ∧ (H' r0 1 = 4) ∧ (H' r0 2 = (xparse B y).1.2.1) ∧ (H' r0 13 = (xparse B y).1.1) ∧ (H' r0 3 = H r0 3) ∧ (wKI H' r0 = 1) ∧ (∀ a t, T'.2.2.2 a = some t → T.2.2.2 a = some t ∨ 54 ≤ t) ∧ MO_ T H' r0 H) ∨ ((0 ≤ z ∧ z ≤ 6) ∧ (0 ≤ a1 ∧ a1 ≤ H r0 6) ∧ (H' r0 6 = 0) ∧ ((xparse B y).1.1 = 0) ∧ (z = (xparse B y).2 0 3) ∧ (H' r0 1 = 0) ∧ (H' r0 2 = -1) ∧ (H' r0 13 = 0) ∧ (H' r0 3 ≠ -1) ∧ (wKI H' r0 = 1) ∧ (RB T' H' r0 (xset (xparse B y).2) (xset (xparse B y).2)) ∧ (RY T' H' r0 ((xparse B y).2 0 3) (fun _ => 0) 0) ∧ (∀ a t, T'.2.2.2 a = some t → T.2.2.2 a = some t ∨ 54 ≤ t) ∧ (H' r0 28 = 0)))
set_option maxHeartbeats 4000000 in
theorem u_169 {kt : Nat → Option mc_E} {T : wq_T} {H : wq_H} {r0 : Nat} {a1 : Int} {rb : Nat} {B : Nat → Int} {y : Int} (hW : WT T H) (g0 : T.2.2.2 r0 = some 42) (i1 : (-2147483648) ≤ a1 ∧ a1 ≤ 2147483647) (qrb : H r0 5 = (rb : Int)) (grb : T.2.2.2 rb = some 43) (p0 : wKI H r0 = 1) (p1 : a1 = y) (hTM_rb : TM T H rb B) : wpc kt 10 169 [.ref r0, vI a1] T H (uq_169 r0 a1 rb B y T H) := by
  refine wp_enter e169 (Nat.le_of_ble_eq_true rfl) rfl ?_
  have f0 : wfr [(54, 0), (54, 1), (54, 2), (54, 3), (54, 4), (54, 5), (54, 6), (54, 7), (54, 8), (42, 0), (42, 1), (42, 2), (42, 3), (42, 4), (42, 6), (42, 7), (42, 8), (42, 9), (42, 10), (42, 11), (42, 12), (42, 13), (42, 14), (42, 15), (42, 16), (42, 17), (42, 18), (42, 19), (42, 28), (42, 32), (48, 999), (49, 999), (46, 999), (47, 999), (50, 999), (45, 999), (44, 999), (64, 999), (65, 999), (56, 999), (57, 999), (66, 999), (60, 999), (63, 999), (58, 999), (59, 999), (55, 999), (61, 999), (62, 999), (72, 999), (71, 999), (67, 999), (68, 999), (69, 999)] T H H := wfr.rf
  show wp _ _ 169 0 [(0, .ref r0), (1, vI a1)] [] _ H _
  have b1067 : 0 ≤ H r0 6 ∧ H r0 6 ≤ 900 := hW.box g0 (n := 33) rfl (by decide) rfl
  have b1068 : (-2147483648) ≤ H r0 13 ∧ H r0 13 ≤ 2147483647 := hW.box g0 (n := 33) rfl (by decide) rfl
  have h1069 : MO_ T H r0 H := MO_0
  have _y1 : (xparse B a1).1.1 = (xparse B y).1.1 := by rw [p1]
  have _y2 : (xparse B a1).1.2.1 = (xparse B y).1.2.1 := by rw [p1]
  have _y3 : (xparse B a1).2 0 3 = (xparse B y).2 0 3 := by rw [p1]
  refine wp_of e169 c169_0 (rw_aload_n (pc' := 1) (v := .ref r0) rfl rfl rfl ?_)
  refine wp_of e169 c169_1 (rw_iconst (pc' := 2) rfl ?_)
  refine wp_of e169 c169_2 (xp_I (pc' := 5) lf_9_48 hW g0 sh_42 (by decide) (by decide) ty_42_0 rfl rfl (by decide) (by decide) ⟨by decide, by decide⟩ rfl (fun H1070 e1071 w1072 => ?_))
  have f1073 := f0.put' e1071 g0 rfl
  have k1074 : H1070 r0 0 = 0 := wq_u_s e1071
  refine wp_of e169 c169_5 (rw_iload_n (pc' := 6) (z := a1) rfl rfl ?_)
  refine wp_of e169 c169_6 (rw_if_lt (p1 := 17) (p2 := 9) (by decide) rfl ⟨i1.1, i1.2⟩ (fun c1075 => ?_) (fun c1075 => ?_))
  · refine wp_of e169 c169_17 (rw_aload_n (pc' := 18) (v := .ref r0) rfl rfl rfl ?_)
    refine wp_of e169 c169_18 (rw_iconst (pc' := 19) rfl ?_)
    refine wp_of e169 c169_19 (xc_V (pc' := 22) (r := r0) (as := [vI 2]) (st := []) (lm_9_54) rfl rfl (Nat.le_of_ble_eq_true rfl) w1072 g0 sh_42 (by decide) rfl (by decide) (u_170  w1072 g0 ⟨by decide, by decide⟩) (fun R1076 T1077 H1078 p1079 => ?_))
    obtain ⟨e1080, w1082, f1083, z1084, e1081, b1085, p1086⟩ := p1079
    subst e1080
    subst e1081
    obtain ⟨a1087, a1088, a1089⟩ := p1086
    have f1090 := f1073.tr f1083 rfl
    show wp _ _ 169 22 [(0, .ref r0), (1, vI a1)] [vI z1084] _ H1078 _
    have k1091 : wKI H1078 r0 = wKI H r0 := ((wKI_fr w1072 g0 f1083 rfl).trans (wKI_fr hW g0 ((wfr.rf (l := [(42, 0)])).put' e1071 g0 rfl) rfl))
    have k1092 : H1078 r0 6 = H r0 6 := ((f1083 r0 6 _ g0 rfl).trans (wq_u_j e1071 rfl))
    have k1093 : H1078 r0 13 = H r0 13 := ((f1083 r0 13 _ g0 rfl).trans (wq_u_j e1071 rfl))
    have k1094 : H1078 r0 3 = H r0 3 := ((f1083 r0 3 _ g0 rfl).trans (wq_u_j e1071 rfl))
    have h1095 : MO_ T H1078 r0 H := (MO__fr w1072 g0 f1083 rfl (MO__fr hW g0 ((wfr.rf (l := [(42, 0)])).put' e1071 g0 rfl) rfl h1069))
    exact wp_ireturn e169 c169_22 rfl ⟨fun _ _ h => h, by omega, by omega, w1082, f1090, z1084, rfl, ⟨b1085.1, b1085.2⟩, (Or.inl ⟨by omega, by omega, by omega, by omega, by omega, by omega, by omega, by omega, fun _ _ h => Or.inl h, h1095⟩)⟩
  · refine wp_of e169 c169_9 (rw_iload_n (pc' := 10) (z := a1) rfl rfl ?_)
    refine wp_of e169 c169_10 (rw_aload_n (pc' := 11) (v := .ref r0) rfl rfl rfl ?_)
    have k1096 : H1070 r0 6 = H r0 6 := (wq_u_j e1071 rfl)
    refine wp_of e169 c169_11 (xg_I (pc' := 14) lf_9_330 w1072 g0 sh_42 (by decide) (by decide) ty_42_6 rfl rfl (fun b1097 b1098 => ?_))
    refine wp_of e169 c169_14 (rw_icmp_le (p1 := 23) (p2 := 17) (by decide) rfl ⟨i1.1, i1.2⟩ ⟨Int.le_trans (by decide) b1097, Int.le_trans b1098 (by decide)⟩ (fun c1099 => ?_) (fun c1099 => ?_))
    · refine wp_of e169 c169_23 (rw_aload_n (pc' := 24) (v := .ref r0) rfl rfl rfl ?_)
      refine wp_of e169 c169_24 (rw_iload_n (pc' := 25) (z := a1) rfl rfl ?_)
      refine wp_of e169 c169_25 (xp_I (pc' := 28) lf_9_61 w1072 g0 sh_42 (by decide) (by decide) ty_42_7 rfl rfl (by omega) (by omega) ⟨i1.1, i1.2⟩ rfl (fun H1100 e1101 w1102 => ?_))
      have f1103 := f1073.put' e1101 g0 rfl
      have k1104 : H1100 r0 7 = a1 := wq_u_s e1101
      refine wp_of e169 c169_28 (rw_aload_n (pc' := 29) (v := .ref r0) rfl rfl rfl ?_)
      refine wp_of e169 c169_29 (rw_iconst (pc' := 30) rfl ?_)
      refine wp_of e169 c169_30 (xp_I (pc' := 33) lf_9_330 w1102 g0 sh_42 (by decide) (by decide) ty_42_6 rfl rfl (by decide) (by decide) ⟨by decide, by decide⟩ rfl (fun H1105 e1106 w1107 => ?_))
      have f1108 := f1103.put' e1106 g0 rfl
      have k1109 : H1105 r0 6 = 0 := wq_u_s e1106
      refine wp_of e169 c169_33 (rw_aload_n (pc' := 34) (v := .ref r0) rfl rfl rfl ?_)
      refine wp_of e169 c169_34 (rw_iconst (pc' := 35) rfl ?_)
      refine wp_of e169 c169_35 (xp_I (pc' := 38) lf_9_78 w1107 g0 sh_42 (by decide) (by decide) ty_42_8 rfl rfl (by decide) (by decide) ⟨by decide, by decide⟩ rfl (fun H1110 e1111 w1112 => ?_))
      have f1113 := f1108.put' e1111 g0 rfl
      have k1114 : H1110 r0 8 = 0 := wq_u_s e1111
      refine wp_of e169 c169_38 (rw_aload_n (pc' := 39) (v := .ref r0) rfl rfl rfl ?_)
      refine wp_of e169 c169_39 (rw_iconst (pc' := 40) rfl ?_)
      refine wp_of e169 c169_40 (xp_I (pc' := 43) lf_9_104 w1112 g0 sh_42 (by decide) (by decide) ty_42_13 rfl rfl (by decide) (by decide) ⟨by decide, by decide⟩ rfl (fun H1115 e1116 w1117 => ?_))
      have f1118 := f1113.put' e1116 g0 rfl
      have k1119 : H1115 r0 13 = 0 := wq_u_s e1116
      refine wp_of e169 c169_43 (rw_aload_n (pc' := 44) (v := .ref r0) rfl rfl rfl ?_)
      refine wp_of e169 c169_44 (rw_iconst (pc' := 45) rfl ?_)
      refine wp_of e169 c169_45 (xp_I (pc' := 48) lf_9_293 w1117 g0 sh_42 (by decide) (by decide) ty_42_16 rfl rfl (by decide) (by decide) ⟨by decide, by decide⟩ rfl (fun H1120 e1121 w1122 => ?_))
      have f1123 := f1118.put' e1121 g0 rfl
      have k1124 : H1120 r0 16 = 0 := wq_u_s e1121
      refine wp_of e169 c169_48 (rw_aload_n (pc' := 49) (v := .ref r0) rfl rfl rfl ?_)
      have k1125 : wKI H1120 r0 = wKI H r0 := ((wKI_fr w1117 g0 ((wfr.rf (l := [(42, 16)])).put' e1121 g0 rfl) rfl).trans ((wKI_fr w1112 g0 ((wfr.rf (l := [(42, 13)])).put' e1116 g0 rfl) rfl).trans ((wKI_fr w1107 g0 ((wfr.rf (l := [(42, 8)])).put' e1111 g0 rfl) rfl).trans ((wKI_fr w1102 g0 ((wfr.rf (l := [(42, 6)])).put' e1106 g0 rfl) rfl).trans ((wKI_fr w1072 g0 ((wfr.rf (l := [(42, 7)])).put' e1101 g0 rfl) rfl).trans (wKI_fr hW g0 ((wfr.rf (l := [(42, 0)])).put' e1071 g0 rfl) rfl))))))
      have k1126 : H1120 r0 6 = H1105 r0 6 := ((wq_u_j e1121 rfl).trans ((wq_u_j e1116 rfl).trans (wq_u_j e1111 rfl)))
      have k1127 : H1120 r0 8 = H1110 r0 8 := ((wq_u_j e1121 rfl).trans (wq_u_j e1116 rfl))
      have k1128 : H1120 r0 7 = H1100 r0 7 := ((wq_u_j e1121 rfl).trans ((wq_u_j e1116 rfl).trans ((wq_u_j e1111 rfl).trans (wq_u_j e1106 rfl))))
      have k1129 : H1120 r0 13 = H1115 r0 13 := (wq_u_j e1121 rfl)
      have k1130 : H1120 r0 3 = H r0 3 := ((wq_u_j e1121 rfl).trans ((wq_u_j e1116 rfl).trans ((wq_u_j e1111 rfl).trans ((wq_u_j e1106 rfl).trans ((wq_u_j e1101 rfl).trans (wq_u_j e1071 rfl))))))
      have h1131 : TM T H1120 rb B := (TM_fr w1117 grb ((wfr.rf (l := [(42, 16)])).put' e1121 g0 rfl) rfl (TM_fr w1112 grb ((wfr.rf (l := [(42, 13)])).put' e1116 g0 rfl) rfl (TM_fr w1107 grb ((wfr.rf (l := [(42, 8)])).put' e1111 g0 rfl) rfl (TM_fr w1102 grb ((wfr.rf (l := [(42, 6)])).put' e1106 g0 rfl) rfl (TM_fr w1072 grb ((wfr.rf (l := [(42, 7)])).put' e1101 g0 rfl) rfl (TM_fr hW grb ((wfr.rf (l := [(42, 0)])).put' e1071 g0 rfl) rfl hTM_rb))))))
      have k1132 : H1120 r0 5 = H r0 5 := ((wq_u_j e1121 rfl).trans ((wq_u_j e1116 rfl).trans ((wq_u_j e1111 rfl).trans ((wq_u_j e1106 rfl).trans ((wq_u_j e1101 rfl).trans (wq_u_j e1071 rfl))))))
      have q1133 : H1120 r0 5 = (rb : Int) := k1132.trans qrb
      have h1134 : MO_ T H1120 r0 H := (MO__fr w1117 g0 ((wfr.rf (l := [(42, 16)])).put' e1121 g0 rfl) rfl (MO__fr w1112 g0 ((wfr.rf (l := [(42, 13)])).put' e1116 g0 rfl) rfl (MO__fr w1107 g0 ((wfr.rf (l := [(42, 8)])).put' e1111 g0 rfl) rfl (MO__fr w1102 g0 ((wfr.rf (l := [(42, 6)])).put' e1106 g0 rfl) rfl (MO__fr w1072 g0 ((wfr.rf (l := [(42, 7)])).put' e1101 g0 rfl) rfl (MO__fr hW g0 ((wfr.rf (l := [(42, 0)])).put' e1071 g0 rfl) rfl h1069))))))
      refine wp_of e169 c169_49 (rw_new10 (pc' := 52) (e := _) rfl rfl rfl (fun hfr => ?_))
      refine wp_of e169 c169_52 (rw_dup (pc' := 53) rfl rfl ?_)
      refine wp_of e169 c169_53 (rw_calI (pc' := 56) (nn := 27) (as := []) (st := [.ref (256 + T.2.1), .ref r0]) lm_9_333 rfl rfl (Nat.le_of_ble_eq_true rfl) (by omega) (if_pos rfl) rfl (((u_171 w1122 hfr).deep (by decide)).imp (fun R9 T9 H9 p9 => ?_)))
      obtain ⟨⟨w9, m9, g9, o9, pi9, n9, z9, e9⟩, dm9, rw9, rv9⟩ := p9
      subst e9
      show wp _ _ 169 56 [(0, .ref r0), (1, vI a1)] [.ref (256 + T.2.1), .ref r0] T9 H9 _
      have hb : ∀ a t, T.2.2.2 a = some t → a < 256 + T.2.1 := fun a t h => by
        by_cases q : a < 256 + T.2.1
        · exact q
        · have h1 := (hW.2 a t h).1
          rw [hfr a (by omega)] at h1
          cases h1
      have k9 : H9 r0 = H1120 r0 := o9 r0 (hb _ _ g0)
      have k96 : H9 r0 6 = H1120 r0 6 := congrFun k9 6
      have k98 : H9 r0 8 = H1120 r0 8 := congrFun k9 8
      have k93 : H9 r0 3 = H1120 r0 3 := congrFun k9 3
      have k97 : H9 r0 7 = H1120 r0 7 := congrFun k9 7
      have k913 : H9 r0 13 = H1120 r0 13 := congrFun k9 13
      have k916 : H9 r0 16 = H1120 r0 16 := congrFun k9 16
      have k95 : H9 r0 5 = H1120 r0 5 := congrFun k9 5
      have kki : wKI H9 r0 = wKI H1120 r0 := wKI_old w1122 g0 (fun a t h => o9 a (hb a t h))
      have hne : H9 r0 3 ≠ ((256 + T.2.1 : Nat) : Int) := by
        rcases w1122.opt g0 (t' := 54) (n := 33) (j := 3) (p := 0) (q := 0) rfl (by decide) rfl with h5 | ⟨pp, h5, h6⟩
        · omega
        · have := hb pp _ h6
          omega
      have tm9 : TM T9 H9 rb B := fun j hj => by
        rw [o9 rb (hb _ _ grb)]
        exact h1131 j hj
      have fz9 : FZ T9 H9 (256 + T.2.1) (256 + T.2.1) H9 := ⟨fun _ _ _ _ _ _ => rfl, Nat.le_refl _, rw9⟩
      refine (u_169_c (B := B) (N0 := 256 + T.2.1) (H0 := H9) w9 (m9 _ _ g0) ⟨by omega, by omega⟩ g9 (k95.trans q1133) (m9 _ _ grb) (by omega) hne (by omega) (by omega) (by omega) tm9 (dm9 r0 g0 (by omega)) fz9).imp (fun r T2 H2 q => ?_)
      obtain ⟨eT, w2, f2, z2, er, bz, pa⟩ := q
      subst eT
      subst er
      have fr9 : wfr [(54, 0), (54, 1), (54, 2), (54, 3), (54, 4), (54, 5), (54, 6), (54, 7), (54, 8), (42, 0), (42, 1), (42, 2), (42, 3), (42, 4), (42, 6), (42, 7), (42, 8), (42, 9), (42, 10), (42, 11), (42, 12), (42, 13), (42, 14), (42, 15), (42, 16), (42, 17), (42, 18), (42, 19), (42, 28), (42, 32), (48, 999), (49, 999), (46, 999), (47, 999), (50, 999), (45, 999), (44, 999), (64, 999), (65, 999), (56, 999), (57, 999), (66, 999), (60, 999), (63, 999), (58, 999), (59, 999), (55, 999), (61, 999), (62, 999), (72, 999), (71, 999), (67, 999), (68, 999), (69, 999)] T H H2 := fun a j t ht hm => (f2 a j t (m9 _ _ ht) (wsub_of (l := [(54, 0), (54, 1), (54, 2), (54, 3), (54, 4), (54, 5), (54, 6), (54, 7), (54, 8), (42, 1), (42, 2), (42, 3), (42, 4), (42, 8), (42, 9), (42, 10), (42, 11), (42, 12), (42, 13), (42, 14), (42, 15), (42, 16), (42, 17), (42, 18), (42, 19), (42, 28), (42, 32), (48, 999), (49, 999), (46, 999), (47, 999), (50, 999), (45, 999), (44, 999), (64, 999), (65, 999), (56, 999), (57, 999), (66, 999), (60, 999), (63, 999), (58, 999), (59, 999), (55, 999), (61, 999), (62, 999), (72, 999), (71, 999), (67, 999), (68, 999), (69, 999)]) (l' := [(54, 0), (54, 1), (54, 2), (54, 3), (54, 4), (54, 5), (54, 6), (54, 7), (54, 8), (42, 0), (42, 1), (42, 2), (42, 3), (42, 4), (42, 6), (42, 7), (42, 8), (42, 9), (42, 10), (42, 11), (42, 12), (42, 13), (42, 14), (42, 15), (42, 16), (42, 17), (42, 18), (42, 19), (42, 28), (42, 32), (48, 999), (49, 999), (46, 999), (47, 999), (50, 999), (45, 999), (44, 999), (64, 999), (65, 999), (56, 999), (57, 999), (66, 999), (60, 999), (63, 999), (58, 999), (59, 999), (55, 999), (61, 999), (62, 999), (72, 999), (71, 999), (67, 999), (68, 999), (69, 999)]) rfl hm)).trans ((congrFun (o9 a (hb a t ht)) j).trans (f1123 a j t ht hm))
      rcases pa with ⟨y0, y1, y2, y3, y4, y5, y6, y7, yF, yM⟩ | ⟨y0, y1, y2, y3, y4, y5, y6, y7, y8, y28, yR, yY⟩
      · exact ⟨m9, by omega, by omega, w2, fr9, z2, rfl, bz, Or.inr (Or.inl ⟨by omega, by omega, by omega, by omega, by omega, by omega, by omega, by omega, by omega, rv9, MO_tr m9 hb g0 o9 h1134 yM yF⟩)⟩
      · exact ⟨m9, by omega, by omega, w2, fr9, z2, rfl, bz, Or.inr (Or.inr ⟨by omega, by omega, by omega, by omega, by omega, by omega, by omega, by omega, by omega, by omega, by rw [← p1]; exact Or.inr ⟨256 + T.2.1, y8, yR⟩, by rw [← p1]; exact yY, rv9, y28⟩)⟩
    · refine wp_of e169 c169_17 (rw_aload_n (pc' := 18) (v := .ref r0) rfl rfl rfl ?_)
      refine wp_of e169 c169_18 (rw_iconst (pc' := 19) rfl ?_)
      refine wp_of e169 c169_19 (xc_V (pc' := 22) (r := r0) (as := [vI 2]) (st := []) (lm_9_54) rfl rfl (Nat.le_of_ble_eq_true rfl) w1072 g0 sh_42 (by decide) rfl (by decide) (u_170  w1072 g0 ⟨by decide, by decide⟩) (fun R1135 T1136 H1137 p1138 => ?_))
      obtain ⟨e1139, w1141, f1142, z1143, e1140, b1144, p1145⟩ := p1138
      subst e1139
      subst e1140
      obtain ⟨a1146, a1147, a1148⟩ := p1145
      have f1149 := f1073.tr f1142 rfl
      show wp _ _ 169 22 [(0, .ref r0), (1, vI a1)] [vI z1143] _ H1137 _
      have k1150 : wKI H1137 r0 = wKI H r0 := ((wKI_fr w1072 g0 f1142 rfl).trans (wKI_fr hW g0 ((wfr.rf (l := [(42, 0)])).put' e1071 g0 rfl) rfl))
      have k1151 : H1137 r0 6 = H1070 r0 6 := (f1142 r0 6 _ g0 rfl)
      have k1152 : H1137 r0 13 = H r0 13 := ((f1142 r0 13 _ g0 rfl).trans (wq_u_j e1071 rfl))
      have k1153 : H1137 r0 3 = H r0 3 := ((f1142 r0 3 _ g0 rfl).trans (wq_u_j e1071 rfl))
      have h1154 : MO_ T H1137 r0 H := (MO__fr w1072 g0 f1142 rfl (MO__fr hW g0 ((wfr.rf (l := [(42, 0)])).put' e1071 g0 rfl) rfl h1069))
      exact wp_ireturn e169 c169_22 rfl ⟨fun _ _ h => h, by omega, by omega, w1141, f1149, z1143, rfl, ⟨b1144.1, b1144.2⟩, (Or.inl ⟨by omega, by omega, by omega, by omega, by omega, by omega, by omega, by omega, fun _ _ h => Or.inl h, h1154⟩)⟩
/-! StrikeAwakeModel.denied(I)Z  -/
abbrev uq_223 (r0 : Nat) (a1 : Int) (T : wq_T) (H : wq_H) : Option Value → wq_T → wq_H → Prop := fun r T' H' => T = T' ∧ WT T H' ∧ wfr [(42, 1), (42, 2)] T H H' ∧ ∃ z : Int, some (vI z) = r ∧ (0 ≤ z ∧ z ≤ 1) ∧ (((z = 0) ∧ (H' r0 1 = a1) ∧ (H' r0 2 = -1)))
set_option maxHeartbeats 4000000 in
theorem u_223 {kt : Nat → Option mc_E} {T : wq_T} {H : wq_H} {r0 : Nat} {a1 : Int} (hW : WT T H) (g0 : T.2.2.2 r0 = some 42) (i1 : (-2147483648) ≤ a1 ∧ a1 ≤ 2147483647) : wpc kt 2 223 [.ref r0, vI a1] T H (uq_223 r0 a1 T H) := by
  refine wp_enter e223 (Nat.le_of_ble_eq_true rfl) rfl ?_
  have f0 : wfr [(42, 1), (42, 2)] T H H := wfr.rf
  show wp _ _ 223 0 [(0, .ref r0), (1, vI a1)] [] _ H _
  refine wp_of e223 c223_0 (rw_aload_n (pc' := 1) (v := .ref r0) rfl rfl rfl ?_)
  refine wp_of e223 c223_1 (rw_iload_n (pc' := 2) (z := a1) rfl rfl ?_)
  refine wp_of e223 c223_2 (xc_V (pc' := 5) (r := r0) (as := [vI a1]) (st := []) (lm_9_54) rfl rfl (Nat.le_of_ble_eq_true rfl) hW g0 sh_42 (by decide) rfl (by decide) (u_170  hW g0 ⟨i1.1, i1.2⟩) (fun R1016 T1017 H1018 p1019 => ?_))
  obtain ⟨e1020, w1022, f1023, z1024, e1021, b1025, p1026⟩ := p1019
  subst e1020
  subst e1021
  obtain ⟨a1027, a1028, a1029⟩ := p1026
  have f1030 := f0.tr f1023 rfl
  show wp _ _ 223 5 [(0, .ref r0), (1, vI a1)] [vI z1024] _ H1018 _
  refine wp_of e223 c223_5 (rw_pop (pc' := 6) rfl rfl ?_)
  refine wp_of e223 c223_6 (rw_iconst (pc' := 7) rfl ?_)
  exact wp_zreturn e223 c223_7 rfl (by omega) ⟨rfl, w1022, f1030, 0, rfl, ⟨by decide, by decide⟩, ⟨by omega, by omega, by omega⟩⟩
/-! StrikeAwakeModel.granted()Z  -/
abbrev uq_224 (r0 : Nat) (T : wq_T) (H : wq_H) : Option Value → wq_T → wq_H → Prop := fun r T' H' => T = T' ∧ WT T H' ∧ wfr [(42, 1), (42, 2)] T H H' ∧ ∃ z : Int, some (vI z) = r ∧ (0 ≤ z ∧ z ≤ 1) ∧ (((z = 1) ∧ (H' r0 1 = 0) ∧ (H' r0 2 = -1)))
set_option maxHeartbeats 4000000 in
theorem u_224 {kt : Nat → Option mc_E} {T : wq_T} {H : wq_H} {r0 : Nat} (hW : WT T H) (g0 : T.2.2.2 r0 = some 42) : wpc kt 2 224 [.ref r0] T H (uq_224 r0 T H) := by
  refine wp_enter e224 (Nat.le_of_ble_eq_true rfl) rfl ?_
  have f0 : wfr [(42, 1), (42, 2)] T H H := wfr.rf
  show wp _ _ 224 0 [(0, .ref r0)] [] _ H _
  refine wp_of e224 c224_0 (rw_aload_n (pc' := 1) (v := .ref r0) rfl rfl rfl ?_)
  refine wp_of e224 c224_1 (rw_iconst (pc' := 2) rfl ?_)
  refine wp_of e224 c224_2 (xc_V (pc' := 5) (r := r0) (as := [vI 0]) (st := []) (lm_9_58) rfl rfl (Nat.le_of_ble_eq_true rfl) hW g0 sh_42 (by decide) rfl (by decide) (u_209  hW g0 ⟨by decide, by decide⟩) (fun R1016 T1017 H1018 p1019 => ?_))
  obtain ⟨e1020, w1022, f1023, z1024, e1021, b1025, p1026⟩ := p1019
  subst e1020
  subst e1021
  obtain ⟨a1027, a1028, a1029⟩ := p1026
  have f1030 := f0.tr f1023 rfl
  show wp _ _ 224 5 [(0, .ref r0)] [vI z1024] _ H1018 _
  refine wp_of e224 c224_5 (rw_pop (pc' := 6) rfl rfl ?_)
  refine wp_of e224 c224_6 (rw_iconst (pc' := 7) rfl ?_)
  exact wp_zreturn e224 c224_7 rfl (by omega) ⟨rfl, w1022, f1030, 1, rfl, ⟨by decide, by decide⟩, ⟨by omega, by omega, by omega⟩⟩
/-! StrikeAwakeModel.isPerson(I)Z  -/
abbrev uq_213 (r0 : Nat) (a1 : Int) (e : xD) (d : xD) (T : wq_T) (H : wq_H) : Option Value → wq_T → wq_H → Prop := fun r T' H' => T = T' ∧ H = H' ∧ ∃ z : Int, some (vI z) = r ∧ (0 ≤ z ∧ z ≤ 1) ∧ (((z = 1) ∧ ((0 ≤ a1 ∧ a1 < d 0 3) ∧ H r0 3 ≠ -1)) ∨ ((z = 0) ∧ (a1 < 0 ∨ d 0 3 ≤ a1)))
set_option maxHeartbeats 4000000 in
theorem u_213 {kt : Nat → Option mc_E} {T : wq_T} {H : wq_H} {r0 : Nat} {a1 : Int} {e : xD} {d : xD} (hW : WT T H) (g0 : T.2.2.2 r0 = some 42) (i1 : (-2147483648) ≤ a1 ∧ a1 ≤ 2147483647) (hRB_r0 : RB T H r0 e d) : wpc kt 1 213 [.ref r0, vI a1] T H (uq_213 r0 a1 e d T H) := by
  refine wp_enter e213 (Nat.le_of_ble_eq_true rfl) rfl ?_
  show wp _ _ 213 0 [(0, .ref r0), (1, vI a1)] [] _ H _
  have _b := RB_b hW hRB_r0
  have _nu := RB_n3 hRB_r0
  refine wp_of e213 c213_0 (rw_aload_n (pc' := 1) (v := .ref r0) rfl rfl rfl ?_)
  refine wp_of e213 c213_1 (xg_O (pc' := 4) lf_9_337 hW g0 sh_42 (by decide) (by decide) ty_42_3 rfl rfl (fun q1009 => ?_) (fun r1008 q1009 g1010 => ?_))
  · refine wp_of e213 c213_4 (rw_ifnull_n (p1 := 26) (p2 := 7) (by decide) rfl ?_)
    refine wp_of e213 c213_26 (rw_iconst (pc' := 27) rfl ?_)
    exact wp_zreturn e213 c213_27 rfl (by omega) ⟨rfl, rfl, 0, rfl, ⟨by decide, by decide⟩, (Or.inr ⟨by omega, by omega⟩)⟩
  · refine wp_of e213 c213_4 (rw_ifnull_r (p1 := 26) (p2 := 7) (by decide) rfl ?_)
    refine wp_of e213 c213_7 (rw_iload_n (pc' := 8) (z := a1) rfl rfl ?_)
    refine wp_of e213 c213_8 (rw_if_lt (p1 := 26) (p2 := 11) (by decide) rfl ⟨i1.1, i1.2⟩ (fun c1011 => ?_) (fun c1011 => ?_))
    · refine wp_of e213 c213_26 (rw_iconst (pc' := 27) rfl ?_)
      exact wp_zreturn e213 c213_27 rfl (by omega) ⟨rfl, rfl, 0, rfl, ⟨by decide, by decide⟩, (Or.inr ⟨by omega, by omega⟩)⟩
    · refine wp_of e213 c213_11 (rw_iload_n (pc' := 12) (z := a1) rfl rfl ?_)
      refine wp_of e213 c213_12 (rw_aload_n (pc' := 13) (v := .ref r0) rfl rfl rfl ?_)
      refine wp_of e213 c213_13 (xg_K (pc' := 16) lf_9_337 hW g0 sh_42 (by decide) (by decide) rfl q1009 rfl ?_)
      have _k := RP_k (RB_at hRB_r0 q1009)
      refine wp_of e213 c213_16 (xg_I (pc' := 19) lf_9_188 hW g1010 sh_54 (by decide) (by decide) ty_54_3 rfl rfl (fun b1012 b1013 => ?_))
      refine wp_of e213 c213_19 (rw_icmp_ge (p1 := 26) (p2 := 22) (by decide) rfl ⟨i1.1, i1.2⟩ ⟨Int.le_trans (by decide) b1012, Int.le_trans b1013 (by decide)⟩ (fun c1014 => ?_) (fun c1014 => ?_))
      · refine wp_of e213 c213_26 (rw_iconst (pc' := 27) rfl ?_)
        exact wp_zreturn e213 c213_27 rfl (by omega) ⟨rfl, rfl, 0, rfl, ⟨by decide, by decide⟩, (Or.inr ⟨by omega, by omega⟩)⟩
      · refine wp_of e213 c213_22 (rw_iconst (pc' := 23) rfl ?_)
        refine wp_of e213 c213_23 (rw_goto (p1 := 27) (by decide) ?_)
        exact wp_zreturn e213 c213_27 rfl (by omega) ⟨rfl, rfl, 1, rfl, ⟨by decide, by decide⟩, (Or.inl ⟨by omega, by omega⟩)⟩
/-! StrikeAwakeModel.isHour(I)Z  -/
abbrev uq_218 (r0 : Nat) (a1 : Int) (e : xD) (d : xD) (T : wq_T) (H : wq_H) : Option Value → wq_T → wq_H → Prop := fun r T' H' => T = T' ∧ H = H' ∧ ∃ z : Int, some (vI z) = r ∧ (0 ≤ z ∧ z ≤ 1) ∧ (((z = 1) ∧ ((0 ≤ a1 ∧ a1 < d 0 0) ∧ H r0 3 ≠ -1)) ∨ ((z = 0) ∧ (a1 < 0 ∨ d 0 0 ≤ a1)))
set_option maxHeartbeats 4000000 in
theorem u_218 {kt : Nat → Option mc_E} {T : wq_T} {H : wq_H} {r0 : Nat} {a1 : Int} {e : xD} {d : xD} (hW : WT T H) (g0 : T.2.2.2 r0 = some 42) (i1 : (-2147483648) ≤ a1 ∧ a1 ≤ 2147483647) (hRB_r0 : RB T H r0 e d) : wpc kt 1 218 [.ref r0, vI a1] T H (uq_218 r0 a1 e d T H) := by
  refine wp_enter e218 (Nat.le_of_ble_eq_true rfl) rfl ?_
  show wp _ _ 218 0 [(0, .ref r0), (1, vI a1)] [] _ H _
  have _b := RB_b hW hRB_r0
  have _nu := RB_n3 hRB_r0
  refine wp_of e218 c218_0 (rw_aload_n (pc' := 1) (v := .ref r0) rfl rfl rfl ?_)
  refine wp_of e218 c218_1 (xg_O (pc' := 4) lf_9_337 hW g0 sh_42 (by decide) (by decide) ty_42_3 rfl rfl (fun q1009 => ?_) (fun r1008 q1009 g1010 => ?_))
  · refine wp_of e218 c218_4 (rw_ifnull_n (p1 := 26) (p2 := 7) (by decide) rfl ?_)
    refine wp_of e218 c218_26 (rw_iconst (pc' := 27) rfl ?_)
    exact wp_zreturn e218 c218_27 rfl (by omega) ⟨rfl, rfl, 0, rfl, ⟨by decide, by decide⟩, (Or.inr ⟨by omega, by omega⟩)⟩
  · refine wp_of e218 c218_4 (rw_ifnull_r (p1 := 26) (p2 := 7) (by decide) rfl ?_)
    refine wp_of e218 c218_7 (rw_iload_n (pc' := 8) (z := a1) rfl rfl ?_)
    refine wp_of e218 c218_8 (rw_if_lt (p1 := 26) (p2 := 11) (by decide) rfl ⟨i1.1, i1.2⟩ (fun c1011 => ?_) (fun c1011 => ?_))
    · refine wp_of e218 c218_26 (rw_iconst (pc' := 27) rfl ?_)
      exact wp_zreturn e218 c218_27 rfl (by omega) ⟨rfl, rfl, 0, rfl, ⟨by decide, by decide⟩, (Or.inr ⟨by omega, by omega⟩)⟩
    · refine wp_of e218 c218_11 (rw_iload_n (pc' := 12) (z := a1) rfl rfl ?_)
      refine wp_of e218 c218_12 (rw_aload_n (pc' := 13) (v := .ref r0) rfl rfl rfl ?_)
      refine wp_of e218 c218_13 (xg_K (pc' := 16) lf_9_337 hW g0 sh_42 (by decide) (by decide) rfl q1009 rfl ?_)
      have _k := RP_k (RB_at hRB_r0 q1009)
      refine wp_of e218 c218_16 (xg_I (pc' := 19) lf_9_185 hW g1010 sh_54 (by decide) (by decide) ty_54_0 rfl rfl (fun b1012 b1013 => ?_))
      refine wp_of e218 c218_19 (rw_icmp_ge (p1 := 26) (p2 := 22) (by decide) rfl ⟨i1.1, i1.2⟩ ⟨Int.le_trans (by decide) b1012, Int.le_trans b1013 (by decide)⟩ (fun c1014 => ?_) (fun c1014 => ?_))
      · refine wp_of e218 c218_26 (rw_iconst (pc' := 27) rfl ?_)
        exact wp_zreturn e218 c218_27 rfl (by omega) ⟨rfl, rfl, 0, rfl, ⟨by decide, by decide⟩, (Or.inr ⟨by omega, by omega⟩)⟩
      · refine wp_of e218 c218_22 (rw_iconst (pc' := 23) rfl ?_)
        refine wp_of e218 c218_23 (rw_goto (p1 := 27) (by decide) ?_)
        exact wp_zreturn e218 c218_27 rfl (by omega) ⟨rfl, rfl, 1, rfl, ⟨by decide, by decide⟩, (Or.inl ⟨by omega, by omega⟩)⟩
/-! StrikeAwakeModel.isSpan(II)Z  -/
abbrev uq_215 (r0 : Nat) (a1 : Int) (a2 : Int) (e : xD) (d : xD) (T : wq_T) (H : wq_H) : Option Value → wq_T → wq_H → Prop := fun r T' H' => T = T' ∧ H = H' ∧ ∃ z : Int, some (vI z) = r ∧ (0 ≤ z ∧ z ≤ 1) ∧ (((z = 1) ∧ (((0 ≤ a1 ∧ a1 < d 0 3) ∧ 0 ≤ a2 ∧ a2 < ((xsp d (a1).toNat).length : Int)) ∧ H r0 3 ≠ -1)) ∨ ((z = 0) ∧ ((a1 < 0 ∨ d 0 3 ≤ a1) ∨ a2 < 0 ∨ ((xsp d (a1).toNat).length : Int) ≤ a2)))
set_option maxHeartbeats 4000000 in
theorem u_215 {kt : Nat → Option mc_E} {T : wq_T} {H : wq_H} {r0 : Nat} {a1 : Int} {a2 : Int} {e : xD} {d : xD} (hW : WT T H) (g0 : T.2.2.2 r0 = some 42) (i1 : (-2147483648) ≤ a1 ∧ a1 ≤ 2147483647) (i2 : (-2147483648) ≤ a2 ∧ a2 ≤ 2147483647) (hRB_r0 : RB T H r0 e d) : wpc kt 2 215 [.ref r0, vI a1, vI a2] T H (uq_215 r0 a1 a2 e d T H) := by
  refine wp_enter e215 (Nat.le_of_ble_eq_true rfl) rfl ?_
  show wp _ _ 215 0 [(0, .ref r0), (1, vI a1), (2, vI a2)] [] _ H _
  have _b := RB_b hW hRB_r0
  have _nu := RB_n3 hRB_r0
  refine wp_of e215 c215_0 (rw_aload_n (pc' := 1) (v := .ref r0) rfl rfl rfl ?_)
  refine wp_of e215 c215_1 (rw_iload_n (pc' := 2) (z := a1) rfl rfl ?_)
  refine wp_of e215 c215_2 (xc_V (pc' := 5) (r := r0) (as := [vI a1]) (st := []) (lm_9_364) rfl rfl (Nat.le_of_ble_eq_true rfl) hW g0 sh_42 (by decide) rfl (by decide) (u_213 (e := e) (d := d) hW g0 ⟨i1.1, i1.2⟩ hRB_r0) (fun R1024 T1025 H1026 p1027 => ?_))
  obtain ⟨e1028, e1030, z1031, e1029, b1032, p1033⟩ := p1027
  subst e1028
  subst e1029
  subst e1030
  rcases p1033 with ⟨a1034, a1035⟩ | ⟨a1036, a1037⟩
  · show wp _ _ 215 5 [(0, .ref r0), (1, vI a1), (2, vI a2)] [vI z1031] _ H _
    refine wp_of e215 c215_5 (rw_if_eq (p1 := 26) (p2 := 8) (by decide) rfl ⟨Int.le_trans (by decide) b1032.1, Int.le_trans b1032.2 (by decide)⟩ (fun c1038 => ?_) (fun c1038 => ?_))
    · exfalso
      omega
    · refine wp_of e215 c215_8 (rw_iload_n (pc' := 9) (z := a2) rfl rfl ?_)
      refine wp_of e215 c215_9 (rw_if_lt (p1 := 26) (p2 := 12) (by decide) rfl ⟨i2.1, i2.2⟩ (fun c1039 => ?_) (fun c1039 => ?_))
      · refine wp_of e215 c215_26 (rw_iconst (pc' := 27) rfl ?_)
        exact wp_zreturn e215 c215_27 rfl (by omega) ⟨rfl, rfl, 0, rfl, ⟨by decide, by decide⟩, (Or.inr ⟨by omega, by omega⟩)⟩
      · have _ar := RB_ar hRB_r0 (by omega)
        have _pk := _ar.1
        have h1040 : MN21 T H r0 (d 0 3) (lln (xsp d)) := _ar.2.2.2.1
        refine wp_of e215 c215_12 (rw_iload_n (pc' := 13) (z := a2) rfl rfl ?_)
        refine wp_of e215 c215_13 (rw_aload_n (pc' := 14) (v := .ref r0) rfl rfl rfl ?_)
        refine wp_of e215 c215_14 (xg_R (pc' := 17) lf_9_21 hW g0 sh_42 (by decide) (by decide) ty_42_21 rfl rfl (fun r1041 q1042 g1043 => ?_))
        refine wp_of e215 c215_17 (rw_iload_n (pc' := 18) (z := a1) rfl rfl ?_)
        refine wp_of e215 c215_18 (xa_I (so := 0) (pc' := 19) hW g1043 sh_45 (by decide) (ty_45 _) (by omega) (by omega) rfl (fun b1044 b1045 => ?_))
        have := DA_at h1040 q1042 (k := (a1.toNat)) (by omega)
        have _l : lln (xsp d) (a1.toNat) = ((xsp d (a1.toNat)).length : Int) := rfl
        refine wp_of e215 c215_19 (rw_icmp_ge (p1 := 26) (p2 := 22) (by decide) rfl ⟨i2.1, i2.2⟩ ⟨Int.le_trans (by decide) b1044, Int.le_trans b1045 (by decide)⟩ (fun c1046 => ?_) (fun c1046 => ?_))
        · refine wp_of e215 c215_26 (rw_iconst (pc' := 27) rfl ?_)
          exact wp_zreturn e215 c215_27 rfl (by omega) ⟨rfl, rfl, 0, rfl, ⟨by decide, by decide⟩, (Or.inr ⟨by omega, by omega⟩)⟩
        · refine wp_of e215 c215_22 (rw_iconst (pc' := 23) rfl ?_)
          refine wp_of e215 c215_23 (rw_goto (p1 := 27) (by decide) ?_)
          exact wp_zreturn e215 c215_27 rfl (by omega) ⟨rfl, rfl, 1, rfl, ⟨by decide, by decide⟩, (Or.inl ⟨by omega, by omega⟩)⟩
  · show wp _ _ 215 5 [(0, .ref r0), (1, vI a1), (2, vI a2)] [vI z1031] _ H _
    refine wp_of e215 c215_5 (rw_if_eq (p1 := 26) (p2 := 8) (by decide) rfl ⟨Int.le_trans (by decide) b1032.1, Int.le_trans b1032.2 (by decide)⟩ (fun c1047 => ?_) (fun c1047 => ?_))
    · refine wp_of e215 c215_26 (rw_iconst (pc' := 27) rfl ?_)
      exact wp_zreturn e215 c215_27 rfl (by omega) ⟨rfl, rfl, 0, rfl, ⟨by decide, by decide⟩, (Or.inr ⟨by omega, by omega⟩)⟩
    · exfalso
      omega
/-! StrikeAwakeModel.say(II)Z  -/
abbrev uq_222 (r0 : Nat) (a1 : Int) (a2 : Int) (e : xD) (d : xD) (nY : Int) (gY : Nat → Int) (cY : Int) (T : wq_T) (H : wq_H) : Option Value → wq_T → wq_H → Prop := fun r T' H' => T = T' ∧ WT T H' ∧ wfr [(42, 0), (42, 1), (42, 2), (50, 999)] T H H' ∧ ∃ z : Int, some (vI z) = r ∧ (0 ≤ z ∧ z ≤ 1) ∧ (((z = 1) ∧ ((0 ≤ a1 ∧ a1 < d 0 3) ∧ 0 ≤ a2 ∧ a2 < ((xsp d (a1).toNat).length : Int)) ∧ RY T H' r0 nY (xup gY (a1).toNat a2) cY) ∨ ((z = 0) ∧ ((a1 < 0 ∨ d 0 3 ≤ a1) ∨ a2 < 0 ∨ ((xsp d (a1).toNat).length : Int) ≤ a2) ∧ RY T H' r0 nY gY cY))
set_option maxHeartbeats 4000000 in
theorem u_222 {kt : Nat → Option mc_E} {T : wq_T} {H : wq_H} {r0 : Nat} {a1 : Int} {a2 : Int} {e : xD} {d : xD} {nY : Int} {gY : Nat → Int} {cY : Int} (hW : WT T H) (g0 : T.2.2.2 r0 = some 42) (i1 : (-2147483648) ≤ a1 ∧ a1 ≤ 2147483647) (i2 : (-2147483648) ≤ a2 ∧ a2 ≤ 2147483647) (p0 : nY = d 0 3) (hRB_r0 : RB T H r0 e d) (hRY_r0 : RY T H r0 nY gY cY) : wpc kt 3 222 [.ref r0, vI a1, vI a2] T H (uq_222 r0 a1 a2 e d nY gY cY T H) := by
  refine wp_enter e222 (Nat.le_of_ble_eq_true rfl) rfl ?_
  have f0 : wfr [(42, 0), (42, 1), (42, 2), (50, 999)] T H H := wfr.rf
  show wp _ _ 222 0 [(0, .ref r0), (1, vI a1), (2, vI a2)] [] _ H _
  have _b := RB_b hW hRB_r0
  have _nu := RB_n3 hRB_r0
  refine wp_of e222 c222_0 (rw_aload_n (pc' := 1) (v := .ref r0) rfl rfl rfl ?_)
  refine wp_of e222 c222_1 (rw_iconst (pc' := 2) rfl ?_)
  refine wp_of e222 c222_2 (xp_I (pc' := 5) lf_9_48 hW g0 sh_42 (by decide) (by decide) ty_42_0 rfl rfl (by decide) (by decide) ⟨by decide, by decide⟩ rfl (fun H1059 e1060 w1061 => ?_))
  have f1062 := f0.put' e1060 g0 rfl
  have k1063 : H1059 r0 0 = 0 := wq_u_s e1060
  refine wp_of e222 c222_5 (rw_aload_n (pc' := 6) (v := .ref r0) rfl rfl rfl ?_)
  refine wp_of e222 c222_6 (rw_iload_n (pc' := 7) (z := a1) rfl rfl ?_)
  refine wp_of e222 c222_7 (rw_iload_n (pc' := 8) (z := a2) rfl rfl ?_)
  have h1064 : RB T H1059 r0 e d := (RB_fr hW g0 ((wfr.rf (l := [(42, 0)])).put' e1060 g0 rfl) rfl hRB_r0)
  refine wp_of e222 c222_8 (xc_V (pc' := 11) (r := r0) (as := [vI a1, vI a2]) (st := []) (lm_9_367) rfl rfl (Nat.le_of_ble_eq_true rfl) w1061 g0 sh_42 (by decide) rfl (by decide) (u_215 (e := e) (d := d) w1061 g0 ⟨i1.1, i1.2⟩ ⟨i2.1, i2.2⟩ h1064) (fun R1065 T1066 H1067 p1068 => ?_))
  obtain ⟨e1069, e1071, z1072, e1070, b1073, p1074⟩ := p1068
  subst e1069
  subst e1070
  subst e1071
  rcases p1074 with ⟨a1075, a1076⟩ | ⟨a1077, a1078⟩
  · show wp _ _ 222 11 [(0, .ref r0), (1, vI a1), (2, vI a2)] [vI z1072] _ H1059 _
    refine wp_of e222 c222_11 (rw_if_ne (p1 := 20) (p2 := 14) (by decide) rfl ⟨Int.le_trans (by decide) b1073.1, Int.le_trans b1073.2 (by decide)⟩ (fun c1079 => ?_) (fun c1079 => ?_))
    · have _xl := @xsp_len d (a1).toNat (RB_ar h1064 (by omega)).1
      refine wp_of e222 c222_20 (rw_aload_n (pc' := 21) (v := .ref r0) rfl rfl rfl ?_)
      refine wp_of e222 c222_21 (xg_R (pc' := 24) lf_9_36 w1061 g0 sh_42 (by decide) (by decide) ty_42_26 rfl rfl (fun r1080 q1081 g1082 => ?_))
      refine wp_of e222 c222_24 (rw_iload_n (pc' := 25) (z := a1) rfl rfl ?_)
      refine wp_of e222 c222_25 (rw_iload_n (pc' := 26) (z := a2) rfl rfl ?_)
      have h1083 : RY T H1059 r0 nY gY cY := (RY_fr hW g0 ((wfr.rf (l := [(42, 0)])).put' e1060 g0 rfl) rfl hRY_r0)
      refine wp_of e222 c222_26 (xs_I (pc' := 27) w1061 g1082 (by decide) sh_50 (by decide) (ty_50 _) (by omega) (by omega) ⟨i2.1, i2.2⟩ (by omega) (by omega) rfl (fun H1084 e1085 w1086 => ?_))
      have f1087 := f1062.put' e1085 g1082 rfl
      have h1088 : RY T H1084 r0 nY (xup gY (a1).toNat a2) cY := RY_put h1083 q1081 g0 g1082 e1085
      refine wp_of e222 c222_27 (rw_aload_n (pc' := 28) (v := .ref r0) rfl rfl rfl ?_)
      refine wp_of e222 c222_28 (xc_V (pc' := 31) (r := r0) (as := []) (st := []) (lm_9_403) rfl rfl (Nat.le_of_ble_eq_true rfl) w1086 g0 sh_42 (by decide) rfl (by decide) (u_224  w1086 g0) (fun R1089 T1090 H1091 p1092 => ?_))
      obtain ⟨e1093, w1095, f1096, z1097, e1094, b1098, p1099⟩ := p1092
      subst e1093
      subst e1094
      obtain ⟨a1100, a1101, a1102⟩ := p1099
      have f1103 := f1087.tr f1096 rfl
      show wp _ _ 222 31 [(0, .ref r0), (1, vI a1), (2, vI a2)] [vI z1097] _ H1091 _
      have h1104 : RY T H1091 r0 nY (xup gY (a1).toNat a2) cY := (RY_fr w1086 g0 f1096 rfl h1088)
      exact wp_zreturn e222 c222_31 rfl (by omega) ⟨rfl, w1095, f1103, z1097, rfl, ⟨b1098.1, b1098.2⟩, (Or.inl ⟨by omega, by omega, h1104⟩)⟩
    · exfalso
      omega
  · show wp _ _ 222 11 [(0, .ref r0), (1, vI a1), (2, vI a2)] [vI z1072] _ H1059 _
    refine wp_of e222 c222_11 (rw_if_ne (p1 := 20) (p2 := 14) (by decide) rfl ⟨Int.le_trans (by decide) b1073.1, Int.le_trans b1073.2 (by decide)⟩ (fun c1105 => ?_) (fun c1105 => ?_))
    · exfalso
      omega
    · refine wp_of e222 c222_14 (rw_aload_n (pc' := 15) (v := .ref r0) rfl rfl rfl ?_)
      refine wp_of e222 c222_15 (rw_iconst (pc' := 16) rfl ?_)
      refine wp_of e222 c222_16 (xc_V (pc' := 19) (r := r0) (as := [vI 1]) (st := []) (lm_9_400) rfl rfl (Nat.le_of_ble_eq_true rfl) w1061 g0 sh_42 (by decide) rfl (by decide) (u_223  w1061 g0 ⟨by decide, by decide⟩) (fun R1106 T1107 H1108 p1109 => ?_))
      obtain ⟨e1110, w1112, f1113, z1114, e1111, b1115, p1116⟩ := p1109
      subst e1110
      subst e1111
      obtain ⟨a1117, a1118, a1119⟩ := p1116
      have f1120 := f1062.tr f1113 rfl
      show wp _ _ 222 19 [(0, .ref r0), (1, vI a1), (2, vI a2)] [vI z1114] _ H1108 _
      have h1121 : RY T H1108 r0 nY gY cY := (RY_fr w1061 g0 f1113 rfl (RY_fr hW g0 ((wfr.rf (l := [(42, 0)])).put' e1060 g0 rfl) rfl hRY_r0))
      exact wp_zreturn e222 c222_19 rfl (by omega) ⟨rfl, w1112, f1120, z1114, rfl, ⟨b1115.1, b1115.2⟩, (Or.inr ⟨by omega, by omega, h1121⟩)⟩
/-! StrikeAwakeModel.bits(I)I  -/
abbrev uq_269 (a0 : Int) (T : wq_T) (H : wq_H) : Option Value → wq_T → wq_H → Prop := fun r T' H' => T = T' ∧ H = H' ∧ ∃ z : Int, some (vI z) = r ∧ (0 ≤ z ∧ z ≤ 16777215) ∧ (((z = ((nbf 24 (a0).toNat : Nat) : Int))))
set_option maxHeartbeats 4000000 in
theorem u_269 {kt : Nat → Option mc_E} {T : wq_T} {H : wq_H} {a0 : Int} (hW : WT T H) (i0 : 0 ≤ a0 ∧ a0 ≤ 16777215) : wpc kt 1 269 [vI a0] T H (uq_269 a0 T H) := by
  refine wp_enter e269 (Nat.le_of_ble_eq_true rfl) rfl ?_
  show wp _ _ 269 0 [(0, vI a0)] [] _ H _
  refine wp_of e269 c269_0 (rw_iconst (pc' := 1) rfl ?_)
  refine wp_of e269 c269_1 (rw_istore_n (pc' := 2) (z := 0) (L' := [(1, vI 0), (0, vI a0)]) rfl rfl rfl ?_)
  refine wp_of e269 c269_2 (rw_iload_n (pc' := 3) (z := a0) rfl rfl ?_)
  refine wp_of e269 c269_3 (rw_istore_n (pc' := 4) (z := a0) (L' := [(2, vI a0), (1, vI 0), (0, vI a0)]) rfl rfl rfl ?_)
  have lp1053 : ∀ (n1054 : Nat) (v1056 : Int) (v1057 : Int), (0 ≤ v1056 ∧ v1056 ≤ 16777215) → (0 ≤ v1057 ∧ v1057 ≤ 16777215) → (v1057 + v1056 ≤ a0) → (v1057 + ((nbf 24 (v1056).toNat : Nat) : Int) = ((nbf 24 (a0).toNat : Nat) : Int)) → (v1056).toNat = n1054 → wp kt 0 269 4 [(2, vI v1056), (1, vI v1057)] [] T H (uq_269 a0 T H) := by
    intro n1054
    induction n1054 using Nat.strongRecOn with
    | _ n1054 ih1055 =>
      intro v1056 v1057 b1060 b1061 x1062 x1064 m1063
      refine wp_of e269 c269_4 (rw_iload_n (pc' := 5) (z := v1056) rfl rfl ?_)
      refine wp_of e269 c269_5 (rw_if_eq (p1 := 20) (p2 := 8) (by decide) rfl ⟨Int.le_trans (by decide) b1060.1, Int.le_trans b1060.2 (by decide)⟩ (fun c1065 => ?_) (fun c1065 => ?_))
      · have _z : nbf 24 (v1056).toNat = 0 := by
          rw [show (v1056).toNat = 0 by omega]
          exact nbf_0 24
        refine wp_of e269 c269_20 (rw_iload_n (pc' := 21) (z := v1057) rfl rfl ?_)
        exact wp_ireturn e269 c269_21 rfl ⟨rfl, rfl, v1057, rfl, ⟨b1061.1, b1061.2⟩, (by omega)⟩
      · refine wp_of e269 c269_8 (rw_iinc (pc' := 11) (z := v1057) (L' := [(1, vI (v1057 + 1)), (2, vI v1056)]) rfl rfl rfl rfl ?_)
        refine wp_of e269 c269_11 (rw_iload_n (pc' := 12) (z := v1056) rfl rfl ?_)
        refine wp_of e269 c269_12 (rw_iload_n (pc' := 13) (z := v1056) rfl rfl ?_)
        refine wp_of e269 c269_13 (rw_iconst (pc' := 14) rfl ?_)
        refine wp_of e269 c269_14 (rw_isub (pc' := 15) rfl ?_)
        refine wp_of e269 c269_15 (rw_iand (pc' := 16) rfl ?_)
        obtain ⟨v1066, e1067⟩ : ∃ x : Int, x = wq_and v1056 (v1056 - 1) := ⟨_, rfl⟩
        rw [← e1067]
        have b1068 : 0 ≤ v1066 ∧ v1066 ≤ (v1056 - 1) := by
          rw [e1067]
          exact wq_and_b _ (by omega) (by omega)
        refine wp_of e269 c269_16 (rw_istore_n (pc' := 17) (z := v1066) (L' := [(2, vI v1066), (1, vI (v1057 + 1))]) rfl rfl rfl ?_)
        refine wp_of e269 c269_17 (rw_goto (p1 := 4) (by decide) ?_)
        exact wp_lc (ks := [2, 1]) (wl_c rfl (wl_c rfl wl_n)) rfl (by decide) (ih1055 _ (by omega) v1066 (v1057 + 1) ⟨by omega, by omega⟩ ⟨by omega, by omega⟩ (by omega) (by have := nb_step (x := v1056) (by omega) (by omega) rfl (by assumption); omega) rfl)
  exact wp_lc (ks := [2, 1, 0]) (wl_c rfl (wl_c rfl wl_n)) rfl (by decide) (lp1053 _ a0 0 ⟨i0.1, i0.2⟩ ⟨by decide, by decide⟩ (by omega) (by omega) rfl)
/-! StrikeAwakeModel.strike(II)I  -/
abbrev uq_285 (r0 : Nat) (a1 : Int) (a2 : Int) (e : xD) (d : xD) (y : Int) (w : Int) (T : wq_T) (H : wq_H) : Option Value → wq_T → wq_H → Prop := fun r T' H' => T = T' ∧ WT T H' ∧ wfr [(42, 0), (42, 1), (42, 2), (42, 28), (44, 999)] T H H' ∧ ∃ z : Int, some (vI z) = r ∧ ((-2147483648) ≤ z ∧ z ≤ 2147483647) ∧ (((z = -1) ∧ ((y < 0 ∨ d 0 0 ≤ y) ∨ a2 < 0 ∨ 99 < a2) ∧ (wKI H' r0 = 1) ∧ RB T H' r0 e d ∧ KNN T H' r0 e d) ∨ (((0 ≤ y ∧ y < d 0 0) ∧ 0 ≤ a2 ∧ a2 ≤ 99) ∧ (wKI H' r0 = 1) ∧ (z = xcn ((wq_u e 13 (y).toNat w) 13) 24) ∧ (H' r0 28 = 0) ∧ RB T H' r0 (wq_u e 13 (y).toNat w) d))
set_option maxHeartbeats 4000000 in
theorem u_285 {kt : Nat → Option mc_E} {T : wq_T} {H : wq_H} {r0 : Nat} {a1 : Int} {a2 : Int} {e : xD} {d : xD} {y : Int} {w : Int} (hW : WT T H) (g0 : T.2.2.2 r0 = some 42) (i1 : (-2147483648) ≤ a1 ∧ a1 ≤ 2147483647) (i2 : (-2147483648) ≤ a2 ∧ a2 ≤ 2147483647) (p0 : wKI H r0 = 1) (p1 : a1 = y) (p2 : w = a2 + 1) (hRB_r0 : RB T H r0 e d) (hKNN_r0 : KNN T H r0 e d) : wpc kt 2 285 [.ref r0, vI a1, vI a2] T H (uq_285 r0 a1 a2 e d y w T H) := by
  refine wp_enter e285 (Nat.le_of_ble_eq_true rfl) rfl ?_
  have f0 : wfr [(42, 0), (42, 1), (42, 2), (42, 28), (44, 999)] T H H := wfr.rf
  show wp _ _ 285 0 [(0, .ref r0), (1, vI a1), (2, vI a2)] [] _ H _
  have _b := RB_b hW hRB_r0
  have _nu := RB_n3 hRB_r0
  refine wp_of e285 c285_0 (rw_aload_n (pc' := 1) (v := .ref r0) rfl rfl rfl ?_)
  refine wp_of e285 c285_1 (rw_iconst (pc' := 2) rfl ?_)
  refine wp_of e285 c285_2 (xp_I (pc' := 5) lf_9_48 hW g0 sh_42 (by decide) (by decide) ty_42_0 rfl rfl (by decide) (by decide) ⟨by decide, by decide⟩ rfl (fun H1120 e1121 w1122 => ?_))
  have f1123 := f0.put' e1121 g0 rfl
  have k1124 : H1120 r0 0 = 0 := wq_u_s e1121
  refine wp_of e285 c285_5 (rw_aload_n (pc' := 6) (v := .ref r0) rfl rfl rfl ?_)
  refine wp_of e285 c285_6 (rw_iload_n (pc' := 7) (z := a1) rfl rfl ?_)
  have h1125 : RB T H1120 r0 e d := (RB_fr hW g0 ((wfr.rf (l := [(42, 0)])).put' e1121 g0 rfl) rfl hRB_r0)
  refine wp_of e285 c285_7 (xc_V (pc' := 10) (r := r0) (as := [vI a1]) (st := []) (lm_9_373) rfl rfl (Nat.le_of_ble_eq_true rfl) w1122 g0 sh_42 (by decide) rfl (by decide) (u_218 (e := e) (d := d) w1122 g0 ⟨i1.1, i1.2⟩ h1125) (fun R1126 T1127 H1128 p1129 => ?_))
  obtain ⟨e1130, e1132, z1133, e1131, b1134, p1135⟩ := p1129
  subst e1130
  subst e1131
  subst e1132
  rcases p1135 with ⟨a1136, a1137⟩ | ⟨a1138, a1139⟩
  · show wp _ _ 285 10 [(0, .ref r0), (1, vI a1), (2, vI a2)] [vI z1133] _ H1120 _
    refine wp_of e285 c285_10 (rw_if_ne (p1 := 19) (p2 := 13) (by decide) rfl ⟨Int.le_trans (by decide) b1134.1, Int.le_trans b1134.2 (by decide)⟩ (fun c1140 => ?_) (fun c1140 => ?_))
    · refine wp_of e285 c285_19 (rw_iload_n (pc' := 20) (z := a2) rfl rfl ?_)
      refine wp_of e285 c285_20 (rw_iconst (pc' := 21) rfl ?_)
      refine wp_of e285 c285_21 (rw_bipush (pc' := 23) (z := 99) rfl (by decide) ?_)
      refine wp_of e285 c285_23 (xc_S (pc' := 26) (as := [vI a2, vI 0, vI 99]) (st := []) (lm_9_125) rfl rfl (Nat.le_of_ble_eq_true rfl) rfl (by decide) (u_186  w1122 ⟨i2.1, i2.2⟩ ⟨by decide, by decide⟩ ⟨by decide, by decide⟩) (fun R1141 T1142 H1143 p1144 => ?_))
      obtain ⟨e1145, e1147, z1148, e1146, b1149, p1150⟩ := p1144
      subst e1145
      subst e1146
      subst e1147
      rcases p1150 with ⟨a1151, a1152⟩ | ⟨a1153, a1154⟩
      · show wp _ _ 285 26 [(0, .ref r0), (1, vI a1), (2, vI a2)] [vI z1148] _ H1120 _
        refine wp_of e285 c285_26 (rw_if_ne (p1 := 35) (p2 := 29) (by decide) rfl ⟨Int.le_trans (by decide) b1149.1, Int.le_trans b1149.2 (by decide)⟩ (fun c1155 => ?_) (fun c1155 => ?_))
        · refine wp_of e285 c285_35 (rw_aload_n (pc' := 36) (v := .ref r0) rfl rfl rfl ?_)
          refine wp_of e285 c285_36 (xg_R (pc' := 39) lf_9_17 w1122 g0 sh_42 (by decide) (by decide) ty_42_20 rfl rfl (fun r1156 q1157 g1158 => ?_))
          refine wp_of e285 c285_39 (rw_iload_n (pc' := 40) (z := a1) rfl rfl ?_)
          refine wp_of e285 c285_40 (rw_iload_n (pc' := 41) (z := a2) rfl rfl ?_)
          refine wp_of e285 c285_41 (rw_iconst (pc' := 42) rfl ?_)
          refine wp_of e285 c285_42 (rw_iaddw (pc' := 43) rfl ?_)
          obtain ⟨v1159, e1160⟩ : ∃ x : Int, x = wq_w (a2 + 1) := ⟨_, rfl⟩
          rw [← e1160]
          have b1161 : -2147483648 ≤ v1159 ∧ v1159 ≤ 2147483647 := by
            rw [e1160]
            exact wI_w _
          have b1162 : (-2147483648 ≤ a2 + 1 ∧ a2 + 1 ≤ 2147483647) → v1159 = a2 + 1 := fun h => by rw [e1160]; exact wq_w_id h
          refine wp_of e285 c285_43 (xs_I (pc' := 44) w1122 g1158 (by decide) sh_44 (by decide) (ty_44 _) (b1161.1) (b1161.2) ⟨b1161.1, b1161.2⟩ (by omega) (by omega) rfl (fun H1163 e1164 w1165 => ?_))
          have f1166 := f1123.put' e1164 g1158 rfl
          have h1167 : RB T H1163 r0 (wq_u e 13 (y).toNat w) d := RB_st w1122 h1125 (by omega) g0 q1157 g1158 e1164 (by omega) (by omega)
          refine wp_of e285 c285_44 (rw_aload_n (pc' := 45) (v := .ref r0) rfl rfl rfl ?_)
          refine wp_of e285 c285_45 (rw_iconst (pc' := 46) rfl ?_)
          refine wp_of e285 c285_46 (xp_Z (pc' := 49) lf_9_353 w1165 g0 sh_42 (by decide) (by decide) ty_42_28 rfl rfl (by decide) (by decide) rfl (fun H1168 e1169 w1170 => ?_))
          have f1171 := f1166.put' e1169 g0 rfl
          have k1172 : H1168 r0 28 = 0 := wq_u_s e1169
          refine wp_of e285 c285_49 (rw_aload_n (pc' := 50) (v := .ref r0) rfl rfl rfl ?_)
          have k1173 : H1168 r0 3 = H r0 3 := ((wq_u_j e1169 rfl).trans ((wq_u_t e1164 g1158 g0 rfl 3).trans (wq_u_j e1121 rfl)))
          have h1174 : RB T H1168 r0 (wq_u e 13 (y).toNat w) d := (RB_fr w1165 g0 ((wfr.rf (l := [(42, 28)])).put' e1169 g0 rfl) rfl h1167)
          have h1175 : MN20 T H1168 r0 24 (wq_u e 13 (y).toNat w 13) := (RB_ar h1174 (by omega)).2.2.1
          refine wp_of e285 c285_50 (rw_aload_n (pc' := 51) (v := .ref r0) rfl rfl rfl ?_)
          refine wp_of e285 c285_51 (xc_V (pc' := 54) (r := r0) (as := []) (st := [.ref r0]) (lm_9_357) rfl rfl (Nat.le_of_ble_eq_true rfl) w1170 g0 sh_42 (by decide) rfl (by decide) (u_207 (f := ((wq_u e 13 (y).toNat w 13))) w1170 g0 h1175) (fun R1176 T1177 H1178 p1179 => ?_))
          obtain ⟨e1180, e1182, z1183, e1181, b1184, p1185⟩ := p1179
          subst e1180
          subst e1181
          subst e1182
          show wp _ _ 285 54 [(0, .ref r0), (1, vI a1), (2, vI a2)] [vI z1183, .ref r0] _ H1168 _
          have _w : nbf 24 (z1183).toNat = nbf 24 (xob (fun h => decide ((wq_u e 13 (y).toNat w 13) h > 0)) 24).toNat := by rw [show z1183 = xob (fun h => decide ((wq_u e 13 (y).toNat w 13) h > 0)) 24 by omega]
          have _v := @xob_bits (wq_u e 13 (y).toNat w 13)
          refine wp_of e285 c285_54 (xc_S (pc' := 57) (as := [vI z1183]) (st := [.ref r0]) (lm_9_462) rfl rfl (Nat.le_of_ble_eq_true rfl) rfl (by decide) (u_269  w1170 ⟨b1184.1, b1184.2⟩) (fun R1187 T1188 H1189 p1190 => ?_))
          obtain ⟨e1191, e1193, z1194, e1192, b1195, p1196⟩ := p1190
          subst e1191
          subst e1192
          subst e1193
          show wp _ _ 285 57 [(0, .ref r0), (1, vI a1), (2, vI a2)] [vI z1194, .ref r0] _ H1168 _
          refine wp_of e285 c285_57 (xc_V (pc' := 60) (r := r0) (as := [vI z1194]) (st := []) (lm_9_58) rfl rfl (Nat.le_of_ble_eq_true rfl) w1170 g0 sh_42 (by decide) rfl (by decide) (u_209  w1170 g0 ⟨Int.le_trans (by decide) b1195.1, Int.le_trans b1195.2 (by decide)⟩) (fun R1198 T1199 H1200 p1201 => ?_))
          obtain ⟨e1202, w1204, f1205, z1206, e1203, b1207, p1208⟩ := p1201
          subst e1202
          subst e1203
          obtain ⟨a1209, a1210, a1211⟩ := p1208
          have f1212 := f1171.tr f1205 rfl
          show wp _ _ 285 60 [(0, .ref r0), (1, vI a1), (2, vI a2)] [vI z1206] _ H1200 _
          have k1213 : H1200 r0 28 = H1168 r0 28 := (f1205 r0 28 _ g0 rfl)
          have k1214 : wKI H1200 r0 = 1 := wKI_1.mpr (by omega)
          have h1215 : RB T H1200 r0 (wq_u e 13 (y).toNat w) d := (RB_fr w1170 g0 f1205 rfl h1174)
          exact wp_ireturn e285 c285_60 rfl ⟨rfl, w1204, f1212, z1206, rfl, ⟨b1207.1, b1207.2⟩, (Or.inr ⟨by omega, by omega, by omega, by omega, h1215⟩)⟩
        · exfalso
          omega
      · show wp _ _ 285 26 [(0, .ref r0), (1, vI a1), (2, vI a2)] [vI z1148] _ H1120 _
        refine wp_of e285 c285_26 (rw_if_ne (p1 := 35) (p2 := 29) (by decide) rfl ⟨Int.le_trans (by decide) b1149.1, Int.le_trans b1149.2 (by decide)⟩ (fun c1216 => ?_) (fun c1216 => ?_))
        · exfalso
          omega
        · refine wp_of e285 c285_29 (rw_aload_n (pc' := 30) (v := .ref r0) rfl rfl rfl ?_)
          refine wp_of e285 c285_30 (rw_iconst (pc' := 31) rfl ?_)
          refine wp_of e285 c285_31 (xc_V (pc' := 34) (r := r0) (as := [vI 2]) (st := []) (lm_9_54) rfl rfl (Nat.le_of_ble_eq_true rfl) w1122 g0 sh_42 (by decide) rfl (by decide) (u_170  w1122 g0 ⟨by decide, by decide⟩) (fun R1217 T1218 H1219 p1220 => ?_))
          obtain ⟨e1221, w1223, f1224, z1225, e1222, b1226, p1227⟩ := p1220
          subst e1221
          subst e1222
          obtain ⟨a1228, a1229, a1230⟩ := p1227
          have f1231 := f1123.tr f1224 rfl
          show wp _ _ 285 34 [(0, .ref r0), (1, vI a1), (2, vI a2)] [vI z1225] _ H1219 _
          have k1232 : wKI H1219 r0 = wKI H r0 := ((wKI_fr w1122 g0 f1224 rfl).trans (wKI_fr hW g0 ((wfr.rf (l := [(42, 0)])).put' e1121 g0 rfl) rfl))
          have h1233 : RB T H1219 r0 e d := (RB_fr w1122 g0 f1224 rfl h1125)
          have h1234 : KNN T H1219 r0 e d := (KNN_fr w1122 g0 f1224 rfl (KNN_fr hW g0 ((wfr.rf (l := [(42, 0)])).put' e1121 g0 rfl) rfl hKNN_r0))
          exact wp_ireturn e285 c285_34 rfl ⟨rfl, w1223, f1231, z1225, rfl, ⟨b1226.1, b1226.2⟩, (Or.inl ⟨by omega, by omega, by omega, h1233, h1234⟩)⟩
    · exfalso
      omega
  · show wp _ _ 285 10 [(0, .ref r0), (1, vI a1), (2, vI a2)] [vI z1133] _ H1120 _
    refine wp_of e285 c285_10 (rw_if_ne (p1 := 19) (p2 := 13) (by decide) rfl ⟨Int.le_trans (by decide) b1134.1, Int.le_trans b1134.2 (by decide)⟩ (fun c1235 => ?_) (fun c1235 => ?_))
    · exfalso
      omega
    · refine wp_of e285 c285_13 (rw_aload_n (pc' := 14) (v := .ref r0) rfl rfl rfl ?_)
      refine wp_of e285 c285_14 (rw_iconst (pc' := 15) rfl ?_)
      refine wp_of e285 c285_15 (xc_V (pc' := 18) (r := r0) (as := [vI 1]) (st := []) (lm_9_54) rfl rfl (Nat.le_of_ble_eq_true rfl) w1122 g0 sh_42 (by decide) rfl (by decide) (u_170  w1122 g0 ⟨by decide, by decide⟩) (fun R1236 T1237 H1238 p1239 => ?_))
      obtain ⟨e1240, w1242, f1243, z1244, e1241, b1245, p1246⟩ := p1239
      subst e1240
      subst e1241
      obtain ⟨a1247, a1248, a1249⟩ := p1246
      have f1250 := f1123.tr f1243 rfl
      show wp _ _ 285 18 [(0, .ref r0), (1, vI a1), (2, vI a2)] [vI z1244] _ H1238 _
      have k1251 : wKI H1238 r0 = wKI H r0 := ((wKI_fr w1122 g0 f1243 rfl).trans (wKI_fr hW g0 ((wfr.rf (l := [(42, 0)])).put' e1121 g0 rfl) rfl))
      have h1252 : RB T H1238 r0 e d := (RB_fr w1122 g0 f1243 rfl h1125)
      have h1253 : KNN T H1238 r0 e d := (KNN_fr w1122 g0 f1243 rfl (KNN_fr hW g0 ((wfr.rf (l := [(42, 0)])).put' e1121 g0 rfl) rfl hKNN_r0))
      exact wp_ireturn e285 c285_18 rfl ⟨rfl, w1242, f1250, z1244, rfl, ⟨b1245.1, b1245.2⟩, (Or.inl ⟨by omega, by omega, by omega, h1252, h1253⟩)⟩
