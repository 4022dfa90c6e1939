/-! what methods do (own work, written by wip/gen3/sx3.py) -/
/-! StrikeAwake$Reader.readsLine(LStrikeAwake$Parish;)Z  -/
abbrev uq_17 (r0 : Nat) (r1 : Nat) (tk : Nat) (rb : Nat) (B : Nat → Int) (n : Int) (q : Int) (d : xD) (T : wq_T) (H : wq_H) : Option Value → wq_T → wq_H → Prop := fun r T' H' => T = T' ∧ WT T H' ∧ wfr [(27, 7), (27, 8), (27, 9), (27, 10), (27, 11), (27, 12), (27, 13), (27, 14), (27, 15), (27, 16), (35, 6), (35, 7), (35, 8), (35, 9), (35, 10), (35, 11), (35, 12), (35, 13), (35, 14), (35, 15), (35, 16), (35, 17), (3, 1), (3, 2), (3, 3), (3, 4), (4, 2), (4, 3), (4, 4), (4, 5), (4, 6), (31, 999), (34, 999), (29, 999), (30, 999), (33, 999), (32, 999)] T H H' ∧ ∃ z : Int, some (vI z) = r ∧ (0 ≤ z ∧ z ≤ 1) ∧ (((z = 1) ∧ ((xline B n q d).1 = 0) ∧ (q ≤ (xline B n q d).2.2) ∧ (H' r0 3 = H r0 3) ∧ TC T H' tk B n (xline B n q d).2.2 ∧ DC T H' r1 (xdline B n q d) ∧ CZ T H' r1 ((xdline B n q d) 0 3)) ∨ ((z = 0) ∧ ((xline B n q d).1 ≠ 0) ∧ ((xline B n q d).2.2 = (xline B n q d).2.1) ∧ (H' r0 3 = (xline B n q d).1) ∧ (H' r0 4 = (xline B n q d).2.1)))
set_option maxHeartbeats 4000000 in
theorem u_17 {kt : Nat → Option mc_E} {T : wq_T} {H : wq_H} {r0 : Nat} {r1 : Nat} {tk : Nat} {rb : Nat} {B : Nat → Int} {n : Int} {q : Int} {d : xD} (hW : WT T H) (g0 : T.2.2.2 r0 = some 3) (g1 : T.2.2.2 r1 = some 27) (qtk : H r0 0 = (tk : Int)) (gtk : T.2.2.2 tk = some 4) (qrb : H tk 0 = (rb : Int)) (grb : T.2.2.2 rb = some 2) (hTC_tk : TC T H tk B n q) (hDC_r1 : DC T H r1 d) (hDD_r1 : DD T H r1 ) (hCZ_r1 : CZ T H r1 (d 0 3)) : wpc kt 6 17 [.ref r0, .ref r1] T H (uq_17 r0 r1 tk rb B n q d T H) := by
  refine wp_enter e17 (Nat.le_of_ble_eq_true rfl) rfl ?_
  have f0 : wfr [(27, 7), (27, 8), (27, 9), (27, 10), (27, 11), (27, 12), (27, 13), (27, 14), (27, 15), (27, 16), (35, 6), (35, 7), (35, 8), (35, 9), (35, 10), (35, 11), (35, 12), (35, 13), (35, 14), (35, 15), (35, 16), (35, 17), (3, 1), (3, 2), (3, 3), (3, 4), (4, 2), (4, 3), (4, 4), (4, 5), (4, 6), (31, 999), (34, 999), (29, 999), (30, 999), (33, 999), (32, 999)] T H H := wfr.rf
  show wp _ _ 17 0 [(0, .ref r0), (1, .ref r1)] [] _ H _
  have u1729 := TC_k hTC_tk
  have u1730 := DC_k hDC_r1
  have _b := @xre_b B n q
  have _s := @xsx_e (d 0 8)
  refine wp_of e17 c17_0 (rw_aload_n (pc' := 1) (v := .ref r0) rfl rfl rfl ?_)
  refine wp_of e17 c17_1 (xc_V (pc' := 4) (r := r0) (as := []) (st := []) (lm_1_54) rfl rfl (Nat.le_of_ble_eq_true rfl) hW g0 sh_3 (by decide) rfl (by decide) (u_18 (B := B) (n := n) (q := q) hW g0 qtk gtk qrb grb hTC_tk) (fun R1731 T1732 H1733 p1734 => ?_))
  obtain ⟨e1735, e1737, e1736⟩ := p1734
  subst e1735
  subst e1737
  rcases e1736 with ⟨e1736, b1741⟩ | ⟨r1738, e1736, b1739, b1740, b1741⟩
  · subst e1736
    show wp _ _ 17 4 [(0, .ref r0), (1, .ref r1)] [.null] _ H _
    refine wp_of e17 c17_4 (rw_astore_n (pc' := 5) (v := .null) (L' := [(2, .null), (0, .ref r0), (1, .ref r1)]) rfl rfl rfl rfl ?_)
    refine wp_of e17 c17_5 (rw_aload_n (pc' := 6) (v := .null) rfl rfl rfl ?_)
    refine wp_of e17 c17_6 (rw_ifnull_n (p1 := 16) (p2 := 9) (by decide) rfl ?_)
    refine wp_of e17 c17_16 (rw_aload_n (pc' := 17) (v := .ref r0) rfl rfl rfl ?_)
    refine wp_of e17 c17_17 (rw_iconst (pc' := 18) rfl ?_)
    refine wp_of e17 c17_18 (xc_V (pc' := 21) (r := r0) (as := [vI 1]) (st := []) (lm_1_47) rfl rfl (Nat.le_of_ble_eq_true rfl) hW g0 sh_3 (by decide) rfl (by decide) (u_20  hW g0 ⟨by decide, by decide⟩ qtk gtk) (fun R1742 T1743 H1744 p1745 => ?_))
    obtain ⟨e1746, w1748, f1749, z1750, e1747, b1751, p1752⟩ := p1745
    subst e1746
    subst e1747
    obtain ⟨a1753, a1754, a1755⟩ := p1752
    have f1756 := f0.tr f1749 rfl
    show wp _ _ 17 21 [(2, .null), (0, .ref r0), (1, .ref r1)] [vI z1750] _ H1744 _
    have o1757 : (xline B n q d) = (1, q, q) := by
      unfold xline xl0 xl1 xl2 xl3 xl4 xl5 xl6 xl7 xper
      repeat first | rw [xs_0 (by omega -splitDisjunctions)] | rw [xs_1 (by omega -splitDisjunctions)] | rw [if_pos (by omega -splitDisjunctions)] | rw [if_neg (by omega -splitDisjunctions)] | rw [xs_0 (by omega)] | rw [xs_1 (by omega)] | rw [if_pos (by omega)] | rw [if_neg (by omega)]
      first | done | rfl | assumption | (exfalso; omega -splitDisjunctions) | (refine Prod.ext ?_ (Prod.ext ?_ ?_) <;> (try dsimp only) <;> omega) | (exfalso; omega)
    have o1757a : ((xline B n q d)).1 = 1 := by rw [o1757]
    have o1757b : ((xline B n q d)).2.1 = q := by rw [o1757]
    have o1757c : ((xline B n q d)).2.2 = q := by rw [o1757]
    exact wp_zreturn e17 c17_21 rfl (by omega) ⟨rfl, w1748, f1756, z1750, rfl, ⟨b1751.1, b1751.2⟩, (Or.inr ⟨by omega, by omega, by omega, by omega, by omega⟩)⟩
  · subst e1736
    have c1758 : r1738 = 16 ∨ r1738 = 17 ∨ r1738 = 18 ∨ r1738 = 19 ∨ r1738 = 20 ∨ r1738 = 21 ∨ r1738 = 22 ∨ r1738 = 23 ∨ r1738 = 24 ∨ r1738 = 25 ∨ r1738 = 26 := by omega
    rcases c1758 with c1758 | c1758 | c1758 | c1758 | c1758 | c1758 | c1758 | c1758 | c1758 | c1758 | c1758
    · subst c1758
      show wp _ _ 17 4 [(0, .ref r0), (1, .ref r1)] [.ref 16] _ H _
      refine wp_of e17 c17_4 (rw_astore_n (pc' := 5) (v := .ref 16) (L' := [(2, .ref 16), (0, .ref r0), (1, .ref r1)]) rfl rfl rfl rfl ?_)
      refine wp_of e17 c17_5 (rw_aload_n (pc' := 6) (v := .ref 16) rfl rfl rfl ?_)
      refine wp_of e17 c17_6 (rw_ifnull_r (p1 := 16) (p2 := 9) (by decide) rfl ?_)
      refine wp_of e17 c17_9 (rw_aload_n (pc' := 10) (v := .ref 16) rfl rfl rfl ?_)
      have k1759 : H 16 1 = 1 := (hW.2 16 _ (hW.1.2.2 0 (by decide))).2.2 1 (by decide) |> fun z => by have z1 : (1 : Int) ≤ H 16 1 ∧ H 16 1 ≤ 1 := z; omega
      refine wp_of e17 c17_10 (rw_getI (pc' := 13) (n := 2) (e := _) (lf_1_58).choose_spec.1 (lf_1_58).choose_spec.2.1 (hW.sh (hW.1.2.2 0 (by decide)) rfl) (by decide) rfl rfl ?_)
      rw [k1759]
      refine wp_of e17 c17_13 (rw_if_ne (p1 := 22) (p2 := 16) (by decide) rfl ⟨by decide, by decide⟩ (fun c1760 => ?_) (fun c1760 => ?_))
      · refine wp_of e17 c17_22 (rw_aload_n (pc' := 23) (v := .ref r1) rfl rfl rfl ?_)
        refine wp_of e17 c17_23 (rw_aload_n (pc' := 24) (v := .ref 16) rfl rfl rfl ?_)
        refine wp_of e17 c17_24 (xc_V (pc' := 27) (r := r1) (as := [.ref 16]) (st := []) (lm_1_63) rfl rfl (Nat.le_of_ble_eq_true rfl) hW g1 sh_27 (by decide) rfl (by decide) (u_21_16  hW g1) (fun R1761 T1762 H1763 p1764 => ?_))
        obtain ⟨e1765, e1767, z1768, e1766, b1769, p1770⟩ := p1764
        subst e1765
        subst e1766
        subst e1767
        rcases p1770 with ⟨a1771, a1772⟩ | ⟨a1773, a1774⟩
        · show wp _ _ 17 27 [(2, .ref 16), (0, .ref r0), (1, .ref r1)] [vI z1768] _ H _
          refine wp_of e17 c17_27 (rw_aload_n (pc' := 28) (v := .ref 16) rfl rfl rfl ?_)
          have k1775 : H 16 1 = 1 := (hW.2 16 _ (hW.1.2.2 0 (by decide))).2.2 1 (by decide) |> fun z => by have z1 : (1 : Int) ≤ H 16 1 ∧ H 16 1 ≤ 1 := z; omega
          refine wp_of e17 c17_28 (rw_getI (pc' := 31) (n := 2) (e := _) (lf_1_58).choose_spec.1 (lf_1_58).choose_spec.2.1 (hW.sh (hW.1.2.2 0 (by decide)) rfl) (by decide) rfl rfl ?_)
          rw [k1775]
          refine wp_of e17 c17_31 (rw_icmp_lt (p1 := 68) (p2 := 34) (by decide) rfl ⟨b1769.1, b1769.2⟩ ⟨by decide, by decide⟩ (fun c1776 => ?_) (fun c1776 => ?_))
          · exfalso
            omega
          · refine wp_of e17 c17_34 (rw_aload_n (pc' := 35) (v := .ref 16) rfl rfl rfl ?_)
            refine wp_of e17 c17_35 (rw_gs (pc' := 38) (k := 16) rfl rfl rfl rfl ?_)
            refine wp_of e17 c17_38 (rw_acmp_eq (p1 := 48) (p2 := 41) (a := some 16) (b := some 16) rfl rfl (by decide) rfl (fun q9 => ?_) (fun q9 => absurd q9 (by decide)))
            refine wp_of e17 c17_48 (rw_iconst (pc' := 49) rfl ?_)
            refine wp_of e17 c17_49 (rw_goto (p1 := 53) (by decide) ?_)
            refine wp_of e17 c17_53 (rw_istore_n (pc' := 54) (z := 1) (L' := [(3, vI 1), (2, .ref 16), (0, .ref r0), (1, .ref r1)]) rfl rfl rfl ?_)
            refine wp_of e17 c17_54 (rw_aload_n (pc' := 55) (v := .ref r0) rfl rfl rfl ?_)
            refine wp_of e17 c17_55 (rw_iload_n (pc' := 56) (z := 1) rfl rfl ?_)
            refine wp_of e17 c17_56 (rw_if_eq (p1 := 63) (p2 := 59) (by decide) rfl ⟨by decide, by decide⟩ (fun c1777 => ?_) (fun c1777 => ?_))
            · exfalso
              omega
            · refine wp_of e17 c17_59 (rw_iconst (pc' := 60) rfl ?_)
              refine wp_of e17 c17_60 (rw_goto (p1 := 64) (by decide) ?_)
              refine wp_of e17 c17_64 (xc_V (pc' := 67) (r := r0) (as := [vI 3]) (st := []) (lm_1_47) rfl rfl (Nat.le_of_ble_eq_true rfl) hW g0 sh_3 (by decide) rfl (by decide) (u_20  hW g0 ⟨by decide, by decide⟩ qtk gtk) (fun R1778 T1779 H1780 p1781 => ?_))
              obtain ⟨e1782, w1784, f1785, z1786, e1783, b1787, p1788⟩ := p1781
              subst e1782
              subst e1783
              obtain ⟨a1789, a1790, a1791⟩ := p1788
              have f1792 := f0.tr f1785 rfl
              show wp _ _ 17 67 [(3, vI 1), (2, .ref 16), (0, .ref r0), (1, .ref r1)] [vI z1786] _ H1780 _
              have o1793 : (xline B n q d) = (3, q, q) := by
                unfold xline xl0 xl1 xl2 xl3 xl4 xl5 xl6 xl7 xper
                repeat first | rw [xs_0 (by omega -splitDisjunctions)] | rw [xs_1 (by omega -splitDisjunctions)] | rw [if_pos (by omega -splitDisjunctions)] | rw [if_neg (by omega -splitDisjunctions)] | rw [xs_0 (by omega)] | rw [xs_1 (by omega)] | rw [if_pos (by omega)] | rw [if_neg (by omega)]
                first | done | rfl | assumption | (exfalso; omega -splitDisjunctions) | (refine Prod.ext ?_ (Prod.ext ?_ ?_) <;> (try dsimp only) <;> omega) | (exfalso; omega)
              have o1793a : ((xline B n q d)).1 = 3 := by rw [o1793]
              have o1793b : ((xline B n q d)).2.1 = q := by rw [o1793]
              have o1793c : ((xline B n q d)).2.2 = q := by rw [o1793]
              exact wp_zreturn e17 c17_67 rfl (by omega) ⟨rfl, w1784, f1792, z1786, rfl, ⟨b1787.1, b1787.2⟩, (Or.inr ⟨by omega, by omega, by omega, by omega, by omega⟩)⟩
        · show wp _ _ 17 27 [(2, .ref 16), (0, .ref r0), (1, .ref r1)] [vI z1768] _ H _
          refine wp_of e17 c17_27 (rw_aload_n (pc' := 28) (v := .ref 16) rfl rfl rfl ?_)
          have k1794 : H 16 1 = 1 := (hW.2 16 _ (hW.1.2.2 0 (by decide))).2.2 1 (by decide) |> fun z => by have z1 : (1 : Int) ≤ H 16 1 ∧ H 16 1 ≤ 1 := z; omega
          refine wp_of e17 c17_28 (rw_getI (pc' := 31) (n := 2) (e := _) (lf_1_58).choose_spec.1 (lf_1_58).choose_spec.2.1 (hW.sh (hW.1.2.2 0 (by decide)) rfl) (by decide) rfl rfl ?_)
          rw [k1794]
          refine wp_of e17 c17_31 (rw_icmp_lt (p1 := 68) (p2 := 34) (by decide) rfl ⟨b1769.1, b1769.2⟩ ⟨by decide, by decide⟩ (fun c1795 => ?_) (fun c1795 => ?_))
          · refine wp_of e17 c17_68 (rw_aload_n (pc' := 69) (v := .ref r0) rfl rfl rfl ?_)
            refine wp_of e17 c17_69 (xg_K (pc' := 72) lf_1_12 hW g0 sh_3 (by decide) (by decide) rfl qtk rfl ?_)
            have h1796 : TP T H rb B := TC_tp hTC_tk qrb
            refine wp_of e17 c17_72 (xc_V (pc' := 75) (r := tk) (as := []) (st := []) (lm_1_74) rfl rfl (Nat.le_of_ble_eq_true rfl) hW gtk sh_4 (by decide) rfl (by decide) (u_16 (B := B) (n := n) (a := (xE B n q)) (q := (xN B n q)) hW gtk qrb grb (by omega) (by omega) (by omega) (rfl) h1796) (fun R1797 T1798 H1799 p1800 => ?_))
            obtain ⟨e1801, w1803, f1804, e1802, p1805⟩ := p1800
            subst e1801
            subst e1802
            have f1807 := f0.tr f1804 rfl
            show wp _ _ 17 75 [(2, .ref 16), (0, .ref r0), (1, .ref r1)] [] _ H1799 _
            have u1808 := TC_k p1805
            refine wp_of e17 c17_75 (rw_gs (pc' := 78) (k := 2) rfl rfl rfl rfl ?_)
            refine wp_of e17 c17_78 (rw_aload_n (pc' := 79) (v := .ref 16) rfl rfl rfl ?_)
            refine wp_of e17 c17_79 (rw_ord (pc' := 82) rfl rfl rfl (by decide) (Nat.le_of_ble_eq_true rfl) rfl ?_)
            show wp _ _ 17 82 [(2, .ref 16), (0, .ref r0), (1, .ref r1)] [vI 0, .ref 2] _ H1799 _
            have k1809 : H1799 2 (0 : Int).toNat = 1 := (w1803.2 2 _ w1803.1.2.1).2.2 0 (by decide) |> fun z => by have z1 : (1 : Int) ≤ H1799 2 0 ∧ H1799 2 0 ≤ 1 := z; exact Int.le_antisymm z1.2 z1.1
            refine wp_of e17 c17_82 (rw_iaload (pc' := 83) (n := 11) (w1803.sh w1803.1.2.1 rfl) (by decide) (by decide) (by decide) rfl rfl ?_)
            rw [k1809]
            refine wp_of e17 c17_83 (rw_tsw (p1 := 128) ⟨by omega, by omega⟩ (by decide) ?_)
            refine wp_of e17 c17_128 (rw_aload_n (pc' := 129) (v := .ref r0) rfl rfl rfl ?_)
            refine wp_of e17 c17_129 (rw_aload_n (pc' := 130) (v := .ref r1) rfl rfl rfl ?_)
            have k1811 : H1799 r0 0 = H r0 0 := (f1804 r0 0 _ g0 rfl)
            have q1812 : H1799 r0 0 = (tk : Int) := k1811.trans qtk
            have k1813 : H1799 tk 0 = H tk 0 := (f1804 tk 0 _ gtk rfl)
            have q1814 : H1799 tk 0 = (rb : Int) := k1813.trans qrb
            have k1815 : H1799 r0 3 = H r0 3 := (f1804 r0 3 _ g0 rfl)
            have h1816 : DC T H1799 r1 d := (DC_fr hW g1 f1804 rfl hDC_r1)
            have h1817 : CZ T H1799 r1 (d 0 3) := (CZ_fr hW g1 f1804 rfl hCZ_r1)
            refine wp_of e17 c17_130 (xc_V (pc' := 133) (r := r0) (as := [.ref r1]) (st := []) (lm_1_87) rfl rfl (Nat.le_of_ble_eq_true rfl) w1803 g0 sh_3 (by decide) rfl (by decide) (u_22 (B := B) (n := n) (q := ((xN B n q))) (d := d) w1803 g0 g1 q1812 gtk q1814 grb p1805 h1816 h1817) (fun R1818 T1819 H1820 p1821 => ?_))
            obtain ⟨e1822, w1824, f1825, z1826, e1823, b1827, p1828⟩ := p1821
            subst e1822
            subst e1823
            rcases p1828 with ⟨a1829, a1830, a1831, a1832, a1833, a1834, a1835, a1836⟩ | ⟨a1837, a1838, a1839, a1840, a1841⟩
            · have f1842 := f1807.tr f1825 rfl
              show wp _ _ 17 133 [(2, .ref 16), (0, .ref r0), (1, .ref r1)] [vI z1826] _ H1820 _
              have u1843 := TC_k a1834
              have u1844 := DC_k a1835
              have o1845 : (xline B n q d) = (0, ((xN B n q)), (xN B n (xN B n (xN B n (xN B n (xN B n (xN B n ((xN B n q))))))))) := by
                unfold xline xl0 xl1 xl2 xl3 xl4 xl5 xl6 xl7 xper
                repeat first | rw [xs_0 (by omega -splitDisjunctions)] | rw [xs_1 (by omega -splitDisjunctions)] | rw [if_pos (by omega -splitDisjunctions)] | rw [if_neg (by omega -splitDisjunctions)] | rw [xs_0 (by omega)] | rw [xs_1 (by omega)] | rw [if_pos (by omega)] | rw [if_neg (by omega)]
                first | done | rfl | assumption | (exfalso; omega -splitDisjunctions) | (refine Prod.ext ?_ (Prod.ext ?_ ?_) <;> (try dsimp only) <;> omega) | (exfalso; omega)
              have o1845a : ((xline B n q d)).1 = 0 := by rw [o1845]
              have o1845b : ((xline B n q d)).2.1 = ((xN B n q)) := by rw [o1845]
              have o1845c : ((xline B n q d)).2.2 = (xN B n (xN B n (xN B n (xN B n (xN B n (xN B n ((xN B n q)))))))) := by rw [o1845]
              have o1846 : xdline B n q d = ((xdlaw B n ((xN B n q)) d)) := by
                unfold xdline
                repeat first | rw [xs_0 (by omega -splitDisjunctions)] | rw [xs_1 (by omega -splitDisjunctions)] | rw [if_pos (by omega -splitDisjunctions)] | rw [if_neg (by omega -splitDisjunctions)] | rw [xs_0 (by omega)] | rw [xs_1 (by omega)] | rw [if_pos (by omega)] | rw [if_neg (by omega)]
                first | done | rfl
              exact wp_zreturn e17 c17_133 rfl (by omega) ⟨rfl, w1824, f1842, z1826, rfl, ⟨b1827.1, b1827.2⟩, (Or.inl ⟨by omega, by omega, by omega, by omega, by rw [o1845]; exact a1834, by rw [o1846]; exact a1835, by rw [o1846]; exact a1836⟩)⟩
            · have f1847 := f1807.tr f1825 rfl
              show wp _ _ 17 133 [(2, .ref 16), (0, .ref r0), (1, .ref r1)] [vI z1826] _ H1820 _
              have o1848 : (xline B n q d) = ((xlaw B n ((xN B n q))).1, (xlaw B n ((xN B n q))).2.1, (xlaw B n ((xN B n q))).2.2) := by
                unfold xline xl0 xl1 xl2 xl3 xl4 xl5 xl6 xl7 xper
                repeat first | rw [xs_0 (by omega -splitDisjunctions)] | rw [xs_1 (by omega -splitDisjunctions)] | rw [if_pos (by omega -splitDisjunctions)] | rw [if_neg (by omega -splitDisjunctions)] | rw [xs_0 (by omega)] | rw [xs_1 (by omega)] | rw [if_pos (by omega)] | rw [if_neg (by omega)]
                first | done | rfl | assumption | (exfalso; omega -splitDisjunctions) | (refine Prod.ext ?_ (Prod.ext ?_ ?_) <;> (try dsimp only) <;> omega) | (exfalso; omega)
              have o1848a : ((xline B n q d)).1 = (xlaw B n ((xN B n q))).1 := by rw [o1848]
              have o1848b : ((xline B n q d)).2.1 = (xlaw B n ((xN B n q))).2.1 := by rw [o1848]
              have o1848c : ((xline B n q d)).2.2 = (xlaw B n ((xN B n q))).2.2 := by rw [o1848]
              exact wp_zreturn e17 c17_133 rfl (by omega) ⟨rfl, w1824, f1847, z1826, rfl, ⟨b1827.1, b1827.2⟩, (Or.inr ⟨by omega, by omega, by omega, by omega, by omega⟩)⟩
          · exfalso
            omega
      · exfalso
        omega
    · subst c1758
      show wp _ _ 17 4 [(0, .ref r0), (1, .ref r1)] [.ref 17] _ H _
      refine wp_of e17 c17_4 (rw_astore_n (pc' := 5) (v := .ref 17) (L' := [(2, .ref 17), (0, .ref r0), (1, .ref r1)]) rfl rfl rfl rfl ?_)
      refine wp_of e17 c17_5 (rw_aload_n (pc' := 6) (v := .ref 17) rfl rfl rfl ?_)
      refine wp_of e17 c17_6 (rw_ifnull_r (p1 := 16) (p2 := 9) (by decide) rfl ?_)
      refine wp_of e17 c17_9 (rw_aload_n (pc' := 10) (v := .ref 17) rfl rfl rfl ?_)
      have k1849 : H 17 1 = 6 := (hW.2 17 _ (hW.1.2.2 1 (by decide))).2.2 1 (by decide) |> fun z => by have z1 : (6 : Int) ≤ H 17 1 ∧ H 17 1 ≤ 6 := z; omega
      refine wp_of e17 c17_10 (rw_getI (pc' := 13) (n := 2) (e := _) (lf_1_58).choose_spec.1 (lf_1_58).choose_spec.2.1 (hW.sh (hW.1.2.2 1 (by decide)) rfl) (by decide) rfl rfl ?_)
      rw [k1849]
      refine wp_of e17 c17_13 (rw_if_ne (p1 := 22) (p2 := 16) (by decide) rfl ⟨by decide, by decide⟩ (fun c1850 => ?_) (fun c1850 => ?_))
      · refine wp_of e17 c17_22 (rw_aload_n (pc' := 23) (v := .ref r1) rfl rfl rfl ?_)
        refine wp_of e17 c17_23 (rw_aload_n (pc' := 24) (v := .ref 17) rfl rfl rfl ?_)
        refine wp_of e17 c17_24 (xc_V (pc' := 27) (r := r1) (as := [.ref 17]) (st := []) (lm_1_63) rfl rfl (Nat.le_of_ble_eq_true rfl) hW g1 sh_27 (by decide) rfl (by decide) (u_21_17  hW g1) (fun R1851 T1852 H1853 p1854 => ?_))
        obtain ⟨e1855, e1857, z1858, e1856, b1859, p1860⟩ := p1854
        subst e1855
        subst e1856
        subst e1857
        obtain ⟨a1861, a1862⟩ := p1860
        show wp _ _ 17 27 [(2, .ref 17), (0, .ref r0), (1, .ref r1)] [vI z1858] _ H _
        refine wp_of e17 c17_27 (rw_aload_n (pc' := 28) (v := .ref 17) rfl rfl rfl ?_)
        have k1863 : H 17 1 = 6 := (hW.2 17 _ (hW.1.2.2 1 (by decide))).2.2 1 (by decide) |> fun z => by have z1 : (6 : Int) ≤ H 17 1 ∧ H 17 1 ≤ 6 := z; omega
        refine wp_of e17 c17_28 (rw_getI (pc' := 31) (n := 2) (e := _) (lf_1_58).choose_spec.1 (lf_1_58).choose_spec.2.1 (hW.sh (hW.1.2.2 1 (by decide)) rfl) (by decide) rfl rfl ?_)
        rw [k1863]
        refine wp_of e17 c17_31 (rw_icmp_lt (p1 := 68) (p2 := 34) (by decide) rfl ⟨b1859.1, b1859.2⟩ ⟨by decide, by decide⟩ (fun c1864 => ?_) (fun c1864 => ?_))
        · refine wp_of e17 c17_68 (rw_aload_n (pc' := 69) (v := .ref r0) rfl rfl rfl ?_)
          refine wp_of e17 c17_69 (xg_K (pc' := 72) lf_1_12 hW g0 sh_3 (by decide) (by decide) rfl qtk rfl ?_)
          have h1865 : TP T H rb B := TC_tp hTC_tk qrb
          refine wp_of e17 c17_72 (xc_V (pc' := 75) (r := tk) (as := []) (st := []) (lm_1_74) rfl rfl (Nat.le_of_ble_eq_true rfl) hW gtk sh_4 (by decide) rfl (by decide) (u_16 (B := B) (n := n) (a := (xE B n q)) (q := (xN B n q)) hW gtk qrb grb (by omega) (by omega) (by omega) (rfl) h1865) (fun R1866 T1867 H1868 p1869 => ?_))
          obtain ⟨e1870, w1872, f1873, e1871, p1874⟩ := p1869
          subst e1870
          subst e1871
          have f1876 := f0.tr f1873 rfl
          show wp _ _ 17 75 [(2, .ref 17), (0, .ref r0), (1, .ref r1)] [] _ H1868 _
          have u1877 := TC_k p1874
          refine wp_of e17 c17_75 (rw_gs (pc' := 78) (k := 2) rfl rfl rfl rfl ?_)
          refine wp_of e17 c17_78 (rw_aload_n (pc' := 79) (v := .ref 17) rfl rfl rfl ?_)
          refine wp_of e17 c17_79 (rw_ord (pc' := 82) rfl rfl rfl (by decide) (Nat.le_of_ble_eq_true rfl) rfl ?_)
          show wp _ _ 17 82 [(2, .ref 17), (0, .ref r0), (1, .ref r1)] [vI 1, .ref 2] _ H1868 _
          have k1878 : H1868 2 (1 : Int).toNat = 2 := (w1872.2 2 _ w1872.1.2.1).2.2 1 (by decide) |> fun z => by have z1 : (2 : Int) ≤ H1868 2 1 ∧ H1868 2 1 ≤ 2 := z; exact Int.le_antisymm z1.2 z1.1
          refine wp_of e17 c17_82 (rw_iaload (pc' := 83) (n := 11) (w1872.sh w1872.1.2.1 rfl) (by decide) (by decide) (by decide) rfl rfl ?_)
          rw [k1878]
          refine wp_of e17 c17_83 (rw_tsw (p1 := 134) ⟨by omega, by omega⟩ (by decide) ?_)
          refine wp_of e17 c17_134 (rw_aload_n (pc' := 135) (v := .ref r0) rfl rfl rfl ?_)
          refine wp_of e17 c17_135 (rw_aload_n (pc' := 136) (v := .ref r1) rfl rfl rfl ?_)
          have k1880 : H1868 r0 0 = H r0 0 := (f1873 r0 0 _ g0 rfl)
          have q1881 : H1868 r0 0 = (tk : Int) := k1880.trans qtk
          have k1882 : H1868 tk 0 = H tk 0 := (f1873 tk 0 _ gtk rfl)
          have q1883 : H1868 tk 0 = (rb : Int) := k1882.trans qrb
          have k1884 : H1868 r0 3 = H r0 3 := (f1873 r0 3 _ g0 rfl)
          have h1885 : DC T H1868 r1 d := (DC_fr hW g1 f1873 rfl hDC_r1)
          have h1886 : DD T H1868 r1  := (DD_fr hW g1 f1873 rfl hDD_r1)
          have h1887 : CZ T H1868 r1 (d 0 3) := (CZ_fr hW g1 f1873 rfl hCZ_r1)
          refine wp_of e17 c17_136 (xc_V (pc' := 139) (r := r0) (as := [.ref r1]) (st := []) (lm_1_90) rfl rfl (Nat.le_of_ble_eq_true rfl) w1872 g0 sh_3 (by decide) rfl (by decide) (u_25 (B := B) (n := n) (q := ((xN B n q))) (d := d) w1872 g0 g1 q1881 gtk q1883 grb (by omega) p1874 h1885 h1886 h1887) (fun R1888 T1889 H1890 p1891 => ?_))
          obtain ⟨e1892, w1894, f1895, z1896, e1893, b1897, p1898⟩ := p1891
          subst e1892
          subst e1893
          rcases p1898 with ⟨a1899, a1900, a1901, a1902, a1903, a1904, a1905, a1906, a1907⟩ | ⟨a1908, a1909, a1910, a1911, a1912⟩
          · have f1913 := f1876.tr f1895 rfl
            show wp _ _ 17 139 [(2, .ref 17), (0, .ref r0), (1, .ref r1)] [vI z1896] _ H1890 _
            have u1914 := TC_k a1904
            have u1915 := DC_k a1905
            refine wp_of e17 c17_139 (rw_if_eq (p1 := 154) (p2 := 142) (by decide) rfl ⟨Int.le_trans (by decide) b1897.1, Int.le_trans b1897.2 (by decide)⟩ (fun c1916 => ?_) (fun c1916 => ?_))
            · exfalso
              omega
            · refine wp_of e17 c17_142 (rw_aload_n (pc' := 143) (v := .ref r0) rfl rfl rfl ?_)
              refine wp_of e17 c17_143 (rw_aload_n (pc' := 144) (v := .ref r1) rfl rfl rfl ?_)
              have k1917 : H1890 r0 0 = H1868 r0 0 := (f1895 r0 0 _ g0 rfl)
              have q1918 : H1890 r0 0 = (tk : Int) := k1917.trans q1881
              have k1919 : H1890 tk 0 = H1868 tk 0 := (f1895 tk 0 _ gtk rfl)
              have q1920 : H1890 tk 0 = (rb : Int) := k1919.trans q1883
              have h1921 : DD T H1890 r1  := (DD_fr w1872 g1 f1895 rfl h1886)
              refine wp_of e17 c17_144 (xc_V (pc' := 147) (r := r0) (as := [.ref r1]) (st := []) (lm_1_93) rfl rfl (Nat.le_of_ble_eq_true rfl) w1894 g0 sh_3 (by decide) rfl (by decide) (u_30 (B := B) (n := n) (q := ((xN B n (xN B n (xN B n (xN B n (xN B n (xN B n (xN B n (xN B n (xN B n ((xN B n q))))))))))))) (d := d) (y := ((xN B n q))) w1894 g0 g1 q1918 gtk q1920 grb (by omega) (by omega) a1904 a1905 h1921 a1906 a1907) (fun R1922 T1923 H1924 p1925 => ?_))
              obtain ⟨e1926, w1928, f1929, z1930, e1927, b1931, p1932⟩ := p1925
              subst e1926
              subst e1927
              rcases p1932 with ⟨a1933, a1934, a1935, a1936, a1937, a1938, a1939⟩ | ⟨a1940, a1941, a1942, a1943, a1944⟩
              · have f1945 := f1913.tr f1929 rfl
                show wp _ _ 17 147 [(2, .ref 17), (0, .ref r0), (1, .ref r1)] [vI z1930] _ H1924 _
                have u1946 := TC_k a1937
                have u1947 := DC_k a1938
                refine wp_of e17 c17_147 (rw_if_eq (p1 := 154) (p2 := 150) (by decide) rfl ⟨Int.le_trans (by decide) b1931.1, Int.le_trans b1931.2 (by decide)⟩ (fun c1948 => ?_) (fun c1948 => ?_))
                · exfalso
                  omega
                · refine wp_of e17 c17_150 (rw_iconst (pc' := 151) rfl ?_)
                  refine wp_of e17 c17_151 (rw_goto (p1 := 155) (by decide) ?_)
                  have o1949 : (xline B n q d) = ((xcs B n ((xN B n (xN B n (xN B n (xN B n (xN B n (xN B n (xN B n (xN B n (xN B n ((xN B n q))))))))))))).1, (xcs B n ((xN B n (xN B n (xN B n (xN B n (xN B n (xN B n (xN B n (xN B n (xN B n ((xN B n q))))))))))))).2.1, (xcs B n ((xN B n (xN B n (xN B n (xN B n (xN B n (xN B n (xN B n (xN B n (xN B n ((xN B n q))))))))))))).2.2) := by
                    unfold xline xl0 xl1 xl2 xl3 xl4 xl5 xl6 xl7 xper
                    repeat first | rw [xs_0 (by omega -splitDisjunctions)] | rw [xs_1 (by omega -splitDisjunctions)] | rw [if_pos (by omega -splitDisjunctions)] | rw [if_neg (by omega -splitDisjunctions)] | rw [xs_0 (by omega)] | rw [xs_1 (by omega)] | rw [if_pos (by omega)] | rw [if_neg (by omega)]
                    first | done | rfl | assumption | (exfalso; omega -splitDisjunctions) | (refine Prod.ext ?_ (Prod.ext ?_ ?_) <;> (try dsimp only) <;> omega) | (exfalso; omega)
                  have o1949a : ((xline B n q d)).1 = (xcs B n ((xN B n (xN B n (xN B n (xN B n (xN B n (xN B n (xN B n (xN B n (xN B n ((xN B n q))))))))))))).1 := by rw [o1949]
                  have o1949b : ((xline B n q d)).2.1 = (xcs B n ((xN B n (xN B n (xN B n (xN B n (xN B n (xN B n (xN B n (xN B n (xN B n ((xN B n q))))))))))))).2.1 := by rw [o1949]
                  have o1949c : ((xline B n q d)).2.2 = (xcs B n ((xN B n (xN B n (xN B n (xN B n (xN B n (xN B n (xN B n (xN B n (xN B n ((xN B n q))))))))))))).2.2 := by rw [o1949]
                  have o1950 : xdline B n q d = (xdper B n ((xN B n q)) d) := by
                    unfold xdline
                    repeat first | rw [xs_0 (by omega -splitDisjunctions)] | rw [xs_1 (by omega -splitDisjunctions)] | rw [if_pos (by omega -splitDisjunctions)] | rw [if_neg (by omega -splitDisjunctions)] | rw [xs_0 (by omega)] | rw [xs_1 (by omega)] | rw [if_pos (by omega)] | rw [if_neg (by omega)]
                    first | done | rfl
                  exact wp_zreturn e17 c17_155 rfl (by omega) ⟨rfl, w1928, f1945, 1, rfl, ⟨by decide, by decide⟩, (Or.inl ⟨by omega, by omega, by omega, by omega, by rw [o1949]; exact a1937, by rw [o1950]; exact a1938, by rw [o1950]; exact a1939⟩)⟩
              · have f1951 := f1913.tr f1929 rfl
                show wp _ _ 17 147 [(2, .ref 17), (0, .ref r0), (1, .ref r1)] [vI z1930] _ H1924 _
                refine wp_of e17 c17_147 (rw_if_eq (p1 := 154) (p2 := 150) (by decide) rfl ⟨Int.le_trans (by decide) b1931.1, Int.le_trans b1931.2 (by decide)⟩ (fun c1952 => ?_) (fun c1952 => ?_))
                · refine wp_of e17 c17_154 (rw_iconst (pc' := 155) rfl ?_)
                  have o1953 : (xline B n q d) = ((xcs B n ((xN B n (xN B n (xN B n (xN B n (xN B n (xN B n (xN B n (xN B n (xN B n ((xN B n q))))))))))))).1, (xcs B n ((xN B n (xN B n (xN B n (xN B n (xN B n (xN B n (xN B n (xN B n (xN B n ((xN B n q))))))))))))).2.1, (xcs B n ((xN B n (xN B n (xN B n (xN B n (xN B n (xN B n (xN B n (xN B n (xN B n ((xN B n q))))))))))))).2.2) := by
                    unfold xline xl0 xl1 xl2 xl3 xl4 xl5 xl6 xl7 xper
                    repeat first | rw [xs_0 (by omega -splitDisjunctions)] | rw [xs_1 (by omega -splitDisjunctions)] | rw [if_pos (by omega -splitDisjunctions)] | rw [if_neg (by omega -splitDisjunctions)] | rw [xs_0 (by omega)] | rw [xs_1 (by omega)] | rw [if_pos (by omega)] | rw [if_neg (by omega)]
                    first | done | rfl | assumption | (exfalso; omega -splitDisjunctions) | (refine Prod.ext ?_ (Prod.ext ?_ ?_) <;> (try dsimp only) <;> omega) | (exfalso; omega)
                  have o1953a : ((xline B n q d)).1 = (xcs B n ((xN B n (xN B n (xN B n (xN B n (xN B n (xN B n (xN B n (xN B n (xN B n ((xN B n q))))))))))))).1 := by rw [o1953]
                  have o1953b : ((xline B n q d)).2.1 = (xcs B n ((xN B n (xN B n (xN B n (xN B n (xN B n (xN B n (xN B n (xN B n (xN B n ((xN B n q))))))))))))).2.1 := by rw [o1953]
                  have o1953c : ((xline B n q d)).2.2 = (xcs B n ((xN B n (xN B n (xN B n (xN B n (xN B n (xN B n (xN B n (xN B n (xN B n ((xN B n q))))))))))))).2.2 := by rw [o1953]
                  exact wp_zreturn e17 c17_155 rfl (by omega) ⟨rfl, w1928, f1951, 0, rfl, ⟨by decide, by decide⟩, (Or.inr ⟨by omega, by omega, by omega, by omega, by omega⟩)⟩
                · exfalso
                  omega
          · have f1954 := f1876.tr f1895 rfl
            show wp _ _ 17 139 [(2, .ref 17), (0, .ref r0), (1, .ref r1)] [vI z1896] _ H1890 _
            refine wp_of e17 c17_139 (rw_if_eq (p1 := 154) (p2 := 142) (by decide) rfl ⟨Int.le_trans (by decide) b1897.1, Int.le_trans b1897.2 (by decide)⟩ (fun c1955 => ?_) (fun c1955 => ?_))
            · refine wp_of e17 c17_154 (rw_iconst (pc' := 155) rfl ?_)
              have o1956 : (xline B n q d) = ((xbd B n ((xN B n q)) d).1, (xbd B n ((xN B n q)) d).2.1, (xbd B n ((xN B n q)) d).2.2) := by
                unfold xline xl0 xl1 xl2 xl3 xl4 xl5 xl6 xl7 xper
                repeat first | rw [xs_0 (by omega -splitDisjunctions)] | rw [xs_1 (by omega -splitDisjunctions)] | rw [if_pos (by omega -splitDisjunctions)] | rw [if_neg (by omega -splitDisjunctions)] | rw [xs_0 (by omega)] | rw [xs_1 (by omega)] | rw [if_pos (by omega)] | rw [if_neg (by omega)]
                first | done | rfl | assumption | (exfalso; omega -splitDisjunctions) | (refine Prod.ext ?_ (Prod.ext ?_ ?_) <;> (try dsimp only) <;> omega) | (exfalso; omega)
              have o1956a : ((xline B n q d)).1 = (xbd B n ((xN B n q)) d).1 := by rw [o1956]
              have o1956b : ((xline B n q d)).2.1 = (xbd B n ((xN B n q)) d).2.1 := by rw [o1956]
              have o1956c : ((xline B n q d)).2.2 = (xbd B n ((xN B n q)) d).2.2 := by rw [o1956]
              exact wp_zreturn e17 c17_155 rfl (by omega) ⟨rfl, w1894, f1954, 0, rfl, ⟨by decide, by decide⟩, (Or.inr ⟨by omega, by omega, by omega, by omega, by omega⟩)⟩
            · exfalso
              omega
        · refine wp_of e17 c17_34 (rw_aload_n (pc' := 35) (v := .ref 17) rfl rfl rfl ?_)
          refine wp_of e17 c17_35 (rw_gs (pc' := 38) (k := 16) rfl rfl rfl rfl ?_)
          refine wp_of e17 c17_38 (rw_acmp_eq (p1 := 48) (p2 := 41) (a := some 17) (b := some 16) rfl rfl (by decide) rfl (fun q9 => absurd q9 (by decide)) (fun q9 => ?_))
          refine wp_of e17 c17_41 (rw_aload_n (pc' := 42) (v := .ref 17) rfl rfl rfl ?_)
          refine wp_of e17 c17_42 (rw_gs (pc' := 45) (k := 18) rfl rfl rfl rfl ?_)
          refine wp_of e17 c17_45 (rw_acmp_ne (p1 := 52) (p2 := 48) (a := some 17) (b := some 18) rfl rfl (by decide) rfl (fun q9 => ?_) (fun q9 => absurd q9 (by decide)))
          refine wp_of e17 c17_52 (rw_iconst (pc' := 53) rfl ?_)
          refine wp_of e17 c17_53 (rw_istore_n (pc' := 54) (z := 0) (L' := [(3, vI 0), (2, .ref 17), (0, .ref r0), (1, .ref r1)]) rfl rfl rfl ?_)
          refine wp_of e17 c17_54 (rw_aload_n (pc' := 55) (v := .ref r0) rfl rfl rfl ?_)
          refine wp_of e17 c17_55 (rw_iload_n (pc' := 56) (z := 0) rfl rfl ?_)
          refine wp_of e17 c17_56 (rw_if_eq (p1 := 63) (p2 := 59) (by decide) rfl ⟨by decide, by decide⟩ (fun c1957 => ?_) (fun c1957 => ?_))
          · refine wp_of e17 c17_63 (rw_iconst (pc' := 64) rfl ?_)
            refine wp_of e17 c17_64 (xc_V (pc' := 67) (r := r0) (as := [vI 5]) (st := []) (lm_1_47) rfl rfl (Nat.le_of_ble_eq_true rfl) hW g0 sh_3 (by decide) rfl (by decide) (u_20  hW g0 ⟨by decide, by decide⟩ qtk gtk) (fun R1958 T1959 H1960 p1961 => ?_))
            obtain ⟨e1962, w1964, f1965, z1966, e1963, b1967, p1968⟩ := p1961
            subst e1962
            subst e1963
            obtain ⟨a1969, a1970, a1971⟩ := p1968
            have f1972 := f0.tr f1965 rfl
            show wp _ _ 17 67 [(3, vI 0), (2, .ref 17), (0, .ref r0), (1, .ref r1)] [vI z1966] _ H1960 _
            have o1973 : (xline B n q d) = (5, q, q) := by
              unfold xline xl0 xl1 xl2 xl3 xl4 xl5 xl6 xl7 xper
              repeat first | rw [xs_0 (by omega -splitDisjunctions)] | rw [xs_1 (by omega -splitDisjunctions)] | rw [if_pos (by omega -splitDisjunctions)] | rw [if_neg (by omega -splitDisjunctions)] | rw [xs_0 (by omega)] | rw [xs_1 (by omega)] | rw [if_pos (by omega)] | rw [if_neg (by omega)]
              first | done | rfl | assumption | (exfalso; omega -splitDisjunctions) | (refine Prod.ext ?_ (Prod.ext ?_ ?_) <;> (try dsimp only) <;> omega) | (exfalso; omega)
            have o1973a : ((xline B n q d)).1 = 5 := by rw [o1973]
            have o1973b : ((xline B n q d)).2.1 = q := by rw [o1973]
            have o1973c : ((xline B n q d)).2.2 = q := by rw [o1973]
            exact wp_zreturn e17 c17_67 rfl (by omega) ⟨rfl, w1964, f1972, z1966, rfl, ⟨b1967.1, b1967.2⟩, (Or.inr ⟨by omega, by omega, by omega, by omega, by omega⟩)⟩
          · exfalso
            omega
      · exfalso
        omega
    · subst c1758
      show wp _ _ 17 4 [(0, .ref r0), (1, .ref r1)] [.ref 18] _ H _
      refine wp_of e17 c17_4 (rw_astore_n (pc' := 5) (v := .ref 18) (L' := [(2, .ref 18), (0, .ref r0), (1, .ref r1)]) rfl rfl rfl rfl ?_)
      refine wp_of e17 c17_5 (rw_aload_n (pc' := 6) (v := .ref 18) rfl rfl rfl ?_)
      refine wp_of e17 c17_6 (rw_ifnull_r (p1 := 16) (p2 := 9) (by decide) rfl ?_)
      refine wp_of e17 c17_9 (rw_aload_n (pc' := 10) (v := .ref 18) rfl rfl rfl ?_)
      have k1974 : H 18 1 = 1 := (hW.2 18 _ (hW.1.2.2 2 (by decide))).2.2 1 (by decide) |> fun z => by have z1 : (1 : Int) ≤ H 18 1 ∧ H 18 1 ≤ 1 := z; omega
      refine wp_of e17 c17_10 (rw_getI (pc' := 13) (n := 2) (e := _) (lf_1_58).choose_spec.1 (lf_1_58).choose_spec.2.1 (hW.sh (hW.1.2.2 2 (by decide)) rfl) (by decide) rfl rfl ?_)
      rw [k1974]
      refine wp_of e17 c17_13 (rw_if_ne (p1 := 22) (p2 := 16) (by decide) rfl ⟨by decide, by decide⟩ (fun c1975 => ?_) (fun c1975 => ?_))
      · refine wp_of e17 c17_22 (rw_aload_n (pc' := 23) (v := .ref r1) rfl rfl rfl ?_)
        refine wp_of e17 c17_23 (rw_aload_n (pc' := 24) (v := .ref 18) rfl rfl rfl ?_)
        refine wp_of e17 c17_24 (xc_V (pc' := 27) (r := r1) (as := [.ref 18]) (st := []) (lm_1_63) rfl rfl (Nat.le_of_ble_eq_true rfl) hW g1 sh_27 (by decide) rfl (by decide) (u_21_18  hW g1) (fun R1976 T1977 H1978 p1979 => ?_))
        obtain ⟨e1980, e1982, z1983, e1981, b1984, p1985⟩ := p1979
        subst e1980
        subst e1981
        subst e1982
        rcases p1985 with ⟨a1986, a1987⟩ | ⟨a1988, a1989⟩
        · show wp _ _ 17 27 [(2, .ref 18), (0, .ref r0), (1, .ref r1)] [vI z1983] _ H _
          refine wp_of e17 c17_27 (rw_aload_n (pc' := 28) (v := .ref 18) rfl rfl rfl ?_)
          have k1990 : H 18 1 = 1 := (hW.2 18 _ (hW.1.2.2 2 (by decide))).2.2 1 (by decide) |> fun z => by have z1 : (1 : Int) ≤ H 18 1 ∧ H 18 1 ≤ 1 := z; omega
          refine wp_of e17 c17_28 (rw_getI (pc' := 31) (n := 2) (e := _) (lf_1_58).choose_spec.1 (lf_1_58).choose_spec.2.1 (hW.sh (hW.1.2.2 2 (by decide)) rfl) (by decide) rfl rfl ?_)
          rw [k1990]
          refine wp_of e17 c17_31 (rw_icmp_lt (p1 := 68) (p2 := 34) (by decide) rfl ⟨b1984.1, b1984.2⟩ ⟨by decide, by decide⟩ (fun c1991 => ?_) (fun c1991 => ?_))
          · exfalso
            omega
          · refine wp_of e17 c17_34 (rw_aload_n (pc' := 35) (v := .ref 18) rfl rfl rfl ?_)
            refine wp_of e17 c17_35 (rw_gs (pc' := 38) (k := 16) rfl rfl rfl rfl ?_)
            refine wp_of e17 c17_38 (rw_acmp_eq (p1 := 48) (p2 := 41) (a := some 18) (b := some 16) rfl rfl (by decide) rfl (fun q9 => absurd q9 (by decide)) (fun q9 => ?_))
            refine wp_of e17 c17_41 (rw_aload_n (pc' := 42) (v := .ref 18) rfl rfl rfl ?_)
            refine wp_of e17 c17_42 (rw_gs (pc' := 45) (k := 18) rfl rfl rfl rfl ?_)
            refine wp_of e17 c17_45 (rw_acmp_ne (p1 := 52) (p2 := 48) (a := some 18) (b := some 18) rfl rfl (by decide) rfl (fun q9 => absurd q9 (by decide)) (fun q9 => ?_))
            refine wp_of e17 c17_48 (rw_iconst (pc' := 49) rfl ?_)
            refine wp_of e17 c17_49 (rw_goto (p1 := 53) (by decide) ?_)
            refine wp_of e17 c17_53 (rw_istore_n (pc' := 54) (z := 1) (L' := [(3, vI 1), (2, .ref 18), (0, .ref r0), (1, .ref r1)]) rfl rfl rfl ?_)
            refine wp_of e17 c17_54 (rw_aload_n (pc' := 55) (v := .ref r0) rfl rfl rfl ?_)
            refine wp_of e17 c17_55 (rw_iload_n (pc' := 56) (z := 1) rfl rfl ?_)
            refine wp_of e17 c17_56 (rw_if_eq (p1 := 63) (p2 := 59) (by decide) rfl ⟨by decide, by decide⟩ (fun c1992 => ?_) (fun c1992 => ?_))
            · exfalso
              omega
            · refine wp_of e17 c17_59 (rw_iconst (pc' := 60) rfl ?_)
              refine wp_of e17 c17_60 (rw_goto (p1 := 64) (by decide) ?_)
              refine wp_of e17 c17_64 (xc_V (pc' := 67) (r := r0) (as := [vI 3]) (st := []) (lm_1_47) rfl rfl (Nat.le_of_ble_eq_true rfl) hW g0 sh_3 (by decide) rfl (by decide) (u_20  hW g0 ⟨by decide, by decide⟩ qtk gtk) (fun R1993 T1994 H1995 p1996 => ?_))
              obtain ⟨e1997, w1999, f2000, z2001, e1998, b2002, p2003⟩ := p1996
              subst e1997
              subst e1998
              obtain ⟨a2004, a2005, a2006⟩ := p2003
              have f2007 := f0.tr f2000 rfl
              show wp _ _ 17 67 [(3, vI 1), (2, .ref 18), (0, .ref r0), (1, .ref r1)] [vI z2001] _ H1995 _
              have o2008 : (xline B n q d) = (3, q, q) := by
                unfold xline xl0 xl1 xl2 xl3 xl4 xl5 xl6 xl7 xper
                repeat first | rw [xs_0 (by omega -splitDisjunctions)] | rw [xs_1 (by omega -splitDisjunctions)] | rw [if_pos (by omega -splitDisjunctions)] | rw [if_neg (by omega -splitDisjunctions)] | rw [xs_0 (by omega)] | rw [xs_1 (by omega)] | rw [if_pos (by omega)] | rw [if_neg (by omega)]
                first | done | rfl | assumption | (exfalso; omega -splitDisjunctions) | (refine Prod.ext ?_ (Prod.ext ?_ ?_) <;> (try dsimp only) <;> omega) | (exfalso; omega)
              have o2008a : ((xline B n q d)).1 = 3 := by rw [o2008]
              have o2008b : ((xline B n q d)).2.1 = q := by rw [o2008]
              have o2008c : ((xline B n q d)).2.2 = q := by rw [o2008]
              exact wp_zreturn e17 c17_67 rfl (by omega) ⟨rfl, w1999, f2007, z2001, rfl, ⟨b2002.1, b2002.2⟩, (Or.inr ⟨by omega, by omega, by omega, by omega, by omega⟩)⟩
        · show wp _ _ 17 27 [(2, .ref 18), (0, .ref r0), (1, .ref r1)] [vI z1983] _ H _
          refine wp_of e17 c17_27 (rw_aload_n (pc' := 28) (v := .ref 18) rfl rfl rfl ?_)
          have k2009 : H 18 1 = 1 := (hW.2 18 _ (hW.1.2.2 2 (by decide))).2.2 1 (by decide) |> fun z => by have z1 : (1 : Int) ≤ H 18 1 ∧ H 18 1 ≤ 1 := z; omega
          refine wp_of e17 c17_28 (rw_getI (pc' := 31) (n := 2) (e := _) (lf_1_58).choose_spec.1 (lf_1_58).choose_spec.2.1 (hW.sh (hW.1.2.2 2 (by decide)) rfl) (by decide) rfl rfl ?_)
          rw [k2009]
          refine wp_of e17 c17_31 (rw_icmp_lt (p1 := 68) (p2 := 34) (by decide) rfl ⟨b1984.1, b1984.2⟩ ⟨by decide, by decide⟩ (fun c2010 => ?_) (fun c2010 => ?_))
          · refine wp_of e17 c17_68 (rw_aload_n (pc' := 69) (v := .ref r0) rfl rfl rfl ?_)
            refine wp_of e17 c17_69 (xg_K (pc' := 72) lf_1_12 hW g0 sh_3 (by decide) (by decide) rfl qtk rfl ?_)
            have h2011 : TP T H rb B := TC_tp hTC_tk qrb
            refine wp_of e17 c17_72 (xc_V (pc' := 75) (r := tk) (as := []) (st := []) (lm_1_74) rfl rfl (Nat.le_of_ble_eq_true rfl) hW gtk sh_4 (by decide) rfl (by decide) (u_16 (B := B) (n := n) (a := (xE B n q)) (q := (xN B n q)) hW gtk qrb grb (by omega) (by omega) (by omega) (rfl) h2011) (fun R2012 T2013 H2014 p2015 => ?_))
            obtain ⟨e2016, w2018, f2019, e2017, p2020⟩ := p2015
            subst e2016
            subst e2017
            have f2022 := f0.tr f2019 rfl
            show wp _ _ 17 75 [(2, .ref 18), (0, .ref r0), (1, .ref r1)] [] _ H2014 _
            have u2023 := TC_k p2020
            refine wp_of e17 c17_75 (rw_gs (pc' := 78) (k := 2) rfl rfl rfl rfl ?_)
            refine wp_of e17 c17_78 (rw_aload_n (pc' := 79) (v := .ref 18) rfl rfl rfl ?_)
            refine wp_of e17 c17_79 (rw_ord (pc' := 82) rfl rfl rfl (by decide) (Nat.le_of_ble_eq_true rfl) rfl ?_)
            show wp _ _ 17 82 [(2, .ref 18), (0, .ref r0), (1, .ref r1)] [vI 2, .ref 2] _ H2014 _
            have k2024 : H2014 2 (2 : Int).toNat = 3 := (w2018.2 2 _ w2018.1.2.1).2.2 2 (by decide) |> fun z => by have z1 : (3 : Int) ≤ H2014 2 2 ∧ H2014 2 2 ≤ 3 := z; exact Int.le_antisymm z1.2 z1.1
            refine wp_of e17 c17_82 (rw_iaload (pc' := 83) (n := 11) (w2018.sh w2018.1.2.1 rfl) (by decide) (by decide) (by decide) rfl rfl ?_)
            rw [k2024]
            refine wp_of e17 c17_83 (rw_tsw (p1 := 156) ⟨by omega, by omega⟩ (by decide) ?_)
            refine wp_of e17 c17_156 (rw_aload_n (pc' := 157) (v := .ref r0) rfl rfl rfl ?_)
            refine wp_of e17 c17_157 (rw_aload_n (pc' := 158) (v := .ref r1) rfl rfl rfl ?_)
            have k2026 : H2014 r0 0 = H r0 0 := (f2019 r0 0 _ g0 rfl)
            have q2027 : H2014 r0 0 = (tk : Int) := k2026.trans qtk
            have k2028 : H2014 tk 0 = H tk 0 := (f2019 tk 0 _ gtk rfl)
            have q2029 : H2014 tk 0 = (rb : Int) := k2028.trans qrb
            have k2030 : H2014 r0 3 = H r0 3 := (f2019 r0 3 _ g0 rfl)
            have h2031 : DC T H2014 r1 d := (DC_fr hW g1 f2019 rfl hDC_r1)
            have h2032 : CZ T H2014 r1 (d 0 3) := (CZ_fr hW g1 f2019 rfl hCZ_r1)
            refine wp_of e17 c17_158 (xc_V (pc' := 161) (r := r0) (as := [.ref r1]) (st := []) (lm_1_96) rfl rfl (Nat.le_of_ble_eq_true rfl) w2018 g0 sh_3 (by decide) rfl (by decide) (u_32 (B := B) (n := n) (q := ((xN B n q))) (d := d) w2018 g0 g1 q2027 gtk q2029 grb p2020 h2031 h2032) (fun R2033 T2034 H2035 p2036 => ?_))
            obtain ⟨e2037, w2039, f2040, z2041, e2038, b2042, p2043⟩ := p2036
            subst e2037
            subst e2038
            rcases p2043 with ⟨a2044, a2045, a2046, a2047, a2048, a2049, a2050, a2051⟩ | ⟨a2052, a2053, a2054, a2055, a2056⟩
            · have f2057 := f2022.tr f2040 rfl
              show wp _ _ 17 161 [(2, .ref 18), (0, .ref r0), (1, .ref r1)] [vI z2041] _ H2035 _
              have u2058 := TC_k a2049
              have u2059 := DC_k a2050
              have o2060 : (xline B n q d) = (0, ((xN B n q)), (xN B n ((xN B n q)))) := by
                unfold xline xl0 xl1 xl2 xl3 xl4 xl5 xl6 xl7 xper
                repeat first | rw [xs_0 (by omega -splitDisjunctions)] | rw [xs_1 (by omega -splitDisjunctions)] | rw [if_pos (by omega -splitDisjunctions)] | rw [if_neg (by omega -splitDisjunctions)] | rw [xs_0 (by omega)] | rw [xs_1 (by omega)] | rw [if_pos (by omega)] | rw [if_neg (by omega)]
                first | done | rfl | assumption | (exfalso; omega -splitDisjunctions) | (refine Prod.ext ?_ (Prod.ext ?_ ?_) <;> (try dsimp only) <;> omega) | (exfalso; omega)
              have o2060a : ((xline B n q d)).1 = 0 := by rw [o2060]
              have o2060b : ((xline B n q d)).2.1 = ((xN B n q)) := by rw [o2060]
              have o2060c : ((xline B n q d)).2.2 = (xN B n ((xN B n q))) := by rw [o2060]
              have o2061 : xdline B n q d = ((xdsex B n ((xN B n q)) d)) := by
                unfold xdline
                repeat first | rw [xs_0 (by omega -splitDisjunctions)] | rw [xs_1 (by omega -splitDisjunctions)] | rw [if_pos (by omega -splitDisjunctions)] | rw [if_neg (by omega -splitDisjunctions)] | rw [xs_0 (by omega)] | rw [xs_1 (by omega)] | rw [if_pos (by omega)] | rw [if_neg (by omega)]
                first | done | rfl
              exact wp_zreturn e17 c17_161 rfl (by omega) ⟨rfl, w2039, f2057, z2041, rfl, ⟨b2042.1, b2042.2⟩, (Or.inl ⟨by omega, by omega, by omega, by omega, by rw [o2060]; exact a2049, by rw [o2061]; exact a2050, by rw [o2061]; exact a2051⟩)⟩
            · have f2062 := f2022.tr f2040 rfl
              show wp _ _ 17 161 [(2, .ref 18), (0, .ref r0), (1, .ref r1)] [vI z2041] _ H2035 _
              have o2063 : (xline B n q d) = ((xsex B n ((xN B n q)) d).1, (xsex B n ((xN B n q)) d).2.1, (xsex B n ((xN B n q)) d).2.2) := by
                unfold xline xl0 xl1 xl2 xl3 xl4 xl5 xl6 xl7 xper
                repeat first | rw [xs_0 (by omega -splitDisjunctions)] | rw [xs_1 (by omega -splitDisjunctions)] | rw [if_pos (by omega -splitDisjunctions)] | rw [if_neg (by omega -splitDisjunctions)] | rw [xs_0 (by omega)] | rw [xs_1 (by omega)] | rw [if_pos (by omega)] | rw [if_neg (by omega)]
                first | done | rfl | assumption | (exfalso; omega -splitDisjunctions) | (refine Prod.ext ?_ (Prod.ext ?_ ?_) <;> (try dsimp only) <;> omega) | (exfalso; omega)
              have o2063a : ((xline B n q d)).1 = (xsex B n ((xN B n q)) d).1 := by rw [o2063]
              have o2063b : ((xline B n q d)).2.1 = (xsex B n ((xN B n q)) d).2.1 := by rw [o2063]
              have o2063c : ((xline B n q d)).2.2 = (xsex B n ((xN B n q)) d).2.2 := by rw [o2063]
              exact wp_zreturn e17 c17_161 rfl (by omega) ⟨rfl, w2039, f2062, z2041, rfl, ⟨b2042.1, b2042.2⟩, (Or.inr ⟨by omega, by omega, by omega, by omega, by omega⟩)⟩
          · exfalso
            omega
      · exfalso
        omega
    · subst c1758
      show wp _ _ 17 4 [(0, .ref r0), (1, .ref r1)] [.ref 19] _ H _
      refine wp_of e17 c17_4 (rw_astore_n (pc' := 5) (v := .ref 19) (L' := [(2, .ref 19), (0, .ref r0), (1, .ref r1)]) rfl rfl rfl rfl ?_)
      refine wp_of e17 c17_5 (rw_aload_n (pc' := 6) (v := .ref 19) rfl rfl rfl ?_)
      refine wp_of e17 c17_6 (rw_ifnull_r (p1 := 16) (p2 := 9) (by decide) rfl ?_)
      refine wp_of e17 c17_9 (rw_aload_n (pc' := 10) (v := .ref 19) rfl rfl rfl ?_)
      have k2064 : H 19 1 = 3 := (hW.2 19 _ (hW.1.2.2 3 (by decide))).2.2 1 (by decide) |> fun z => by have z1 : (3 : Int) ≤ H 19 1 ∧ H 19 1 ≤ 3 := z; omega
      refine wp_of e17 c17_10 (rw_getI (pc' := 13) (n := 2) (e := _) (lf_1_58).choose_spec.1 (lf_1_58).choose_spec.2.1 (hW.sh (hW.1.2.2 3 (by decide)) rfl) (by decide) rfl rfl ?_)
      rw [k2064]
      refine wp_of e17 c17_13 (rw_if_ne (p1 := 22) (p2 := 16) (by decide) rfl ⟨by decide, by decide⟩ (fun c2065 => ?_) (fun c2065 => ?_))
      · refine wp_of e17 c17_22 (rw_aload_n (pc' := 23) (v := .ref r1) rfl rfl rfl ?_)
        refine wp_of e17 c17_23 (rw_aload_n (pc' := 24) (v := .ref 19) rfl rfl rfl ?_)
        refine wp_of e17 c17_24 (xc_V (pc' := 27) (r := r1) (as := [.ref 19]) (st := []) (lm_1_63) rfl rfl (Nat.le_of_ble_eq_true rfl) hW g1 sh_27 (by decide) rfl (by decide) (u_21_19  hW g1) (fun R2066 T2067 H2068 p2069 => ?_))
        obtain ⟨e2070, e2072, z2073, e2071, b2074, p2075⟩ := p2069
        subst e2070
        subst e2071
        subst e2072
        obtain ⟨a2076, a2077⟩ := p2075
        show wp _ _ 17 27 [(2, .ref 19), (0, .ref r0), (1, .ref r1)] [vI z2073] _ H _
        refine wp_of e17 c17_27 (rw_aload_n (pc' := 28) (v := .ref 19) rfl rfl rfl ?_)
        have k2078 : H 19 1 = 3 := (hW.2 19 _ (hW.1.2.2 3 (by decide))).2.2 1 (by decide) |> fun z => by have z1 : (3 : Int) ≤ H 19 1 ∧ H 19 1 ≤ 3 := z; omega
        refine wp_of e17 c17_28 (rw_getI (pc' := 31) (n := 2) (e := _) (lf_1_58).choose_spec.1 (lf_1_58).choose_spec.2.1 (hW.sh (hW.1.2.2 3 (by decide)) rfl) (by decide) rfl rfl ?_)
        rw [k2078]
        refine wp_of e17 c17_31 (rw_icmp_lt (p1 := 68) (p2 := 34) (by decide) rfl ⟨b2074.1, b2074.2⟩ ⟨by decide, by decide⟩ (fun c2079 => ?_) (fun c2079 => ?_))
        · refine wp_of e17 c17_68 (rw_aload_n (pc' := 69) (v := .ref r0) rfl rfl rfl ?_)
          refine wp_of e17 c17_69 (xg_K (pc' := 72) lf_1_12 hW g0 sh_3 (by decide) (by decide) rfl qtk rfl ?_)
          have h2080 : TP T H rb B := TC_tp hTC_tk qrb
          refine wp_of e17 c17_72 (xc_V (pc' := 75) (r := tk) (as := []) (st := []) (lm_1_74) rfl rfl (Nat.le_of_ble_eq_true rfl) hW gtk sh_4 (by decide) rfl (by decide) (u_16 (B := B) (n := n) (a := (xE B n q)) (q := (xN B n q)) hW gtk qrb grb (by omega) (by omega) (by omega) (rfl) h2080) (fun R2081 T2082 H2083 p2084 => ?_))
          obtain ⟨e2085, w2087, f2088, e2086, p2089⟩ := p2084
          subst e2085
          subst e2086
          have f2091 := f0.tr f2088 rfl
          show wp _ _ 17 75 [(2, .ref 19), (0, .ref r0), (1, .ref r1)] [] _ H2083 _
          have u2092 := TC_k p2089
          refine wp_of e17 c17_75 (rw_gs (pc' := 78) (k := 2) rfl rfl rfl rfl ?_)
          refine wp_of e17 c17_78 (rw_aload_n (pc' := 79) (v := .ref 19) rfl rfl rfl ?_)
          refine wp_of e17 c17_79 (rw_ord (pc' := 82) rfl rfl rfl (by decide) (Nat.le_of_ble_eq_true rfl) rfl ?_)
          show wp _ _ 17 82 [(2, .ref 19), (0, .ref r0), (1, .ref r1)] [vI 3, .ref 2] _ H2083 _
          have k2093 : H2083 2 (3 : Int).toNat = 4 := (w2087.2 2 _ w2087.1.2.1).2.2 3 (by decide) |> fun z => by have z1 : (4 : Int) ≤ H2083 2 3 ∧ H2083 2 3 ≤ 4 := z; exact Int.le_antisymm z1.2 z1.1
          refine wp_of e17 c17_82 (rw_iaload (pc' := 83) (n := 11) (w2087.sh w2087.1.2.1 rfl) (by decide) (by decide) (by decide) rfl rfl ?_)
          rw [k2093]
          refine wp_of e17 c17_83 (rw_tsw (p1 := 162) ⟨by omega, by omega⟩ (by decide) ?_)
          refine wp_of e17 c17_162 (rw_aload_n (pc' := 163) (v := .ref r0) rfl rfl rfl ?_)
          refine wp_of e17 c17_163 (rw_aload_n (pc' := 164) (v := .ref r1) rfl rfl rfl ?_)
          have k2095 : H2083 r0 0 = H r0 0 := (f2088 r0 0 _ g0 rfl)
          have q2096 : H2083 r0 0 = (tk : Int) := k2095.trans qtk
          have k2097 : H2083 tk 0 = H tk 0 := (f2088 tk 0 _ gtk rfl)
          have q2098 : H2083 tk 0 = (rb : Int) := k2097.trans qrb
          have k2099 : H2083 r0 3 = H r0 3 := (f2088 r0 3 _ g0 rfl)
          have h2100 : DC T H2083 r1 d := (DC_fr hW g1 f2088 rfl hDC_r1)
          have h2101 : DD T H2083 r1  := (DD_fr hW g1 f2088 rfl hDD_r1)
          have h2102 : CZ T H2083 r1 (d 0 3) := (CZ_fr hW g1 f2088 rfl hCZ_r1)
          refine wp_of e17 c17_164 (xc_V (pc' := 167) (r := r0) (as := [.ref r1]) (st := []) (lm_1_99) rfl rfl (Nat.le_of_ble_eq_true rfl) w2087 g0 sh_3 (by decide) rfl (by decide) (u_34 (B := B) (n := n) (q := ((xN B n q))) (d := d) w2087 g0 g1 q2096 gtk q2098 grb (by omega) p2089 h2100 h2101 h2102) (fun R2103 T2104 H2105 p2106 => ?_))
          obtain ⟨e2107, w2109, f2110, z2111, e2108, b2112, p2113⟩ := p2106
          subst e2107
          subst e2108
          rcases p2113 with ⟨a2114, a2115, a2116, a2117, a2118, a2119, a2120, a2121⟩ | ⟨a2122, a2123, a2124, a2125, a2126⟩
          · have f2127 := f2091.tr f2110 rfl
            show wp _ _ 17 167 [(2, .ref 19), (0, .ref r0), (1, .ref r1)] [vI z2111] _ H2105 _
            have u2128 := TC_k a2119
            have u2129 := DC_k a2120
            have o2130 : (xline B n q d) = (0, ((xN B n q)), (xN B n (xN B n (xN B n ((xN B n q)))))) := by
              unfold xline xl0 xl1 xl2 xl3 xl4 xl5 xl6 xl7 xper
              repeat first | rw [xs_0 (by omega -splitDisjunctions)] | rw [xs_1 (by omega -splitDisjunctions)] | rw [if_pos (by omega -splitDisjunctions)] | rw [if_neg (by omega -splitDisjunctions)] | rw [xs_0 (by omega)] | rw [xs_1 (by omega)] | rw [if_pos (by omega)] | rw [if_neg (by omega)]
              first | done | rfl | assumption | (exfalso; omega -splitDisjunctions) | (refine Prod.ext ?_ (Prod.ext ?_ ?_) <;> (try dsimp only) <;> omega) | (exfalso; omega)
            have o2130a : ((xline B n q d)).1 = 0 := by rw [o2130]
            have o2130b : ((xline B n q d)).2.1 = ((xN B n q)) := by rw [o2130]
            have o2130c : ((xline B n q d)).2.2 = (xN B n (xN B n (xN B n ((xN B n q))))) := by rw [o2130]
            have o2131 : xdline B n q d = ((xdap B n ((xN B n q)) d)) := by
              unfold xdline
              repeat first | rw [xs_0 (by omega -splitDisjunctions)] | rw [xs_1 (by omega -splitDisjunctions)] | rw [if_pos (by omega -splitDisjunctions)] | rw [if_neg (by omega -splitDisjunctions)] | rw [xs_0 (by omega)] | rw [xs_1 (by omega)] | rw [if_pos (by omega)] | rw [if_neg (by omega)]
              first | done | rfl
            exact wp_zreturn e17 c17_167 rfl (by omega) ⟨rfl, w2109, f2127, z2111, rfl, ⟨b2112.1, b2112.2⟩, (Or.inl ⟨by omega, by omega, by omega, by omega, by rw [o2130]; exact a2119, by rw [o2131]; exact a2120, by rw [o2131]; exact a2121⟩)⟩
          · have f2132 := f2091.tr f2110 rfl
            show wp _ _ 17 167 [(2, .ref 19), (0, .ref r0), (1, .ref r1)] [vI z2111] _ H2105 _
            have o2133 : (xline B n q d) = ((xap B n ((xN B n q)) d).1, (xap B n ((xN B n q)) d).2.1, (xap B n ((xN B n q)) d).2.2) := by
              unfold xline xl0 xl1 xl2 xl3 xl4 xl5 xl6 xl7 xper
              repeat first | rw [xs_0 (by omega -splitDisjunctions)] | rw [xs_1 (by omega -splitDisjunctions)] | rw [if_pos (by omega -splitDisjunctions)] | rw [if_neg (by omega -splitDisjunctions)] | rw [xs_0 (by omega)] | rw [xs_1 (by omega)] | rw [if_pos (by omega)] | rw [if_neg (by omega)]
              first | done | rfl | assumption | (exfalso; omega -splitDisjunctions) | (refine Prod.ext ?_ (Prod.ext ?_ ?_) <;> (try dsimp only) <;> omega) | (exfalso; omega)
            have o2133a : ((xline B n q d)).1 = (xap B n ((xN B n q)) d).1 := by rw [o2133]
            have o2133b : ((xline B n q d)).2.1 = (xap B n ((xN B n q)) d).2.1 := by rw [o2133]
            have o2133c : ((xline B n q d)).2.2 = (xap B n ((xN B n q)) d).2.2 := by rw [o2133]
            exact wp_zreturn e17 c17_167 rfl (by omega) ⟨rfl, w2109, f2132, z2111, rfl, ⟨b2112.1, b2112.2⟩, (Or.inr ⟨by omega, by omega, by omega, by omega, by omega⟩)⟩
        · refine wp_of e17 c17_34 (rw_aload_n (pc' := 35) (v := .ref 19) rfl rfl rfl ?_)
          refine wp_of e17 c17_35 (rw_gs (pc' := 38) (k := 16) rfl rfl rfl rfl ?_)
          refine wp_of e17 c17_38 (rw_acmp_eq (p1 := 48) (p2 := 41) (a := some 19) (b := some 16) rfl rfl (by decide) rfl (fun q9 => absurd q9 (by decide)) (fun q9 => ?_))
          refine wp_of e17 c17_41 (rw_aload_n (pc' := 42) (v := .ref 19) rfl rfl rfl ?_)
          refine wp_of e17 c17_42 (rw_gs (pc' := 45) (k := 18) rfl rfl rfl rfl ?_)
          refine wp_of e17 c17_45 (rw_acmp_ne (p1 := 52) (p2 := 48) (a := some 19) (b := some 18) rfl rfl (by decide) rfl (fun q9 => ?_) (fun q9 => absurd q9 (by decide)))
          refine wp_of e17 c17_52 (rw_iconst (pc' := 53) rfl ?_)
          refine wp_of e17 c17_53 (rw_istore_n (pc' := 54) (z := 0) (L' := [(3, vI 0), (2, .ref 19), (0, .ref r0), (1, .ref r1)]) rfl rfl rfl ?_)
          refine wp_of e17 c17_54 (rw_aload_n (pc' := 55) (v := .ref r0) rfl rfl rfl ?_)
          refine wp_of e17 c17_55 (rw_iload_n (pc' := 56) (z := 0) rfl rfl ?_)
          refine wp_of e17 c17_56 (rw_if_eq (p1 := 63) (p2 := 59) (by decide) rfl ⟨by decide, by decide⟩ (fun c2134 => ?_) (fun c2134 => ?_))
          · refine wp_of e17 c17_63 (rw_iconst (pc' := 64) rfl ?_)
            refine wp_of e17 c17_64 (xc_V (pc' := 67) (r := r0) (as := [vI 5]) (st := []) (lm_1_47) rfl rfl (Nat.le_of_ble_eq_true rfl) hW g0 sh_3 (by decide) rfl (by decide) (u_20  hW g0 ⟨by decide, by decide⟩ qtk gtk) (fun R2135 T2136 H2137 p2138 => ?_))
            obtain ⟨e2139, w2141, f2142, z2143, e2140, b2144, p2145⟩ := p2138
            subst e2139
            subst e2140
            obtain ⟨a2146, a2147, a2148⟩ := p2145
            have f2149 := f0.tr f2142 rfl
            show wp _ _ 17 67 [(3, vI 0), (2, .ref 19), (0, .ref r0), (1, .ref r1)] [vI z2143] _ H2137 _
            have o2150 : (xline B n q d) = (5, q, q) := by
              unfold xline xl0 xl1 xl2 xl3 xl4 xl5 xl6 xl7 xper
              repeat first | rw [xs_0 (by omega -splitDisjunctions)] | rw [xs_1 (by omega -splitDisjunctions)] | rw [if_pos (by omega -splitDisjunctions)] | rw [if_neg (by omega -splitDisjunctions)] | rw [xs_0 (by omega)] | rw [xs_1 (by omega)] | rw [if_pos (by omega)] | rw [if_neg (by omega)]
              first | done | rfl | assumption | (exfalso; omega -splitDisjunctions) | (refine Prod.ext ?_ (Prod.ext ?_ ?_) <;> (try dsimp only) <;> omega) | (exfalso; omega)
            have o2150a : ((xline B n q d)).1 = 5 := by rw [o2150]
            have o2150b : ((xline B n q d)).2.1 = q := by rw [o2150]
            have o2150c : ((xline B n q d)).2.2 = q := by rw [o2150]
            exact wp_zreturn e17 c17_67 rfl (by omega) ⟨rfl, w2141, f2149, z2143, rfl, ⟨b2144.1, b2144.2⟩, (Or.inr ⟨by omega, by omega, by omega, by omega, by omega⟩)⟩
          · exfalso
            omega
      · exfalso
        omega
    · subst c1758
      show wp _ _ 17 4 [(0, .ref r0), (1, .ref r1)] [.ref 20] _ H _
      refine wp_of e17 c17_4 (rw_astore_n (pc' := 5) (v := .ref 20) (L' := [(2, .ref 20), (0, .ref r0), (1, .ref r1)]) rfl rfl rfl rfl ?_)
      refine wp_of e17 c17_5 (rw_aload_n (pc' := 6) (v := .ref 20) rfl rfl rfl ?_)
      refine wp_of e17 c17_6 (rw_ifnull_r (p1 := 16) (p2 := 9) (by decide) rfl ?_)
      refine wp_of e17 c17_9 (rw_aload_n (pc' := 10) (v := .ref 20) rfl rfl rfl ?_)
      have k2151 : H 20 1 = 3 := (hW.2 20 _ (hW.1.2.2 4 (by decide))).2.2 1 (by decide) |> fun z => by have z1 : (3 : Int) ≤ H 20 1 ∧ H 20 1 ≤ 3 := z; omega
      refine wp_of e17 c17_10 (rw_getI (pc' := 13) (n := 2) (e := _) (lf_1_58).choose_spec.1 (lf_1_58).choose_spec.2.1 (hW.sh (hW.1.2.2 4 (by decide)) rfl) (by decide) rfl rfl ?_)
      rw [k2151]
      refine wp_of e17 c17_13 (rw_if_ne (p1 := 22) (p2 := 16) (by decide) rfl ⟨by decide, by decide⟩ (fun c2152 => ?_) (fun c2152 => ?_))
      · refine wp_of e17 c17_22 (rw_aload_n (pc' := 23) (v := .ref r1) rfl rfl rfl ?_)
        refine wp_of e17 c17_23 (rw_aload_n (pc' := 24) (v := .ref 20) rfl rfl rfl ?_)
        refine wp_of e17 c17_24 (xc_V (pc' := 27) (r := r1) (as := [.ref 20]) (st := []) (lm_1_63) rfl rfl (Nat.le_of_ble_eq_true rfl) hW g1 sh_27 (by decide) rfl (by decide) (u_21_20  hW g1) (fun R2153 T2154 H2155 p2156 => ?_))
        obtain ⟨e2157, e2159, z2160, e2158, b2161, p2162⟩ := p2156
        subst e2157
        subst e2158
        subst e2159
        obtain ⟨a2163, a2164⟩ := p2162
        show wp _ _ 17 27 [(2, .ref 20), (0, .ref r0), (1, .ref r1)] [vI z2160] _ H _
        refine wp_of e17 c17_27 (rw_aload_n (pc' := 28) (v := .ref 20) rfl rfl rfl ?_)
        have k2165 : H 20 1 = 3 := (hW.2 20 _ (hW.1.2.2 4 (by decide))).2.2 1 (by decide) |> fun z => by have z1 : (3 : Int) ≤ H 20 1 ∧ H 20 1 ≤ 3 := z; omega
        refine wp_of e17 c17_28 (rw_getI (pc' := 31) (n := 2) (e := _) (lf_1_58).choose_spec.1 (lf_1_58).choose_spec.2.1 (hW.sh (hW.1.2.2 4 (by decide)) rfl) (by decide) rfl rfl ?_)
        rw [k2165]
        refine wp_of e17 c17_31 (rw_icmp_lt (p1 := 68) (p2 := 34) (by decide) rfl ⟨b2161.1, b2161.2⟩ ⟨by decide, by decide⟩ (fun c2166 => ?_) (fun c2166 => ?_))
        · refine wp_of e17 c17_68 (rw_aload_n (pc' := 69) (v := .ref r0) rfl rfl rfl ?_)
          refine wp_of e17 c17_69 (xg_K (pc' := 72) lf_1_12 hW g0 sh_3 (by decide) (by decide) rfl qtk rfl ?_)
          have h2167 : TP T H rb B := TC_tp hTC_tk qrb
          refine wp_of e17 c17_72 (xc_V (pc' := 75) (r := tk) (as := []) (st := []) (lm_1_74) rfl rfl (Nat.le_of_ble_eq_true rfl) hW gtk sh_4 (by decide) rfl (by decide) (u_16 (B := B) (n := n) (a := (xE B n q)) (q := (xN B n q)) hW gtk qrb grb (by omega) (by omega) (by omega) (rfl) h2167) (fun R2168 T2169 H2170 p2171 => ?_))
          obtain ⟨e2172, w2174, f2175, e2173, p2176⟩ := p2171
          subst e2172
          subst e2173
          have f2178 := f0.tr f2175 rfl
          show wp _ _ 17 75 [(2, .ref 20), (0, .ref r0), (1, .ref r1)] [] _ H2170 _
          have u2179 := TC_k p2176
          refine wp_of e17 c17_75 (rw_gs (pc' := 78) (k := 2) rfl rfl rfl rfl ?_)
          refine wp_of e17 c17_78 (rw_aload_n (pc' := 79) (v := .ref 20) rfl rfl rfl ?_)
          refine wp_of e17 c17_79 (rw_ord (pc' := 82) rfl rfl rfl (by decide) (Nat.le_of_ble_eq_true rfl) rfl ?_)
          show wp _ _ 17 82 [(2, .ref 20), (0, .ref r0), (1, .ref r1)] [vI 4, .ref 2] _ H2170 _
          have k2180 : H2170 2 (4 : Int).toNat = 5 := (w2174.2 2 _ w2174.1.2.1).2.2 4 (by decide) |> fun z => by have z1 : (5 : Int) ≤ H2170 2 4 ∧ H2170 2 4 ≤ 5 := z; exact Int.le_antisymm z1.2 z1.1
          refine wp_of e17 c17_82 (rw_iaload (pc' := 83) (n := 11) (w2174.sh w2174.1.2.1 rfl) (by decide) (by decide) (by decide) rfl rfl ?_)
          rw [k2180]
          refine wp_of e17 c17_83 (rw_tsw (p1 := 168) ⟨by omega, by omega⟩ (by decide) ?_)
          refine wp_of e17 c17_168 (rw_aload_n (pc' := 169) (v := .ref r0) rfl rfl rfl ?_)
          refine wp_of e17 c17_169 (rw_aload_n (pc' := 170) (v := .ref r1) rfl rfl rfl ?_)
          have k2182 : H2170 r0 0 = H r0 0 := (f2175 r0 0 _ g0 rfl)
          have q2183 : H2170 r0 0 = (tk : Int) := k2182.trans qtk
          have k2184 : H2170 tk 0 = H tk 0 := (f2175 tk 0 _ gtk rfl)
          have q2185 : H2170 tk 0 = (rb : Int) := k2184.trans qrb
          have k2186 : H2170 r0 3 = H r0 3 := (f2175 r0 3 _ g0 rfl)
          have h2187 : DC T H2170 r1 d := (DC_fr hW g1 f2175 rfl hDC_r1)
          have h2188 : CZ T H2170 r1 (d 0 3) := (CZ_fr hW g1 f2175 rfl hCZ_r1)
          refine wp_of e17 c17_170 (xc_V (pc' := 173) (r := r0) (as := [.ref r1]) (st := []) (lm_1_102) rfl rfl (Nat.le_of_ble_eq_true rfl) w2174 g0 sh_3 (by decide) rfl (by decide) (u_37 (B := B) (n := n) (q := ((xN B n q))) (d := d) w2174 g0 g1 q2183 gtk q2185 grb (by omega) p2176 h2187 h2188) (fun R2189 T2190 H2191 p2192 => ?_))
          obtain ⟨e2193, w2195, f2196, z2197, e2194, b2198, p2199⟩ := p2192
          subst e2193
          subst e2194
          rcases p2199 with ⟨a2200, a2201, a2202, a2203, a2204, a2205, a2206, a2207⟩ | ⟨a2208, a2209, a2210, a2211, a2212⟩
          · have f2213 := f2178.tr f2196 rfl
            show wp _ _ 17 173 [(2, .ref 20), (0, .ref r0), (1, .ref r1)] [vI z2197] _ H2191 _
            have u2214 := TC_k a2205
            have u2215 := DC_k a2206
            have o2216 : (xline B n q d) = (0, ((xN B n q)), (xN B n ((xN B n q)))) := by
              unfold xline xl0 xl1 xl2 xl3 xl4 xl5 xl6 xl7 xper
              repeat first | rw [xs_0 (by omega -splitDisjunctions)] | rw [xs_1 (by omega -splitDisjunctions)] | rw [if_pos (by omega -splitDisjunctions)] | rw [if_neg (by omega -splitDisjunctions)] | rw [xs_0 (by omega)] | rw [xs_1 (by omega)] | rw [if_pos (by omega)] | rw [if_neg (by omega)]
              first | done | rfl | assumption | (exfalso; omega -splitDisjunctions) | (refine Prod.ext ?_ (Prod.ext ?_ ?_) <;> (try dsimp only) <;> omega) | (exfalso; omega)
            have o2216a : ((xline B n q d)).1 = 0 := by rw [o2216]
            have o2216b : ((xline B n q d)).2.1 = ((xN B n q)) := by rw [o2216]
            have o2216c : ((xline B n q d)).2.2 = (xN B n ((xN B n q))) := by rw [o2216]
            have o2217 : xdline B n q d = ((xdbo B n ((xN B n q)) d)) := by
              unfold xdline
              repeat first | rw [xs_0 (by omega -splitDisjunctions)] | rw [xs_1 (by omega -splitDisjunctions)] | rw [if_pos (by omega -splitDisjunctions)] | rw [if_neg (by omega -splitDisjunctions)] | rw [xs_0 (by omega)] | rw [xs_1 (by omega)] | rw [if_pos (by omega)] | rw [if_neg (by omega)]
              first | done | rfl
            exact wp_zreturn e17 c17_173 rfl (by omega) ⟨rfl, w2195, f2213, z2197, rfl, ⟨b2198.1, b2198.2⟩, (Or.inl ⟨by omega, by omega, by omega, by omega, by rw [o2216]; exact a2205, by rw [o2217]; exact a2206, by rw [o2217]; exact a2207⟩)⟩
          · have f2218 := f2178.tr f2196 rfl
            show wp _ _ 17 173 [(2, .ref 20), (0, .ref r0), (1, .ref r1)] [vI z2197] _ H2191 _
            have o2219 : (xline B n q d) = ((xbo B n ((xN B n q))).1, (xbo B n ((xN B n q))).2.1, (xbo B n ((xN B n q))).2.2) := by
              unfold xline xl0 xl1 xl2 xl3 xl4 xl5 xl6 xl7 xper
              repeat first | rw [xs_0 (by omega -splitDisjunctions)] | rw [xs_1 (by omega -splitDisjunctions)] | rw [if_pos (by omega -splitDisjunctions)] | rw [if_neg (by omega -splitDisjunctions)] | rw [xs_0 (by omega)] | rw [xs_1 (by omega)] | rw [if_pos (by omega)] | rw [if_neg (by omega)]
              first | done | rfl | assumption | (exfalso; omega -splitDisjunctions) | (refine Prod.ext ?_ (Prod.ext ?_ ?_) <;> (try dsimp only) <;> omega) | (exfalso; omega)
            have o2219a : ((xline B n q d)).1 = (xbo B n ((xN B n q))).1 := by rw [o2219]
            have o2219b : ((xline B n q d)).2.1 = (xbo B n ((xN B n q))).2.1 := by rw [o2219]
            have o2219c : ((xline B n q d)).2.2 = (xbo B n ((xN B n q))).2.2 := by rw [o2219]
            exact wp_zreturn e17 c17_173 rfl (by omega) ⟨rfl, w2195, f2218, z2197, rfl, ⟨b2198.1, b2198.2⟩, (Or.inr ⟨by omega, by omega, by omega, by omega, by omega⟩)⟩
        · refine wp_of e17 c17_34 (rw_aload_n (pc' := 35) (v := .ref 20) rfl rfl rfl ?_)
          refine wp_of e17 c17_35 (rw_gs (pc' := 38) (k := 16) rfl rfl rfl rfl ?_)
          refine wp_of e17 c17_38 (rw_acmp_eq (p1 := 48) (p2 := 41) (a := some 20) (b := some 16) rfl rfl (by decide) rfl (fun q9 => absurd q9 (by decide)) (fun q9 => ?_))
          refine wp_of e17 c17_41 (rw_aload_n (pc' := 42) (v := .ref 20) rfl rfl rfl ?_)
          refine wp_of e17 c17_42 (rw_gs (pc' := 45) (k := 18) rfl rfl rfl rfl ?_)
          refine wp_of e17 c17_45 (rw_acmp_ne (p1 := 52) (p2 := 48) (a := some 20) (b := some 18) rfl rfl (by decide) rfl (fun q9 => ?_) (fun q9 => absurd q9 (by decide)))
          refine wp_of e17 c17_52 (rw_iconst (pc' := 53) rfl ?_)
          refine wp_of e17 c17_53 (rw_istore_n (pc' := 54) (z := 0) (L' := [(3, vI 0), (2, .ref 20), (0, .ref r0), (1, .ref r1)]) rfl rfl rfl ?_)
          refine wp_of e17 c17_54 (rw_aload_n (pc' := 55) (v := .ref r0) rfl rfl rfl ?_)
          refine wp_of e17 c17_55 (rw_iload_n (pc' := 56) (z := 0) rfl rfl ?_)
          refine wp_of e17 c17_56 (rw_if_eq (p1 := 63) (p2 := 59) (by decide) rfl ⟨by decide, by decide⟩ (fun c2220 => ?_) (fun c2220 => ?_))
          · refine wp_of e17 c17_63 (rw_iconst (pc' := 64) rfl ?_)
            refine wp_of e17 c17_64 (xc_V (pc' := 67) (r := r0) (as := [vI 5]) (st := []) (lm_1_47) rfl rfl (Nat.le_of_ble_eq_true rfl) hW g0 sh_3 (by decide) rfl (by decide) (u_20  hW g0 ⟨by decide, by decide⟩ qtk gtk) (fun R2221 T2222 H2223 p2224 => ?_))
            obtain ⟨e2225, w2227, f2228, z2229, e2226, b2230, p2231⟩ := p2224
            subst e2225
            subst e2226
            obtain ⟨a2232, a2233, a2234⟩ := p2231
            have f2235 := f0.tr f2228 rfl
            show wp _ _ 17 67 [(3, vI 0), (2, .ref 20), (0, .ref r0), (1, .ref r1)] [vI z2229] _ H2223 _
            have o2236 : (xline B n q d) = (5, q, q) := by
              unfold xline xl0 xl1 xl2 xl3 xl4 xl5 xl6 xl7 xper
              repeat first | rw [xs_0 (by omega -splitDisjunctions)] | rw [xs_1 (by omega -splitDisjunctions)] | rw [if_pos (by omega -splitDisjunctions)] | rw [if_neg (by omega -splitDisjunctions)] | rw [xs_0 (by omega)] | rw [xs_1 (by omega)] | rw [if_pos (by omega)] | rw [if_neg (by omega)]
              first | done | rfl | assumption | (exfalso; omega -splitDisjunctions) | (refine Prod.ext ?_ (Prod.ext ?_ ?_) <;> (try dsimp only) <;> omega) | (exfalso; omega)
            have o2236a : ((xline B n q d)).1 = 5 := by rw [o2236]
            have o2236b : ((xline B n q d)).2.1 = q := by rw [o2236]
            have o2236c : ((xline B n q d)).2.2 = q := by rw [o2236]
            exact wp_zreturn e17 c17_67 rfl (by omega) ⟨rfl, w2227, f2235, z2229, rfl, ⟨b2230.1, b2230.2⟩, (Or.inr ⟨by omega, by omega, by omega, by omega, by omega⟩)⟩
          · exfalso
            omega
      · exfalso
        omega
    · subst c1758
      show wp _ _ 17 4 [(0, .ref r0), (1, .ref r1)] [.ref 21] _ H _
      refine wp_of e17 c17_4 (rw_astore_n (pc' := 5) (v := .ref 21) (L' := [(2, .ref 21), (0, .ref r0), (1, .ref r1)]) rfl rfl rfl rfl ?_)
      refine wp_of e17 c17_5 (rw_aload_n (pc' := 6) (v := .ref 21) rfl rfl rfl ?_)
      refine wp_of e17 c17_6 (rw_ifnull_r (p1 := 16) (p2 := 9) (by decide) rfl ?_)
      refine wp_of e17 c17_9 (rw_aload_n (pc' := 10) (v := .ref 21) rfl rfl rfl ?_)
      have k2237 : H 21 1 = 24 := (hW.2 21 _ (hW.1.2.2 5 (by decide))).2.2 1 (by decide) |> fun z => by have z1 : (24 : Int) ≤ H 21 1 ∧ H 21 1 ≤ 24 := z; omega
      refine wp_of e17 c17_10 (rw_getI (pc' := 13) (n := 2) (e := _) (lf_1_58).choose_spec.1 (lf_1_58).choose_spec.2.1 (hW.sh (hW.1.2.2 5 (by decide)) rfl) (by decide) rfl rfl ?_)
      rw [k2237]
      refine wp_of e17 c17_13 (rw_if_ne (p1 := 22) (p2 := 16) (by decide) rfl ⟨by decide, by decide⟩ (fun c2238 => ?_) (fun c2238 => ?_))
      · refine wp_of e17 c17_22 (rw_aload_n (pc' := 23) (v := .ref r1) rfl rfl rfl ?_)
        refine wp_of e17 c17_23 (rw_aload_n (pc' := 24) (v := .ref 21) rfl rfl rfl ?_)
        refine wp_of e17 c17_24 (xc_V (pc' := 27) (r := r1) (as := [.ref 21]) (st := []) (lm_1_63) rfl rfl (Nat.le_of_ble_eq_true rfl) hW g1 sh_27 (by decide) rfl (by decide) (u_21_21  hW g1) (fun R2239 T2240 H2241 p2242 => ?_))
        obtain ⟨e2243, e2245, z2246, e2244, b2247, p2248⟩ := p2242
        subst e2243
        subst e2244
        subst e2245
        obtain ⟨a2249, a2250⟩ := p2248
        show wp _ _ 17 27 [(2, .ref 21), (0, .ref r0), (1, .ref r1)] [vI z2246] _ H _
        refine wp_of e17 c17_27 (rw_aload_n (pc' := 28) (v := .ref 21) rfl rfl rfl ?_)
        have k2251 : H 21 1 = 24 := (hW.2 21 _ (hW.1.2.2 5 (by decide))).2.2 1 (by decide) |> fun z => by have z1 : (24 : Int) ≤ H 21 1 ∧ H 21 1 ≤ 24 := z; omega
        refine wp_of e17 c17_28 (rw_getI (pc' := 31) (n := 2) (e := _) (lf_1_58).choose_spec.1 (lf_1_58).choose_spec.2.1 (hW.sh (hW.1.2.2 5 (by decide)) rfl) (by decide) rfl rfl ?_)
        rw [k2251]
        refine wp_of e17 c17_31 (rw_icmp_lt (p1 := 68) (p2 := 34) (by decide) rfl ⟨b2247.1, b2247.2⟩ ⟨by decide, by decide⟩ (fun c2252 => ?_) (fun c2252 => ?_))
        · refine wp_of e17 c17_68 (rw_aload_n (pc' := 69) (v := .ref r0) rfl rfl rfl ?_)
          refine wp_of e17 c17_69 (xg_K (pc' := 72) lf_1_12 hW g0 sh_3 (by decide) (by decide) rfl qtk rfl ?_)
          have h2253 : TP T H rb B := TC_tp hTC_tk qrb
          refine wp_of e17 c17_72 (xc_V (pc' := 75) (r := tk) (as := []) (st := []) (lm_1_74) rfl rfl (Nat.le_of_ble_eq_true rfl) hW gtk sh_4 (by decide) rfl (by decide) (u_16 (B := B) (n := n) (a := (xE B n q)) (q := (xN B n q)) hW gtk qrb grb (by omega) (by omega) (by omega) (rfl) h2253) (fun R2254 T2255 H2256 p2257 => ?_))
          obtain ⟨e2258, w2260, f2261, e2259, p2262⟩ := p2257
          subst e2258
          subst e2259
          have f2264 := f0.tr f2261 rfl
          show wp _ _ 17 75 [(2, .ref 21), (0, .ref r0), (1, .ref r1)] [] _ H2256 _
          have u2265 := TC_k p2262
          refine wp_of e17 c17_75 (rw_gs (pc' := 78) (k := 2) rfl rfl rfl rfl ?_)
          refine wp_of e17 c17_78 (rw_aload_n (pc' := 79) (v := .ref 21) rfl rfl rfl ?_)
          refine wp_of e17 c17_79 (rw_ord (pc' := 82) rfl rfl rfl (by decide) (Nat.le_of_ble_eq_true rfl) rfl ?_)
          show wp _ _ 17 82 [(2, .ref 21), (0, .ref r0), (1, .ref r1)] [vI 5, .ref 2] _ H2256 _
          have k2266 : H2256 2 (5 : Int).toNat = 6 := (w2260.2 2 _ w2260.1.2.1).2.2 5 (by decide) |> fun z => by have z1 : (6 : Int) ≤ H2256 2 5 ∧ H2256 2 5 ≤ 6 := z; exact Int.le_antisymm z1.2 z1.1
          refine wp_of e17 c17_82 (rw_iaload (pc' := 83) (n := 11) (w2260.sh w2260.1.2.1 rfl) (by decide) (by decide) (by decide) rfl rfl ?_)
          rw [k2266]
          refine wp_of e17 c17_83 (rw_tsw (p1 := 174) ⟨by omega, by omega⟩ (by decide) ?_)
          refine wp_of e17 c17_174 (rw_aload_n (pc' := 175) (v := .ref r0) rfl rfl rfl ?_)
          refine wp_of e17 c17_175 (rw_aload_n (pc' := 176) (v := .ref r1) rfl rfl rfl ?_)
          have k2268 : H2256 r0 0 = H r0 0 := (f2261 r0 0 _ g0 rfl)
          have q2269 : H2256 r0 0 = (tk : Int) := k2268.trans qtk
          have k2270 : H2256 tk 0 = H tk 0 := (f2261 tk 0 _ gtk rfl)
          have q2271 : H2256 tk 0 = (rb : Int) := k2270.trans qrb
          have k2272 : H2256 r0 3 = H r0 3 := (f2261 r0 3 _ g0 rfl)
          have h2273 : DC T H2256 r1 d := (DC_fr hW g1 f2261 rfl hDC_r1)
          have h2274 : CZ T H2256 r1 (d 0 3) := (CZ_fr hW g1 f2261 rfl hCZ_r1)
          refine wp_of e17 c17_176 (xc_V (pc' := 179) (r := r0) (as := [.ref r1]) (st := []) (lm_1_105) rfl rfl (Nat.le_of_ble_eq_true rfl) w2260 g0 sh_3 (by decide) rfl (by decide) (u_38 (B := B) (n := n) (q := ((xN B n q))) (d := d) w2260 g0 g1 q2269 gtk q2271 grb p2262 h2273 h2274) (fun R2275 T2276 H2277 p2278 => ?_))
          obtain ⟨e2279, w2281, f2282, z2283, e2280, b2284, p2285⟩ := p2278
          subst e2279
          subst e2280
          rcases p2285 with ⟨a2286, a2287, a2288, a2289, a2290, a2291, a2292, a2293⟩ | ⟨a2294, a2295, a2296, a2297, a2298⟩
          · have f2299 := f2264.tr f2282 rfl
            show wp _ _ 17 179 [(2, .ref 21), (0, .ref r0), (1, .ref r1)] [vI z2283] _ H2277 _
            have u2300 := TC_k a2291
            have u2301 := DC_k a2292
            have o2302 : (xline B n q d) = (0, ((xN B n q)), (xN B n (xN B n (xN B n ((xN B n q)))))) := by
              unfold xline xl0 xl1 xl2 xl3 xl4 xl5 xl6 xl7 xper
              repeat first | rw [xs_0 (by omega -splitDisjunctions)] | rw [xs_1 (by omega -splitDisjunctions)] | rw [if_pos (by omega -splitDisjunctions)] | rw [if_neg (by omega -splitDisjunctions)] | rw [xs_0 (by omega)] | rw [xs_1 (by omega)] | rw [if_pos (by omega)] | rw [if_neg (by omega)]
              first | done | rfl | assumption | (exfalso; omega -splitDisjunctions) | (refine Prod.ext ?_ (Prod.ext ?_ ?_) <;> (try dsimp only) <;> omega) | (exfalso; omega)
            have o2302a : ((xline B n q d)).1 = 0 := by rw [o2302]
            have o2302b : ((xline B n q d)).2.1 = ((xN B n q)) := by rw [o2302]
            have o2302c : ((xline B n q d)).2.2 = (xN B n (xN B n (xN B n ((xN B n q))))) := by rw [o2302]
            have o2303 : xdline B n q d = ((xdst B n ((xN B n q)) d)) := by
              unfold xdline
              repeat first | rw [xs_0 (by omega -splitDisjunctions)] | rw [xs_1 (by omega -splitDisjunctions)] | rw [if_pos (by omega -splitDisjunctions)] | rw [if_neg (by omega -splitDisjunctions)] | rw [xs_0 (by omega)] | rw [xs_1 (by omega)] | rw [if_pos (by omega)] | rw [if_neg (by omega)]
              first | done | rfl
            exact wp_zreturn e17 c17_179 rfl (by omega) ⟨rfl, w2281, f2299, z2283, rfl, ⟨b2284.1, b2284.2⟩, (Or.inl ⟨by omega, by omega, by omega, by omega, by rw [o2302]; exact a2291, by rw [o2303]; exact a2292, by rw [o2303]; exact a2293⟩)⟩
          · have f2304 := f2264.tr f2282 rfl
            show wp _ _ 17 179 [(2, .ref 21), (0, .ref r0), (1, .ref r1)] [vI z2283] _ H2277 _
            have o2305 : (xline B n q d) = ((xst B n ((xN B n q)) d).1, (xst B n ((xN B n q)) d).2.1, (xst B n ((xN B n q)) d).2.2) := by
              unfold xline xl0 xl1 xl2 xl3 xl4 xl5 xl6 xl7 xper
              repeat first | rw [xs_0 (by omega -splitDisjunctions)] | rw [xs_1 (by omega -splitDisjunctions)] | rw [if_pos (by omega -splitDisjunctions)] | rw [if_neg (by omega -splitDisjunctions)] | rw [xs_0 (by omega)] | rw [xs_1 (by omega)] | rw [if_pos (by omega)] | rw [if_neg (by omega)]
              first | done | rfl | assumption | (exfalso; omega -splitDisjunctions) | (refine Prod.ext ?_ (Prod.ext ?_ ?_) <;> (try dsimp only) <;> omega) | (exfalso; omega)
            have o2305a : ((xline B n q d)).1 = (xst B n ((xN B n q)) d).1 := by rw [o2305]
            have o2305b : ((xline B n q d)).2.1 = (xst B n ((xN B n q)) d).2.1 := by rw [o2305]
            have o2305c : ((xline B n q d)).2.2 = (xst B n ((xN B n q)) d).2.2 := by rw [o2305]
            exact wp_zreturn e17 c17_179 rfl (by omega) ⟨rfl, w2281, f2304, z2283, rfl, ⟨b2284.1, b2284.2⟩, (Or.inr ⟨by omega, by omega, by omega, by omega, by omega⟩)⟩
        · refine wp_of e17 c17_34 (rw_aload_n (pc' := 35) (v := .ref 21) rfl rfl rfl ?_)
          refine wp_of e17 c17_35 (rw_gs (pc' := 38) (k := 16) rfl rfl rfl rfl ?_)
          refine wp_of e17 c17_38 (rw_acmp_eq (p1 := 48) (p2 := 41) (a := some 21) (b := some 16) rfl rfl (by decide) rfl (fun q9 => absurd q9 (by decide)) (fun q9 => ?_))
          refine wp_of e17 c17_41 (rw_aload_n (pc' := 42) (v := .ref 21) rfl rfl rfl ?_)
          refine wp_of e17 c17_42 (rw_gs (pc' := 45) (k := 18) rfl rfl rfl rfl ?_)
          refine wp_of e17 c17_45 (rw_acmp_ne (p1 := 52) (p2 := 48) (a := some 21) (b := some 18) rfl rfl (by decide) rfl (fun q9 => ?_) (fun q9 => absurd q9 (by decide)))
          refine wp_of e17 c17_52 (rw_iconst (pc' := 53) rfl ?_)
          refine wp_of e17 c17_53 (rw_istore_n (pc' := 54) (z := 0) (L' := [(3, vI 0), (2, .ref 21), (0, .ref r0), (1, .ref r1)]) rfl rfl rfl ?_)
          refine wp_of e17 c17_54 (rw_aload_n (pc' := 55) (v := .ref r0) rfl rfl rfl ?_)
          refine wp_of e17 c17_55 (rw_iload_n (pc' := 56) (z := 0) rfl rfl ?_)
          refine wp_of e17 c17_56 (rw_if_eq (p1 := 63) (p2 := 59) (by decide) rfl ⟨by decide, by decide⟩ (fun c2306 => ?_) (fun c2306 => ?_))
          · refine wp_of e17 c17_63 (rw_iconst (pc' := 64) rfl ?_)
            refine wp_of e17 c17_64 (xc_V (pc' := 67) (r := r0) (as := [vI 5]) (st := []) (lm_1_47) rfl rfl (Nat.le_of_ble_eq_true rfl) hW g0 sh_3 (by decide) rfl (by decide) (u_20  hW g0 ⟨by decide, by decide⟩ qtk gtk) (fun R2307 T2308 H2309 p2310 => ?_))
            obtain ⟨e2311, w2313, f2314, z2315, e2312, b2316, p2317⟩ := p2310
            subst e2311
            subst e2312
            obtain ⟨a2318, a2319, a2320⟩ := p2317
            have f2321 := f0.tr f2314 rfl
            show wp _ _ 17 67 [(3, vI 0), (2, .ref 21), (0, .ref r0), (1, .ref r1)] [vI z2315] _ H2309 _
            have o2322 : (xline B n q d) = (5, q, q) := by
              unfold xline xl0 xl1 xl2 xl3 xl4 xl5 xl6 xl7 xper
              repeat first | rw [xs_0 (by omega -splitDisjunctions)] | rw [xs_1 (by omega -splitDisjunctions)] | rw [if_pos (by omega -splitDisjunctions)] | rw [if_neg (by omega -splitDisjunctions)] | rw [xs_0 (by omega)] | rw [xs_1 (by omega)] | rw [if_pos (by omega)] | rw [if_neg (by omega)]
              first | done | rfl | assumption | (exfalso; omega -splitDisjunctions) | (refine Prod.ext ?_ (Prod.ext ?_ ?_) <;> (try dsimp only) <;> omega) | (exfalso; omega)
            have o2322a : ((xline B n q d)).1 = 5 := by rw [o2322]
            have o2322b : ((xline B n q d)).2.1 = q := by rw [o2322]
            have o2322c : ((xline B n q d)).2.2 = q := by rw [o2322]
            exact wp_zreturn e17 c17_67 rfl (by omega) ⟨rfl, w2313, f2321, z2315, rfl, ⟨b2316.1, b2316.2⟩, (Or.inr ⟨by omega, by omega, by omega, by omega, by omega⟩)⟩
          · exfalso
            omega
      · exfalso
        omega
    · subst c1758
      show wp _ _ 17 4 [(0, .ref r0), (1, .ref r1)] [.ref 22] _ H _
      refine wp_of e17 c17_4 (rw_astore_n (pc' := 5) (v := .ref 22) (L' := [(2, .ref 22), (0, .ref r0), (1, .ref r1)]) rfl rfl rfl rfl ?_)
      refine wp_of e17 c17_5 (rw_aload_n (pc' := 6) (v := .ref 22) rfl rfl rfl ?_)
      refine wp_of e17 c17_6 (rw_ifnull_r (p1 := 16) (p2 := 9) (by decide) rfl ?_)
      refine wp_of e17 c17_9 (rw_aload_n (pc' := 10) (v := .ref 22) rfl rfl rfl ?_)
      have k2323 : H 22 1 = 4 := (hW.2 22 _ (hW.1.2.2 6 (by decide))).2.2 1 (by decide) |> fun z => by have z1 : (4 : Int) ≤ H 22 1 ∧ H 22 1 ≤ 4 := z; omega
      refine wp_of e17 c17_10 (rw_getI (pc' := 13) (n := 2) (e := _) (lf_1_58).choose_spec.1 (lf_1_58).choose_spec.2.1 (hW.sh (hW.1.2.2 6 (by decide)) rfl) (by decide) rfl rfl ?_)
      rw [k2323]
      refine wp_of e17 c17_13 (rw_if_ne (p1 := 22) (p2 := 16) (by decide) rfl ⟨by decide, by decide⟩ (fun c2324 => ?_) (fun c2324 => ?_))
      · refine wp_of e17 c17_22 (rw_aload_n (pc' := 23) (v := .ref r1) rfl rfl rfl ?_)
        refine wp_of e17 c17_23 (rw_aload_n (pc' := 24) (v := .ref 22) rfl rfl rfl ?_)
        refine wp_of e17 c17_24 (xc_V (pc' := 27) (r := r1) (as := [.ref 22]) (st := []) (lm_1_63) rfl rfl (Nat.le_of_ble_eq_true rfl) hW g1 sh_27 (by decide) rfl (by decide) (u_21_22  hW g1) (fun R2325 T2326 H2327 p2328 => ?_))
        obtain ⟨e2329, e2331, z2332, e2330, b2333, p2334⟩ := p2328
        subst e2329
        subst e2330
        subst e2331
        obtain ⟨a2335, a2336⟩ := p2334
        show wp _ _ 17 27 [(2, .ref 22), (0, .ref r0), (1, .ref r1)] [vI z2332] _ H _
        refine wp_of e17 c17_27 (rw_aload_n (pc' := 28) (v := .ref 22) rfl rfl rfl ?_)
        have k2337 : H 22 1 = 4 := (hW.2 22 _ (hW.1.2.2 6 (by decide))).2.2 1 (by decide) |> fun z => by have z1 : (4 : Int) ≤ H 22 1 ∧ H 22 1 ≤ 4 := z; omega
        refine wp_of e17 c17_28 (rw_getI (pc' := 31) (n := 2) (e := _) (lf_1_58).choose_spec.1 (lf_1_58).choose_spec.2.1 (hW.sh (hW.1.2.2 6 (by decide)) rfl) (by decide) rfl rfl ?_)
        rw [k2337]
        refine wp_of e17 c17_31 (rw_icmp_lt (p1 := 68) (p2 := 34) (by decide) rfl ⟨b2333.1, b2333.2⟩ ⟨by decide, by decide⟩ (fun c2338 => ?_) (fun c2338 => ?_))
        · refine wp_of e17 c17_68 (rw_aload_n (pc' := 69) (v := .ref r0) rfl rfl rfl ?_)
          refine wp_of e17 c17_69 (xg_K (pc' := 72) lf_1_12 hW g0 sh_3 (by decide) (by decide) rfl qtk rfl ?_)
          have h2339 : TP T H rb B := TC_tp hTC_tk qrb
          refine wp_of e17 c17_72 (xc_V (pc' := 75) (r := tk) (as := []) (st := []) (lm_1_74) rfl rfl (Nat.le_of_ble_eq_true rfl) hW gtk sh_4 (by decide) rfl (by decide) (u_16 (B := B) (n := n) (a := (xE B n q)) (q := (xN B n q)) hW gtk qrb grb (by omega) (by omega) (by omega) (rfl) h2339) (fun R2340 T2341 H2342 p2343 => ?_))
          obtain ⟨e2344, w2346, f2347, e2345, p2348⟩ := p2343
          subst e2344
          subst e2345
          have f2350 := f0.tr f2347 rfl
          show wp _ _ 17 75 [(2, .ref 22), (0, .ref r0), (1, .ref r1)] [] _ H2342 _
          have u2351 := TC_k p2348
          refine wp_of e17 c17_75 (rw_gs (pc' := 78) (k := 2) rfl rfl rfl rfl ?_)
          refine wp_of e17 c17_78 (rw_aload_n (pc' := 79) (v := .ref 22) rfl rfl rfl ?_)
          refine wp_of e17 c17_79 (rw_ord (pc' := 82) rfl rfl rfl (by decide) (Nat.le_of_ble_eq_true rfl) rfl ?_)
          show wp _ _ 17 82 [(2, .ref 22), (0, .ref r0), (1, .ref r1)] [vI 6, .ref 2] _ H2342 _
          have k2352 : H2342 2 (6 : Int).toNat = 7 := (w2346.2 2 _ w2346.1.2.1).2.2 6 (by decide) |> fun z => by have z1 : (7 : Int) ≤ H2342 2 6 ∧ H2342 2 6 ≤ 7 := z; exact Int.le_antisymm z1.2 z1.1
          refine wp_of e17 c17_82 (rw_iaload (pc' := 83) (n := 11) (w2346.sh w2346.1.2.1 rfl) (by decide) (by decide) (by decide) rfl rfl ?_)
          rw [k2352]
          refine wp_of e17 c17_83 (rw_tsw (p1 := 180) ⟨by omega, by omega⟩ (by decide) ?_)
          refine wp_of e17 c17_180 (rw_aload_n (pc' := 181) (v := .ref r0) rfl rfl rfl ?_)
          refine wp_of e17 c17_181 (rw_aload_n (pc' := 182) (v := .ref r1) rfl rfl rfl ?_)
          have k2354 : H2342 r0 0 = H r0 0 := (f2347 r0 0 _ g0 rfl)
          have q2355 : H2342 r0 0 = (tk : Int) := k2354.trans qtk
          have k2356 : H2342 tk 0 = H tk 0 := (f2347 tk 0 _ gtk rfl)
          have q2357 : H2342 tk 0 = (rb : Int) := k2356.trans qrb
          have k2358 : H2342 r0 3 = H r0 3 := (f2347 r0 3 _ g0 rfl)
          have h2359 : DC T H2342 r1 d := (DC_fr hW g1 f2347 rfl hDC_r1)
          have h2360 : CZ T H2342 r1 (d 0 3) := (CZ_fr hW g1 f2347 rfl hCZ_r1)
          refine wp_of e17 c17_182 (xc_V (pc' := 185) (r := r0) (as := [.ref r1]) (st := []) (lm_1_108) rfl rfl (Nat.le_of_ble_eq_true rfl) w2346 g0 sh_3 (by decide) rfl (by decide) (u_42 (B := B) (n := n) (q := ((xN B n q))) (d := d) w2346 g0 g1 q2355 gtk q2357 grb (by omega) p2348 h2359 h2360) (fun R2361 T2362 H2363 p2364 => ?_))
          obtain ⟨e2365, w2367, f2368, z2369, e2366, b2370, p2371⟩ := p2364
          subst e2365
          subst e2366
          rcases p2371 with ⟨a2372, a2373, a2374, a2375, a2376, a2377, a2378, a2379⟩ | ⟨a2380, a2381, a2382, a2383, a2384⟩
          · have f2385 := f2350.tr f2368 rfl
            show wp _ _ 17 185 [(2, .ref 22), (0, .ref r0), (1, .ref r1)] [vI z2369] _ H2363 _
            have u2386 := TC_k a2377
            have u2387 := DC_k a2378
            have o2388 : (xline B n q d) = (0, ((xN B n q)), (xN B n (xN B n (xN B n (xN B n ((xN B n q))))))) := by
              unfold xline xl0 xl1 xl2 xl3 xl4 xl5 xl6 xl7 xper
              repeat first | rw [xs_0 (by omega -splitDisjunctions)] | rw [xs_1 (by omega -splitDisjunctions)] | rw [if_pos (by omega -splitDisjunctions)] | rw [if_neg (by omega -splitDisjunctions)] | rw [xs_0 (by omega)] | rw [xs_1 (by omega)] | rw [if_pos (by omega)] | rw [if_neg (by omega)]
              first | done | rfl | assumption | (exfalso; omega -splitDisjunctions) | (refine Prod.ext ?_ (Prod.ext ?_ ?_) <;> (try dsimp only) <;> omega) | (exfalso; omega)
            have o2388a : ((xline B n q d)).1 = 0 := by rw [o2388]
            have o2388b : ((xline B n q d)).2.1 = ((xN B n q)) := by rw [o2388]
            have o2388c : ((xline B n q d)).2.2 = (xN B n (xN B n (xN B n (xN B n ((xN B n q)))))) := by rw [o2388]
            have o2389 : xdline B n q d = ((xdtl B n ((xN B n q)) d)) := by
              unfold xdline
              repeat first | rw [xs_0 (by omega -splitDisjunctions)] | rw [xs_1 (by omega -splitDisjunctions)] | rw [if_pos (by omega -splitDisjunctions)] | rw [if_neg (by omega -splitDisjunctions)] | rw [xs_0 (by omega)] | rw [xs_1 (by omega)] | rw [if_pos (by omega)] | rw [if_neg (by omega)]
              first | done | rfl
            exact wp_zreturn e17 c17_185 rfl (by omega) ⟨rfl, w2367, f2385, z2369, rfl, ⟨b2370.1, b2370.2⟩, (Or.inl ⟨by omega, by omega, by omega, by omega, by rw [o2388]; exact a2377, by rw [o2389]; exact a2378, by rw [o2389]; exact a2379⟩)⟩
          · have f2390 := f2350.tr f2368 rfl
            show wp _ _ 17 185 [(2, .ref 22), (0, .ref r0), (1, .ref r1)] [vI z2369] _ H2363 _
            have o2391 : (xline B n q d) = ((xtl B n ((xN B n q)) d).1, (xtl B n ((xN B n q)) d).2.1, (xtl B n ((xN B n q)) d).2.2) := by
              unfold xline xl0 xl1 xl2 xl3 xl4 xl5 xl6 xl7 xper
              repeat first | rw [xs_0 (by omega -splitDisjunctions)] | rw [xs_1 (by omega -splitDisjunctions)] | rw [if_pos (by omega -splitDisjunctions)] | rw [if_neg (by omega -splitDisjunctions)] | rw [xs_0 (by omega)] | rw [xs_1 (by omega)] | rw [if_pos (by omega)] | rw [if_neg (by omega)]
              first | done | rfl | assumption | (exfalso; omega -splitDisjunctions) | (refine Prod.ext ?_ (Prod.ext ?_ ?_) <;> (try dsimp only) <;> omega) | (exfalso; omega)
            have o2391a : ((xline B n q d)).1 = (xtl B n ((xN B n q)) d).1 := by rw [o2391]
            have o2391b : ((xline B n q d)).2.1 = (xtl B n ((xN B n q)) d).2.1 := by rw [o2391]
            have o2391c : ((xline B n q d)).2.2 = (xtl B n ((xN B n q)) d).2.2 := by rw [o2391]
            exact wp_zreturn e17 c17_185 rfl (by omega) ⟨rfl, w2367, f2390, z2369, rfl, ⟨b2370.1, b2370.2⟩, (Or.inr ⟨by omega, by omega, by omega, by omega, by omega⟩)⟩
        · refine wp_of e17 c17_34 (rw_aload_n (pc' := 35) (v := .ref 22) rfl rfl rfl ?_)
          refine wp_of e17 c17_35 (rw_gs (pc' := 38) (k := 16) rfl rfl rfl rfl ?_)
          refine wp_of e17 c17_38 (rw_acmp_eq (p1 := 48) (p2 := 41) (a := some 22) (b := some 16) rfl rfl (by decide) rfl (fun q9 => absurd q9 (by decide)) (fun q9 => ?_))
          refine wp_of e17 c17_41 (rw_aload_n (pc' := 42) (v := .ref 22) rfl rfl rfl ?_)
          refine wp_of e17 c17_42 (rw_gs (pc' := 45) (k := 18) rfl rfl rfl rfl ?_)
          refine wp_of e17 c17_45 (rw_acmp_ne (p1 := 52) (p2 := 48) (a := some 22) (b := some 18) rfl rfl (by decide) rfl (fun q9 => ?_) (fun q9 => absurd q9 (by decide)))
          refine wp_of e17 c17_52 (rw_iconst (pc' := 53) rfl ?_)
          refine wp_of e17 c17_53 (rw_istore_n (pc' := 54) (z := 0) (L' := [(3, vI 0), (2, .ref 22), (0, .ref r0), (1, .ref r1)]) rfl rfl rfl ?_)
          refine wp_of e17 c17_54 (rw_aload_n (pc' := 55) (v := .ref r0) rfl rfl rfl ?_)
          refine wp_of e17 c17_55 (rw_iload_n (pc' := 56) (z := 0) rfl rfl ?_)
          refine wp_of e17 c17_56 (rw_if_eq (p1 := 63) (p2 := 59) (by decide) rfl ⟨by decide, by decide⟩ (fun c2392 => ?_) (fun c2392 => ?_))
          · refine wp_of e17 c17_63 (rw_iconst (pc' := 64) rfl ?_)
            refine wp_of e17 c17_64 (xc_V (pc' := 67) (r := r0) (as := [vI 5]) (st := []) (lm_1_47) rfl rfl (Nat.le_of_ble_eq_true rfl) hW g0 sh_3 (by decide) rfl (by decide) (u_20  hW g0 ⟨by decide, by decide⟩ qtk gtk) (fun R2393 T2394 H2395 p2396 => ?_))
            obtain ⟨e2397, w2399, f2400, z2401, e2398, b2402, p2403⟩ := p2396
            subst e2397
            subst e2398
            obtain ⟨a2404, a2405, a2406⟩ := p2403
            have f2407 := f0.tr f2400 rfl
            show wp _ _ 17 67 [(3, vI 0), (2, .ref 22), (0, .ref r0), (1, .ref r1)] [vI z2401] _ H2395 _
            have o2408 : (xline B n q d) = (5, q, q) := by
              unfold xline xl0 xl1 xl2 xl3 xl4 xl5 xl6 xl7 xper
              repeat first | rw [xs_0 (by omega -splitDisjunctions)] | rw [xs_1 (by omega -splitDisjunctions)] | rw [if_pos (by omega -splitDisjunctions)] | rw [if_neg (by omega -splitDisjunctions)] | rw [xs_0 (by omega)] | rw [xs_1 (by omega)] | rw [if_pos (by omega)] | rw [if_neg (by omega)]
              first | done | rfl | assumption | (exfalso; omega -splitDisjunctions) | (refine Prod.ext ?_ (Prod.ext ?_ ?_) <;> (try dsimp only) <;> omega) | (exfalso; omega)
            have o2408a : ((xline B n q d)).1 = 5 := by rw [o2408]
            have o2408b : ((xline B n q d)).2.1 = q := by rw [o2408]
            have o2408c : ((xline B n q d)).2.2 = q := by rw [o2408]
            exact wp_zreturn e17 c17_67 rfl (by omega) ⟨rfl, w2399, f2407, z2401, rfl, ⟨b2402.1, b2402.2⟩, (Or.inr ⟨by omega, by omega, by omega, by omega, by omega⟩)⟩
          · exfalso
            omega
      · exfalso
        omega
    · subst c1758
      show wp _ _ 17 4 [(0, .ref r0), (1, .ref r1)] [.ref 23] _ H _
      refine wp_of e17 c17_4 (rw_astore_n (pc' := 5) (v := .ref 23) (L' := [(2, .ref 23), (0, .ref r0), (1, .ref r1)]) rfl rfl rfl rfl ?_)
      refine wp_of e17 c17_5 (rw_aload_n (pc' := 6) (v := .ref 23) rfl rfl rfl ?_)
      refine wp_of e17 c17_6 (rw_ifnull_r (p1 := 16) (p2 := 9) (by decide) rfl ?_)
      refine wp_of e17 c17_9 (rw_aload_n (pc' := 10) (v := .ref 23) rfl rfl rfl ?_)
      have k2409 : H 23 1 = 6 := (hW.2 23 _ (hW.1.2.2 7 (by decide))).2.2 1 (by decide) |> fun z => by have z1 : (6 : Int) ≤ H 23 1 ∧ H 23 1 ≤ 6 := z; omega
      refine wp_of e17 c17_10 (rw_getI (pc' := 13) (n := 2) (e := _) (lf_1_58).choose_spec.1 (lf_1_58).choose_spec.2.1 (hW.sh (hW.1.2.2 7 (by decide)) rfl) (by decide) rfl rfl ?_)
      rw [k2409]
      refine wp_of e17 c17_13 (rw_if_ne (p1 := 22) (p2 := 16) (by decide) rfl ⟨by decide, by decide⟩ (fun c2410 => ?_) (fun c2410 => ?_))
      · refine wp_of e17 c17_22 (rw_aload_n (pc' := 23) (v := .ref r1) rfl rfl rfl ?_)
        refine wp_of e17 c17_23 (rw_aload_n (pc' := 24) (v := .ref 23) rfl rfl rfl ?_)
        refine wp_of e17 c17_24 (xc_V (pc' := 27) (r := r1) (as := [.ref 23]) (st := []) (lm_1_63) rfl rfl (Nat.le_of_ble_eq_true rfl) hW g1 sh_27 (by decide) rfl (by decide) (u_21_23  hW g1) (fun R2411 T2412 H2413 p2414 => ?_))
        obtain ⟨e2415, e2417, z2418, e2416, b2419, p2420⟩ := p2414
        subst e2415
        subst e2416
        subst e2417
        obtain ⟨a2421, a2422⟩ := p2420
        show wp _ _ 17 27 [(2, .ref 23), (0, .ref r0), (1, .ref r1)] [vI z2418] _ H _
        refine wp_of e17 c17_27 (rw_aload_n (pc' := 28) (v := .ref 23) rfl rfl rfl ?_)
        have k2423 : H 23 1 = 6 := (hW.2 23 _ (hW.1.2.2 7 (by decide))).2.2 1 (by decide) |> fun z => by have z1 : (6 : Int) ≤ H 23 1 ∧ H 23 1 ≤ 6 := z; omega
        refine wp_of e17 c17_28 (rw_getI (pc' := 31) (n := 2) (e := _) (lf_1_58).choose_spec.1 (lf_1_58).choose_spec.2.1 (hW.sh (hW.1.2.2 7 (by decide)) rfl) (by decide) rfl rfl ?_)
        rw [k2423]
        refine wp_of e17 c17_31 (rw_icmp_lt (p1 := 68) (p2 := 34) (by decide) rfl ⟨b2419.1, b2419.2⟩ ⟨by decide, by decide⟩ (fun c2424 => ?_) (fun c2424 => ?_))
        · refine wp_of e17 c17_68 (rw_aload_n (pc' := 69) (v := .ref r0) rfl rfl rfl ?_)
          refine wp_of e17 c17_69 (xg_K (pc' := 72) lf_1_12 hW g0 sh_3 (by decide) (by decide) rfl qtk rfl ?_)
          have h2425 : TP T H rb B := TC_tp hTC_tk qrb
          refine wp_of e17 c17_72 (xc_V (pc' := 75) (r := tk) (as := []) (st := []) (lm_1_74) rfl rfl (Nat.le_of_ble_eq_true rfl) hW gtk sh_4 (by decide) rfl (by decide) (u_16 (B := B) (n := n) (a := (xE B n q)) (q := (xN B n q)) hW gtk qrb grb (by omega) (by omega) (by omega) (rfl) h2425) (fun R2426 T2427 H2428 p2429 => ?_))
          obtain ⟨e2430, w2432, f2433, e2431, p2434⟩ := p2429
          subst e2430
          subst e2431
          have f2436 := f0.tr f2433 rfl
          show wp _ _ 17 75 [(2, .ref 23), (0, .ref r0), (1, .ref r1)] [] _ H2428 _
          have u2437 := TC_k p2434
          refine wp_of e17 c17_75 (rw_gs (pc' := 78) (k := 2) rfl rfl rfl rfl ?_)
          refine wp_of e17 c17_78 (rw_aload_n (pc' := 79) (v := .ref 23) rfl rfl rfl ?_)
          refine wp_of e17 c17_79 (rw_ord (pc' := 82) rfl rfl rfl (by decide) (Nat.le_of_ble_eq_true rfl) rfl ?_)
          show wp _ _ 17 82 [(2, .ref 23), (0, .ref r0), (1, .ref r1)] [vI 7, .ref 2] _ H2428 _
          have k2438 : H2428 2 (7 : Int).toNat = 8 := (w2432.2 2 _ w2432.1.2.1).2.2 7 (by decide) |> fun z => by have z1 : (8 : Int) ≤ H2428 2 7 ∧ H2428 2 7 ≤ 8 := z; exact Int.le_antisymm z1.2 z1.1
          refine wp_of e17 c17_82 (rw_iaload (pc' := 83) (n := 11) (w2432.sh w2432.1.2.1 rfl) (by decide) (by decide) (by decide) rfl rfl ?_)
          rw [k2438]
          refine wp_of e17 c17_83 (rw_tsw (p1 := 186) ⟨by omega, by omega⟩ (by decide) ?_)
          refine wp_of e17 c17_186 (rw_aload_n (pc' := 187) (v := .ref r0) rfl rfl rfl ?_)
          refine wp_of e17 c17_187 (rw_aload_n (pc' := 188) (v := .ref r1) rfl rfl rfl ?_)
          have k2440 : H2428 r0 0 = H r0 0 := (f2433 r0 0 _ g0 rfl)
          have q2441 : H2428 r0 0 = (tk : Int) := k2440.trans qtk
          have k2442 : H2428 tk 0 = H tk 0 := (f2433 tk 0 _ gtk rfl)
          have q2443 : H2428 tk 0 = (rb : Int) := k2442.trans qrb
          have k2444 : H2428 r0 3 = H r0 3 := (f2433 r0 3 _ g0 rfl)
          have h2445 : DC T H2428 r1 d := (DC_fr hW g1 f2433 rfl hDC_r1)
          have h2446 : CZ T H2428 r1 (d 0 3) := (CZ_fr hW g1 f2433 rfl hCZ_r1)
          refine wp_of e17 c17_188 (xc_V (pc' := 191) (r := r0) (as := [.ref r1]) (st := []) (lm_1_111) rfl rfl (Nat.le_of_ble_eq_true rfl) w2432 g0 sh_3 (by decide) rfl (by decide) (u_43 (B := B) (n := n) (q := ((xN B n q))) (d := d) w2432 g0 g1 q2441 gtk q2443 grb (by omega) p2434 h2445 h2446) (fun R2447 T2448 H2449 p2450 => ?_))
          obtain ⟨e2451, w2453, f2454, z2455, e2452, b2456, p2457⟩ := p2450
          subst e2451
          subst e2452
          rcases p2457 with ⟨a2458, a2459, a2460, a2461, a2462, a2463, a2464, a2465⟩ | ⟨a2466, a2467, a2468, a2469, a2470⟩
          · have f2471 := f2436.tr f2454 rfl
            show wp _ _ 17 191 [(2, .ref 23), (0, .ref r0), (1, .ref r1)] [vI z2455] _ H2449 _
            have u2472 := TC_k a2463
            have u2473 := DC_k a2464
            have o2474 : (xline B n q d) = (0, ((xN B n q)), (xN B n (xN B n (xN B n (xN B n ((xN B n q))))))) := by
              unfold xline xl0 xl1 xl2 xl3 xl4 xl5 xl6 xl7 xper
              repeat first | rw [xs_0 (by omega -splitDisjunctions)] | rw [xs_1 (by omega -splitDisjunctions)] | rw [if_pos (by omega -splitDisjunctions)] | rw [if_neg (by omega -splitDisjunctions)] | rw [xs_0 (by omega)] | rw [xs_1 (by omega)] | rw [if_pos (by omega)] | rw [if_neg (by omega)]
              first | done | rfl | assumption | (exfalso; omega -splitDisjunctions) | (refine Prod.ext ?_ (Prod.ext ?_ ?_) <;> (try dsimp only) <;> omega) | (exfalso; omega)
            have o2474a : ((xline B n q d)).1 = 0 := by rw [o2474]
            have o2474b : ((xline B n q d)).2.1 = ((xN B n q)) := by rw [o2474]
            have o2474c : ((xline B n q d)).2.2 = (xN B n (xN B n (xN B n (xN B n ((xN B n q)))))) := by rw [o2474]
            have o2475 : xdline B n q d = ((xdof B n ((xN B n q)) d)) := by
              unfold xdline
              repeat first | rw [xs_0 (by omega -splitDisjunctions)] | rw [xs_1 (by omega -splitDisjunctions)] | rw [if_pos (by omega -splitDisjunctions)] | rw [if_neg (by omega -splitDisjunctions)] | rw [xs_0 (by omega)] | rw [xs_1 (by omega)] | rw [if_pos (by omega)] | rw [if_neg (by omega)]
              first | done | rfl
            exact wp_zreturn e17 c17_191 rfl (by omega) ⟨rfl, w2453, f2471, z2455, rfl, ⟨b2456.1, b2456.2⟩, (Or.inl ⟨by omega, by omega, by omega, by omega, by rw [o2474]; exact a2463, by rw [o2475]; exact a2464, by rw [o2475]; exact a2465⟩)⟩
          · have f2476 := f2436.tr f2454 rfl
            show wp _ _ 17 191 [(2, .ref 23), (0, .ref r0), (1, .ref r1)] [vI z2455] _ H2449 _
            have o2477 : (xline B n q d) = ((xtl B n ((xN B n q)) d).1, (xtl B n ((xN B n q)) d).2.1, (xtl B n ((xN B n q)) d).2.2) := by
              unfold xline xl0 xl1 xl2 xl3 xl4 xl5 xl6 xl7 xper
              repeat first | rw [xs_0 (by omega -splitDisjunctions)] | rw [xs_1 (by omega -splitDisjunctions)] | rw [if_pos (by omega -splitDisjunctions)] | rw [if_neg (by omega -splitDisjunctions)] | rw [xs_0 (by omega)] | rw [xs_1 (by omega)] | rw [if_pos (by omega)] | rw [if_neg (by omega)]
              first | done | rfl | assumption | (exfalso; omega -splitDisjunctions) | (refine Prod.ext ?_ (Prod.ext ?_ ?_) <;> (try dsimp only) <;> omega) | (exfalso; omega)
            have o2477a : ((xline B n q d)).1 = (xtl B n ((xN B n q)) d).1 := by rw [o2477]
            have o2477b : ((xline B n q d)).2.1 = (xtl B n ((xN B n q)) d).2.1 := by rw [o2477]
            have o2477c : ((xline B n q d)).2.2 = (xtl B n ((xN B n q)) d).2.2 := by rw [o2477]
            exact wp_zreturn e17 c17_191 rfl (by omega) ⟨rfl, w2453, f2476, z2455, rfl, ⟨b2456.1, b2456.2⟩, (Or.inr ⟨by omega, by omega, by omega, by omega, by omega⟩)⟩
        · refine wp_of e17 c17_34 (rw_aload_n (pc' := 35) (v := .ref 23) rfl rfl rfl ?_)
          refine wp_of e17 c17_35 (rw_gs (pc' := 38) (k := 16) rfl rfl rfl rfl ?_)
          refine wp_of e17 c17_38 (rw_acmp_eq (p1 := 48) (p2 := 41) (a := some 23) (b := some 16) rfl rfl (by decide) rfl (fun q9 => absurd q9 (by decide)) (fun q9 => ?_))
          refine wp_of e17 c17_41 (rw_aload_n (pc' := 42) (v := .ref 23) rfl rfl rfl ?_)
          refine wp_of e17 c17_42 (rw_gs (pc' := 45) (k := 18) rfl rfl rfl rfl ?_)
          refine wp_of e17 c17_45 (rw_acmp_ne (p1 := 52) (p2 := 48) (a := some 23) (b := some 18) rfl rfl (by decide) rfl (fun q9 => ?_) (fun q9 => absurd q9 (by decide)))
          refine wp_of e17 c17_52 (rw_iconst (pc' := 53) rfl ?_)
          refine wp_of e17 c17_53 (rw_istore_n (pc' := 54) (z := 0) (L' := [(3, vI 0), (2, .ref 23), (0, .ref r0), (1, .ref r1)]) rfl rfl rfl ?_)
          refine wp_of e17 c17_54 (rw_aload_n (pc' := 55) (v := .ref r0) rfl rfl rfl ?_)
          refine wp_of e17 c17_55 (rw_iload_n (pc' := 56) (z := 0) rfl rfl ?_)
          refine wp_of e17 c17_56 (rw_if_eq (p1 := 63) (p2 := 59) (by decide) rfl ⟨by decide, by decide⟩ (fun c2478 => ?_) (fun c2478 => ?_))
          · refine wp_of e17 c17_63 (rw_iconst (pc' := 64) rfl ?_)
            refine wp_of e17 c17_64 (xc_V (pc' := 67) (r := r0) (as := [vI 5]) (st := []) (lm_1_47) rfl rfl (Nat.le_of_ble_eq_true rfl) hW g0 sh_3 (by decide) rfl (by decide) (u_20  hW g0 ⟨by decide, by decide⟩ qtk gtk) (fun R2479 T2480 H2481 p2482 => ?_))
            obtain ⟨e2483, w2485, f2486, z2487, e2484, b2488, p2489⟩ := p2482
            subst e2483
            subst e2484
            obtain ⟨a2490, a2491, a2492⟩ := p2489
            have f2493 := f0.tr f2486 rfl
            show wp _ _ 17 67 [(3, vI 0), (2, .ref 23), (0, .ref r0), (1, .ref r1)] [vI z2487] _ H2481 _
            have o2494 : (xline B n q d) = (5, q, q) := by
              unfold xline xl0 xl1 xl2 xl3 xl4 xl5 xl6 xl7 xper
              repeat first | rw [xs_0 (by omega -splitDisjunctions)] | rw [xs_1 (by omega -splitDisjunctions)] | rw [if_pos (by omega -splitDisjunctions)] | rw [if_neg (by omega -splitDisjunctions)] | rw [xs_0 (by omega)] | rw [xs_1 (by omega)] | rw [if_pos (by omega)] | rw [if_neg (by omega)]
              first | done | rfl | assumption | (exfalso; omega -splitDisjunctions) | (refine Prod.ext ?_ (Prod.ext ?_ ?_) <;> (try dsimp only) <;> omega) | (exfalso; omega)
            have o2494a : ((xline B n q d)).1 = 5 := by rw [o2494]
            have o2494b : ((xline B n q d)).2.1 = q := by rw [o2494]
            have o2494c : ((xline B n q d)).2.2 = q := by rw [o2494]
            exact wp_zreturn e17 c17_67 rfl (by omega) ⟨rfl, w2485, f2493, z2487, rfl, ⟨b2488.1, b2488.2⟩, (Or.inr ⟨by omega, by omega, by omega, by omega, by omega⟩)⟩
          · exfalso
            omega
      · exfalso
        omega
    · subst c1758
      show wp _ _ 17 4 [(0, .ref r0), (1, .ref r1)] [.ref 24] _ H _
      refine wp_of e17 c17_4 (rw_astore_n (pc' := 5) (v := .ref 24) (L' := [(2, .ref 24), (0, .ref r0), (1, .ref r1)]) rfl rfl rfl rfl ?_)
      refine wp_of e17 c17_5 (rw_aload_n (pc' := 6) (v := .ref 24) rfl rfl rfl ?_)
      refine wp_of e17 c17_6 (rw_ifnull_r (p1 := 16) (p2 := 9) (by decide) rfl ?_)
      refine wp_of e17 c17_9 (rw_aload_n (pc' := 10) (v := .ref 24) rfl rfl rfl ?_)
      have k2495 : H 24 1 = 0 := (hW.2 24 _ (hW.1.2.2 8 (by decide))).2.2 1 (by decide) |> fun z => by have z1 : (0 : Int) ≤ H 24 1 ∧ H 24 1 ≤ 0 := z; omega
      refine wp_of e17 c17_10 (rw_getI (pc' := 13) (n := 2) (e := _) (lf_1_58).choose_spec.1 (lf_1_58).choose_spec.2.1 (hW.sh (hW.1.2.2 8 (by decide)) rfl) (by decide) rfl rfl ?_)
      rw [k2495]
      refine wp_of e17 c17_13 (rw_if_ne (p1 := 22) (p2 := 16) (by decide) rfl ⟨by decide, by decide⟩ (fun c2496 => ?_) (fun c2496 => ?_))
      · exfalso
        omega
      · refine wp_of e17 c17_16 (rw_aload_n (pc' := 17) (v := .ref r0) rfl rfl rfl ?_)
        refine wp_of e17 c17_17 (rw_iconst (pc' := 18) rfl ?_)
        refine wp_of e17 c17_18 (xc_V (pc' := 21) (r := r0) (as := [vI 1]) (st := []) (lm_1_47) rfl rfl (Nat.le_of_ble_eq_true rfl) hW g0 sh_3 (by decide) rfl (by decide) (u_20  hW g0 ⟨by decide, by decide⟩ qtk gtk) (fun R2497 T2498 H2499 p2500 => ?_))
        obtain ⟨e2501, w2503, f2504, z2505, e2502, b2506, p2507⟩ := p2500
        subst e2501
        subst e2502
        obtain ⟨a2508, a2509, a2510⟩ := p2507
        have f2511 := f0.tr f2504 rfl
        show wp _ _ 17 21 [(2, .ref 24), (0, .ref r0), (1, .ref r1)] [vI z2505] _ H2499 _
        have o2512 : (xline B n q d) = (1, q, q) := by
          unfold xline xl0 xl1 xl2 xl3 xl4 xl5 xl6 xl7 xper
          repeat first | rw [xs_0 (by omega -splitDisjunctions)] | rw [xs_1 (by omega -splitDisjunctions)] | rw [if_pos (by omega -splitDisjunctions)] | rw [if_neg (by omega -splitDisjunctions)] | rw [xs_0 (by omega)] | rw [xs_1 (by omega)] | rw [if_pos (by omega)] | rw [if_neg (by omega)]
          first | done | rfl | assumption | (exfalso; omega -splitDisjunctions) | (refine Prod.ext ?_ (Prod.ext ?_ ?_) <;> (try dsimp only) <;> omega) | (exfalso; omega)
        have o2512a : ((xline B n q d)).1 = 1 := by rw [o2512]
        have o2512b : ((xline B n q d)).2.1 = q := by rw [o2512]
        have o2512c : ((xline B n q d)).2.2 = q := by rw [o2512]
        exact wp_zreturn e17 c17_21 rfl (by omega) ⟨rfl, w2503, f2511, z2505, rfl, ⟨b2506.1, b2506.2⟩, (Or.inr ⟨by omega, by omega, by omega, by omega, by omega⟩)⟩
    · subst c1758
      show wp _ _ 17 4 [(0, .ref r0), (1, .ref r1)] [.ref 25] _ H _
      refine wp_of e17 c17_4 (rw_astore_n (pc' := 5) (v := .ref 25) (L' := [(2, .ref 25), (0, .ref r0), (1, .ref r1)]) rfl rfl rfl rfl ?_)
      refine wp_of e17 c17_5 (rw_aload_n (pc' := 6) (v := .ref 25) rfl rfl rfl ?_)
      refine wp_of e17 c17_6 (rw_ifnull_r (p1 := 16) (p2 := 9) (by decide) rfl ?_)
      refine wp_of e17 c17_9 (rw_aload_n (pc' := 10) (v := .ref 25) rfl rfl rfl ?_)
      have k2513 : H 25 1 = 0 := (hW.2 25 _ (hW.1.2.2 9 (by decide))).2.2 1 (by decide) |> fun z => by have z1 : (0 : Int) ≤ H 25 1 ∧ H 25 1 ≤ 0 := z; omega
      refine wp_of e17 c17_10 (rw_getI (pc' := 13) (n := 2) (e := _) (lf_1_58).choose_spec.1 (lf_1_58).choose_spec.2.1 (hW.sh (hW.1.2.2 9 (by decide)) rfl) (by decide) rfl rfl ?_)
      rw [k2513]
      refine wp_of e17 c17_13 (rw_if_ne (p1 := 22) (p2 := 16) (by decide) rfl ⟨by decide, by decide⟩ (fun c2514 => ?_) (fun c2514 => ?_))
      · exfalso
        omega
      · refine wp_of e17 c17_16 (rw_aload_n (pc' := 17) (v := .ref r0) rfl rfl rfl ?_)
        refine wp_of e17 c17_17 (rw_iconst (pc' := 18) rfl ?_)
        refine wp_of e17 c17_18 (xc_V (pc' := 21) (r := r0) (as := [vI 1]) (st := []) (lm_1_47) rfl rfl (Nat.le_of_ble_eq_true rfl) hW g0 sh_3 (by decide) rfl (by decide) (u_20  hW g0 ⟨by decide, by decide⟩ qtk gtk) (fun R2515 T2516 H2517 p2518 => ?_))
        obtain ⟨e2519, w2521, f2522, z2523, e2520, b2524, p2525⟩ := p2518
        subst e2519
        subst e2520
        obtain ⟨a2526, a2527, a2528⟩ := p2525
        have f2529 := f0.tr f2522 rfl
        show wp _ _ 17 21 [(2, .ref 25), (0, .ref r0), (1, .ref r1)] [vI z2523] _ H2517 _
        have o2530 : (xline B n q d) = (1, q, q) := by
          unfold xline xl0 xl1 xl2 xl3 xl4 xl5 xl6 xl7 xper
          repeat first | rw [xs_0 (by omega -splitDisjunctions)] | rw [xs_1 (by omega -splitDisjunctions)] | rw [if_pos (by omega -splitDisjunctions)] | rw [if_neg (by omega -splitDisjunctions)] | rw [xs_0 (by omega)] | rw [xs_1 (by omega)] | rw [if_pos (by omega)] | rw [if_neg (by omega)]
          first | done | rfl | assumption | (exfalso; omega -splitDisjunctions) | (refine Prod.ext ?_ (Prod.ext ?_ ?_) <;> (try dsimp only) <;> omega) | (exfalso; omega)
        have o2530a : ((xline B n q d)).1 = 1 := by rw [o2530]
        have o2530b : ((xline B n q d)).2.1 = q := by rw [o2530]
        have o2530c : ((xline B n q d)).2.2 = q := by rw [o2530]
        exact wp_zreturn e17 c17_21 rfl (by omega) ⟨rfl, w2521, f2529, z2523, rfl, ⟨b2524.1, b2524.2⟩, (Or.inr ⟨by omega, by omega, by omega, by omega, by omega⟩)⟩
    · subst c1758
      show wp _ _ 17 4 [(0, .ref r0), (1, .ref r1)] [.ref 26] _ H _
      refine wp_of e17 c17_4 (rw_astore_n (pc' := 5) (v := .ref 26) (L' := [(2, .ref 26), (0, .ref r0), (1, .ref r1)]) rfl rfl rfl rfl ?_)
      refine wp_of e17 c17_5 (rw_aload_n (pc' := 6) (v := .ref 26) rfl rfl rfl ?_)
      refine wp_of e17 c17_6 (rw_ifnull_r (p1 := 16) (p2 := 9) (by decide) rfl ?_)
      refine wp_of e17 c17_9 (rw_aload_n (pc' := 10) (v := .ref 26) rfl rfl rfl ?_)
      have k2531 : H 26 1 = 0 := (hW.2 26 _ (hW.1.2.2 10 (by decide))).2.2 1 (by decide) |> fun z => by have z1 : (0 : Int) ≤ H 26 1 ∧ H 26 1 ≤ 0 := z; omega
      refine wp_of e17 c17_10 (rw_getI (pc' := 13) (n := 2) (e := _) (lf_1_58).choose_spec.1 (lf_1_58).choose_spec.2.1 (hW.sh (hW.1.2.2 10 (by decide)) rfl) (by decide) rfl rfl ?_)
      rw [k2531]
      refine wp_of e17 c17_13 (rw_if_ne (p1 := 22) (p2 := 16) (by decide) rfl ⟨by decide, by decide⟩ (fun c2532 => ?_) (fun c2532 => ?_))
      · exfalso
        omega
      · refine wp_of e17 c17_16 (rw_aload_n (pc' := 17) (v := .ref r0) rfl rfl rfl ?_)
        refine wp_of e17 c17_17 (rw_iconst (pc' := 18) rfl ?_)
        refine wp_of e17 c17_18 (xc_V (pc' := 21) (r := r0) (as := [vI 1]) (st := []) (lm_1_47) rfl rfl (Nat.le_of_ble_eq_true rfl) hW g0 sh_3 (by decide) rfl (by decide) (u_20  hW g0 ⟨by decide, by decide⟩ qtk gtk) (fun R2533 T2534 H2535 p2536 => ?_))
        obtain ⟨e2537, w2539, f2540, z2541, e2538, b2542, p2543⟩ := p2536
        subst e2537
        subst e2538
        obtain ⟨a2544, a2545, a2546⟩ := p2543
        have f2547 := f0.tr f2540 rfl
        show wp _ _ 17 21 [(2, .ref 26), (0, .ref r0), (1, .ref r1)] [vI z2541] _ H2535 _
        have o2548 : (xline B n q d) = (1, q, q) := by
          unfold xline xl0 xl1 xl2 xl3 xl4 xl5 xl6 xl7 xper
          repeat first | rw [xs_0 (by omega -splitDisjunctions)] | rw [xs_1 (by omega -splitDisjunctions)] | rw [if_pos (by omega -splitDisjunctions)] | rw [if_neg (by omega -splitDisjunctions)] | rw [xs_0 (by omega)] | rw [xs_1 (by omega)] | rw [if_pos (by omega)] | rw [if_neg (by omega)]
          first | done | rfl | assumption | (exfalso; omega -splitDisjunctions) | (refine Prod.ext ?_ (Prod.ext ?_ ?_) <;> (try dsimp only) <;> omega) | (exfalso; omega)
        have o2548a : ((xline B n q d)).1 = 1 := by rw [o2548]
        have o2548b : ((xline B n q d)).2.1 = q := by rw [o2548]
        have o2548c : ((xline B n q d)).2.2 = q := by rw [o2548]
        exact wp_zreturn e17 c17_21 rfl (by omega) ⟨rfl, w2539, f2547, z2541, rfl, ⟨b2542.1, b2542.2⟩, (Or.inr ⟨by omega, by omega, by omega, by omega, by omega⟩)⟩
/-! StrikeAwake$Reader.reads([BILStrikeAwake$Parish;)Z  -/
abbrev uq_13 (r0 : Nat) (r1 : Nat) (a2 : Int) (r3 : Nat) (tk : Nat) (B : Nat → Int) (T : wq_T) (H : wq_H) : Option Value → wq_T → wq_H → Prop := fun r T' H' => T = T' ∧ WT T H' ∧ wfr [(27, 7), (27, 8), (27, 9), (27, 10), (27, 11), (27, 12), (27, 13), (27, 14), (27, 15), (27, 16), (27, 17), (27, 18), (35, 6), (35, 7), (35, 8), (35, 9), (35, 10), (35, 11), (35, 12), (35, 13), (35, 14), (35, 15), (35, 16), (35, 17), (3, 1), (3, 2), (3, 3), (3, 4), (4, 0), (4, 1), (4, 2), (4, 3), (4, 4), (4, 5), (4, 6), (31, 999), (34, 999), (29, 999), (30, 999), (33, 999), (32, 999)] T H H' ∧ ∃ z : Int, some (vI z) = r ∧ (0 ≤ z ∧ z ≤ 1) ∧ (((z = 1) ∧ (((xparse B a2).1).1 = 0) ∧ (H' r0 3 = 0) ∧ DC T H' r3 ((xparse B a2).2) ∧ CZ T H' r3 ((xparse B a2).2 0 3)) ∨ ((z = 0) ∧ (((xparse B a2).1).1 ≠ 0) ∧ (H' r0 3 = ((xparse B a2).1).1) ∧ (H' r0 4 = ((xparse B a2).1).2.1)))
set_option maxHeartbeats 4000000 in
theorem u_13 {kt : Nat → Option mc_E} {T : wq_T} {H : wq_H} {r0 : Nat} {r1 : Nat} {a2 : Int} {r3 : Nat} {tk : Nat} {B : Nat → Int} (hW : WT T H) (g0 : T.2.2.2 r0 = some 3) (g1 : T.2.2.2 r1 = some 2) (i2 : 0 ≤ a2 ∧ a2 ≤ 900) (g3 : T.2.2.2 r3 = some 27) (qtk : H r0 0 = (tk : Int)) (gtk : T.2.2.2 tk = some 4) (hTP_r1 : TP T H r1 B) (hDD_r3 : DD T H r3 ) : wpc kt 7 13 [.ref r0, .ref r1, vI a2, .ref r3] T H (uq_13 r0 r1 a2 r3 tk B T H) := by
  refine wp_enter e13 (Nat.le_of_ble_eq_true rfl) rfl ?_
  have f0 : wfr [(27, 7), (27, 8), (27, 9), (27, 10), (27, 11), (27, 12), (27, 13), (27, 14), (27, 15), (27, 16), (27, 17), (27, 18), (35, 6), (35, 7), (35, 8), (35, 9), (35, 10), (35, 11), (35, 12), (35, 13), (35, 14), (35, 15), (35, 16), (35, 17), (3, 1), (3, 2), (3, 3), (3, 4), (4, 0), (4, 1), (4, 2), (4, 3), (4, 4), (4, 5), (4, 6), (31, 999), (34, 999), (29, 999), (30, 999), (33, 999), (32, 999)] T H H := wfr.rf
  show wp _ _ 13 0 [(0, .ref r0), (1, .ref r1), (2, vI a2), (3, .ref r3)] [] _ H _
  refine wp_of e13 c13_0 (rw_aload_n (pc' := 1) (v := .ref r0) rfl rfl rfl ?_)
  refine wp_of e13 c13_1 (rw_iconst (pc' := 2) rfl ?_)
  refine wp_of e13 c13_2 (xp_I (pc' := 5) lf_1_18 hW g0 sh_3 (by decide) (by decide) ty_3_3 rfl rfl (by decide) (by decide) ⟨by decide, by decide⟩ rfl (fun H1670 e1671 w1672 => ?_))
  have f1673 := f0.put' e1671 g0 rfl
  have k1674 : H1670 r0 3 = 0 := wq_u_s e1671
  refine wp_of e13 c13_5 (rw_aload_n (pc' := 6) (v := .ref r0) rfl rfl rfl ?_)
  refine wp_of e13 c13_6 (rw_iconst (pc' := 7) rfl ?_)
  refine wp_of e13 c13_7 (xp_I (pc' := 10) lf_1_22 w1672 g0 sh_3 (by decide) (by decide) ty_3_4 rfl rfl (by decide) (by decide) ⟨by decide, by decide⟩ rfl (fun H1675 e1676 w1677 => ?_))
  have f1678 := f1673.put' e1676 g0 rfl
  have k1679 : H1675 r0 4 = -1 := wq_u_s e1676
  refine wp_of e13 c13_10 (rw_aload_n (pc' := 11) (v := .ref r3) rfl rfl rfl ?_)
  refine wp_of e13 c13_11 (xc_V (pc' := 14) (r := r3) (as := []) (st := []) (lm_1_25) rfl rfl (Nat.le_of_ble_eq_true rfl) w1677 g3 sh_27 (by decide) rfl (by decide) (u_14  w1677 g3) (fun R1680 T1681 H1682 p1683 => ?_))
  obtain ⟨e1684, w1686, f1687, e1685, p1688⟩ := p1683
  subst e1684
  subst e1685
  obtain ⟨a1689, a1690⟩ := p1688
  have f1691 := f1678.tr f1687 rfl
  show wp _ _ 13 14 [(0, .ref r0), (1, .ref r1), (2, vI a2), (3, .ref r3)] [] _ H1682 _
  have u1692 := DC_k a1689
  refine wp_of e13 c13_14 (rw_aload_n (pc' := 15) (v := .ref r0) rfl rfl rfl ?_)
  have k1693 : H1682 r0 0 = H r0 0 := ((f1687 r0 0 _ g0 rfl).trans ((wq_u_j e1676 rfl).trans (wq_u_j e1671 rfl)))
  have q1694 : H1682 r0 0 = (tk : Int) := k1693.trans qtk
  refine wp_of e13 c13_15 (xg_K (pc' := 18) lf_1_12 w1686 g0 sh_3 (by decide) (by decide) rfl q1694 rfl ?_)
  refine wp_of e13 c13_18 (rw_aload_n (pc' := 19) (v := .ref r1) rfl rfl rfl ?_)
  refine wp_of e13 c13_19 (rw_iload_n (pc' := 20) (z := a2) rfl rfl ?_)
  have h1695 : TP T H1682 r1 B := (TP_fr w1677 g1 f1687 rfl (TP_fr w1672 g1 ((wfr.rf (l := [(3, 4)])).put' e1676 g0 rfl) rfl (TP_fr hW g1 ((wfr.rf (l := [(3, 3)])).put' e1671 g0 rfl) rfl hTP_r1)))
  refine wp_of e13 c13_20 (xc_V (pc' := 23) (r := tk) (as := [.ref r1, vI a2]) (st := []) (lm_1_30) rfl rfl (Nat.le_of_ble_eq_true rfl) w1686 gtk sh_4 (by decide) rfl (by decide) (u_15 (B := B) w1686 gtk g1 ⟨i2.1, i2.2⟩ h1695) (fun R1696 T1697 H1698 p1699 => ?_))
  obtain ⟨e1700, w1702, f1703, e1701, p1704⟩ := p1699
  subst e1700
  subst e1701
  obtain ⟨a1705, a1706⟩ := p1704
  have f1707 := f1691.tr f1703 rfl
  show wp _ _ 13 23 [(0, .ref r0), (1, .ref r1), (2, vI a2), (3, .ref r3)] [] _ H1698 _
  have u1708 := TC_k a1706
  refine wp_of e13 c13_23 (rw_iconst (pc' := 24) rfl ?_)
  refine wp_of e13 c13_24 (rw_istore (pc' := 26) (z := 0) (L' := [(4, vI 0), (0, .ref r0), (1, .ref r1), (2, vI a2), (3, .ref r3)]) rfl rfl rfl ?_)
  have k2229 : H1698 r0 3 = H1670 r0 3 := ((f1703 r0 3 _ g0 rfl).trans ((f1687 r0 3 _ g0 rfl).trans (wq_u_j e1676 rfl)))
  have lp2222 : ∀ (n2223 : Nat) (v2225 : Int) (H2226 : wq_H) (q2227 : Int) (d2228 : xD), WT T H2226 → wfr [(27, 7), (27, 8), (27, 9), (27, 10), (27, 11), (27, 12), (27, 13), (27, 14), (27, 15), (27, 16), (35, 6), (35, 7), (35, 8), (35, 9), (35, 10), (35, 11), (35, 12), (35, 13), (35, 14), (35, 15), (35, 16), (35, 17), (3, 1), (3, 2), (3, 3), (3, 4), (4, 2), (4, 3), (4, 4), (4, 5), (4, 6), (31, 999), (34, 999), (29, 999), (30, 999), (33, 999), (32, 999)] T H1698 H2226 → (0 ≤ v2225 ∧ v2225 ≤ 901) → (H2226 r0 3 = 0) → TC T H2226 tk B a2 q2227 → DC T H2226 r3 d2228 → CZ T H2226 r3 (d2228 0 3) → (v2225 ≤ q2227) → (xpf B a2 (902 - v2225).toNat q2227 d2228 = xparse B a2) → (901 - v2225).toNat = n2223 → wp kt 6 13 26 [(4, vI v2225), (0, .ref r0), (3, .ref r3)] [] T H2226 (uq_13 r0 r1 a2 r3 tk B T H) := by
    intro n2223
    induction n2223 using Nat.strongRecOn with
    | _ n2223 ih2224 =>
      intro v2225 H2226 q2227 d2228 w2230 f2231 b2232 x2233 h2235 h2236 h2237 x2238 x2239 m2234
      have f2240 := f1707.tr f2231 rfl
      have u2241 := TC_k h2235
      have u2242 := DC_k h2236
      refine wp_of e13 c13_26 (rw_iload (pc' := 28) (z := v2225) rfl rfl ?_)
      refine wp_of e13 c13_28 (rw_sipush (pc' := 31) (z := 900) rfl (by decide) ?_)
      refine wp_of e13 c13_31 (rw_icmp_gt (p1 := 99) (p2 := 34) (by decide) rfl ⟨Int.le_trans (by decide) b2232.1, Int.le_trans b2232.2 (by decide)⟩ ⟨by decide, by decide⟩ (fun c2243 => ?_) (fun c2243 => ?_))
      · exfalso
        omega
      · refine wp_of e13 c13_34 (rw_aload_n (pc' := 35) (v := .ref r0) rfl rfl rfl ?_)
        refine wp_of e13 c13_35 (rw_aload_n (pc' := 36) (v := .ref r3) rfl rfl rfl ?_)
        have k2244 : H2226 r0 0 = H1682 r0 0 := ((f2231 r0 0 _ g0 rfl).trans (f1703 r0 0 _ g0 rfl))
        have q2245 : H2226 r0 0 = (tk : Int) := k2244.trans q1694
        have k2246 : H2226 tk 0 = H1698 tk 0 := (f2231 tk 0 _ gtk rfl)
        have q2247 : H2226 tk 0 = (r1 : Int) := k2246.trans a1705
        have h2248 : DD T H2226 r3  := (DD_fr w1702 g3 f2231 rfl (DD_fr w1686 g3 f1703 rfl (DD_fr w1677 g3 f1687 rfl (DD_fr w1672 g3 ((wfr.rf (l := [(3, 4)])).put' e1676 g0 rfl) rfl (DD_fr hW g3 ((wfr.rf (l := [(3, 3)])).put' e1671 g0 rfl) rfl hDD_r3)))))
        refine wp_of e13 c13_36 (xc_V (pc' := 39) (r := r0) (as := [.ref r3]) (st := []) (lm_1_34) rfl rfl (Nat.le_of_ble_eq_true rfl) w2230 g0 sh_3 (by decide) rfl (by decide) (u_17 (B := B) (n := a2) (q := q2227) (d := d2228) w2230 g0 g3 q2245 gtk q2247 g1 h2235 h2236 h2248 h2237) (fun R2249 T2250 H2251 p2252 => ?_))
        obtain ⟨e2253, w2255, f2256, z2257, e2254, b2258, p2259⟩ := p2252
        subst e2253
        subst e2254
        rcases p2259 with ⟨a2260, a2261, a2262, a2263, a2264, a2265, a2266⟩ | ⟨a2267, a2268, a2269, a2270, a2271⟩
        · have f2272 := f2240.tr f2256 rfl
          have f2273 := f2231.tr f2256 rfl
          show wp _ _ 13 39 [(4, vI v2225), (0, .ref r0), (3, .ref r3)] [vI z2257] _ H2251 _
          have u2274 := TC_k a2264
          have u2275 := DC_k a2265
          refine wp_of e13 c13_39 (rw_if_ne (p1 := 44) (p2 := 42) (by decide) rfl ⟨Int.le_trans (by decide) b2258.1, Int.le_trans b2258.2 (by decide)⟩ (fun c2276 => ?_) (fun c2276 => ?_))
          · refine wp_of e13 c13_44 (rw_aload_n (pc' := 45) (v := .ref r0) rfl rfl rfl ?_)
            have k2277 : H2251 r0 0 = H2226 r0 0 := (f2256 r0 0 _ g0 rfl)
            have q2278 : H2251 r0 0 = (tk : Int) := k2277.trans q2245
            refine wp_of e13 c13_45 (xg_K (pc' := 48) lf_1_12 w2255 g0 sh_3 (by decide) (by decide) rfl q2278 rfl ?_)
            refine wp_of e13 c13_48 (xg_I (pc' := 51) lf_1_38 w2255 gtk sh_4 (by decide) (by decide) ty_4_3 rfl rfl (fun b2279 b2280 => ?_))
            refine wp_of e13 c13_51 (rw_if_ne (p1 := 83) (p2 := 54) (by decide) rfl ⟨Int.le_trans (by decide) b2279, Int.le_trans b2280 (by decide)⟩ (fun c2281 => ?_) (fun c2281 => ?_))
            · have _e := TC_e a2264
              refine wp_of e13 c13_83 (rw_aload_n (pc' := 84) (v := .ref r0) rfl rfl rfl ?_)
              refine wp_of e13 c13_84 (rw_iconst (pc' := 85) rfl ?_)
              have k2282 : H2251 tk 0 = H2226 tk 0 := (f2256 tk 0 _ gtk rfl)
              have q2283 : H2251 tk 0 = (r1 : Int) := k2282.trans q2247
              refine wp_of e13 c13_85 (xc_V (pc' := 88) (r := r0) (as := [vI 3]) (st := []) (lm_1_51) rfl rfl (Nat.le_of_ble_eq_true rfl) w2255 g0 sh_3 (by decide) rfl (by decide) (u_35 (B := B) (n := a2) (q := ((xline B a2 q2227 d2228).2.2)) w2255 g0 ⟨by decide, by decide⟩ q2278 gtk q2283 g1 a2264) (fun R2284 T2285 H2286 p2287 => ?_))
              obtain ⟨e2288, w2290, f2291, z2292, e2289, b2293, p2294⟩ := p2287
              subst e2288
              subst e2289
              rcases p2294 with ⟨a2295, a2296, a2297, a2298, a2299⟩ | ⟨a2300, a2301, a2302, a2303, a2304⟩
              · have f2305 := f2272.tr f2291 rfl
                have f2306 := f2273.tr f2291 rfl
                show wp _ _ 13 88 [(4, vI v2225), (0, .ref r0), (3, .ref r3)] [vI z2292] _ H2286 _
                have u2307 := TC_k a2299
                refine wp_of e13 c13_88 (rw_if_ne (p1 := 93) (p2 := 91) (by decide) rfl ⟨Int.le_trans (by decide) b2293.1, Int.le_trans b2293.2 (by decide)⟩ (fun c2308 => ?_) (fun c2308 => ?_))
                · refine wp_of e13 c13_93 (rw_iinc (pc' := 96) (z := v2225) (L' := [(4, vI (v2225 + 1)), (0, .ref r0), (3, .ref r3)]) rfl rfl rfl rfl ?_)
                  refine wp_of e13 c13_96 (rw_goto (p1 := 26) (by decide) ?_)
                  have h2309 : DC T H2286 r3 (xdline B a2 q2227 d2228) := (DC_fr w2255 g3 f2291 rfl a2265)
                  have h2310 : CZ T H2286 r3 ((xdline B a2 q2227 d2228) 0 3) := (CZ_fr w2255 g3 f2291 rfl a2266)
                  exact wp_lc (ks := [4, 0, 3]) (wl_c rfl (wl_c rfl (wl_c rfl wl_n))) rfl (by decide) (ih2224 _ (by omega) (v2225 + 1) H2286 ((xN B a2 ((xline B a2 q2227 d2228).2.2))) (xdline B a2 q2227 d2228) w2290 f2306 ⟨by omega, by omega⟩ (by omega) a2299 h2309 h2310 (by omega) (by rw [← (‹xpf B a2 (902 - v2225).toNat q2227 d2228 = xparse B a2›), xpf_e (v := v2225) (q := q2227) (d := d2228) (by omega), if_pos (by omega), if_neg (by omega), if_pos (by omega)]) rfl)
                · exfalso
                  omega
              · have f2311 := f2272.tr f2291 rfl
                have f2312 := f2273.tr f2291 rfl
                show wp _ _ 13 88 [(4, vI v2225), (0, .ref r0), (3, .ref r3)] [vI z2292] _ H2286 _
                refine wp_of e13 c13_88 (rw_if_ne (p1 := 93) (p2 := 91) (by decide) rfl ⟨Int.le_trans (by decide) b2293.1, Int.le_trans b2293.2 (by decide)⟩ (fun c2313 => ?_) (fun c2313 => ?_))
                · exfalso
                  omega
                · refine wp_of e13 c13_91 (rw_iconst (pc' := 92) rfl ?_)
                  have o2314 : ((xparse B a2).1) = (1, ((xline B a2 q2227 d2228).2.2), q2227) := by
                    rw [← (‹xpf B a2 (902 - v2225).toNat q2227 d2228 = xparse B a2›), xpf_e (by omega)]
                    repeat first | rw [xs_0 (by omega -splitDisjunctions)] | rw [xs_1 (by omega -splitDisjunctions)] | rw [if_pos (by omega -splitDisjunctions)] | rw [if_neg (by omega -splitDisjunctions)] | rw [xs_0 (by omega)] | rw [xs_1 (by omega)] | rw [if_pos (by omega)] | rw [if_neg (by omega)]
                    first | done | rfl | assumption | (exfalso; omega -splitDisjunctions) | (refine Prod.ext ?_ (Prod.ext ?_ ?_) <;> (try dsimp only) <;> omega) | (exfalso; omega)
                  have o2314a : (((xparse B a2).1)).1 = 1 := by rw [o2314]
                  have o2314b : (((xparse B a2).1)).2.1 = ((xline B a2 q2227 d2228).2.2) := by rw [o2314]
                  have o2314c : (((xparse B a2).1)).2.2 = q2227 := by rw [o2314]
                  exact wp_zreturn e13 c13_92 rfl (by omega) ⟨rfl, w2290, f2311, 0, rfl, ⟨by decide, by decide⟩, (Or.inr ⟨by omega, by omega, by omega, by omega⟩)⟩
            · refine wp_of e13 c13_54 (rw_aload_n (pc' := 55) (v := .ref r3) rfl rfl rfl ?_)
              refine wp_of e13 c13_55 (xg_I (pc' := 58) lf_1_41 w2255 g3 sh_27 (by decide) (by decide) ty_27_7 rfl rfl (fun b2315 b2316 => ?_))
              refine wp_of e13 c13_58 (rw_if_le (p1 := 68) (p2 := 61) (by decide) rfl ⟨Int.le_trans (by decide) b2315, Int.le_trans b2316 (by decide)⟩ (fun c2317 => ?_) (fun c2317 => ?_))
              · refine wp_of e13 c13_68 (rw_aload_n (pc' := 69) (v := .ref r0) rfl rfl rfl ?_)
                refine wp_of e13 c13_69 (rw_bipush (pc' := 71) (z := 6) rfl (by decide) ?_)
                refine wp_of e13 c13_71 (xc_V (pc' := 74) (r := r0) (as := [vI 6]) (st := []) (lm_1_47) rfl rfl (Nat.le_of_ble_eq_true rfl) w2255 g0 sh_3 (by decide) rfl (by decide) (u_20  w2255 g0 ⟨by decide, by decide⟩ q2278 gtk) (fun R2318 T2319 H2320 p2321 => ?_))
                obtain ⟨e2322, w2324, f2325, z2326, e2323, b2327, p2328⟩ := p2321
                subst e2322
                subst e2323
                obtain ⟨a2329, a2330, a2331⟩ := p2328
                have f2332 := f2272.tr f2325 rfl
                show wp _ _ 13 74 [(4, vI v2225), (0, .ref r0), (3, .ref r3)] [vI z2326] _ H2320 _
                refine wp_of e13 c13_74 (rw_if_eq (p1 := 81) (p2 := 77) (by decide) rfl ⟨Int.le_trans (by decide) b2327.1, Int.le_trans b2327.2 (by decide)⟩ (fun c2333 => ?_) (fun c2333 => ?_))
                · refine wp_of e13 c13_81 (rw_iconst (pc' := 82) rfl ?_)
                  have o2334 : ((xparse B a2).1) = (6, ((xline B a2 q2227 d2228).2.2), q2227) := by
                    rw [← (‹xpf B a2 (902 - v2225).toNat q2227 d2228 = xparse B a2›), xpf_e (by omega)]
                    repeat first | rw [xs_0 (by omega -splitDisjunctions)] | rw [xs_1 (by omega -splitDisjunctions)] | rw [if_pos (by omega -splitDisjunctions)] | rw [if_neg (by omega -splitDisjunctions)] | rw [xs_0 (by omega)] | rw [xs_1 (by omega)] | rw [if_pos (by omega)] | rw [if_neg (by omega)]
                    first | done | rfl | assumption | (exfalso; omega -splitDisjunctions) | (refine Prod.ext ?_ (Prod.ext ?_ ?_) <;> (try dsimp only) <;> omega) | (exfalso; omega)
                  have o2334a : (((xparse B a2).1)).1 = 6 := by rw [o2334]
                  have o2334b : (((xparse B a2).1)).2.1 = ((xline B a2 q2227 d2228).2.2) := by rw [o2334]
                  have o2334c : (((xparse B a2).1)).2.2 = q2227 := by rw [o2334]
                  exact wp_zreturn e13 c13_82 rfl (by omega) ⟨rfl, w2324, f2332, 0, rfl, ⟨by decide, by decide⟩, (Or.inr ⟨by omega, by omega, by omega, by omega⟩)⟩
                · exfalso
                  omega
              · refine wp_of e13 c13_61 (rw_aload_n (pc' := 62) (v := .ref r3) rfl rfl rfl ?_)
                refine wp_of e13 c13_62 (xg_I (pc' := 65) lf_1_44 w2255 g3 sh_27 (by decide) (by decide) ty_27_10 rfl rfl (fun b2335 b2336 => ?_))
                refine wp_of e13 c13_65 (rw_if_gt (p1 := 77) (p2 := 68) (by decide) rfl ⟨Int.le_trans (by decide) b2335, Int.le_trans b2336 (by decide)⟩ (fun c2337 => ?_) (fun c2337 => ?_))
                · refine wp_of e13 c13_77 (rw_iconst (pc' := 78) rfl ?_)
                  refine wp_of e13 c13_78 (rw_goto (p1 := 82) (by decide) ?_)
                  have o2338 : ((xparse B a2).1) = (0, q2227, q2227) := by
                    rw [← (‹xpf B a2 (902 - v2225).toNat q2227 d2228 = xparse B a2›), xpf_e (by omega)]
                    repeat first | rw [xs_0 (by omega -splitDisjunctions)] | rw [xs_1 (by omega -splitDisjunctions)] | rw [if_pos (by omega -splitDisjunctions)] | rw [if_neg (by omega -splitDisjunctions)] | rw [xs_0 (by omega)] | rw [xs_1 (by omega)] | rw [if_pos (by omega)] | rw [if_neg (by omega)]
                    first | done | rfl | assumption | (exfalso; omega -splitDisjunctions) | (refine Prod.ext ?_ (Prod.ext ?_ ?_) <;> (try dsimp only) <;> omega) | (exfalso; omega)
                  have o2338a : (((xparse B a2).1)).1 = 0 := by rw [o2338]
                  have o2338b : (((xparse B a2).1)).2.1 = q2227 := by rw [o2338]
                  have o2338c : (((xparse B a2).1)).2.2 = q2227 := by rw [o2338]
                  exact wp_zreturn e13 c13_82 rfl (by omega) ⟨rfl, w2255, f2272, 1, rfl, ⟨by decide, by decide⟩, (Or.inl ⟨by omega, by omega, by omega, by rw [← (‹xpf B a2 (902 - v2225).toNat q2227 d2228 = xparse B a2›), xpf_e (by omega), if_pos (by omega), if_pos (by omega), if_pos (by omega)]; exact a2265, by rw [← (‹xpf B a2 (902 - v2225).toNat q2227 d2228 = xparse B a2›), xpf_e (by omega), if_pos (by omega), if_pos (by omega), if_pos (by omega)]; exact a2266⟩)⟩
                · refine wp_of e13 c13_68 (rw_aload_n (pc' := 69) (v := .ref r0) rfl rfl rfl ?_)
                  refine wp_of e13 c13_69 (rw_bipush (pc' := 71) (z := 6) rfl (by decide) ?_)
                  refine wp_of e13 c13_71 (xc_V (pc' := 74) (r := r0) (as := [vI 6]) (st := []) (lm_1_47) rfl rfl (Nat.le_of_ble_eq_true rfl) w2255 g0 sh_3 (by decide) rfl (by decide) (u_20  w2255 g0 ⟨by decide, by decide⟩ q2278 gtk) (fun R2339 T2340 H2341 p2342 => ?_))
                  obtain ⟨e2343, w2345, f2346, z2347, e2344, b2348, p2349⟩ := p2342
                  subst e2343
                  subst e2344
                  obtain ⟨a2350, a2351, a2352⟩ := p2349
                  have f2353 := f2272.tr f2346 rfl
                  show wp _ _ 13 74 [(4, vI v2225), (0, .ref r0), (3, .ref r3)] [vI z2347] _ H2341 _
                  refine wp_of e13 c13_74 (rw_if_eq (p1 := 81) (p2 := 77) (by decide) rfl ⟨Int.le_trans (by decide) b2348.1, Int.le_trans b2348.2 (by decide)⟩ (fun c2354 => ?_) (fun c2354 => ?_))
                  · refine wp_of e13 c13_81 (rw_iconst (pc' := 82) rfl ?_)
                    have o2355 : ((xparse B a2).1) = (6, ((xline B a2 q2227 d2228).2.2), q2227) := by
                      rw [← (‹xpf B a2 (902 - v2225).toNat q2227 d2228 = xparse B a2›), xpf_e (by omega)]
                      repeat first | rw [xs_0 (by omega -splitDisjunctions)] | rw [xs_1 (by omega -splitDisjunctions)] | rw [if_pos (by omega -splitDisjunctions)] | rw [if_neg (by omega -splitDisjunctions)] | rw [xs_0 (by omega)] | rw [xs_1 (by omega)] | rw [if_pos (by omega)] | rw [if_neg (by omega)]
                      first | done | rfl | assumption | (exfalso; omega -splitDisjunctions) | (refine Prod.ext ?_ (Prod.ext ?_ ?_) <;> (try dsimp only) <;> omega) | (exfalso; omega)
                    have o2355a : (((xparse B a2).1)).1 = 6 := by rw [o2355]
                    have o2355b : (((xparse B a2).1)).2.1 = ((xline B a2 q2227 d2228).2.2) := by rw [o2355]
                    have o2355c : (((xparse B a2).1)).2.2 = q2227 := by rw [o2355]
                    exact wp_zreturn e13 c13_82 rfl (by omega) ⟨rfl, w2345, f2353, 0, rfl, ⟨by decide, by decide⟩, (Or.inr ⟨by omega, by omega, by omega, by omega⟩)⟩
                  · exfalso
                    omega
          · exfalso
            omega
        · have f2356 := f2240.tr f2256 rfl
          have f2357 := f2231.tr f2256 rfl
          show wp _ _ 13 39 [(4, vI v2225), (0, .ref r0), (3, .ref r3)] [vI z2257] _ H2251 _
          refine wp_of e13 c13_39 (rw_if_ne (p1 := 44) (p2 := 42) (by decide) rfl ⟨Int.le_trans (by decide) b2258.1, Int.le_trans b2258.2 (by decide)⟩ (fun c2358 => ?_) (fun c2358 => ?_))
          · exfalso
            omega
          · refine wp_of e13 c13_42 (rw_iconst (pc' := 43) rfl ?_)
            have o2359 : ((xparse B a2).1) = ((xline B a2 q2227 d2228).1, (xline B a2 q2227 d2228).2.1, (xline B a2 q2227 d2228).2.2) := by
              rw [← (‹xpf B a2 (902 - v2225).toNat q2227 d2228 = xparse B a2›), xpf_e (by omega)]
              repeat first | rw [xs_0 (by omega -splitDisjunctions)] | rw [xs_1 (by omega -splitDisjunctions)] | rw [if_pos (by omega -splitDisjunctions)] | rw [if_neg (by omega -splitDisjunctions)] | rw [xs_0 (by omega)] | rw [xs_1 (by omega)] | rw [if_pos (by omega)] | rw [if_neg (by omega)]
              first | done | rfl | assumption | (exfalso; omega -splitDisjunctions) | (refine Prod.ext ?_ (Prod.ext ?_ ?_) <;> (try dsimp only) <;> omega) | (exfalso; omega)
            have o2359a : (((xparse B a2).1)).1 = (xline B a2 q2227 d2228).1 := by rw [o2359]
            have o2359b : (((xparse B a2).1)).2.1 = (xline B a2 q2227 d2228).2.1 := by rw [o2359]
            have o2359c : (((xparse B a2).1)).2.2 = (xline B a2 q2227 d2228).2.2 := by rw [o2359]
            exact wp_zreturn e13 c13_43 rfl (by omega) ⟨rfl, w2255, f2356, 0, rfl, ⟨by decide, by decide⟩, (Or.inr ⟨by omega, by omega, by omega, by omega⟩)⟩
  have h2360 : DC T H1698 r3 xD0 := (DC_fr w1686 g3 f1703 rfl a1689)
  have h2361 : CZ T H1698 r3 (xD0 0 3) := (CZ_fr w1686 g3 f1703 rfl a1690)
  exact wp_lc (ks := [4, 0, 1, 2, 3]) (wl_c rfl (wl_c rfl (wl_c rfl wl_n))) rfl (by decide) (lp2222 _ 0 H1698 (xG 32 32 B a2 0) xD0 w1702 wfr.rf ⟨by decide, by decide⟩ (by omega) a1706 h2360 h2361 (by omega) (rfl) rfl)
/-! StrikeAwake.putOnTape(I)V  -/
abbrev uq_10 (r0 : Nat) (a1 : Int) (tp : Nat) (B : Nat → Int) (t : Int) (T : wq_T) (H : wq_H) : Option Value → wq_T → wq_H → Prop := fun r T' H' => T = T' ∧ WT T H' ∧ wfr [(1, 9), (2, 999)] T H H' ∧ none = r ∧ (((H' r0 9 = t + 4) ∧ TP T H' tp (xpk B t a1 4)))
set_option maxHeartbeats 4000000 in
theorem u_10 {kt : Nat → Option mc_E} {T : wq_T} {H : wq_H} {r0 : Nat} {a1 : Int} {tp : Nat} {B : Nat → Int} {t : Int} (hW : WT T H) (g0 : T.2.2.2 r0 = some 1) (i1 : (-2147483648) ≤ a1 ∧ a1 ≤ 2147483647) (qtp : H r0 0 = (tp : Int)) (gtp : T.2.2.2 tp = some 2) (p0 : H r0 9 = t) (p1 : t ≤ 896) (hTP_tp : TP T H tp B) : wpc kt 1 10 [.ref r0, vI a1] T H (uq_10 r0 a1 tp B t T H) := by
  refine wp_enter e10 (Nat.le_of_ble_eq_true rfl) rfl ?_
  have f0 : wfr [(1, 9), (2, 999)] T H H := wfr.rf
  show wp _ _ 10 0 [(0, .ref r0), (1, vI a1)] [] _ H _
  have b1147 : 0 ≤ H r0 9 ∧ H r0 9 ≤ 900 := hW.box g0 (n := 13) rfl (by decide) rfl
  refine wp_of e10 c10_0 (rw_bipush (pc' := 2) (z := 24) rfl (by decide) ?_)
  refine wp_of e10 c10_2 (rw_istore_n (pc' := 3) (z := 24) (L' := [(2, vI 24), (0, .ref r0), (1, vI a1)]) rfl rfl rfl ?_)
  have lp1269 : ∀ (n1270 : Nat) (v1272 : Int) (H1273 : wq_H) (ii1274 : Nat), WT T H1273 → wfr [(1, 9), (2, 999)] T H H1273 → ((-8) ≤ v1272 ∧ v1272 ≤ 24) → TP T H1273 tp (xpk B t a1 ii1274) → (v1272 = 24 - 8 * (ii1274 : Int)) → (ii1274 ≤ 4) → (H1273 r0 9 = t + (ii1274 : Int)) → (v1272 + 8).toNat = n1270 → wp kt 0 10 3 [(2, vI v1272), (0, .ref r0), (1, vI a1)] [] T H1273 (uq_10 r0 a1 tp B t T H) := by
    intro n1270
    induction n1270 using Nat.strongRecOn with
    | _ n1270 ih1271 =>
      intro v1272 H1273 ii1274 w1275 f1276 b1277 h1279 x1280 x1281 x1282 m1278
      have f1283 := f0.tr f1276 rfl
      refine wp_of e10 c10_3 (rw_iload_n (pc' := 4) (z := v1272) rfl rfl ?_)
      refine wp_of e10 c10_4 (rw_if_lt (p1 := 46) (p2 := 7) (by decide) rfl ⟨Int.le_trans (by decide) b1277.1, Int.le_trans b1277.2 (by decide)⟩ (fun c1284 => ?_) (fun c1284 => ?_))
      · exact wp_return e10 c10_46 rfl ⟨rfl, w1275, f1283, rfl, ⟨by omega, by
          have e4 : ii1274 = 4 := by omega
          rw [← e4]
          exact h1279⟩⟩
      · refine wp_of e10 c10_7 (rw_aload_n (pc' := 8) (v := .ref r0) rfl rfl rfl ?_)
        refine wp_of e10 c10_8 (xg_I (pc' := 11) lf_0_62 w1275 g0 sh_1 (by decide) (by decide) ty_1_9 rfl rfl (fun b1285 b1286 => ?_))
        refine wp_of e10 c10_11 (rw_sipush (pc' := 14) (z := 900) rfl (by decide) ?_)
        refine wp_of e10 c10_14 (rw_icmp_ge (p1 := 46) (p2 := 17) (by decide) rfl ⟨Int.le_trans (by decide) b1285, Int.le_trans b1286 (by decide)⟩ ⟨by decide, by decide⟩ (fun c1287 => ?_) (fun c1287 => ?_))
        · exact wp_return e10 c10_46 rfl ⟨rfl, w1275, f1283, rfl, ⟨by omega, by
            have e4 : ii1274 = 4 := by omega
            rw [← e4]
            exact h1279⟩⟩
        · refine wp_of e10 c10_17 (rw_aload_n (pc' := 18) (v := .ref r0) rfl rfl rfl ?_)
          have k1288 : H1273 r0 0 = H r0 0 := (f1276 r0 0 _ g0 rfl)
          have q1289 : H1273 r0 0 = (tp : Int) := k1288.trans qtp
          refine wp_of e10 c10_18 (xg_K (pc' := 21) lf_0_9 w1275 g0 sh_1 (by decide) (by decide) rfl q1289 rfl ?_)
          refine wp_of e10 c10_21 (rw_aload_n (pc' := 22) (v := .ref r0) rfl rfl rfl ?_)
          refine wp_of e10 c10_22 (xg_I (pc' := 25) lf_0_62 w1275 g0 sh_1 (by decide) (by decide) ty_1_9 rfl rfl (fun b1290 b1291 => ?_))
          refine wp_of e10 c10_25 (rw_iload_n (pc' := 26) (z := a1) rfl rfl ?_)
          refine wp_of e10 c10_26 (rw_iload_n (pc' := 27) (z := v1272) rfl rfl ?_)
          refine wp_of e10 c10_27 (rw_ishr (pc' := 28) rfl ?_)
          obtain ⟨v1292, e1293⟩ : ∃ x : Int, x = wq_shr a1 v1272 := ⟨_, rfl⟩
          rw [← e1293]
          have b1294 : -2147483648 ≤ v1292 ∧ v1292 ≤ 2147483647 := by
            rw [e1293]
            exact wI_shr _ _
          refine wp_of e10 c10_28 (rw_i2b (pc' := 29) rfl ?_)
          obtain ⟨v1295, e1296⟩ : ∃ x : Int, x = wq_i2b v1292 := ⟨_, rfl⟩
          rw [← e1296]
          have b1297 : -128 ≤ v1295 ∧ v1295 ≤ 127 := by
            rw [e1296]
            exact wq_i2b_b _
          have o1298 : v1295 = wq_i2b (wq_shr a1 v1272) := by
            subst_vars
            rfl
          refine wp_of e10 c10_29 (xs_B (pc' := 30) w1275 gtp (by decide) sh_2 (by decide) (ty_2 _) (b1297.1) (b1297.2) ⟨b1297.1, b1297.2⟩ (b1290) (by omega) rfl (fun H1299 e1300 w1301 => ?_))
          have f1302 := f1283.put' e1300 gtp rfl
          have f1303 := f1276.put' e1300 gtp rfl
          have h1304 : TP T H1299 tp (xpk B t a1 (ii1274 + 1)) := TP_pk h1279 e1300 (by omega) o1298 (by omega)
          refine wp_of e10 c10_30 (rw_aload_n (pc' := 31) (v := .ref r0) rfl rfl rfl ?_)
          refine wp_of e10 c10_31 (rw_dup (pc' := 32) rfl rfl ?_)
          have k1305 : H1299 r0 9 = H1273 r0 9 := (wq_u_t e1300 gtp g0 rfl 9)
          refine wp_of e10 c10_32 (xg_I (pc' := 35) lf_0_62 w1301 g0 sh_1 (by decide) (by decide) ty_1_9 rfl rfl (fun b1306 b1307 => ?_))
          refine wp_of e10 c10_35 (rw_iconst (pc' := 36) rfl ?_)
          refine wp_of e10 c10_36 (rw_iadd (pc' := 37) rfl ?_)
          refine wp_of e10 c10_37 (xp_I (pc' := 40) lf_0_62 w1301 g0 sh_1 (by decide) (by decide) ty_1_9 rfl rfl (by omega) (by omega) ⟨by omega, by omega⟩ rfl (fun H1308 e1309 w1310 => ?_))
          have f1311 := f1302.put' e1309 g0 rfl
          have f1312 := f1303.put' e1309 g0 rfl
          have k1313 : H1308 r0 9 = (H1299 r0 9) + 1 := wq_u_s e1309
          refine wp_of e10 c10_40 (rw_iinc (pc' := 43) (z := v1272) (L' := [(2, vI (v1272 + (-8))), (0, .ref r0), (1, vI a1)]) rfl rfl rfl rfl ?_)
          refine wp_of e10 c10_43 (rw_goto (p1 := 3) (by decide) ?_)
          have h1314 : TP T H1308 tp (xpk B t a1 (ii1274 + 1)) := (TP_fr w1301 gtp ((wfr.rf (l := [(1, 9)])).put' e1309 g0 rfl) rfl h1304)
          exact wp_lc (ks := [2, 0, 1]) (wl_c rfl (wl_c rfl (wl_c rfl wl_n))) rfl (by decide) (ih1271 _ (by omega) (v1272 + (-8)) H1308 ((ii1274 + 1)) w1310 f1312 ⟨by omega, by omega⟩ h1314 (by omega) (by omega) (by omega) rfl)
  have h1315 : TP T H tp (xpk B t a1 0) := hTP_tp
  exact wp_lc (ks := [2, 0, 1]) (wl_c rfl (wl_c rfl (wl_c rfl wl_n))) rfl (by decide) (lp1269 _ 24 H 0 hW wfr.rf ⟨by decide, by decide⟩ h1315 (by omega) (by omega) (by omega) rfl)
/-! StrikeAwake.feed(IIIII)I  -/
abbrev uq_9 (r0 : Nat) (a1 : Int) (a2 : Int) (a3 : Int) (a4 : Int) (a5 : Int) (tp : Nat) (B : Nat → Int) (t : Int) (b1 : Int) (b2 : Int) (b3 : Int) (b4 : Int) (b5 : Int) (T : wq_T) (H : wq_H) : Option Value → wq_T → wq_H → Prop := fun r T' H' => T = T' ∧ WT T H' ∧ wfr [(1, 9), (2, 999)] T H H' ∧ ∃ z : Int, some (vI z) = r ∧ ((-2147483648) ≤ z ∧ z ≤ 2147483647) ∧ (((z = -1) ∧ (880 < t) ∧ (H' r0 9 = t) ∧ TP T H' tp B) ∨ ((0 ≤ z ∧ z ≤ 900) ∧ (t ≤ 880) ∧ (z = t + 20) ∧ (H' r0 9 = t + 20) ∧ TP T H' tp (xfk B t b1 b2 b3 b4 b5 20)))
set_option maxHeartbeats 4000000 in
theorem u_9 {kt : Nat → Option mc_E} {T : wq_T} {H : wq_H} {r0 : Nat} {a1 : Int} {a2 : Int} {a3 : Int} {a4 : Int} {a5 : Int} {tp : Nat} {B : Nat → Int} {t : Int} {b1 : Int} {b2 : Int} {b3 : Int} {b4 : Int} {b5 : Int} (hW : WT T H) (g0 : T.2.2.2 r0 = some 1) (i1 : (-2147483648) ≤ a1 ∧ a1 ≤ 2147483647) (i2 : (-2147483648) ≤ a2 ∧ a2 ≤ 2147483647) (i3 : (-2147483648) ≤ a3 ∧ a3 ≤ 2147483647) (i4 : (-2147483648) ≤ a4 ∧ a4 ≤ 2147483647) (i5 : (-2147483648) ≤ a5 ∧ a5 ≤ 2147483647) (qtp : H r0 0 = (tp : Int)) (gtp : T.2.2.2 tp = some 2) (p0 : H r0 9 = t) (p1 : a1 = b1) (p2 : a2 = b2) (p3 : a3 = b3) (p4 : a4 = b4) (p5 : a5 = b5) (hTP_tp : TP T H tp B) : wpc kt 2 9 [.ref r0, vI a1, vI a2, vI a3, vI a4, vI a5] T H (uq_9 r0 a1 a2 a3 a4 a5 tp B t b1 b2 b3 b4 b5 T H) := by
  refine wp_enter e9 (Nat.le_of_ble_eq_true rfl) rfl ?_
  have f0 : wfr [(1, 9), (2, 999)] T H H := wfr.rf
  show wp _ _ 9 0 [(0, .ref r0), (1, vI a1), (2, vI a2), (3, vI a3), (4, vI a4), (5, vI a5)] [] _ H _
  have b1074 : 0 ≤ H r0 9 ∧ H r0 9 ≤ 900 := hW.box g0 (n := 13) rfl (by decide) rfl
  refine wp_of e9 c9_0 (rw_aload_n (pc' := 1) (v := .ref r0) rfl rfl rfl ?_)
  refine wp_of e9 c9_1 (xg_I (pc' := 4) lf_0_62 hW g0 sh_1 (by decide) (by decide) ty_1_9 rfl rfl (fun b1075 b1076 => ?_))
  refine wp_of e9 c9_4 (rw_sipush (pc' := 7) (z := 880) rfl (by decide) ?_)
  refine wp_of e9 c9_7 (rw_icmp_le (p1 := 12) (p2 := 10) (by decide) rfl ⟨Int.le_trans (by decide) b1075, Int.le_trans b1076 (by decide)⟩ ⟨by decide, by decide⟩ (fun c1077 => ?_) (fun c1077 => ?_))
  · refine wp_of e9 c9_12 (rw_aload_n (pc' := 13) (v := .ref r0) rfl rfl rfl ?_)
    refine wp_of e9 c9_13 (rw_iload_n (pc' := 14) (z := a1) rfl rfl ?_)
    refine wp_of e9 c9_14 (xc_V (pc' := 17) (r := r0) (as := [vI a1]) (st := []) (lm_0_66) rfl rfl (Nat.le_of_ble_eq_true rfl) hW g0 sh_1 (by decide) rfl (by decide) (u_10 (B := B) (t := t) hW g0 ⟨i1.1, i1.2⟩ qtp gtp (by omega) (by omega) hTP_tp) (fun R1078 T1079 H1080 p1081 => ?_))
    obtain ⟨e1082, w1084, f1085, e1083, p1086⟩ := p1081
    subst e1082
    subst e1083
    obtain ⟨a1087, a1088⟩ := p1086
    have f1089 := f0.tr f1085 rfl
    show wp _ _ 9 17 [(0, .ref r0), (1, vI a1), (2, vI a2), (3, vI a3), (4, vI a4), (5, vI a5)] [] _ H1080 _
    refine wp_of e9 c9_17 (rw_aload_n (pc' := 18) (v := .ref r0) rfl rfl rfl ?_)
    refine wp_of e9 c9_18 (rw_iload_n (pc' := 19) (z := a2) rfl rfl ?_)
    have k1090 : H1080 r0 0 = H r0 0 := (f1085 r0 0 _ g0 rfl)
    have q1091 : H1080 r0 0 = (tp : Int) := k1090.trans qtp
    refine wp_of e9 c9_19 (xc_V (pc' := 22) (r := r0) (as := [vI a2]) (st := []) (lm_0_66) rfl rfl (Nat.le_of_ble_eq_true rfl) w1084 g0 sh_1 (by decide) rfl (by decide) (u_10 (B := (xpk B t a1 4)) (t := (t + 4)) w1084 g0 ⟨i2.1, i2.2⟩ q1091 gtp (by omega) (by omega) a1088) (fun R1092 T1093 H1094 p1095 => ?_))
    obtain ⟨e1096, w1098, f1099, e1097, p1100⟩ := p1095
    subst e1096
    subst e1097
    obtain ⟨a1101, a1102⟩ := p1100
    have f1103 := f1089.tr f1099 rfl
    show wp _ _ 9 22 [(0, .ref r0), (1, vI a1), (2, vI a2), (3, vI a3), (4, vI a4), (5, vI a5)] [] _ H1094 _
    refine wp_of e9 c9_22 (rw_aload_n (pc' := 23) (v := .ref r0) rfl rfl rfl ?_)
    refine wp_of e9 c9_23 (rw_iload_n (pc' := 24) (z := a3) rfl rfl ?_)
    have k1104 : H1094 r0 0 = H1080 r0 0 := (f1099 r0 0 _ g0 rfl)
    have q1105 : H1094 r0 0 = (tp : Int) := k1104.trans q1091
    refine wp_of e9 c9_24 (xc_V (pc' := 27) (r := r0) (as := [vI a3]) (st := []) (lm_0_66) rfl rfl (Nat.le_of_ble_eq_true rfl) w1098 g0 sh_1 (by decide) rfl (by decide) (u_10 (B := (xpk (xpk B t a1 4) (t + 4) a2 4)) (t := (t + 8)) w1098 g0 ⟨i3.1, i3.2⟩ q1105 gtp (by omega) (by omega) a1102) (fun R1106 T1107 H1108 p1109 => ?_))
    obtain ⟨e1110, w1112, f1113, e1111, p1114⟩ := p1109
    subst e1110
    subst e1111
    obtain ⟨a1115, a1116⟩ := p1114
    have f1117 := f1103.tr f1113 rfl
    show wp _ _ 9 27 [(0, .ref r0), (1, vI a1), (2, vI a2), (3, vI a3), (4, vI a4), (5, vI a5)] [] _ H1108 _
    refine wp_of e9 c9_27 (rw_aload_n (pc' := 28) (v := .ref r0) rfl rfl rfl ?_)
    refine wp_of e9 c9_28 (rw_iload (pc' := 30) (z := a4) rfl rfl ?_)
    have k1118 : H1108 r0 0 = H1094 r0 0 := (f1113 r0 0 _ g0 rfl)
    have q1119 : H1108 r0 0 = (tp : Int) := k1118.trans q1105
    refine wp_of e9 c9_30 (xc_V (pc' := 33) (r := r0) (as := [vI a4]) (st := []) (lm_0_66) rfl rfl (Nat.le_of_ble_eq_true rfl) w1112 g0 sh_1 (by decide) rfl (by decide) (u_10 (B := (xpk (xpk (xpk B t a1 4) (t + 4) a2 4) (t + 8) a3 4)) (t := (t + 12)) w1112 g0 ⟨i4.1, i4.2⟩ q1119 gtp (by omega) (by omega) a1116) (fun R1120 T1121 H1122 p1123 => ?_))
    obtain ⟨e1124, w1126, f1127, e1125, p1128⟩ := p1123
    subst e1124
    subst e1125
    obtain ⟨a1129, a1130⟩ := p1128
    have f1131 := f1117.tr f1127 rfl
    show wp _ _ 9 33 [(0, .ref r0), (1, vI a1), (2, vI a2), (3, vI a3), (4, vI a4), (5, vI a5)] [] _ H1122 _
    refine wp_of e9 c9_33 (rw_aload_n (pc' := 34) (v := .ref r0) rfl rfl rfl ?_)
    refine wp_of e9 c9_34 (rw_iload (pc' := 36) (z := a5) rfl rfl ?_)
    have k1132 : H1122 r0 0 = H1108 r0 0 := (f1127 r0 0 _ g0 rfl)
    have q1133 : H1122 r0 0 = (tp : Int) := k1132.trans q1119
    refine wp_of e9 c9_36 (xc_V (pc' := 39) (r := r0) (as := [vI a5]) (st := []) (lm_0_66) rfl rfl (Nat.le_of_ble_eq_true rfl) w1126 g0 sh_1 (by decide) rfl (by decide) (u_10 (B := (xpk (xpk (xpk (xpk B t a1 4) (t + 4) a2 4) (t + 8) a3 4) (t + 12) a4 4)) (t := (t + 16)) w1126 g0 ⟨i5.1, i5.2⟩ q1133 gtp (by omega) (by omega) a1130) (fun R1134 T1135 H1136 p1137 => ?_))
    obtain ⟨e1138, w1140, f1141, e1139, p1142⟩ := p1137
    subst e1138
    subst e1139
    obtain ⟨a1143, a1144⟩ := p1142
    have f1145 := f1131.tr f1141 rfl
    show wp _ _ 9 39 [(0, .ref r0), (1, vI a1), (2, vI a2), (3, vI a3), (4, vI a4), (5, vI a5)] [] _ H1136 _
    refine wp_of e9 c9_39 (rw_aload_n (pc' := 40) (v := .ref r0) rfl rfl rfl ?_)
    refine wp_of e9 c9_40 (xg_I (pc' := 43) lf_0_62 w1140 g0 sh_1 (by decide) (by decide) ty_1_9 rfl rfl (fun b1146 b1147 => ?_))
    exact wp_ireturn e9 c9_43 rfl ⟨rfl, w1140, f1145, H1136 r0 9, rfl, ⟨Int.le_trans (by decide) b1146, Int.le_trans b1147 (by decide)⟩, (Or.inr ⟨by omega, by omega, by omega, by omega, by rw [← p1, ← p2, ← p3, ← p4, ← p5, ← xfk_4]; exact a1144⟩)⟩
  · refine wp_of e9 c9_10 (rw_iconst (pc' := 11) rfl ?_)
    exact wp_ireturn e9 c9_11 rfl ⟨rfl, hW, f0, -1, rfl, ⟨by decide, by decide⟩, (Or.inl ⟨by omega, by omega, by omega, hTP_tp⟩)⟩
/-! StrikeAwake.refuse(I)I  -/
abbrev uq_12 (r0 : Nat) (a1 : Int) (T : wq_T) (H : wq_H) : Option Value → wq_T → wq_H → Prop := fun r T' H' => T = T' ∧ WT T H' ∧ wfr [(1, 10)] T H H' ∧ ∃ z : Int, some (vI z) = r ∧ ((-2147483648) ≤ z ∧ z ≤ 2147483647) ∧ (((z = -1) ∧ (H' r0 10 = a1)))
set_option maxHeartbeats 4000000 in
theorem u_12 {kt : Nat → Option mc_E} {T : wq_T} {H : wq_H} {r0 : Nat} {a1 : Int} (hW : WT T H) (g0 : T.2.2.2 r0 = some 1) (i1 : (-2147483648) ≤ a1 ∧ a1 ≤ 2147483647) : wpc kt 1 12 [.ref r0, vI a1] T H (uq_12 r0 a1 T H) := by
  refine wp_enter e12 (Nat.le_of_ble_eq_true rfl) rfl ?_
  have f0 : wfr [(1, 10)] T H H := wfr.rf
  show wp _ _ 12 0 [(0, .ref r0), (1, vI a1)] [] _ H _
  refine wp_of e12 c12_0 (rw_aload_n (pc' := 1) (v := .ref r0) rfl rfl rfl ?_)
  refine wp_of e12 c12_1 (rw_iload_n (pc' := 2) (z := a1) rfl rfl ?_)
  refine wp_of e12 c12_2 (xp_I (pc' := 5) lf_0_102 hW g0 sh_1 (by decide) (by decide) ty_1_10 rfl rfl (i1.1) (i1.2) ⟨i1.1, i1.2⟩ rfl (fun H1006 e1007 w1008 => ?_))
  have f1009 := f0.put' e1007 g0 rfl
  have k1010 : H1006 r0 10 = a1 := wq_u_s e1007
  refine wp_of e12 c12_5 (rw_iconst (pc' := 6) rfl ?_)
  exact wp_ireturn e12 c12_6 rfl ⟨rfl, w1008, f1009, -1, rfl, ⟨by decide, by decide⟩, ⟨by omega, by omega⟩⟩
/-! StrikeAwake.answer(I)I  -/
abbrev uq_51 (r0 : Nat) (a1 : Int) (T : wq_T) (H : wq_H) : Option Value → wq_T → wq_H → Prop := fun r T' H' => T = T' ∧ WT T H' ∧ wfr [(1, 10)] T H H' ∧ ∃ z : Int, some (vI z) = r ∧ ((-2147483648) ≤ z ∧ z ≤ 2147483647) ∧ (((z = a1) ∧ (H' r0 10 = 0)))
set_option maxHeartbeats 4000000 in
theorem u_51 {kt : Nat → Option mc_E} {T : wq_T} {H : wq_H} {r0 : Nat} {a1 : Int} (hW : WT T H) (g0 : T.2.2.2 r0 = some 1) (i1 : (-2147483648) ≤ a1 ∧ a1 ≤ 2147483647) : wpc kt 1 51 [.ref r0, vI a1] T H (uq_51 r0 a1 T H) := by
  refine wp_enter e51 (Nat.le_of_ble_eq_true rfl) rfl ?_
  have f0 : wfr [(1, 10)] T H H := wfr.rf
  show wp _ _ 51 0 [(0, .ref r0), (1, vI a1)] [] _ H _
  refine wp_of e51 c51_0 (rw_aload_n (pc' := 1) (v := .ref r0) rfl rfl rfl ?_)
  refine wp_of e51 c51_1 (rw_iconst (pc' := 2) rfl ?_)
  refine wp_of e51 c51_2 (xp_I (pc' := 5) lf_0_102 hW g0 sh_1 (by decide) (by decide) ty_1_10 rfl rfl (by decide) (by decide) ⟨by decide, by decide⟩ rfl (fun H1006 e1007 w1008 => ?_))
  have f1009 := f0.put' e1007 g0 rfl
  have k1010 : H1006 r0 10 = 0 := wq_u_s e1007
  refine wp_of e51 c51_5 (rw_iload_n (pc' := 6) (z := a1) rfl rfl ?_)
  exact wp_ireturn e51 c51_6 rfl ⟨rfl, w1008, f1009, a1, rfl, ⟨i1.1, i1.2⟩, ⟨by omega, by omega⟩⟩
