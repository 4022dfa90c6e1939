/-! what methods do (own work, written by wip/gen3/sx3.py) -/
/-! StrikeAwake$Reader.readsLine(LStrikeAwake$Parish;)Z  -/
abbrev uq_17 (r0 : Nat) (r1 : Nat) (tk : Nat) (rb : Nat) (B : Nat → Int) (n : Int) (q : Int) (d : xD) (T : wq_T) (H : wq_H) : Option Value → wq_T → wq_H → Prop := fun r T' H' => T = T' ∧ WT T H' ∧ wfr [(27, 7), (27, 8), (27, 9), (27, 10), (27, 11), (27, 12), (27, 13), (27, 14), (27, 15), (27, 16), (35, 6), (35, 7), (35, 8), (35, 9), (35, 10), (35, 11), (35, 12), (35, 13), (35, 14), (35, 15), (35, 16), (35, 17), (3, 1), (3, 2), (3, 3), (3, 4), (4, 2), (4, 3), (4, 4), (4, 5), (4, 6), (31, 999), (34, 999), (29, 999), (30, 999), (33, 999), (32, 999)] T H H' ∧ ∃ z : Int, some (vI z) = r ∧ (0 ≤ z ∧ z ≤ 1) ∧ (((z = 1) ∧ ((xline B n q d).1 = 0) ∧ (q ≤ (xline B n q d).2.2) ∧ (H' r0 3 = H r0 3) ∧ TC T H' tk B n (xline B n q d).2.2 ∧ DC T H' r1 (xdline B n q d)) ∨ ((z = 0) ∧ ((xline B n q d).1 ≠ 0) ∧ ((xline B n q d).2.2 = (xline B n q d).2.1) ∧ (H' r0 3 = (xline B n q d).1) ∧ (H' r0 4 = (xline B n q d).2.1)))
set_option maxHeartbeats 4000000 in
theorem u_17 {kt : Nat → Option mc_E} {T : wq_T} {H : wq_H} {r0 : Nat} {r1 : Nat} {tk : Nat} {rb : Nat} {B : Nat → Int} {n : Int} {q : Int} {d : xD} (hW : WT T H) (g0 : T.2.2.2 r0 = some 3) (g1 : T.2.2.2 r1 = some 27) (qtk : H r0 0 = (tk : Int)) (gtk : T.2.2.2 tk = some 4) (qrb : H tk 0 = (rb : Int)) (grb : T.2.2.2 rb = some 2) (hTC_tk : TC T H tk B n q) (hDC_r1 : DC T H r1 d) (hDD_r1 : DD T H r1 ) : wpc kt 6 17 [.ref r0, .ref r1] T H (uq_17 r0 r1 tk rb B n q d T H) := by
  refine wp_enter e17 (Nat.le_of_ble_eq_true rfl) rfl ?_
  have f0 : wfr [(27, 7), (27, 8), (27, 9), (27, 10), (27, 11), (27, 12), (27, 13), (27, 14), (27, 15), (27, 16), (35, 6), (35, 7), (35, 8), (35, 9), (35, 10), (35, 11), (35, 12), (35, 13), (35, 14), (35, 15), (35, 16), (35, 17), (3, 1), (3, 2), (3, 3), (3, 4), (4, 2), (4, 3), (4, 4), (4, 5), (4, 6), (31, 999), (34, 999), (29, 999), (30, 999), (33, 999), (32, 999)] T H H := wfr.rf
  show wp _ _ 17 0 [(0, .ref r0), (1, .ref r1)] [] _ H _
  have u1720 := TC_k hTC_tk
  have u1721 := DC_k hDC_r1
  have _b := @xre_b B n q
  have _s := @xsx_e (d 0 8)
  refine wp_of e17 c17_0 (rw_aload_n (pc' := 1) (v := .ref r0) rfl rfl rfl ?_)
  refine wp_of e17 c17_1 (xc_V (pc' := 4) (r := r0) (as := []) (st := []) (lm_1_54) rfl rfl (Nat.le_of_ble_eq_true rfl) hW g0 sh_3 (by decide) rfl (by decide) (u_18 (B := B) (n := n) (q := q) hW g0 qtk gtk qrb grb hTC_tk) (fun R1722 T1723 H1724 p1725 => ?_))
  obtain ⟨e1726, e1728, e1727⟩ := p1725
  subst e1726
  subst e1728
  rcases e1727 with ⟨e1727, b1732⟩ | ⟨r1729, e1727, b1730, b1731, b1732⟩
  · subst e1727
    show wp _ _ 17 4 [(0, .ref r0), (1, .ref r1)] [.null] _ H _
    refine wp_of e17 c17_4 (rw_astore_n (pc' := 5) (v := .null) (L' := [(2, .null), (0, .ref r0), (1, .ref r1)]) rfl rfl rfl rfl ?_)
    refine wp_of e17 c17_5 (rw_aload_n (pc' := 6) (v := .null) rfl rfl rfl ?_)
    refine wp_of e17 c17_6 (rw_ifnull_n (p1 := 16) (p2 := 9) (by decide) rfl ?_)
    refine wp_of e17 c17_16 (rw_aload_n (pc' := 17) (v := .ref r0) rfl rfl rfl ?_)
    refine wp_of e17 c17_17 (rw_iconst (pc' := 18) rfl ?_)
    refine wp_of e17 c17_18 (xc_V (pc' := 21) (r := r0) (as := [vI 1]) (st := []) (lm_1_47) rfl rfl (Nat.le_of_ble_eq_true rfl) hW g0 sh_3 (by decide) rfl (by decide) (u_20  hW g0 ⟨by omega, by omega⟩ qtk gtk) (fun R1733 T1734 H1735 p1736 => ?_))
    obtain ⟨e1737, w1739, f1740, z1741, e1738, b1742, p1743⟩ := p1736
    subst e1737
    subst e1738
    obtain ⟨a1744, a1745, a1746⟩ := p1743
    have f1747 := f0.tr f1740 rfl
    show wp _ _ 17 21 [(2, .null), (0, .ref r0), (1, .ref r1)] [vI z1741] _ H1735 _
    have o1748 : (xline B n q d) = (1, q, q) := by
      unfold xline xl0 xl1 xl2 xl3 xl4 xl5 xl6 xl7 xper
      repeat first | rw [xs_0 (by omega)] | rw [xs_1 (by omega)] | rw [if_pos (by omega)] | rw [if_neg (by omega)]
      first | done | rfl | assumption | (exfalso; omega) | (refine Prod.ext ?_ (Prod.ext ?_ ?_) <;> (try dsimp only) <;> omega)
    have o1748a : ((xline B n q d)).1 = 1 := by rw [o1748]
    have o1748b : ((xline B n q d)).2.1 = q := by rw [o1748]
    have o1748c : ((xline B n q d)).2.2 = q := by rw [o1748]
    exact wp_zreturn e17 c17_21 rfl (by omega) ⟨rfl, w1739, f1747, z1741, rfl, ⟨by omega, by omega⟩, (Or.inr ⟨by omega, by omega, by omega, by omega, by omega⟩)⟩
  · subst e1727
    have c1749 : r1729 = 16 ∨ r1729 = 17 ∨ r1729 = 18 ∨ r1729 = 19 ∨ r1729 = 20 ∨ r1729 = 21 ∨ r1729 = 22 ∨ r1729 = 23 ∨ r1729 = 24 ∨ r1729 = 25 ∨ r1729 = 26 := by omega
    rcases c1749 with c1749 | c1749 | c1749 | c1749 | c1749 | c1749 | c1749 | c1749 | c1749 | c1749 | c1749
    · subst c1749
      show wp _ _ 17 4 [(0, .ref r0), (1, .ref r1)] [.ref 16] _ H _
      refine wp_of e17 c17_4 (rw_astore_n (pc' := 5) (v := .ref 16) (L' := [(2, .ref 16), (0, .ref r0), (1, .ref r1)]) rfl rfl rfl rfl ?_)
      refine wp_of e17 c17_5 (rw_aload_n (pc' := 6) (v := .ref 16) rfl rfl rfl ?_)
      refine wp_of e17 c17_6 (rw_ifnull_r (p1 := 16) (p2 := 9) (by decide) rfl ?_)
      refine wp_of e17 c17_9 (rw_aload_n (pc' := 10) (v := .ref 16) rfl rfl rfl ?_)
      have k1750 : H 16 1 = 1 := (hW.2 16 _ (hW.1.2.2 0 (by decide))).2.2 1 (by decide) |> fun z => by have z1 : (1 : Int) ≤ H 16 1 ∧ H 16 1 ≤ 1 := z; omega
      refine wp_of e17 c17_10 (rw_getI (pc' := 13) (n := 2) (e := _) (lf_1_58).choose_spec.1 (lf_1_58).choose_spec.2.1 (hW.sh (hW.1.2.2 0 (by decide)) rfl) (by decide) rfl rfl ?_)
      rw [k1750]
      refine wp_of e17 c17_13 (rw_if_ne (p1 := 22) (p2 := 16) (by decide) rfl ⟨by omega, by omega⟩ (fun c1751 => ?_) (fun c1751 => ?_))
      · refine wp_of e17 c17_22 (rw_aload_n (pc' := 23) (v := .ref r1) rfl rfl rfl ?_)
        refine wp_of e17 c17_23 (rw_aload_n (pc' := 24) (v := .ref 16) rfl rfl rfl ?_)
        refine wp_of e17 c17_24 (xc_V (pc' := 27) (r := r1) (as := [.ref 16]) (st := []) (lm_1_63) rfl rfl (Nat.le_of_ble_eq_true rfl) hW g1 sh_27 (by decide) rfl (by decide) (u_21_16  hW g1) (fun R1752 T1753 H1754 p1755 => ?_))
        obtain ⟨e1756, e1758, z1759, e1757, b1760, p1761⟩ := p1755
        subst e1756
        subst e1757
        subst e1758
        rcases p1761 with ⟨a1762, a1763⟩ | ⟨a1764, a1765⟩
        · show wp _ _ 17 27 [(2, .ref 16), (0, .ref r0), (1, .ref r1)] [vI z1759] _ H _
          refine wp_of e17 c17_27 (rw_aload_n (pc' := 28) (v := .ref 16) rfl rfl rfl ?_)
          have k1766 : H 16 1 = 1 := (hW.2 16 _ (hW.1.2.2 0 (by decide))).2.2 1 (by decide) |> fun z => by have z1 : (1 : Int) ≤ H 16 1 ∧ H 16 1 ≤ 1 := z; omega
          refine wp_of e17 c17_28 (rw_getI (pc' := 31) (n := 2) (e := _) (lf_1_58).choose_spec.1 (lf_1_58).choose_spec.2.1 (hW.sh (hW.1.2.2 0 (by decide)) rfl) (by decide) rfl rfl ?_)
          rw [k1766]
          refine wp_of e17 c17_31 (rw_icmp_lt (p1 := 68) (p2 := 34) (by decide) rfl ⟨by omega, by omega⟩ ⟨by omega, by omega⟩ (fun c1767 => ?_) (fun c1767 => ?_))
          · exfalso
            omega
          · refine wp_of e17 c17_34 (rw_aload_n (pc' := 35) (v := .ref 16) rfl rfl rfl ?_)
            refine wp_of e17 c17_35 (rw_gs (pc' := 38) (k := 16) rfl rfl rfl rfl ?_)
            refine wp_of e17 c17_38 (rw_acmp_eq (p1 := 48) (p2 := 41) (a := some 16) (b := some 16) rfl rfl (by decide) rfl (fun q9 => ?_) (fun q9 => absurd q9 (by decide)))
            refine wp_of e17 c17_48 (rw_iconst (pc' := 49) rfl ?_)
            refine wp_of e17 c17_49 (rw_goto (p1 := 53) (by decide) ?_)
            refine wp_of e17 c17_53 (rw_istore_n (pc' := 54) (z := 1) (L' := [(3, vI 1), (2, .ref 16), (0, .ref r0), (1, .ref r1)]) rfl rfl rfl ?_)
            refine wp_of e17 c17_54 (rw_aload_n (pc' := 55) (v := .ref r0) rfl rfl rfl ?_)
            refine wp_of e17 c17_55 (rw_iload_n (pc' := 56) (z := 1) rfl rfl ?_)
            refine wp_of e17 c17_56 (rw_if_eq (p1 := 63) (p2 := 59) (by decide) rfl ⟨by omega, by omega⟩ (fun c1768 => ?_) (fun c1768 => ?_))
            · exfalso
              omega
            · refine wp_of e17 c17_59 (rw_iconst (pc' := 60) rfl ?_)
              refine wp_of e17 c17_60 (rw_goto (p1 := 64) (by decide) ?_)
              refine wp_of e17 c17_64 (xc_V (pc' := 67) (r := r0) (as := [vI 3]) (st := []) (lm_1_47) rfl rfl (Nat.le_of_ble_eq_true rfl) hW g0 sh_3 (by decide) rfl (by decide) (u_20  hW g0 ⟨by omega, by omega⟩ qtk gtk) (fun R1769 T1770 H1771 p1772 => ?_))
              obtain ⟨e1773, w1775, f1776, z1777, e1774, b1778, p1779⟩ := p1772
              subst e1773
              subst e1774
              obtain ⟨a1780, a1781, a1782⟩ := p1779
              have f1783 := f0.tr f1776 rfl
              show wp _ _ 17 67 [(3, vI 1), (2, .ref 16), (0, .ref r0), (1, .ref r1)] [vI z1777] _ H1771 _
              have o1784 : (xline B n q d) = (3, q, q) := by
                unfold xline xl0 xl1 xl2 xl3 xl4 xl5 xl6 xl7 xper
                repeat first | rw [xs_0 (by omega)] | rw [xs_1 (by omega)] | rw [if_pos (by omega)] | rw [if_neg (by omega)]
                first | done | rfl | assumption | (exfalso; omega) | (refine Prod.ext ?_ (Prod.ext ?_ ?_) <;> (try dsimp only) <;> omega)
              have o1784a : ((xline B n q d)).1 = 3 := by rw [o1784]
              have o1784b : ((xline B n q d)).2.1 = q := by rw [o1784]
              have o1784c : ((xline B n q d)).2.2 = q := by rw [o1784]
              exact wp_zreturn e17 c17_67 rfl (by omega) ⟨rfl, w1775, f1783, z1777, rfl, ⟨by omega, by omega⟩, (Or.inr ⟨by omega, by omega, by omega, by omega, by omega⟩)⟩
        · show wp _ _ 17 27 [(2, .ref 16), (0, .ref r0), (1, .ref r1)] [vI z1759] _ H _
          refine wp_of e17 c17_27 (rw_aload_n (pc' := 28) (v := .ref 16) rfl rfl rfl ?_)
          have k1785 : H 16 1 = 1 := (hW.2 16 _ (hW.1.2.2 0 (by decide))).2.2 1 (by decide) |> fun z => by have z1 : (1 : Int) ≤ H 16 1 ∧ H 16 1 ≤ 1 := z; omega
          refine wp_of e17 c17_28 (rw_getI (pc' := 31) (n := 2) (e := _) (lf_1_58).choose_spec.1 (lf_1_58).choose_spec.2.1 (hW.sh (hW.1.2.2 0 (by decide)) rfl) (by decide) rfl rfl ?_)
          rw [k1785]
          refine wp_of e17 c17_31 (rw_icmp_lt (p1 := 68) (p2 := 34) (by decide) rfl ⟨by omega, by omega⟩ ⟨by omega, by omega⟩ (fun c1786 => ?_) (fun c1786 => ?_))
          · refine wp_of e17 c17_68 (rw_aload_n (pc' := 69) (v := .ref r0) rfl rfl rfl ?_)
            refine wp_of e17 c17_69 (xg_K (pc' := 72) lf_1_12 hW g0 sh_3 (by decide) (by decide) rfl qtk rfl ?_)
            have h1787 : TP T H rb B := TC_tp hTC_tk qrb
            refine wp_of e17 c17_72 (xc_V (pc' := 75) (r := tk) (as := []) (st := []) (lm_1_74) rfl rfl (Nat.le_of_ble_eq_true rfl) hW gtk sh_4 (by decide) rfl (by decide) (u_16 (B := B) (n := n) (a := (xE B n q)) (q := (xN B n q)) hW gtk qrb grb (by omega) (by omega) (by omega) (rfl) h1787) (fun R1788 T1789 H1790 p1791 => ?_))
            obtain ⟨e1792, w1794, f1795, e1793, p1796⟩ := p1791
            subst e1792
            subst e1793
            have f1798 := f0.tr f1795 rfl
            show wp _ _ 17 75 [(2, .ref 16), (0, .ref r0), (1, .ref r1)] [] _ H1790 _
            have u1799 := TC_k p1796
            refine wp_of e17 c17_75 (rw_gs (pc' := 78) (k := 2) rfl rfl rfl rfl ?_)
            refine wp_of e17 c17_78 (rw_aload_n (pc' := 79) (v := .ref 16) rfl rfl rfl ?_)
            refine wp_of e17 c17_79 (rw_ord (pc' := 82) rfl rfl rfl (by decide) (Nat.le_of_ble_eq_true rfl) rfl ?_)
            show wp _ _ 17 82 [(2, .ref 16), (0, .ref r0), (1, .ref r1)] [vI 0, .ref 2] _ H1790 _
            have k1800 : H1790 2 (0 : Int).toNat = 1 := (w1794.2 2 _ w1794.1.2.1).2.2 0 (by decide) |> fun z => by have z1 : (1 : Int) ≤ H1790 2 0 ∧ H1790 2 0 ≤ 1 := z; exact Int.le_antisymm z1.2 z1.1
            refine wp_of e17 c17_82 (rw_iaload (pc' := 83) (n := 11) (w1794.sh w1794.1.2.1 rfl) (by decide) (by decide) (by decide) rfl rfl ?_)
            rw [k1800]
            refine wp_of e17 c17_83 (rw_tsw (p1 := 128) ⟨by omega, by omega⟩ (by decide) ?_)
            refine wp_of e17 c17_128 (rw_aload_n (pc' := 129) (v := .ref r0) rfl rfl rfl ?_)
            refine wp_of e17 c17_129 (rw_aload_n (pc' := 130) (v := .ref r1) rfl rfl rfl ?_)
            have k1802 : H1790 r0 0 = H r0 0 := (f1795 r0 0 _ g0 rfl)
            have q1803 : H1790 r0 0 = (tk : Int) := k1802.trans qtk
            have k1804 : H1790 tk 0 = H tk 0 := (f1795 tk 0 _ gtk rfl)
            have q1805 : H1790 tk 0 = (rb : Int) := k1804.trans qrb
            have k1806 : H1790 r0 3 = H r0 3 := (f1795 r0 3 _ g0 rfl)
            have h1807 : DC T H1790 r1 d := (DC_fr hW g1 f1795 rfl hDC_r1)
            refine wp_of e17 c17_130 (xc_V (pc' := 133) (r := r0) (as := [.ref r1]) (st := []) (lm_1_87) rfl rfl (Nat.le_of_ble_eq_true rfl) w1794 g0 sh_3 (by decide) rfl (by decide) (u_22 (B := B) (n := n) (q := ((xN B n q))) (d := d) w1794 g0 g1 q1803 gtk q1805 grb p1796 h1807) (fun R1808 T1809 H1810 p1811 => ?_))
            obtain ⟨e1812, w1814, f1815, z1816, e1813, b1817, p1818⟩ := p1811
            subst e1812
            subst e1813
            rcases p1818 with ⟨a1819, a1820, a1821, a1822, a1823, a1824, a1825⟩ | ⟨a1826, a1827, a1828, a1829, a1830⟩
            · have f1831 := f1798.tr f1815 rfl
              show wp _ _ 17 133 [(2, .ref 16), (0, .ref r0), (1, .ref r1)] [vI z1816] _ H1810 _
              have u1832 := TC_k a1824
              have u1833 := DC_k a1825
              have o1834 : (xline B n q d) = (0, ((xN B n q)), (xN B n (xN B n (xN B n (xN B n (xN B n (xN B n ((xN B n q))))))))) := by
                unfold xline xl0 xl1 xl2 xl3 xl4 xl5 xl6 xl7 xper
                repeat first | rw [xs_0 (by omega)] | rw [xs_1 (by omega)] | rw [if_pos (by omega)] | rw [if_neg (by omega)]
                first | done | rfl | assumption | (exfalso; omega) | (refine Prod.ext ?_ (Prod.ext ?_ ?_) <;> (try dsimp only) <;> omega)
              have o1834a : ((xline B n q d)).1 = 0 := by rw [o1834]
              have o1834b : ((xline B n q d)).2.1 = ((xN B n q)) := by rw [o1834]
              have o1834c : ((xline B n q d)).2.2 = (xN B n (xN B n (xN B n (xN B n (xN B n (xN B n ((xN B n q)))))))) := by rw [o1834]
              have o1835 : xdline B n q d = ((xdlaw B n ((xN B n q)) d)) := by
                unfold xdline
                repeat first | rw [xs_0 (by omega)] | rw [xs_1 (by omega)] | rw [if_pos (by omega)] | rw [if_neg (by omega)]
                first | done | rfl
              exact wp_zreturn e17 c17_133 rfl (by omega) ⟨rfl, w1814, f1831, z1816, rfl, ⟨by omega, by omega⟩, (Or.inl ⟨by omega, by omega, by omega, by omega, by rw [o1834]; exact a1824, by rw [o1835]; exact a1825⟩)⟩
            · have f1836 := f1798.tr f1815 rfl
              show wp _ _ 17 133 [(2, .ref 16), (0, .ref r0), (1, .ref r1)] [vI z1816] _ H1810 _
              have o1837 : (xline B n q d) = ((xlaw B n ((xN B n q))).1, (xlaw B n ((xN B n q))).2.1, (xlaw B n ((xN B n q))).2.2) := by
                unfold xline xl0 xl1 xl2 xl3 xl4 xl5 xl6 xl7 xper
                repeat first | rw [xs_0 (by omega)] | rw [xs_1 (by omega)] | rw [if_pos (by omega)] | rw [if_neg (by omega)]
                first | done | rfl | assumption | (exfalso; omega) | (refine Prod.ext ?_ (Prod.ext ?_ ?_) <;> (try dsimp only) <;> omega)
              have o1837a : ((xline B n q d)).1 = (xlaw B n ((xN B n q))).1 := by rw [o1837]
              have o1837b : ((xline B n q d)).2.1 = (xlaw B n ((xN B n q))).2.1 := by rw [o1837]
              have o1837c : ((xline B n q d)).2.2 = (xlaw B n ((xN B n q))).2.2 := by rw [o1837]
              exact wp_zreturn e17 c17_133 rfl (by omega) ⟨rfl, w1814, f1836, z1816, rfl, ⟨by omega, by omega⟩, (Or.inr ⟨by omega, by omega, by omega, by omega, by omega⟩)⟩
          · exfalso
            omega
      · exfalso
        omega
    · subst c1749
      show wp _ _ 17 4 [(0, .ref r0), (1, .ref r1)] [.ref 17] _ H _
      refine wp_of e17 c17_4 (rw_astore_n (pc' := 5) (v := .ref 17) (L' := [(2, .ref 17), (0, .ref r0), (1, .ref r1)]) rfl rfl rfl rfl ?_)
      refine wp_of e17 c17_5 (rw_aload_n (pc' := 6) (v := .ref 17) rfl rfl rfl ?_)
      refine wp_of e17 c17_6 (rw_ifnull_r (p1 := 16) (p2 := 9) (by decide) rfl ?_)
      refine wp_of e17 c17_9 (rw_aload_n (pc' := 10) (v := .ref 17) rfl rfl rfl ?_)
      have k1838 : H 17 1 = 6 := (hW.2 17 _ (hW.1.2.2 1 (by decide))).2.2 1 (by decide) |> fun z => by have z1 : (6 : Int) ≤ H 17 1 ∧ H 17 1 ≤ 6 := z; omega
      refine wp_of e17 c17_10 (rw_getI (pc' := 13) (n := 2) (e := _) (lf_1_58).choose_spec.1 (lf_1_58).choose_spec.2.1 (hW.sh (hW.1.2.2 1 (by decide)) rfl) (by decide) rfl rfl ?_)
      rw [k1838]
      refine wp_of e17 c17_13 (rw_if_ne (p1 := 22) (p2 := 16) (by decide) rfl ⟨by omega, by omega⟩ (fun c1839 => ?_) (fun c1839 => ?_))
      · refine wp_of e17 c17_22 (rw_aload_n (pc' := 23) (v := .ref r1) rfl rfl rfl ?_)
        refine wp_of e17 c17_23 (rw_aload_n (pc' := 24) (v := .ref 17) rfl rfl rfl ?_)
        refine wp_of e17 c17_24 (xc_V (pc' := 27) (r := r1) (as := [.ref 17]) (st := []) (lm_1_63) rfl rfl (Nat.le_of_ble_eq_true rfl) hW g1 sh_27 (by decide) rfl (by decide) (u_21_17  hW g1) (fun R1840 T1841 H1842 p1843 => ?_))
        obtain ⟨e1844, e1846, z1847, e1845, b1848, p1849⟩ := p1843
        subst e1844
        subst e1845
        subst e1846
        obtain ⟨a1850, a1851⟩ := p1849
        show wp _ _ 17 27 [(2, .ref 17), (0, .ref r0), (1, .ref r1)] [vI z1847] _ H _
        refine wp_of e17 c17_27 (rw_aload_n (pc' := 28) (v := .ref 17) rfl rfl rfl ?_)
        have k1852 : H 17 1 = 6 := (hW.2 17 _ (hW.1.2.2 1 (by decide))).2.2 1 (by decide) |> fun z => by have z1 : (6 : Int) ≤ H 17 1 ∧ H 17 1 ≤ 6 := z; omega
        refine wp_of e17 c17_28 (rw_getI (pc' := 31) (n := 2) (e := _) (lf_1_58).choose_spec.1 (lf_1_58).choose_spec.2.1 (hW.sh (hW.1.2.2 1 (by decide)) rfl) (by decide) rfl rfl ?_)
        rw [k1852]
        refine wp_of e17 c17_31 (rw_icmp_lt (p1 := 68) (p2 := 34) (by decide) rfl ⟨by omega, by omega⟩ ⟨by omega, by omega⟩ (fun c1853 => ?_) (fun c1853 => ?_))
        · refine wp_of e17 c17_68 (rw_aload_n (pc' := 69) (v := .ref r0) rfl rfl rfl ?_)
          refine wp_of e17 c17_69 (xg_K (pc' := 72) lf_1_12 hW g0 sh_3 (by decide) (by decide) rfl qtk rfl ?_)
          have h1854 : TP T H rb B := TC_tp hTC_tk qrb
          refine wp_of e17 c17_72 (xc_V (pc' := 75) (r := tk) (as := []) (st := []) (lm_1_74) rfl rfl (Nat.le_of_ble_eq_true rfl) hW gtk sh_4 (by decide) rfl (by decide) (u_16 (B := B) (n := n) (a := (xE B n q)) (q := (xN B n q)) hW gtk qrb grb (by omega) (by omega) (by omega) (rfl) h1854) (fun R1855 T1856 H1857 p1858 => ?_))
          obtain ⟨e1859, w1861, f1862, e1860, p1863⟩ := p1858
          subst e1859
          subst e1860
          have f1865 := f0.tr f1862 rfl
          show wp _ _ 17 75 [(2, .ref 17), (0, .ref r0), (1, .ref r1)] [] _ H1857 _
          have u1866 := TC_k p1863
          refine wp_of e17 c17_75 (rw_gs (pc' := 78) (k := 2) rfl rfl rfl rfl ?_)
          refine wp_of e17 c17_78 (rw_aload_n (pc' := 79) (v := .ref 17) rfl rfl rfl ?_)
          refine wp_of e17 c17_79 (rw_ord (pc' := 82) rfl rfl rfl (by decide) (Nat.le_of_ble_eq_true rfl) rfl ?_)
          show wp _ _ 17 82 [(2, .ref 17), (0, .ref r0), (1, .ref r1)] [vI 1, .ref 2] _ H1857 _
          have k1867 : H1857 2 (1 : Int).toNat = 2 := (w1861.2 2 _ w1861.1.2.1).2.2 1 (by decide) |> fun z => by have z1 : (2 : Int) ≤ H1857 2 1 ∧ H1857 2 1 ≤ 2 := z; exact Int.le_antisymm z1.2 z1.1
          refine wp_of e17 c17_82 (rw_iaload (pc' := 83) (n := 11) (w1861.sh w1861.1.2.1 rfl) (by decide) (by decide) (by decide) rfl rfl ?_)
          rw [k1867]
          refine wp_of e17 c17_83 (rw_tsw (p1 := 134) ⟨by omega, by omega⟩ (by decide) ?_)
          refine wp_of e17 c17_134 (rw_aload_n (pc' := 135) (v := .ref r0) rfl rfl rfl ?_)
          refine wp_of e17 c17_135 (rw_aload_n (pc' := 136) (v := .ref r1) rfl rfl rfl ?_)
          have k1869 : H1857 r0 0 = H r0 0 := (f1862 r0 0 _ g0 rfl)
          have q1870 : H1857 r0 0 = (tk : Int) := k1869.trans qtk
          have k1871 : H1857 tk 0 = H tk 0 := (f1862 tk 0 _ gtk rfl)
          have q1872 : H1857 tk 0 = (rb : Int) := k1871.trans qrb
          have k1873 : H1857 r0 3 = H r0 3 := (f1862 r0 3 _ g0 rfl)
          have h1874 : DC T H1857 r1 d := (DC_fr hW g1 f1862 rfl hDC_r1)
          have h1875 : DD T H1857 r1  := (DD_fr hW g1 f1862 rfl hDD_r1)
          refine wp_of e17 c17_136 (xc_V (pc' := 139) (r := r0) (as := [.ref r1]) (st := []) (lm_1_90) rfl rfl (Nat.le_of_ble_eq_true rfl) w1861 g0 sh_3 (by decide) rfl (by decide) (u_25 (B := B) (n := n) (q := ((xN B n q))) (d := d) w1861 g0 g1 q1870 gtk q1872 grb (by omega) p1863 h1874 h1875) (fun R1876 T1877 H1878 p1879 => ?_))
          obtain ⟨e1880, w1882, f1883, z1884, e1881, b1885, p1886⟩ := p1879
          subst e1880
          subst e1881
          rcases p1886 with ⟨a1887, a1888, a1889, a1890, a1891, a1892, a1893, a1894⟩ | ⟨a1895, a1896, a1897, a1898, a1899⟩
          · have f1900 := f1865.tr f1883 rfl
            show wp _ _ 17 139 [(2, .ref 17), (0, .ref r0), (1, .ref r1)] [vI z1884] _ H1878 _
            have u1901 := TC_k a1892
            have u1902 := DC_k a1893
            refine wp_of e17 c17_139 (rw_if_eq (p1 := 154) (p2 := 142) (by decide) rfl ⟨by omega, by omega⟩ (fun c1903 => ?_) (fun c1903 => ?_))
            · exfalso
              omega
            · refine wp_of e17 c17_142 (rw_aload_n (pc' := 143) (v := .ref r0) rfl rfl rfl ?_)
              refine wp_of e17 c17_143 (rw_aload_n (pc' := 144) (v := .ref r1) rfl rfl rfl ?_)
              have k1904 : H1878 r0 0 = H1857 r0 0 := (f1883 r0 0 _ g0 rfl)
              have q1905 : H1878 r0 0 = (tk : Int) := k1904.trans q1870
              have k1906 : H1878 tk 0 = H1857 tk 0 := (f1883 tk 0 _ gtk rfl)
              have q1907 : H1878 tk 0 = (rb : Int) := k1906.trans q1872
              have h1908 : DD T H1878 r1  := (DD_fr w1861 g1 f1883 rfl h1875)
              refine wp_of e17 c17_144 (xc_V (pc' := 147) (r := r0) (as := [.ref r1]) (st := []) (lm_1_93) rfl rfl (Nat.le_of_ble_eq_true rfl) w1882 g0 sh_3 (by decide) rfl (by decide) (u_30 (B := B) (n := n) (q := ((xN B n (xN B n (xN B n (xN B n (xN B n (xN B n (xN B n (xN B n (xN B n ((xN B n q))))))))))))) (d := d) (y := ((xN B n q))) w1882 g0 g1 q1905 gtk q1907 grb (by omega) (by omega) a1892 a1893 h1908 a1894) (fun R1909 T1910 H1911 p1912 => ?_))
              obtain ⟨e1913, w1915, f1916, z1917, e1914, b1918, p1919⟩ := p1912
              subst e1913
              subst e1914
              rcases p1919 with ⟨a1920, a1921, a1922, a1923, a1924, a1925⟩ | ⟨a1926, a1927, a1928, a1929, a1930⟩
              · have f1931 := f1900.tr f1916 rfl
                show wp _ _ 17 147 [(2, .ref 17), (0, .ref r0), (1, .ref r1)] [vI z1917] _ H1911 _
                have u1932 := TC_k a1924
                have u1933 := DC_k a1925
                refine wp_of e17 c17_147 (rw_if_eq (p1 := 154) (p2 := 150) (by decide) rfl ⟨by omega, by omega⟩ (fun c1934 => ?_) (fun c1934 => ?_))
                · exfalso
                  omega
                · refine wp_of e17 c17_150 (rw_iconst (pc' := 151) rfl ?_)
                  refine wp_of e17 c17_151 (rw_goto (p1 := 155) (by decide) ?_)
                  have o1935 : (xline B n q d) = ((xcs B n ((xN B n (xN B n (xN B n (xN B n (xN B n (xN B n (xN B n (xN B n (xN B n ((xN B n q))))))))))))).1, (xcs B n ((xN B n (xN B n (xN B n (xN B n (xN B n (xN B n (xN B n (xN B n (xN B n ((xN B n q))))))))))))).2.1, (xcs B n ((xN B n (xN B n (xN B n (xN B n (xN B n (xN B n (xN B n (xN B n (xN B n ((xN B n q))))))))))))).2.2) := by
                    unfold xline xl0 xl1 xl2 xl3 xl4 xl5 xl6 xl7 xper
                    repeat first | rw [xs_0 (by omega)] | rw [xs_1 (by omega)] | rw [if_pos (by omega)] | rw [if_neg (by omega)]
                    first | done | rfl | assumption | (exfalso; omega) | (refine Prod.ext ?_ (Prod.ext ?_ ?_) <;> (try dsimp only) <;> omega)
                  have o1935a : ((xline B n q d)).1 = (xcs B n ((xN B n (xN B n (xN B n (xN B n (xN B n (xN B n (xN B n (xN B n (xN B n ((xN B n q))))))))))))).1 := by rw [o1935]
                  have o1935b : ((xline B n q d)).2.1 = (xcs B n ((xN B n (xN B n (xN B n (xN B n (xN B n (xN B n (xN B n (xN B n (xN B n ((xN B n q))))))))))))).2.1 := by rw [o1935]
                  have o1935c : ((xline B n q d)).2.2 = (xcs B n ((xN B n (xN B n (xN B n (xN B n (xN B n (xN B n (xN B n (xN B n (xN B n ((xN B n q))))))))))))).2.2 := by rw [o1935]
                  have o1936 : xdline B n q d = (xdper B n ((xN B n q)) d) := by
                    unfold xdline
                    repeat first | rw [xs_0 (by omega)] | rw [xs_1 (by omega)] | rw [if_pos (by omega)] | rw [if_neg (by omega)]
                    first | done | rfl
                  exact wp_zreturn e17 c17_155 rfl (by omega) ⟨rfl, w1915, f1931, 1, rfl, ⟨by omega, by omega⟩, (Or.inl ⟨by omega, by omega, by omega, by omega, by rw [o1935]; exact a1924, by rw [o1936]; exact a1925⟩)⟩
              · have f1937 := f1900.tr f1916 rfl
                show wp _ _ 17 147 [(2, .ref 17), (0, .ref r0), (1, .ref r1)] [vI z1917] _ H1911 _
                refine wp_of e17 c17_147 (rw_if_eq (p1 := 154) (p2 := 150) (by decide) rfl ⟨by omega, by omega⟩ (fun c1938 => ?_) (fun c1938 => ?_))
                · refine wp_of e17 c17_154 (rw_iconst (pc' := 155) rfl ?_)
                  have o1939 : (xline B n q d) = ((xcs B n ((xN B n (xN B n (xN B n (xN B n (xN B n (xN B n (xN B n (xN B n (xN B n ((xN B n q))))))))))))).1, (xcs B n ((xN B n (xN B n (xN B n (xN B n (xN B n (xN B n (xN B n (xN B n (xN B n ((xN B n q))))))))))))).2.1, (xcs B n ((xN B n (xN B n (xN B n (xN B n (xN B n (xN B n (xN B n (xN B n (xN B n ((xN B n q))))))))))))).2.2) := by
                    unfold xline xl0 xl1 xl2 xl3 xl4 xl5 xl6 xl7 xper
                    repeat first | rw [xs_0 (by omega)] | rw [xs_1 (by omega)] | rw [if_pos (by omega)] | rw [if_neg (by omega)]
                    first | done | rfl | assumption | (exfalso; omega) | (refine Prod.ext ?_ (Prod.ext ?_ ?_) <;> (try dsimp only) <;> omega)
                  have o1939a : ((xline B n q d)).1 = (xcs B n ((xN B n (xN B n (xN B n (xN B n (xN B n (xN B n (xN B n (xN B n (xN B n ((xN B n q))))))))))))).1 := by rw [o1939]
                  have o1939b : ((xline B n q d)).2.1 = (xcs B n ((xN B n (xN B n (xN B n (xN B n (xN B n (xN B n (xN B n (xN B n (xN B n ((xN B n q))))))))))))).2.1 := by rw [o1939]
                  have o1939c : ((xline B n q d)).2.2 = (xcs B n ((xN B n (xN B n (xN B n (xN B n (xN B n (xN B n (xN B n (xN B n (xN B n ((xN B n q))))))))))))).2.2 := by rw [o1939]
                  exact wp_zreturn e17 c17_155 rfl (by omega) ⟨rfl, w1915, f1937, 0, rfl, ⟨by omega, by omega⟩, (Or.inr ⟨by omega, by omega, by omega, by omega, by omega⟩)⟩
                · exfalso
                  omega
          · have f1940 := f1865.tr f1883 rfl
            show wp _ _ 17 139 [(2, .ref 17), (0, .ref r0), (1, .ref r1)] [vI z1884] _ H1878 _
            refine wp_of e17 c17_139 (rw_if_eq (p1 := 154) (p2 := 142) (by decide) rfl ⟨by omega, by omega⟩ (fun c1941 => ?_) (fun c1941 => ?_))
            · refine wp_of e17 c17_154 (rw_iconst (pc' := 155) rfl ?_)
              have o1942 : (xline B n q d) = ((xbd B n ((xN B n q)) d).1, (xbd B n ((xN B n q)) d).2.1, (xbd B n ((xN B n q)) d).2.2) := by
                unfold xline xl0 xl1 xl2 xl3 xl4 xl5 xl6 xl7 xper
                repeat first | rw [xs_0 (by omega)] | rw [xs_1 (by omega)] | rw [if_pos (by omega)] | rw [if_neg (by omega)]
                first | done | rfl | assumption | (exfalso; omega) | (refine Prod.ext ?_ (Prod.ext ?_ ?_) <;> (try dsimp only) <;> omega)
              have o1942a : ((xline B n q d)).1 = (xbd B n ((xN B n q)) d).1 := by rw [o1942]
              have o1942b : ((xline B n q d)).2.1 = (xbd B n ((xN B n q)) d).2.1 := by rw [o1942]
              have o1942c : ((xline B n q d)).2.2 = (xbd B n ((xN B n q)) d).2.2 := by rw [o1942]
              exact wp_zreturn e17 c17_155 rfl (by omega) ⟨rfl, w1882, f1940, 0, rfl, ⟨by omega, by omega⟩, (Or.inr ⟨by omega, by omega, by omega, by omega, by omega⟩)⟩
            · exfalso
              omega
        · refine wp_of e17 c17_34 (rw_aload_n (pc' := 35) (v := .ref 17) rfl rfl rfl ?_)
          refine wp_of e17 c17_35 (rw_gs (pc' := 38) (k := 16) rfl rfl rfl rfl ?_)
          refine wp_of e17 c17_38 (rw_acmp_eq (p1 := 48) (p2 := 41) (a := some 17) (b := some 16) rfl rfl (by decide) rfl (fun q9 => absurd q9 (by decide)) (fun q9 => ?_))
          refine wp_of e17 c17_41 (rw_aload_n (pc' := 42) (v := .ref 17) rfl rfl rfl ?_)
          refine wp_of e17 c17_42 (rw_gs (pc' := 45) (k := 18) rfl rfl rfl rfl ?_)
          refine wp_of e17 c17_45 (rw_acmp_ne (p1 := 52) (p2 := 48) (a := some 17) (b := some 18) rfl rfl (by decide) rfl (fun q9 => ?_) (fun q9 => absurd q9 (by decide)))
          refine wp_of e17 c17_52 (rw_iconst (pc' := 53) rfl ?_)
          refine wp_of e17 c17_53 (rw_istore_n (pc' := 54) (z := 0) (L' := [(3, vI 0), (2, .ref 17), (0, .ref r0), (1, .ref r1)]) rfl rfl rfl ?_)
          refine wp_of e17 c17_54 (rw_aload_n (pc' := 55) (v := .ref r0) rfl rfl rfl ?_)
          refine wp_of e17 c17_55 (rw_iload_n (pc' := 56) (z := 0) rfl rfl ?_)
          refine wp_of e17 c17_56 (rw_if_eq (p1 := 63) (p2 := 59) (by decide) rfl ⟨by omega, by omega⟩ (fun c1943 => ?_) (fun c1943 => ?_))
          · refine wp_of e17 c17_63 (rw_iconst (pc' := 64) rfl ?_)
            refine wp_of e17 c17_64 (xc_V (pc' := 67) (r := r0) (as := [vI 5]) (st := []) (lm_1_47) rfl rfl (Nat.le_of_ble_eq_true rfl) hW g0 sh_3 (by decide) rfl (by decide) (u_20  hW g0 ⟨by omega, by omega⟩ qtk gtk) (fun R1944 T1945 H1946 p1947 => ?_))
            obtain ⟨e1948, w1950, f1951, z1952, e1949, b1953, p1954⟩ := p1947
            subst e1948
            subst e1949
            obtain ⟨a1955, a1956, a1957⟩ := p1954
            have f1958 := f0.tr f1951 rfl
            show wp _ _ 17 67 [(3, vI 0), (2, .ref 17), (0, .ref r0), (1, .ref r1)] [vI z1952] _ H1946 _
            have o1959 : (xline B n q d) = (5, q, q) := by
              unfold xline xl0 xl1 xl2 xl3 xl4 xl5 xl6 xl7 xper
              repeat first | rw [xs_0 (by omega)] | rw [xs_1 (by omega)] | rw [if_pos (by omega)] | rw [if_neg (by omega)]
              first | done | rfl | assumption | (exfalso; omega) | (refine Prod.ext ?_ (Prod.ext ?_ ?_) <;> (try dsimp only) <;> omega)
            have o1959a : ((xline B n q d)).1 = 5 := by rw [o1959]
            have o1959b : ((xline B n q d)).2.1 = q := by rw [o1959]
            have o1959c : ((xline B n q d)).2.2 = q := by rw [o1959]
            exact wp_zreturn e17 c17_67 rfl (by omega) ⟨rfl, w1950, f1958, z1952, rfl, ⟨by omega, by omega⟩, (Or.inr ⟨by omega, by omega, by omega, by omega, by omega⟩)⟩
          · exfalso
            omega
      · exfalso
        omega
    · subst c1749
      show wp _ _ 17 4 [(0, .ref r0), (1, .ref r1)] [.ref 18] _ H _
      refine wp_of e17 c17_4 (rw_astore_n (pc' := 5) (v := .ref 18) (L' := [(2, .ref 18), (0, .ref r0), (1, .ref r1)]) rfl rfl rfl rfl ?_)
      refine wp_of e17 c17_5 (rw_aload_n (pc' := 6) (v := .ref 18) rfl rfl rfl ?_)
      refine wp_of e17 c17_6 (rw_ifnull_r (p1 := 16) (p2 := 9) (by decide) rfl ?_)
      refine wp_of e17 c17_9 (rw_aload_n (pc' := 10) (v := .ref 18) rfl rfl rfl ?_)
      have k1960 : H 18 1 = 1 := (hW.2 18 _ (hW.1.2.2 2 (by decide))).2.2 1 (by decide) |> fun z => by have z1 : (1 : Int) ≤ H 18 1 ∧ H 18 1 ≤ 1 := z; omega
      refine wp_of e17 c17_10 (rw_getI (pc' := 13) (n := 2) (e := _) (lf_1_58).choose_spec.1 (lf_1_58).choose_spec.2.1 (hW.sh (hW.1.2.2 2 (by decide)) rfl) (by decide) rfl rfl ?_)
      rw [k1960]
      refine wp_of e17 c17_13 (rw_if_ne (p1 := 22) (p2 := 16) (by decide) rfl ⟨by omega, by omega⟩ (fun c1961 => ?_) (fun c1961 => ?_))
      · refine wp_of e17 c17_22 (rw_aload_n (pc' := 23) (v := .ref r1) rfl rfl rfl ?_)
        refine wp_of e17 c17_23 (rw_aload_n (pc' := 24) (v := .ref 18) rfl rfl rfl ?_)
        refine wp_of e17 c17_24 (xc_V (pc' := 27) (r := r1) (as := [.ref 18]) (st := []) (lm_1_63) rfl rfl (Nat.le_of_ble_eq_true rfl) hW g1 sh_27 (by decide) rfl (by decide) (u_21_18  hW g1) (fun R1962 T1963 H1964 p1965 => ?_))
        obtain ⟨e1966, e1968, z1969, e1967, b1970, p1971⟩ := p1965
        subst e1966
        subst e1967
        subst e1968
        rcases p1971 with ⟨a1972, a1973⟩ | ⟨a1974, a1975⟩
        · show wp _ _ 17 27 [(2, .ref 18), (0, .ref r0), (1, .ref r1)] [vI z1969] _ H _
          refine wp_of e17 c17_27 (rw_aload_n (pc' := 28) (v := .ref 18) rfl rfl rfl ?_)
          have k1976 : H 18 1 = 1 := (hW.2 18 _ (hW.1.2.2 2 (by decide))).2.2 1 (by decide) |> fun z => by have z1 : (1 : Int) ≤ H 18 1 ∧ H 18 1 ≤ 1 := z; omega
          refine wp_of e17 c17_28 (rw_getI (pc' := 31) (n := 2) (e := _) (lf_1_58).choose_spec.1 (lf_1_58).choose_spec.2.1 (hW.sh (hW.1.2.2 2 (by decide)) rfl) (by decide) rfl rfl ?_)
          rw [k1976]
          refine wp_of e17 c17_31 (rw_icmp_lt (p1 := 68) (p2 := 34) (by decide) rfl ⟨by omega, by omega⟩ ⟨by omega, by omega⟩ (fun c1977 => ?_) (fun c1977 => ?_))
          · exfalso
            omega
          · refine wp_of e17 c17_34 (rw_aload_n (pc' := 35) (v := .ref 18) rfl rfl rfl ?_)
            refine wp_of e17 c17_35 (rw_gs (pc' := 38) (k := 16) rfl rfl rfl rfl ?_)
            refine wp_of e17 c17_38 (rw_acmp_eq (p1 := 48) (p2 := 41) (a := some 18) (b := some 16) rfl rfl (by decide) rfl (fun q9 => absurd q9 (by decide)) (fun q9 => ?_))
            refine wp_of e17 c17_41 (rw_aload_n (pc' := 42) (v := .ref 18) rfl rfl rfl ?_)
            refine wp_of e17 c17_42 (rw_gs (pc' := 45) (k := 18) rfl rfl rfl rfl ?_)
            refine wp_of e17 c17_45 (rw_acmp_ne (p1 := 52) (p2 := 48) (a := some 18) (b := some 18) rfl rfl (by decide) rfl (fun q9 => absurd q9 (by decide)) (fun q9 => ?_))
            refine wp_of e17 c17_48 (rw_iconst (pc' := 49) rfl ?_)
            refine wp_of e17 c17_49 (rw_goto (p1 := 53) (by decide) ?_)
            refine wp_of e17 c17_53 (rw_istore_n (pc' := 54) (z := 1) (L' := [(3, vI 1), (2, .ref 18), (0, .ref r0), (1, .ref r1)]) rfl rfl rfl ?_)
            refine wp_of e17 c17_54 (rw_aload_n (pc' := 55) (v := .ref r0) rfl rfl rfl ?_)
            refine wp_of e17 c17_55 (rw_iload_n (pc' := 56) (z := 1) rfl rfl ?_)
            refine wp_of e17 c17_56 (rw_if_eq (p1 := 63) (p2 := 59) (by decide) rfl ⟨by omega, by omega⟩ (fun c1978 => ?_) (fun c1978 => ?_))
            · exfalso
              omega
            · refine wp_of e17 c17_59 (rw_iconst (pc' := 60) rfl ?_)
              refine wp_of e17 c17_60 (rw_goto (p1 := 64) (by decide) ?_)
              refine wp_of e17 c17_64 (xc_V (pc' := 67) (r := r0) (as := [vI 3]) (st := []) (lm_1_47) rfl rfl (Nat.le_of_ble_eq_true rfl) hW g0 sh_3 (by decide) rfl (by decide) (u_20  hW g0 ⟨by omega, by omega⟩ qtk gtk) (fun R1979 T1980 H1981 p1982 => ?_))
              obtain ⟨e1983, w1985, f1986, z1987, e1984, b1988, p1989⟩ := p1982
              subst e1983
              subst e1984
              obtain ⟨a1990, a1991, a1992⟩ := p1989
              have f1993 := f0.tr f1986 rfl
              show wp _ _ 17 67 [(3, vI 1), (2, .ref 18), (0, .ref r0), (1, .ref r1)] [vI z1987] _ H1981 _
              have o1994 : (xline B n q d) = (3, q, q) := by
                unfold xline xl0 xl1 xl2 xl3 xl4 xl5 xl6 xl7 xper
                repeat first | rw [xs_0 (by omega)] | rw [xs_1 (by omega)] | rw [if_pos (by omega)] | rw [if_neg (by omega)]
                first | done | rfl | assumption | (exfalso; omega) | (refine Prod.ext ?_ (Prod.ext ?_ ?_) <;> (try dsimp only) <;> omega)
              have o1994a : ((xline B n q d)).1 = 3 := by rw [o1994]
              have o1994b : ((xline B n q d)).2.1 = q := by rw [o1994]
              have o1994c : ((xline B n q d)).2.2 = q := by rw [o1994]
              exact wp_zreturn e17 c17_67 rfl (by omega) ⟨rfl, w1985, f1993, z1987, rfl, ⟨by omega, by omega⟩, (Or.inr ⟨by omega, by omega, by omega, by omega, by omega⟩)⟩
        · show wp _ _ 17 27 [(2, .ref 18), (0, .ref r0), (1, .ref r1)] [vI z1969] _ H _
          refine wp_of e17 c17_27 (rw_aload_n (pc' := 28) (v := .ref 18) rfl rfl rfl ?_)
          have k1995 : H 18 1 = 1 := (hW.2 18 _ (hW.1.2.2 2 (by decide))).2.2 1 (by decide) |> fun z => by have z1 : (1 : Int) ≤ H 18 1 ∧ H 18 1 ≤ 1 := z; omega
          refine wp_of e17 c17_28 (rw_getI (pc' := 31) (n := 2) (e := _) (lf_1_58).choose_spec.1 (lf_1_58).choose_spec.2.1 (hW.sh (hW.1.2.2 2 (by decide)) rfl) (by decide) rfl rfl ?_)
          rw [k1995]
          refine wp_of e17 c17_31 (rw_icmp_lt (p1 := 68) (p2 := 34) (by decide) rfl ⟨by omega, by omega⟩ ⟨by omega, by omega⟩ (fun c1996 => ?_) (fun c1996 => ?_))
          · refine wp_of e17 c17_68 (rw_aload_n (pc' := 69) (v := .ref r0) rfl rfl rfl ?_)
            refine wp_of e17 c17_69 (xg_K (pc' := 72) lf_1_12 hW g0 sh_3 (by decide) (by decide) rfl qtk rfl ?_)
            have h1997 : TP T H rb B := TC_tp hTC_tk qrb
            refine wp_of e17 c17_72 (xc_V (pc' := 75) (r := tk) (as := []) (st := []) (lm_1_74) rfl rfl (Nat.le_of_ble_eq_true rfl) hW gtk sh_4 (by decide) rfl (by decide) (u_16 (B := B) (n := n) (a := (xE B n q)) (q := (xN B n q)) hW gtk qrb grb (by omega) (by omega) (by omega) (rfl) h1997) (fun R1998 T1999 H2000 p2001 => ?_))
            obtain ⟨e2002, w2004, f2005, e2003, p2006⟩ := p2001
            subst e2002
            subst e2003
            have f2008 := f0.tr f2005 rfl
            show wp _ _ 17 75 [(2, .ref 18), (0, .ref r0), (1, .ref r1)] [] _ H2000 _
            have u2009 := TC_k p2006
            refine wp_of e17 c17_75 (rw_gs (pc' := 78) (k := 2) rfl rfl rfl rfl ?_)
            refine wp_of e17 c17_78 (rw_aload_n (pc' := 79) (v := .ref 18) rfl rfl rfl ?_)
            refine wp_of e17 c17_79 (rw_ord (pc' := 82) rfl rfl rfl (by decide) (Nat.le_of_ble_eq_true rfl) rfl ?_)
            show wp _ _ 17 82 [(2, .ref 18), (0, .ref r0), (1, .ref r1)] [vI 2, .ref 2] _ H2000 _
            have k2010 : H2000 2 (2 : Int).toNat = 3 := (w2004.2 2 _ w2004.1.2.1).2.2 2 (by decide) |> fun z => by have z1 : (3 : Int) ≤ H2000 2 2 ∧ H2000 2 2 ≤ 3 := z; exact Int.le_antisymm z1.2 z1.1
            refine wp_of e17 c17_82 (rw_iaload (pc' := 83) (n := 11) (w2004.sh w2004.1.2.1 rfl) (by decide) (by decide) (by decide) rfl rfl ?_)
            rw [k2010]
            refine wp_of e17 c17_83 (rw_tsw (p1 := 156) ⟨by omega, by omega⟩ (by decide) ?_)
            refine wp_of e17 c17_156 (rw_aload_n (pc' := 157) (v := .ref r0) rfl rfl rfl ?_)
            refine wp_of e17 c17_157 (rw_aload_n (pc' := 158) (v := .ref r1) rfl rfl rfl ?_)
            have k2012 : H2000 r0 0 = H r0 0 := (f2005 r0 0 _ g0 rfl)
            have q2013 : H2000 r0 0 = (tk : Int) := k2012.trans qtk
            have k2014 : H2000 tk 0 = H tk 0 := (f2005 tk 0 _ gtk rfl)
            have q2015 : H2000 tk 0 = (rb : Int) := k2014.trans qrb
            have k2016 : H2000 r0 3 = H r0 3 := (f2005 r0 3 _ g0 rfl)
            have h2017 : DC T H2000 r1 d := (DC_fr hW g1 f2005 rfl hDC_r1)
            refine wp_of e17 c17_158 (xc_V (pc' := 161) (r := r0) (as := [.ref r1]) (st := []) (lm_1_96) rfl rfl (Nat.le_of_ble_eq_true rfl) w2004 g0 sh_3 (by decide) rfl (by decide) (u_32 (B := B) (n := n) (q := ((xN B n q))) (d := d) w2004 g0 g1 q2013 gtk q2015 grb p2006 h2017) (fun R2018 T2019 H2020 p2021 => ?_))
            obtain ⟨e2022, w2024, f2025, z2026, e2023, b2027, p2028⟩ := p2021
            subst e2022
            subst e2023
            rcases p2028 with ⟨a2029, a2030, a2031, a2032, a2033, a2034, a2035⟩ | ⟨a2036, a2037, a2038, a2039, a2040⟩
            · have f2041 := f2008.tr f2025 rfl
              show wp _ _ 17 161 [(2, .ref 18), (0, .ref r0), (1, .ref r1)] [vI z2026] _ H2020 _
              have u2042 := TC_k a2034
              have u2043 := DC_k a2035
              have o2044 : (xline B n q d) = (0, ((xN B n q)), (xN B n ((xN B n q)))) := by
                unfold xline xl0 xl1 xl2 xl3 xl4 xl5 xl6 xl7 xper
                repeat first | rw [xs_0 (by omega)] | rw [xs_1 (by omega)] | rw [if_pos (by omega)] | rw [if_neg (by omega)]
                first | done | rfl | assumption | (exfalso; omega) | (refine Prod.ext ?_ (Prod.ext ?_ ?_) <;> (try dsimp only) <;> omega)
              have o2044a : ((xline B n q d)).1 = 0 := by rw [o2044]
              have o2044b : ((xline B n q d)).2.1 = ((xN B n q)) := by rw [o2044]
              have o2044c : ((xline B n q d)).2.2 = (xN B n ((xN B n q))) := by rw [o2044]
              have o2045 : xdline B n q d = ((xdsex B n ((xN B n q)) d)) := by
                unfold xdline
                repeat first | rw [xs_0 (by omega)] | rw [xs_1 (by omega)] | rw [if_pos (by omega)] | rw [if_neg (by omega)]
                first | done | rfl
              exact wp_zreturn e17 c17_161 rfl (by omega) ⟨rfl, w2024, f2041, z2026, rfl, ⟨by omega, by omega⟩, (Or.inl ⟨by omega, by omega, by omega, by omega, by rw [o2044]; exact a2034, by rw [o2045]; exact a2035⟩)⟩
            · have f2046 := f2008.tr f2025 rfl
              show wp _ _ 17 161 [(2, .ref 18), (0, .ref r0), (1, .ref r1)] [vI z2026] _ H2020 _
              have o2047 : (xline B n q d) = ((xsex B n ((xN B n q)) d).1, (xsex B n ((xN B n q)) d).2.1, (xsex B n ((xN B n q)) d).2.2) := by
                unfold xline xl0 xl1 xl2 xl3 xl4 xl5 xl6 xl7 xper
                repeat first | rw [xs_0 (by omega)] | rw [xs_1 (by omega)] | rw [if_pos (by omega)] | rw [if_neg (by omega)]
                first | done | rfl | assumption | (exfalso; omega) | (refine Prod.ext ?_ (Prod.ext ?_ ?_) <;> (try dsimp only) <;> omega)
              have o2047a : ((xline B n q d)).1 = (xsex B n ((xN B n q)) d).1 := by rw [o2047]
              have o2047b : ((xline B n q d)).2.1 = (xsex B n ((xN B n q)) d).2.1 := by rw [o2047]
              have o2047c : ((xline B n q d)).2.2 = (xsex B n ((xN B n q)) d).2.2 := by rw [o2047]
              exact wp_zreturn e17 c17_161 rfl (by omega) ⟨rfl, w2024, f2046, z2026, rfl, ⟨by omega, by omega⟩, (Or.inr ⟨by omega, by omega, by omega, by omega, by omega⟩)⟩
          · exfalso
            omega
      · exfalso
        omega
    · subst c1749
      show wp _ _ 17 4 [(0, .ref r0), (1, .ref r1)] [.ref 19] _ H _
      refine wp_of e17 c17_4 (rw_astore_n (pc' := 5) (v := .ref 19) (L' := [(2, .ref 19), (0, .ref r0), (1, .ref r1)]) rfl rfl rfl rfl ?_)
      refine wp_of e17 c17_5 (rw_aload_n (pc' := 6) (v := .ref 19) rfl rfl rfl ?_)
      refine wp_of e17 c17_6 (rw_ifnull_r (p1 := 16) (p2 := 9) (by decide) rfl ?_)
      refine wp_of e17 c17_9 (rw_aload_n (pc' := 10) (v := .ref 19) rfl rfl rfl ?_)
      have k2048 : H 19 1 = 3 := (hW.2 19 _ (hW.1.2.2 3 (by decide))).2.2 1 (by decide) |> fun z => by have z1 : (3 : Int) ≤ H 19 1 ∧ H 19 1 ≤ 3 := z; omega
      refine wp_of e17 c17_10 (rw_getI (pc' := 13) (n := 2) (e := _) (lf_1_58).choose_spec.1 (lf_1_58).choose_spec.2.1 (hW.sh (hW.1.2.2 3 (by decide)) rfl) (by decide) rfl rfl ?_)
      rw [k2048]
      refine wp_of e17 c17_13 (rw_if_ne (p1 := 22) (p2 := 16) (by decide) rfl ⟨by omega, by omega⟩ (fun c2049 => ?_) (fun c2049 => ?_))
      · refine wp_of e17 c17_22 (rw_aload_n (pc' := 23) (v := .ref r1) rfl rfl rfl ?_)
        refine wp_of e17 c17_23 (rw_aload_n (pc' := 24) (v := .ref 19) rfl rfl rfl ?_)
        refine wp_of e17 c17_24 (xc_V (pc' := 27) (r := r1) (as := [.ref 19]) (st := []) (lm_1_63) rfl rfl (Nat.le_of_ble_eq_true rfl) hW g1 sh_27 (by decide) rfl (by decide) (u_21_19  hW g1) (fun R2050 T2051 H2052 p2053 => ?_))
        obtain ⟨e2054, e2056, z2057, e2055, b2058, p2059⟩ := p2053
        subst e2054
        subst e2055
        subst e2056
        obtain ⟨a2060, a2061⟩ := p2059
        show wp _ _ 17 27 [(2, .ref 19), (0, .ref r0), (1, .ref r1)] [vI z2057] _ H _
        refine wp_of e17 c17_27 (rw_aload_n (pc' := 28) (v := .ref 19) rfl rfl rfl ?_)
        have k2062 : H 19 1 = 3 := (hW.2 19 _ (hW.1.2.2 3 (by decide))).2.2 1 (by decide) |> fun z => by have z1 : (3 : Int) ≤ H 19 1 ∧ H 19 1 ≤ 3 := z; omega
        refine wp_of e17 c17_28 (rw_getI (pc' := 31) (n := 2) (e := _) (lf_1_58).choose_spec.1 (lf_1_58).choose_spec.2.1 (hW.sh (hW.1.2.2 3 (by decide)) rfl) (by decide) rfl rfl ?_)
        rw [k2062]
        refine wp_of e17 c17_31 (rw_icmp_lt (p1 := 68) (p2 := 34) (by decide) rfl ⟨by omega, by omega⟩ ⟨by omega, by omega⟩ (fun c2063 => ?_) (fun c2063 => ?_))
        · refine wp_of e17 c17_68 (rw_aload_n (pc' := 69) (v := .ref r0) rfl rfl rfl ?_)
          refine wp_of e17 c17_69 (xg_K (pc' := 72) lf_1_12 hW g0 sh_3 (by decide) (by decide) rfl qtk rfl ?_)
          have h2064 : TP T H rb B := TC_tp hTC_tk qrb
          refine wp_of e17 c17_72 (xc_V (pc' := 75) (r := tk) (as := []) (st := []) (lm_1_74) rfl rfl (Nat.le_of_ble_eq_true rfl) hW gtk sh_4 (by decide) rfl (by decide) (u_16 (B := B) (n := n) (a := (xE B n q)) (q := (xN B n q)) hW gtk qrb grb (by omega) (by omega) (by omega) (rfl) h2064) (fun R2065 T2066 H2067 p2068 => ?_))
          obtain ⟨e2069, w2071, f2072, e2070, p2073⟩ := p2068
          subst e2069
          subst e2070
          have f2075 := f0.tr f2072 rfl
          show wp _ _ 17 75 [(2, .ref 19), (0, .ref r0), (1, .ref r1)] [] _ H2067 _
          have u2076 := TC_k p2073
          refine wp_of e17 c17_75 (rw_gs (pc' := 78) (k := 2) rfl rfl rfl rfl ?_)
          refine wp_of e17 c17_78 (rw_aload_n (pc' := 79) (v := .ref 19) rfl rfl rfl ?_)
          refine wp_of e17 c17_79 (rw_ord (pc' := 82) rfl rfl rfl (by decide) (Nat.le_of_ble_eq_true rfl) rfl ?_)
          show wp _ _ 17 82 [(2, .ref 19), (0, .ref r0), (1, .ref r1)] [vI 3, .ref 2] _ H2067 _
          have k2077 : H2067 2 (3 : Int).toNat = 4 := (w2071.2 2 _ w2071.1.2.1).2.2 3 (by decide) |> fun z => by have z1 : (4 : Int) ≤ H2067 2 3 ∧ H2067 2 3 ≤ 4 := z; exact Int.le_antisymm z1.2 z1.1
          refine wp_of e17 c17_82 (rw_iaload (pc' := 83) (n := 11) (w2071.sh w2071.1.2.1 rfl) (by decide) (by decide) (by decide) rfl rfl ?_)
          rw [k2077]
          refine wp_of e17 c17_83 (rw_tsw (p1 := 162) ⟨by omega, by omega⟩ (by decide) ?_)
          refine wp_of e17 c17_162 (rw_aload_n (pc' := 163) (v := .ref r0) rfl rfl rfl ?_)
          refine wp_of e17 c17_163 (rw_aload_n (pc' := 164) (v := .ref r1) rfl rfl rfl ?_)
          have k2079 : H2067 r0 0 = H r0 0 := (f2072 r0 0 _ g0 rfl)
          have q2080 : H2067 r0 0 = (tk : Int) := k2079.trans qtk
          have k2081 : H2067 tk 0 = H tk 0 := (f2072 tk 0 _ gtk rfl)
          have q2082 : H2067 tk 0 = (rb : Int) := k2081.trans qrb
          have k2083 : H2067 r0 3 = H r0 3 := (f2072 r0 3 _ g0 rfl)
          have h2084 : DC T H2067 r1 d := (DC_fr hW g1 f2072 rfl hDC_r1)
          have h2085 : DD T H2067 r1  := (DD_fr hW g1 f2072 rfl hDD_r1)
          refine wp_of e17 c17_164 (xc_V (pc' := 167) (r := r0) (as := [.ref r1]) (st := []) (lm_1_99) rfl rfl (Nat.le_of_ble_eq_true rfl) w2071 g0 sh_3 (by decide) rfl (by decide) (u_34 (B := B) (n := n) (q := ((xN B n q))) (d := d) w2071 g0 g1 q2080 gtk q2082 grb (by omega) p2073 h2084 h2085) (fun R2086 T2087 H2088 p2089 => ?_))
          obtain ⟨e2090, w2092, f2093, z2094, e2091, b2095, p2096⟩ := p2089
          subst e2090
          subst e2091
          rcases p2096 with ⟨a2097, a2098, a2099, a2100, a2101, a2102, a2103⟩ | ⟨a2104, a2105, a2106, a2107, a2108⟩
          · have f2109 := f2075.tr f2093 rfl
            show wp _ _ 17 167 [(2, .ref 19), (0, .ref r0), (1, .ref r1)] [vI z2094] _ H2088 _
            have u2110 := TC_k a2102
            have u2111 := DC_k a2103
            have o2112 : (xline B n q d) = (0, ((xN B n q)), (xN B n (xN B n (xN B n ((xN B n q)))))) := by
              unfold xline xl0 xl1 xl2 xl3 xl4 xl5 xl6 xl7 xper
              repeat first | rw [xs_0 (by omega)] | rw [xs_1 (by omega)] | rw [if_pos (by omega)] | rw [if_neg (by omega)]
              first | done | rfl | assumption | (exfalso; omega) | (refine Prod.ext ?_ (Prod.ext ?_ ?_) <;> (try dsimp only) <;> omega)
            have o2112a : ((xline B n q d)).1 = 0 := by rw [o2112]
            have o2112b : ((xline B n q d)).2.1 = ((xN B n q)) := by rw [o2112]
            have o2112c : ((xline B n q d)).2.2 = (xN B n (xN B n (xN B n ((xN B n q))))) := by rw [o2112]
            have o2113 : xdline B n q d = ((xdap B n ((xN B n q)) d)) := by
              unfold xdline
              repeat first | rw [xs_0 (by omega)] | rw [xs_1 (by omega)] | rw [if_pos (by omega)] | rw [if_neg (by omega)]
              first | done | rfl
            exact wp_zreturn e17 c17_167 rfl (by omega) ⟨rfl, w2092, f2109, z2094, rfl, ⟨by omega, by omega⟩, (Or.inl ⟨by omega, by omega, by omega, by omega, by rw [o2112]; exact a2102, by rw [o2113]; exact a2103⟩)⟩
          · have f2114 := f2075.tr f2093 rfl
            show wp _ _ 17 167 [(2, .ref 19), (0, .ref r0), (1, .ref r1)] [vI z2094] _ H2088 _
            have o2115 : (xline B n q d) = ((xap B n ((xN B n q)) d).1, (xap B n ((xN B n q)) d).2.1, (xap B n ((xN B n q)) d).2.2) := by
              unfold xline xl0 xl1 xl2 xl3 xl4 xl5 xl6 xl7 xper
              repeat first | rw [xs_0 (by omega)] | rw [xs_1 (by omega)] | rw [if_pos (by omega)] | rw [if_neg (by omega)]
              first | done | rfl | assumption | (exfalso; omega) | (refine Prod.ext ?_ (Prod.ext ?_ ?_) <;> (try dsimp only) <;> omega)
            have o2115a : ((xline B n q d)).1 = (xap B n ((xN B n q)) d).1 := by rw [o2115]
            have o2115b : ((xline B n q d)).2.1 = (xap B n ((xN B n q)) d).2.1 := by rw [o2115]
            have o2115c : ((xline B n q d)).2.2 = (xap B n ((xN B n q)) d).2.2 := by rw [o2115]
            exact wp_zreturn e17 c17_167 rfl (by omega) ⟨rfl, w2092, f2114, z2094, rfl, ⟨by omega, by omega⟩, (Or.inr ⟨by omega, by omega, by omega, by omega, by omega⟩)⟩
        · refine wp_of e17 c17_34 (rw_aload_n (pc' := 35) (v := .ref 19) rfl rfl rfl ?_)
          refine wp_of e17 c17_35 (rw_gs (pc' := 38) (k := 16) rfl rfl rfl rfl ?_)
          refine wp_of e17 c17_38 (rw_acmp_eq (p1 := 48) (p2 := 41) (a := some 19) (b := some 16) rfl rfl (by decide) rfl (fun q9 => absurd q9 (by decide)) (fun q9 => ?_))
          refine wp_of e17 c17_41 (rw_aload_n (pc' := 42) (v := .ref 19) rfl rfl rfl ?_)
          refine wp_of e17 c17_42 (rw_gs (pc' := 45) (k := 18) rfl rfl rfl rfl ?_)
          refine wp_of e17 c17_45 (rw_acmp_ne (p1 := 52) (p2 := 48) (a := some 19) (b := some 18) rfl rfl (by decide) rfl (fun q9 => ?_) (fun q9 => absurd q9 (by decide)))
          refine wp_of e17 c17_52 (rw_iconst (pc' := 53) rfl ?_)
          refine wp_of e17 c17_53 (rw_istore_n (pc' := 54) (z := 0) (L' := [(3, vI 0), (2, .ref 19), (0, .ref r0), (1, .ref r1)]) rfl rfl rfl ?_)
          refine wp_of e17 c17_54 (rw_aload_n (pc' := 55) (v := .ref r0) rfl rfl rfl ?_)
          refine wp_of e17 c17_55 (rw_iload_n (pc' := 56) (z := 0) rfl rfl ?_)
          refine wp_of e17 c17_56 (rw_if_eq (p1 := 63) (p2 := 59) (by decide) rfl ⟨by omega, by omega⟩ (fun c2116 => ?_) (fun c2116 => ?_))
          · refine wp_of e17 c17_63 (rw_iconst (pc' := 64) rfl ?_)
            refine wp_of e17 c17_64 (xc_V (pc' := 67) (r := r0) (as := [vI 5]) (st := []) (lm_1_47) rfl rfl (Nat.le_of_ble_eq_true rfl) hW g0 sh_3 (by decide) rfl (by decide) (u_20  hW g0 ⟨by omega, by omega⟩ qtk gtk) (fun R2117 T2118 H2119 p2120 => ?_))
            obtain ⟨e2121, w2123, f2124, z2125, e2122, b2126, p2127⟩ := p2120
            subst e2121
            subst e2122
            obtain ⟨a2128, a2129, a2130⟩ := p2127
            have f2131 := f0.tr f2124 rfl
            show wp _ _ 17 67 [(3, vI 0), (2, .ref 19), (0, .ref r0), (1, .ref r1)] [vI z2125] _ H2119 _
            have o2132 : (xline B n q d) = (5, q, q) := by
              unfold xline xl0 xl1 xl2 xl3 xl4 xl5 xl6 xl7 xper
              repeat first | rw [xs_0 (by omega)] | rw [xs_1 (by omega)] | rw [if_pos (by omega)] | rw [if_neg (by omega)]
              first | done | rfl | assumption | (exfalso; omega) | (refine Prod.ext ?_ (Prod.ext ?_ ?_) <;> (try dsimp only) <;> omega)
            have o2132a : ((xline B n q d)).1 = 5 := by rw [o2132]
            have o2132b : ((xline B n q d)).2.1 = q := by rw [o2132]
            have o2132c : ((xline B n q d)).2.2 = q := by rw [o2132]
            exact wp_zreturn e17 c17_67 rfl (by omega) ⟨rfl, w2123, f2131, z2125, rfl, ⟨by omega, by omega⟩, (Or.inr ⟨by omega, by omega, by omega, by omega, by omega⟩)⟩
          · exfalso
            omega
      · exfalso
        omega
    · subst c1749
      show wp _ _ 17 4 [(0, .ref r0), (1, .ref r1)] [.ref 20] _ H _
      refine wp_of e17 c17_4 (rw_astore_n (pc' := 5) (v := .ref 20) (L' := [(2, .ref 20), (0, .ref r0), (1, .ref r1)]) rfl rfl rfl rfl ?_)
      refine wp_of e17 c17_5 (rw_aload_n (pc' := 6) (v := .ref 20) rfl rfl rfl ?_)
      refine wp_of e17 c17_6 (rw_ifnull_r (p1 := 16) (p2 := 9) (by decide) rfl ?_)
      refine wp_of e17 c17_9 (rw_aload_n (pc' := 10) (v := .ref 20) rfl rfl rfl ?_)
      have k2133 : H 20 1 = 3 := (hW.2 20 _ (hW.1.2.2 4 (by decide))).2.2 1 (by decide) |> fun z => by have z1 : (3 : Int) ≤ H 20 1 ∧ H 20 1 ≤ 3 := z; omega
      refine wp_of e17 c17_10 (rw_getI (pc' := 13) (n := 2) (e := _) (lf_1_58).choose_spec.1 (lf_1_58).choose_spec.2.1 (hW.sh (hW.1.2.2 4 (by decide)) rfl) (by decide) rfl rfl ?_)
      rw [k2133]
      refine wp_of e17 c17_13 (rw_if_ne (p1 := 22) (p2 := 16) (by decide) rfl ⟨by omega, by omega⟩ (fun c2134 => ?_) (fun c2134 => ?_))
      · refine wp_of e17 c17_22 (rw_aload_n (pc' := 23) (v := .ref r1) rfl rfl rfl ?_)
        refine wp_of e17 c17_23 (rw_aload_n (pc' := 24) (v := .ref 20) rfl rfl rfl ?_)
        refine wp_of e17 c17_24 (xc_V (pc' := 27) (r := r1) (as := [.ref 20]) (st := []) (lm_1_63) rfl rfl (Nat.le_of_ble_eq_true rfl) hW g1 sh_27 (by decide) rfl (by decide) (u_21_20  hW g1) (fun R2135 T2136 H2137 p2138 => ?_))
        obtain ⟨e2139, e2141, z2142, e2140, b2143, p2144⟩ := p2138
        subst e2139
        subst e2140
        subst e2141
        obtain ⟨a2145, a2146⟩ := p2144
        show wp _ _ 17 27 [(2, .ref 20), (0, .ref r0), (1, .ref r1)] [vI z2142] _ H _
        refine wp_of e17 c17_27 (rw_aload_n (pc' := 28) (v := .ref 20) rfl rfl rfl ?_)
        have k2147 : H 20 1 = 3 := (hW.2 20 _ (hW.1.2.2 4 (by decide))).2.2 1 (by decide) |> fun z => by have z1 : (3 : Int) ≤ H 20 1 ∧ H 20 1 ≤ 3 := z; omega
        refine wp_of e17 c17_28 (rw_getI (pc' := 31) (n := 2) (e := _) (lf_1_58).choose_spec.1 (lf_1_58).choose_spec.2.1 (hW.sh (hW.1.2.2 4 (by decide)) rfl) (by decide) rfl rfl ?_)
        rw [k2147]
        refine wp_of e17 c17_31 (rw_icmp_lt (p1 := 68) (p2 := 34) (by decide) rfl ⟨by omega, by omega⟩ ⟨by omega, by omega⟩ (fun c2148 => ?_) (fun c2148 => ?_))
        · refine wp_of e17 c17_68 (rw_aload_n (pc' := 69) (v := .ref r0) rfl rfl rfl ?_)
          refine wp_of e17 c17_69 (xg_K (pc' := 72) lf_1_12 hW g0 sh_3 (by decide) (by decide) rfl qtk rfl ?_)
          have h2149 : TP T H rb B := TC_tp hTC_tk qrb
          refine wp_of e17 c17_72 (xc_V (pc' := 75) (r := tk) (as := []) (st := []) (lm_1_74) rfl rfl (Nat.le_of_ble_eq_true rfl) hW gtk sh_4 (by decide) rfl (by decide) (u_16 (B := B) (n := n) (a := (xE B n q)) (q := (xN B n q)) hW gtk qrb grb (by omega) (by omega) (by omega) (rfl) h2149) (fun R2150 T2151 H2152 p2153 => ?_))
          obtain ⟨e2154, w2156, f2157, e2155, p2158⟩ := p2153
          subst e2154
          subst e2155
          have f2160 := f0.tr f2157 rfl
          show wp _ _ 17 75 [(2, .ref 20), (0, .ref r0), (1, .ref r1)] [] _ H2152 _
          have u2161 := TC_k p2158
          refine wp_of e17 c17_75 (rw_gs (pc' := 78) (k := 2) rfl rfl rfl rfl ?_)
          refine wp_of e17 c17_78 (rw_aload_n (pc' := 79) (v := .ref 20) rfl rfl rfl ?_)
          refine wp_of e17 c17_79 (rw_ord (pc' := 82) rfl rfl rfl (by decide) (Nat.le_of_ble_eq_true rfl) rfl ?_)
          show wp _ _ 17 82 [(2, .ref 20), (0, .ref r0), (1, .ref r1)] [vI 4, .ref 2] _ H2152 _
          have k2162 : H2152 2 (4 : Int).toNat = 5 := (w2156.2 2 _ w2156.1.2.1).2.2 4 (by decide) |> fun z => by have z1 : (5 : Int) ≤ H2152 2 4 ∧ H2152 2 4 ≤ 5 := z; exact Int.le_antisymm z1.2 z1.1
          refine wp_of e17 c17_82 (rw_iaload (pc' := 83) (n := 11) (w2156.sh w2156.1.2.1 rfl) (by decide) (by decide) (by decide) rfl rfl ?_)
          rw [k2162]
          refine wp_of e17 c17_83 (rw_tsw (p1 := 168) ⟨by omega, by omega⟩ (by decide) ?_)
          refine wp_of e17 c17_168 (rw_aload_n (pc' := 169) (v := .ref r0) rfl rfl rfl ?_)
          refine wp_of e17 c17_169 (rw_aload_n (pc' := 170) (v := .ref r1) rfl rfl rfl ?_)
          have k2164 : H2152 r0 0 = H r0 0 := (f2157 r0 0 _ g0 rfl)
          have q2165 : H2152 r0 0 = (tk : Int) := k2164.trans qtk
          have k2166 : H2152 tk 0 = H tk 0 := (f2157 tk 0 _ gtk rfl)
          have q2167 : H2152 tk 0 = (rb : Int) := k2166.trans qrb
          have k2168 : H2152 r0 3 = H r0 3 := (f2157 r0 3 _ g0 rfl)
          have h2169 : DC T H2152 r1 d := (DC_fr hW g1 f2157 rfl hDC_r1)
          refine wp_of e17 c17_170 (xc_V (pc' := 173) (r := r0) (as := [.ref r1]) (st := []) (lm_1_102) rfl rfl (Nat.le_of_ble_eq_true rfl) w2156 g0 sh_3 (by decide) rfl (by decide) (u_37 (B := B) (n := n) (q := ((xN B n q))) (d := d) w2156 g0 g1 q2165 gtk q2167 grb (by omega) p2158 h2169) (fun R2170 T2171 H2172 p2173 => ?_))
          obtain ⟨e2174, w2176, f2177, z2178, e2175, b2179, p2180⟩ := p2173
          subst e2174
          subst e2175
          rcases p2180 with ⟨a2181, a2182, a2183, a2184, a2185, a2186, a2187⟩ | ⟨a2188, a2189, a2190, a2191, a2192⟩
          · have f2193 := f2160.tr f2177 rfl
            show wp _ _ 17 173 [(2, .ref 20), (0, .ref r0), (1, .ref r1)] [vI z2178] _ H2172 _
            have u2194 := TC_k a2186
            have u2195 := DC_k a2187
            have o2196 : (xline B n q d) = (0, ((xN B n q)), (xN B n ((xN B n q)))) := by
              unfold xline xl0 xl1 xl2 xl3 xl4 xl5 xl6 xl7 xper
              repeat first | rw [xs_0 (by omega)] | rw [xs_1 (by omega)] | rw [if_pos (by omega)] | rw [if_neg (by omega)]
              first | done | rfl | assumption | (exfalso; omega) | (refine Prod.ext ?_ (Prod.ext ?_ ?_) <;> (try dsimp only) <;> omega)
            have o2196a : ((xline B n q d)).1 = 0 := by rw [o2196]
            have o2196b : ((xline B n q d)).2.1 = ((xN B n q)) := by rw [o2196]
            have o2196c : ((xline B n q d)).2.2 = (xN B n ((xN B n q))) := by rw [o2196]
            have o2197 : xdline B n q d = ((xdbo B n ((xN B n q)) d)) := by
              unfold xdline
              repeat first | rw [xs_0 (by omega)] | rw [xs_1 (by omega)] | rw [if_pos (by omega)] | rw [if_neg (by omega)]
              first | done | rfl
            exact wp_zreturn e17 c17_173 rfl (by omega) ⟨rfl, w2176, f2193, z2178, rfl, ⟨by omega, by omega⟩, (Or.inl ⟨by omega, by omega, by omega, by omega, by rw [o2196]; exact a2186, by rw [o2197]; exact a2187⟩)⟩
          · have f2198 := f2160.tr f2177 rfl
            show wp _ _ 17 173 [(2, .ref 20), (0, .ref r0), (1, .ref r1)] [vI z2178] _ H2172 _
            have o2199 : (xline B n q d) = ((xbo B n ((xN B n q))).1, (xbo B n ((xN B n q))).2.1, (xbo B n ((xN B n q))).2.2) := by
              unfold xline xl0 xl1 xl2 xl3 xl4 xl5 xl6 xl7 xper
              repeat first | rw [xs_0 (by omega)] | rw [xs_1 (by omega)] | rw [if_pos (by omega)] | rw [if_neg (by omega)]
              first | done | rfl | assumption | (exfalso; omega) | (refine Prod.ext ?_ (Prod.ext ?_ ?_) <;> (try dsimp only) <;> omega)
            have o2199a : ((xline B n q d)).1 = (xbo B n ((xN B n q))).1 := by rw [o2199]
            have o2199b : ((xline B n q d)).2.1 = (xbo B n ((xN B n q))).2.1 := by rw [o2199]
            have o2199c : ((xline B n q d)).2.2 = (xbo B n ((xN B n q))).2.2 := by rw [o2199]
            exact wp_zreturn e17 c17_173 rfl (by omega) ⟨rfl, w2176, f2198, z2178, rfl, ⟨by omega, by omega⟩, (Or.inr ⟨by omega, by omega, by omega, by omega, by omega⟩)⟩
        · refine wp_of e17 c17_34 (rw_aload_n (pc' := 35) (v := .ref 20) rfl rfl rfl ?_)
          refine wp_of e17 c17_35 (rw_gs (pc' := 38) (k := 16) rfl rfl rfl rfl ?_)
          refine wp_of e17 c17_38 (rw_acmp_eq (p1 := 48) (p2 := 41) (a := some 20) (b := some 16) rfl rfl (by decide) rfl (fun q9 => absurd q9 (by decide)) (fun q9 => ?_))
          refine wp_of e17 c17_41 (rw_aload_n (pc' := 42) (v := .ref 20) rfl rfl rfl ?_)
          refine wp_of e17 c17_42 (rw_gs (pc' := 45) (k := 18) rfl rfl rfl rfl ?_)
          refine wp_of e17 c17_45 (rw_acmp_ne (p1 := 52) (p2 := 48) (a := some 20) (b := some 18) rfl rfl (by decide) rfl (fun q9 => ?_) (fun q9 => absurd q9 (by decide)))
          refine wp_of e17 c17_52 (rw_iconst (pc' := 53) rfl ?_)
          refine wp_of e17 c17_53 (rw_istore_n (pc' := 54) (z := 0) (L' := [(3, vI 0), (2, .ref 20), (0, .ref r0), (1, .ref r1)]) rfl rfl rfl ?_)
          refine wp_of e17 c17_54 (rw_aload_n (pc' := 55) (v := .ref r0) rfl rfl rfl ?_)
          refine wp_of e17 c17_55 (rw_iload_n (pc' := 56) (z := 0) rfl rfl ?_)
          refine wp_of e17 c17_56 (rw_if_eq (p1 := 63) (p2 := 59) (by decide) rfl ⟨by omega, by omega⟩ (fun c2200 => ?_) (fun c2200 => ?_))
          · refine wp_of e17 c17_63 (rw_iconst (pc' := 64) rfl ?_)
            refine wp_of e17 c17_64 (xc_V (pc' := 67) (r := r0) (as := [vI 5]) (st := []) (lm_1_47) rfl rfl (Nat.le_of_ble_eq_true rfl) hW g0 sh_3 (by decide) rfl (by decide) (u_20  hW g0 ⟨by omega, by omega⟩ qtk gtk) (fun R2201 T2202 H2203 p2204 => ?_))
            obtain ⟨e2205, w2207, f2208, z2209, e2206, b2210, p2211⟩ := p2204
            subst e2205
            subst e2206
            obtain ⟨a2212, a2213, a2214⟩ := p2211
            have f2215 := f0.tr f2208 rfl
            show wp _ _ 17 67 [(3, vI 0), (2, .ref 20), (0, .ref r0), (1, .ref r1)] [vI z2209] _ H2203 _
            have o2216 : (xline B n q d) = (5, q, q) := by
              unfold xline xl0 xl1 xl2 xl3 xl4 xl5 xl6 xl7 xper
              repeat first | rw [xs_0 (by omega)] | rw [xs_1 (by omega)] | rw [if_pos (by omega)] | rw [if_neg (by omega)]
              first | done | rfl | assumption | (exfalso; omega) | (refine Prod.ext ?_ (Prod.ext ?_ ?_) <;> (try dsimp only) <;> omega)
            have o2216a : ((xline B n q d)).1 = 5 := by rw [o2216]
            have o2216b : ((xline B n q d)).2.1 = q := by rw [o2216]
            have o2216c : ((xline B n q d)).2.2 = q := by rw [o2216]
            exact wp_zreturn e17 c17_67 rfl (by omega) ⟨rfl, w2207, f2215, z2209, rfl, ⟨by omega, by omega⟩, (Or.inr ⟨by omega, by omega, by omega, by omega, by omega⟩)⟩
          · exfalso
            omega
      · exfalso
        omega
    · subst c1749
      show wp _ _ 17 4 [(0, .ref r0), (1, .ref r1)] [.ref 21] _ H _
      refine wp_of e17 c17_4 (rw_astore_n (pc' := 5) (v := .ref 21) (L' := [(2, .ref 21), (0, .ref r0), (1, .ref r1)]) rfl rfl rfl rfl ?_)
      refine wp_of e17 c17_5 (rw_aload_n (pc' := 6) (v := .ref 21) rfl rfl rfl ?_)
      refine wp_of e17 c17_6 (rw_ifnull_r (p1 := 16) (p2 := 9) (by decide) rfl ?_)
      refine wp_of e17 c17_9 (rw_aload_n (pc' := 10) (v := .ref 21) rfl rfl rfl ?_)
      have k2217 : H 21 1 = 24 := (hW.2 21 _ (hW.1.2.2 5 (by decide))).2.2 1 (by decide) |> fun z => by have z1 : (24 : Int) ≤ H 21 1 ∧ H 21 1 ≤ 24 := z; omega
      refine wp_of e17 c17_10 (rw_getI (pc' := 13) (n := 2) (e := _) (lf_1_58).choose_spec.1 (lf_1_58).choose_spec.2.1 (hW.sh (hW.1.2.2 5 (by decide)) rfl) (by decide) rfl rfl ?_)
      rw [k2217]
      refine wp_of e17 c17_13 (rw_if_ne (p1 := 22) (p2 := 16) (by decide) rfl ⟨by omega, by omega⟩ (fun c2218 => ?_) (fun c2218 => ?_))
      · refine wp_of e17 c17_22 (rw_aload_n (pc' := 23) (v := .ref r1) rfl rfl rfl ?_)
        refine wp_of e17 c17_23 (rw_aload_n (pc' := 24) (v := .ref 21) rfl rfl rfl ?_)
        refine wp_of e17 c17_24 (xc_V (pc' := 27) (r := r1) (as := [.ref 21]) (st := []) (lm_1_63) rfl rfl (Nat.le_of_ble_eq_true rfl) hW g1 sh_27 (by decide) rfl (by decide) (u_21_21  hW g1) (fun R2219 T2220 H2221 p2222 => ?_))
        obtain ⟨e2223, e2225, z2226, e2224, b2227, p2228⟩ := p2222
        subst e2223
        subst e2224
        subst e2225
        obtain ⟨a2229, a2230⟩ := p2228
        show wp _ _ 17 27 [(2, .ref 21), (0, .ref r0), (1, .ref r1)] [vI z2226] _ H _
        refine wp_of e17 c17_27 (rw_aload_n (pc' := 28) (v := .ref 21) rfl rfl rfl ?_)
        have k2231 : H 21 1 = 24 := (hW.2 21 _ (hW.1.2.2 5 (by decide))).2.2 1 (by decide) |> fun z => by have z1 : (24 : Int) ≤ H 21 1 ∧ H 21 1 ≤ 24 := z; omega
        refine wp_of e17 c17_28 (rw_getI (pc' := 31) (n := 2) (e := _) (lf_1_58).choose_spec.1 (lf_1_58).choose_spec.2.1 (hW.sh (hW.1.2.2 5 (by decide)) rfl) (by decide) rfl rfl ?_)
        rw [k2231]
        refine wp_of e17 c17_31 (rw_icmp_lt (p1 := 68) (p2 := 34) (by decide) rfl ⟨by omega, by omega⟩ ⟨by omega, by omega⟩ (fun c2232 => ?_) (fun c2232 => ?_))
        · refine wp_of e17 c17_68 (rw_aload_n (pc' := 69) (v := .ref r0) rfl rfl rfl ?_)
          refine wp_of e17 c17_69 (xg_K (pc' := 72) lf_1_12 hW g0 sh_3 (by decide) (by decide) rfl qtk rfl ?_)
          have h2233 : TP T H rb B := TC_tp hTC_tk qrb
          refine wp_of e17 c17_72 (xc_V (pc' := 75) (r := tk) (as := []) (st := []) (lm_1_74) rfl rfl (Nat.le_of_ble_eq_true rfl) hW gtk sh_4 (by decide) rfl (by decide) (u_16 (B := B) (n := n) (a := (xE B n q)) (q := (xN B n q)) hW gtk qrb grb (by omega) (by omega) (by omega) (rfl) h2233) (fun R2234 T2235 H2236 p2237 => ?_))
          obtain ⟨e2238, w2240, f2241, e2239, p2242⟩ := p2237
          subst e2238
          subst e2239
          have f2244 := f0.tr f2241 rfl
          show wp _ _ 17 75 [(2, .ref 21), (0, .ref r0), (1, .ref r1)] [] _ H2236 _
          have u2245 := TC_k p2242
          refine wp_of e17 c17_75 (rw_gs (pc' := 78) (k := 2) rfl rfl rfl rfl ?_)
          refine wp_of e17 c17_78 (rw_aload_n (pc' := 79) (v := .ref 21) rfl rfl rfl ?_)
          refine wp_of e17 c17_79 (rw_ord (pc' := 82) rfl rfl rfl (by decide) (Nat.le_of_ble_eq_true rfl) rfl ?_)
          show wp _ _ 17 82 [(2, .ref 21), (0, .ref r0), (1, .ref r1)] [vI 5, .ref 2] _ H2236 _
          have k2246 : H2236 2 (5 : Int).toNat = 6 := (w2240.2 2 _ w2240.1.2.1).2.2 5 (by decide) |> fun z => by have z1 : (6 : Int) ≤ H2236 2 5 ∧ H2236 2 5 ≤ 6 := z; exact Int.le_antisymm z1.2 z1.1
          refine wp_of e17 c17_82 (rw_iaload (pc' := 83) (n := 11) (w2240.sh w2240.1.2.1 rfl) (by decide) (by decide) (by decide) rfl rfl ?_)
          rw [k2246]
          refine wp_of e17 c17_83 (rw_tsw (p1 := 174) ⟨by omega, by omega⟩ (by decide) ?_)
          refine wp_of e17 c17_174 (rw_aload_n (pc' := 175) (v := .ref r0) rfl rfl rfl ?_)
          refine wp_of e17 c17_175 (rw_aload_n (pc' := 176) (v := .ref r1) rfl rfl rfl ?_)
          have k2248 : H2236 r0 0 = H r0 0 := (f2241 r0 0 _ g0 rfl)
          have q2249 : H2236 r0 0 = (tk : Int) := k2248.trans qtk
          have k2250 : H2236 tk 0 = H tk 0 := (f2241 tk 0 _ gtk rfl)
          have q2251 : H2236 tk 0 = (rb : Int) := k2250.trans qrb
          have k2252 : H2236 r0 3 = H r0 3 := (f2241 r0 3 _ g0 rfl)
          have h2253 : DC T H2236 r1 d := (DC_fr hW g1 f2241 rfl hDC_r1)
          refine wp_of e17 c17_176 (xc_V (pc' := 179) (r := r0) (as := [.ref r1]) (st := []) (lm_1_105) rfl rfl (Nat.le_of_ble_eq_true rfl) w2240 g0 sh_3 (by decide) rfl (by decide) (u_38 (B := B) (n := n) (q := ((xN B n q))) (d := d) w2240 g0 g1 q2249 gtk q2251 grb p2242 h2253) (fun R2254 T2255 H2256 p2257 => ?_))
          obtain ⟨e2258, w2260, f2261, z2262, e2259, b2263, p2264⟩ := p2257
          subst e2258
          subst e2259
          rcases p2264 with ⟨a2265, a2266, a2267, a2268, a2269, a2270, a2271⟩ | ⟨a2272, a2273, a2274, a2275, a2276⟩
          · have f2277 := f2244.tr f2261 rfl
            show wp _ _ 17 179 [(2, .ref 21), (0, .ref r0), (1, .ref r1)] [vI z2262] _ H2256 _
            have u2278 := TC_k a2270
            have u2279 := DC_k a2271
            have o2280 : (xline B n q d) = (0, ((xN B n q)), (xN B n (xN B n (xN B n ((xN B n q)))))) := by
              unfold xline xl0 xl1 xl2 xl3 xl4 xl5 xl6 xl7 xper
              repeat first | rw [xs_0 (by omega)] | rw [xs_1 (by omega)] | rw [if_pos (by omega)] | rw [if_neg (by omega)]
              first | done | rfl | assumption | (exfalso; omega) | (refine Prod.ext ?_ (Prod.ext ?_ ?_) <;> (try dsimp only) <;> omega)
            have o2280a : ((xline B n q d)).1 = 0 := by rw [o2280]
            have o2280b : ((xline B n q d)).2.1 = ((xN B n q)) := by rw [o2280]
            have o2280c : ((xline B n q d)).2.2 = (xN B n (xN B n (xN B n ((xN B n q))))) := by rw [o2280]
            have o2281 : xdline B n q d = ((xdst B n ((xN B n q)) d)) := by
              unfold xdline
              repeat first | rw [xs_0 (by omega)] | rw [xs_1 (by omega)] | rw [if_pos (by omega)] | rw [if_neg (by omega)]
              first | done | rfl
            exact wp_zreturn e17 c17_179 rfl (by omega) ⟨rfl, w2260, f2277, z2262, rfl, ⟨by omega, by omega⟩, (Or.inl ⟨by omega, by omega, by omega, by omega, by rw [o2280]; exact a2270, by rw [o2281]; exact a2271⟩)⟩
          · have f2282 := f2244.tr f2261 rfl
            show wp _ _ 17 179 [(2, .ref 21), (0, .ref r0), (1, .ref r1)] [vI z2262] _ H2256 _
            have o2283 : (xline B n q d) = ((xst B n ((xN B n q)) d).1, (xst B n ((xN B n q)) d).2.1, (xst B n ((xN B n q)) d).2.2) := by
              unfold xline xl0 xl1 xl2 xl3 xl4 xl5 xl6 xl7 xper
              repeat first | rw [xs_0 (by omega)] | rw [xs_1 (by omega)] | rw [if_pos (by omega)] | rw [if_neg (by omega)]
              first | done | rfl | assumption | (exfalso; omega) | (refine Prod.ext ?_ (Prod.ext ?_ ?_) <;> (try dsimp only) <;> omega)
            have o2283a : ((xline B n q d)).1 = (xst B n ((xN B n q)) d).1 := by rw [o2283]
            have o2283b : ((xline B n q d)).2.1 = (xst B n ((xN B n q)) d).2.1 := by rw [o2283]
            have o2283c : ((xline B n q d)).2.2 = (xst B n ((xN B n q)) d).2.2 := by rw [o2283]
            exact wp_zreturn e17 c17_179 rfl (by omega) ⟨rfl, w2260, f2282, z2262, rfl, ⟨by omega, by omega⟩, (Or.inr ⟨by omega, by omega, by omega, by omega, by omega⟩)⟩
        · refine wp_of e17 c17_34 (rw_aload_n (pc' := 35) (v := .ref 21) rfl rfl rfl ?_)
          refine wp_of e17 c17_35 (rw_gs (pc' := 38) (k := 16) rfl rfl rfl rfl ?_)
          refine wp_of e17 c17_38 (rw_acmp_eq (p1 := 48) (p2 := 41) (a := some 21) (b := some 16) rfl rfl (by decide) rfl (fun q9 => absurd q9 (by decide)) (fun q9 => ?_))
          refine wp_of e17 c17_41 (rw_aload_n (pc' := 42) (v := .ref 21) rfl rfl rfl ?_)
          refine wp_of e17 c17_42 (rw_gs (pc' := 45) (k := 18) rfl rfl rfl rfl ?_)
          refine wp_of e17 c17_45 (rw_acmp_ne (p1 := 52) (p2 := 48) (a := some 21) (b := some 18) rfl rfl (by decide) rfl (fun q9 => ?_) (fun q9 => absurd q9 (by decide)))
          refine wp_of e17 c17_52 (rw_iconst (pc' := 53) rfl ?_)
          refine wp_of e17 c17_53 (rw_istore_n (pc' := 54) (z := 0) (L' := [(3, vI 0), (2, .ref 21), (0, .ref r0), (1, .ref r1)]) rfl rfl rfl ?_)
          refine wp_of e17 c17_54 (rw_aload_n (pc' := 55) (v := .ref r0) rfl rfl rfl ?_)
          refine wp_of e17 c17_55 (rw_iload_n (pc' := 56) (z := 0) rfl rfl ?_)
          refine wp_of e17 c17_56 (rw_if_eq (p1 := 63) (p2 := 59) (by decide) rfl ⟨by omega, by omega⟩ (fun c2284 => ?_) (fun c2284 => ?_))
          · refine wp_of e17 c17_63 (rw_iconst (pc' := 64) rfl ?_)
            refine wp_of e17 c17_64 (xc_V (pc' := 67) (r := r0) (as := [vI 5]) (st := []) (lm_1_47) rfl rfl (Nat.le_of_ble_eq_true rfl) hW g0 sh_3 (by decide) rfl (by decide) (u_20  hW g0 ⟨by omega, by omega⟩ qtk gtk) (fun R2285 T2286 H2287 p2288 => ?_))
            obtain ⟨e2289, w2291, f2292, z2293, e2290, b2294, p2295⟩ := p2288
            subst e2289
            subst e2290
            obtain ⟨a2296, a2297, a2298⟩ := p2295
            have f2299 := f0.tr f2292 rfl
            show wp _ _ 17 67 [(3, vI 0), (2, .ref 21), (0, .ref r0), (1, .ref r1)] [vI z2293] _ H2287 _
            have o2300 : (xline B n q d) = (5, q, q) := by
              unfold xline xl0 xl1 xl2 xl3 xl4 xl5 xl6 xl7 xper
              repeat first | rw [xs_0 (by omega)] | rw [xs_1 (by omega)] | rw [if_pos (by omega)] | rw [if_neg (by omega)]
              first | done | rfl | assumption | (exfalso; omega) | (refine Prod.ext ?_ (Prod.ext ?_ ?_) <;> (try dsimp only) <;> omega)
            have o2300a : ((xline B n q d)).1 = 5 := by rw [o2300]
            have o2300b : ((xline B n q d)).2.1 = q := by rw [o2300]
            have o2300c : ((xline B n q d)).2.2 = q := by rw [o2300]
            exact wp_zreturn e17 c17_67 rfl (by omega) ⟨rfl, w2291, f2299, z2293, rfl, ⟨by omega, by omega⟩, (Or.inr ⟨by omega, by omega, by omega, by omega, by omega⟩)⟩
          · exfalso
            omega
      · exfalso
        omega
    · subst c1749
      show wp _ _ 17 4 [(0, .ref r0), (1, .ref r1)] [.ref 22] _ H _
      refine wp_of e17 c17_4 (rw_astore_n (pc' := 5) (v := .ref 22) (L' := [(2, .ref 22), (0, .ref r0), (1, .ref r1)]) rfl rfl rfl rfl ?_)
      refine wp_of e17 c17_5 (rw_aload_n (pc' := 6) (v := .ref 22) rfl rfl rfl ?_)
      refine wp_of e17 c17_6 (rw_ifnull_r (p1 := 16) (p2 := 9) (by decide) rfl ?_)
      refine wp_of e17 c17_9 (rw_aload_n (pc' := 10) (v := .ref 22) rfl rfl rfl ?_)
      have k2301 : H 22 1 = 4 := (hW.2 22 _ (hW.1.2.2 6 (by decide))).2.2 1 (by decide) |> fun z => by have z1 : (4 : Int) ≤ H 22 1 ∧ H 22 1 ≤ 4 := z; omega
      refine wp_of e17 c17_10 (rw_getI (pc' := 13) (n := 2) (e := _) (lf_1_58).choose_spec.1 (lf_1_58).choose_spec.2.1 (hW.sh (hW.1.2.2 6 (by decide)) rfl) (by decide) rfl rfl ?_)
      rw [k2301]
      refine wp_of e17 c17_13 (rw_if_ne (p1 := 22) (p2 := 16) (by decide) rfl ⟨by omega, by omega⟩ (fun c2302 => ?_) (fun c2302 => ?_))
      · refine wp_of e17 c17_22 (rw_aload_n (pc' := 23) (v := .ref r1) rfl rfl rfl ?_)
        refine wp_of e17 c17_23 (rw_aload_n (pc' := 24) (v := .ref 22) rfl rfl rfl ?_)
        refine wp_of e17 c17_24 (xc_V (pc' := 27) (r := r1) (as := [.ref 22]) (st := []) (lm_1_63) rfl rfl (Nat.le_of_ble_eq_true rfl) hW g1 sh_27 (by decide) rfl (by decide) (u_21_22  hW g1) (fun R2303 T2304 H2305 p2306 => ?_))
        obtain ⟨e2307, e2309, z2310, e2308, b2311, p2312⟩ := p2306
        subst e2307
        subst e2308
        subst e2309
        obtain ⟨a2313, a2314⟩ := p2312
        show wp _ _ 17 27 [(2, .ref 22), (0, .ref r0), (1, .ref r1)] [vI z2310] _ H _
        refine wp_of e17 c17_27 (rw_aload_n (pc' := 28) (v := .ref 22) rfl rfl rfl ?_)
        have k2315 : H 22 1 = 4 := (hW.2 22 _ (hW.1.2.2 6 (by decide))).2.2 1 (by decide) |> fun z => by have z1 : (4 : Int) ≤ H 22 1 ∧ H 22 1 ≤ 4 := z; omega
        refine wp_of e17 c17_28 (rw_getI (pc' := 31) (n := 2) (e := _) (lf_1_58).choose_spec.1 (lf_1_58).choose_spec.2.1 (hW.sh (hW.1.2.2 6 (by decide)) rfl) (by decide) rfl rfl ?_)
        rw [k2315]
        refine wp_of e17 c17_31 (rw_icmp_lt (p1 := 68) (p2 := 34) (by decide) rfl ⟨by omega, by omega⟩ ⟨by omega, by omega⟩ (fun c2316 => ?_) (fun c2316 => ?_))
        · refine wp_of e17 c17_68 (rw_aload_n (pc' := 69) (v := .ref r0) rfl rfl rfl ?_)
          refine wp_of e17 c17_69 (xg_K (pc' := 72) lf_1_12 hW g0 sh_3 (by decide) (by decide) rfl qtk rfl ?_)
          have h2317 : TP T H rb B := TC_tp hTC_tk qrb
          refine wp_of e17 c17_72 (xc_V (pc' := 75) (r := tk) (as := []) (st := []) (lm_1_74) rfl rfl (Nat.le_of_ble_eq_true rfl) hW gtk sh_4 (by decide) rfl (by decide) (u_16 (B := B) (n := n) (a := (xE B n q)) (q := (xN B n q)) hW gtk qrb grb (by omega) (by omega) (by omega) (rfl) h2317) (fun R2318 T2319 H2320 p2321 => ?_))
          obtain ⟨e2322, w2324, f2325, e2323, p2326⟩ := p2321
          subst e2322
          subst e2323
          have f2328 := f0.tr f2325 rfl
          show wp _ _ 17 75 [(2, .ref 22), (0, .ref r0), (1, .ref r1)] [] _ H2320 _
          have u2329 := TC_k p2326
          refine wp_of e17 c17_75 (rw_gs (pc' := 78) (k := 2) rfl rfl rfl rfl ?_)
          refine wp_of e17 c17_78 (rw_aload_n (pc' := 79) (v := .ref 22) rfl rfl rfl ?_)
          refine wp_of e17 c17_79 (rw_ord (pc' := 82) rfl rfl rfl (by decide) (Nat.le_of_ble_eq_true rfl) rfl ?_)
          show wp _ _ 17 82 [(2, .ref 22), (0, .ref r0), (1, .ref r1)] [vI 6, .ref 2] _ H2320 _
          have k2330 : H2320 2 (6 : Int).toNat = 7 := (w2324.2 2 _ w2324.1.2.1).2.2 6 (by decide) |> fun z => by have z1 : (7 : Int) ≤ H2320 2 6 ∧ H2320 2 6 ≤ 7 := z; exact Int.le_antisymm z1.2 z1.1
          refine wp_of e17 c17_82 (rw_iaload (pc' := 83) (n := 11) (w2324.sh w2324.1.2.1 rfl) (by decide) (by decide) (by decide) rfl rfl ?_)
          rw [k2330]
          refine wp_of e17 c17_83 (rw_tsw (p1 := 180) ⟨by omega, by omega⟩ (by decide) ?_)
          refine wp_of e17 c17_180 (rw_aload_n (pc' := 181) (v := .ref r0) rfl rfl rfl ?_)
          refine wp_of e17 c17_181 (rw_aload_n (pc' := 182) (v := .ref r1) rfl rfl rfl ?_)
          have k2332 : H2320 r0 0 = H r0 0 := (f2325 r0 0 _ g0 rfl)
          have q2333 : H2320 r0 0 = (tk : Int) := k2332.trans qtk
          have k2334 : H2320 tk 0 = H tk 0 := (f2325 tk 0 _ gtk rfl)
          have q2335 : H2320 tk 0 = (rb : Int) := k2334.trans qrb
          have k2336 : H2320 r0 3 = H r0 3 := (f2325 r0 3 _ g0 rfl)
          have h2337 : DC T H2320 r1 d := (DC_fr hW g1 f2325 rfl hDC_r1)
          refine wp_of e17 c17_182 (xc_V (pc' := 185) (r := r0) (as := [.ref r1]) (st := []) (lm_1_108) rfl rfl (Nat.le_of_ble_eq_true rfl) w2324 g0 sh_3 (by decide) rfl (by decide) (u_42 (B := B) (n := n) (q := ((xN B n q))) (d := d) w2324 g0 g1 q2333 gtk q2335 grb (by omega) p2326 h2337) (fun R2338 T2339 H2340 p2341 => ?_))
          obtain ⟨e2342, w2344, f2345, z2346, e2343, b2347, p2348⟩ := p2341
          subst e2342
          subst e2343
          rcases p2348 with ⟨a2349, a2350, a2351, a2352, a2353, a2354, a2355⟩ | ⟨a2356, a2357, a2358, a2359, a2360⟩
          · have f2361 := f2328.tr f2345 rfl
            show wp _ _ 17 185 [(2, .ref 22), (0, .ref r0), (1, .ref r1)] [vI z2346] _ H2340 _
            have u2362 := TC_k a2354
            have u2363 := DC_k a2355
            have o2364 : (xline B n q d) = (0, ((xN B n q)), (xN B n (xN B n (xN B n (xN B n ((xN B n q))))))) := by
              unfold xline xl0 xl1 xl2 xl3 xl4 xl5 xl6 xl7 xper
              repeat first | rw [xs_0 (by omega)] | rw [xs_1 (by omega)] | rw [if_pos (by omega)] | rw [if_neg (by omega)]
              first | done | rfl | assumption | (exfalso; omega) | (refine Prod.ext ?_ (Prod.ext ?_ ?_) <;> (try dsimp only) <;> omega)
            have o2364a : ((xline B n q d)).1 = 0 := by rw [o2364]
            have o2364b : ((xline B n q d)).2.1 = ((xN B n q)) := by rw [o2364]
            have o2364c : ((xline B n q d)).2.2 = (xN B n (xN B n (xN B n (xN B n ((xN B n q)))))) := by rw [o2364]
            have o2365 : xdline B n q d = ((xdtl B n ((xN B n q)) d)) := by
              unfold xdline
              repeat first | rw [xs_0 (by omega)] | rw [xs_1 (by omega)] | rw [if_pos (by omega)] | rw [if_neg (by omega)]
              first | done | rfl
            exact wp_zreturn e17 c17_185 rfl (by omega) ⟨rfl, w2344, f2361, z2346, rfl, ⟨by omega, by omega⟩, (Or.inl ⟨by omega, by omega, by omega, by omega, by rw [o2364]; exact a2354, by rw [o2365]; exact a2355⟩)⟩
          · have f2366 := f2328.tr f2345 rfl
            show wp _ _ 17 185 [(2, .ref 22), (0, .ref r0), (1, .ref r1)] [vI z2346] _ H2340 _
            have o2367 : (xline B n q d) = ((xtl B n ((xN B n q)) d).1, (xtl B n ((xN B n q)) d).2.1, (xtl B n ((xN B n q)) d).2.2) := by
              unfold xline xl0 xl1 xl2 xl3 xl4 xl5 xl6 xl7 xper
              repeat first | rw [xs_0 (by omega)] | rw [xs_1 (by omega)] | rw [if_pos (by omega)] | rw [if_neg (by omega)]
              first | done | rfl | assumption | (exfalso; omega) | (refine Prod.ext ?_ (Prod.ext ?_ ?_) <;> (try dsimp only) <;> omega)
            have o2367a : ((xline B n q d)).1 = (xtl B n ((xN B n q)) d).1 := by rw [o2367]
            have o2367b : ((xline B n q d)).2.1 = (xtl B n ((xN B n q)) d).2.1 := by rw [o2367]
            have o2367c : ((xline B n q d)).2.2 = (xtl B n ((xN B n q)) d).2.2 := by rw [o2367]
            exact wp_zreturn e17 c17_185 rfl (by omega) ⟨rfl, w2344, f2366, z2346, rfl, ⟨by omega, by omega⟩, (Or.inr ⟨by omega, by omega, by omega, by omega, by omega⟩)⟩
        · refine wp_of e17 c17_34 (rw_aload_n (pc' := 35) (v := .ref 22) rfl rfl rfl ?_)
          refine wp_of e17 c17_35 (rw_gs (pc' := 38) (k := 16) rfl rfl rfl rfl ?_)
          refine wp_of e17 c17_38 (rw_acmp_eq (p1 := 48) (p2 := 41) (a := some 22) (b := some 16) rfl rfl (by decide) rfl (fun q9 => absurd q9 (by decide)) (fun q9 => ?_))
          refine wp_of e17 c17_41 (rw_aload_n (pc' := 42) (v := .ref 22) rfl rfl rfl ?_)
          refine wp_of e17 c17_42 (rw_gs (pc' := 45) (k := 18) rfl rfl rfl rfl ?_)
          refine wp_of e17 c17_45 (rw_acmp_ne (p1 := 52) (p2 := 48) (a := some 22) (b := some 18) rfl rfl (by decide) rfl (fun q9 => ?_) (fun q9 => absurd q9 (by decide)))
          refine wp_of e17 c17_52 (rw_iconst (pc' := 53) rfl ?_)
          refine wp_of e17 c17_53 (rw_istore_n (pc' := 54) (z := 0) (L' := [(3, vI 0), (2, .ref 22), (0, .ref r0), (1, .ref r1)]) rfl rfl rfl ?_)
          refine wp_of e17 c17_54 (rw_aload_n (pc' := 55) (v := .ref r0) rfl rfl rfl ?_)
          refine wp_of e17 c17_55 (rw_iload_n (pc' := 56) (z := 0) rfl rfl ?_)
          refine wp_of e17 c17_56 (rw_if_eq (p1 := 63) (p2 := 59) (by decide) rfl ⟨by omega, by omega⟩ (fun c2368 => ?_) (fun c2368 => ?_))
          · refine wp_of e17 c17_63 (rw_iconst (pc' := 64) rfl ?_)
            refine wp_of e17 c17_64 (xc_V (pc' := 67) (r := r0) (as := [vI 5]) (st := []) (lm_1_47) rfl rfl (Nat.le_of_ble_eq_true rfl) hW g0 sh_3 (by decide) rfl (by decide) (u_20  hW g0 ⟨by omega, by omega⟩ qtk gtk) (fun R2369 T2370 H2371 p2372 => ?_))
            obtain ⟨e2373, w2375, f2376, z2377, e2374, b2378, p2379⟩ := p2372
            subst e2373
            subst e2374
            obtain ⟨a2380, a2381, a2382⟩ := p2379
            have f2383 := f0.tr f2376 rfl
            show wp _ _ 17 67 [(3, vI 0), (2, .ref 22), (0, .ref r0), (1, .ref r1)] [vI z2377] _ H2371 _
            have o2384 : (xline B n q d) = (5, q, q) := by
              unfold xline xl0 xl1 xl2 xl3 xl4 xl5 xl6 xl7 xper
              repeat first | rw [xs_0 (by omega)] | rw [xs_1 (by omega)] | rw [if_pos (by omega)] | rw [if_neg (by omega)]
              first | done | rfl | assumption | (exfalso; omega) | (refine Prod.ext ?_ (Prod.ext ?_ ?_) <;> (try dsimp only) <;> omega)
            have o2384a : ((xline B n q d)).1 = 5 := by rw [o2384]
            have o2384b : ((xline B n q d)).2.1 = q := by rw [o2384]
            have o2384c : ((xline B n q d)).2.2 = q := by rw [o2384]
            exact wp_zreturn e17 c17_67 rfl (by omega) ⟨rfl, w2375, f2383, z2377, rfl, ⟨by omega, by omega⟩, (Or.inr ⟨by omega, by omega, by omega, by omega, by omega⟩)⟩
          · exfalso
            omega
      · exfalso
        omega
    · subst c1749
      show wp _ _ 17 4 [(0, .ref r0), (1, .ref r1)] [.ref 23] _ H _
      refine wp_of e17 c17_4 (rw_astore_n (pc' := 5) (v := .ref 23) (L' := [(2, .ref 23), (0, .ref r0), (1, .ref r1)]) rfl rfl rfl rfl ?_)
      refine wp_of e17 c17_5 (rw_aload_n (pc' := 6) (v := .ref 23) rfl rfl rfl ?_)
      refine wp_of e17 c17_6 (rw_ifnull_r (p1 := 16) (p2 := 9) (by decide) rfl ?_)
      refine wp_of e17 c17_9 (rw_aload_n (pc' := 10) (v := .ref 23) rfl rfl rfl ?_)
      have k2385 : H 23 1 = 6 := (hW.2 23 _ (hW.1.2.2 7 (by decide))).2.2 1 (by decide) |> fun z => by have z1 : (6 : Int) ≤ H 23 1 ∧ H 23 1 ≤ 6 := z; omega
      refine wp_of e17 c17_10 (rw_getI (pc' := 13) (n := 2) (e := _) (lf_1_58).choose_spec.1 (lf_1_58).choose_spec.2.1 (hW.sh (hW.1.2.2 7 (by decide)) rfl) (by decide) rfl rfl ?_)
      rw [k2385]
      refine wp_of e17 c17_13 (rw_if_ne (p1 := 22) (p2 := 16) (by decide) rfl ⟨by omega, by omega⟩ (fun c2386 => ?_) (fun c2386 => ?_))
      · refine wp_of e17 c17_22 (rw_aload_n (pc' := 23) (v := .ref r1) rfl rfl rfl ?_)
        refine wp_of e17 c17_23 (rw_aload_n (pc' := 24) (v := .ref 23) rfl rfl rfl ?_)
        refine wp_of e17 c17_24 (xc_V (pc' := 27) (r := r1) (as := [.ref 23]) (st := []) (lm_1_63) rfl rfl (Nat.le_of_ble_eq_true rfl) hW g1 sh_27 (by decide) rfl (by decide) (u_21_23  hW g1) (fun R2387 T2388 H2389 p2390 => ?_))
        obtain ⟨e2391, e2393, z2394, e2392, b2395, p2396⟩ := p2390
        subst e2391
        subst e2392
        subst e2393
        obtain ⟨a2397, a2398⟩ := p2396
        show wp _ _ 17 27 [(2, .ref 23), (0, .ref r0), (1, .ref r1)] [vI z2394] _ H _
        refine wp_of e17 c17_27 (rw_aload_n (pc' := 28) (v := .ref 23) rfl rfl rfl ?_)
        have k2399 : H 23 1 = 6 := (hW.2 23 _ (hW.1.2.2 7 (by decide))).2.2 1 (by decide) |> fun z => by have z1 : (6 : Int) ≤ H 23 1 ∧ H 23 1 ≤ 6 := z; omega
        refine wp_of e17 c17_28 (rw_getI (pc' := 31) (n := 2) (e := _) (lf_1_58).choose_spec.1 (lf_1_58).choose_spec.2.1 (hW.sh (hW.1.2.2 7 (by decide)) rfl) (by decide) rfl rfl ?_)
        rw [k2399]
        refine wp_of e17 c17_31 (rw_icmp_lt (p1 := 68) (p2 := 34) (by decide) rfl ⟨by omega, by omega⟩ ⟨by omega, by omega⟩ (fun c2400 => ?_) (fun c2400 => ?_))
        · refine wp_of e17 c17_68 (rw_aload_n (pc' := 69) (v := .ref r0) rfl rfl rfl ?_)
          refine wp_of e17 c17_69 (xg_K (pc' := 72) lf_1_12 hW g0 sh_3 (by decide) (by decide) rfl qtk rfl ?_)
          have h2401 : TP T H rb B := TC_tp hTC_tk qrb
          refine wp_of e17 c17_72 (xc_V (pc' := 75) (r := tk) (as := []) (st := []) (lm_1_74) rfl rfl (Nat.le_of_ble_eq_true rfl) hW gtk sh_4 (by decide) rfl (by decide) (u_16 (B := B) (n := n) (a := (xE B n q)) (q := (xN B n q)) hW gtk qrb grb (by omega) (by omega) (by omega) (rfl) h2401) (fun R2402 T2403 H2404 p2405 => ?_))
          obtain ⟨e2406, w2408, f2409, e2407, p2410⟩ := p2405
          subst e2406
          subst e2407
          have f2412 := f0.tr f2409 rfl
          show wp _ _ 17 75 [(2, .ref 23), (0, .ref r0), (1, .ref r1)] [] _ H2404 _
          have u2413 := TC_k p2410
          refine wp_of e17 c17_75 (rw_gs (pc' := 78) (k := 2) rfl rfl rfl rfl ?_)
          refine wp_of e17 c17_78 (rw_aload_n (pc' := 79) (v := .ref 23) rfl rfl rfl ?_)
          refine wp_of e17 c17_79 (rw_ord (pc' := 82) rfl rfl rfl (by decide) (Nat.le_of_ble_eq_true rfl) rfl ?_)
          show wp _ _ 17 82 [(2, .ref 23), (0, .ref r0), (1, .ref r1)] [vI 7, .ref 2] _ H2404 _
          have k2414 : H2404 2 (7 : Int).toNat = 8 := (w2408.2 2 _ w2408.1.2.1).2.2 7 (by decide) |> fun z => by have z1 : (8 : Int) ≤ H2404 2 7 ∧ H2404 2 7 ≤ 8 := z; exact Int.le_antisymm z1.2 z1.1
          refine wp_of e17 c17_82 (rw_iaload (pc' := 83) (n := 11) (w2408.sh w2408.1.2.1 rfl) (by decide) (by decide) (by decide) rfl rfl ?_)
          rw [k2414]
          refine wp_of e17 c17_83 (rw_tsw (p1 := 186) ⟨by omega, by omega⟩ (by decide) ?_)
          refine wp_of e17 c17_186 (rw_aload_n (pc' := 187) (v := .ref r0) rfl rfl rfl ?_)
          refine wp_of e17 c17_187 (rw_aload_n (pc' := 188) (v := .ref r1) rfl rfl rfl ?_)
          have k2416 : H2404 r0 0 = H r0 0 := (f2409 r0 0 _ g0 rfl)
          have q2417 : H2404 r0 0 = (tk : Int) := k2416.trans qtk
          have k2418 : H2404 tk 0 = H tk 0 := (f2409 tk 0 _ gtk rfl)
          have q2419 : H2404 tk 0 = (rb : Int) := k2418.trans qrb
          have k2420 : H2404 r0 3 = H r0 3 := (f2409 r0 3 _ g0 rfl)
          have h2421 : DC T H2404 r1 d := (DC_fr hW g1 f2409 rfl hDC_r1)
          refine wp_of e17 c17_188 (xc_V (pc' := 191) (r := r0) (as := [.ref r1]) (st := []) (lm_1_111) rfl rfl (Nat.le_of_ble_eq_true rfl) w2408 g0 sh_3 (by decide) rfl (by decide) (u_43 (B := B) (n := n) (q := ((xN B n q))) (d := d) w2408 g0 g1 q2417 gtk q2419 grb (by omega) p2410 h2421) (fun R2422 T2423 H2424 p2425 => ?_))
          obtain ⟨e2426, w2428, f2429, z2430, e2427, b2431, p2432⟩ := p2425
          subst e2426
          subst e2427
          rcases p2432 with ⟨a2433, a2434, a2435, a2436, a2437, a2438, a2439⟩ | ⟨a2440, a2441, a2442, a2443, a2444⟩
          · have f2445 := f2412.tr f2429 rfl
            show wp _ _ 17 191 [(2, .ref 23), (0, .ref r0), (1, .ref r1)] [vI z2430] _ H2424 _
            have u2446 := TC_k a2438
            have u2447 := DC_k a2439
            have o2448 : (xline B n q d) = (0, ((xN B n q)), (xN B n (xN B n (xN B n (xN B n ((xN B n q))))))) := by
              unfold xline xl0 xl1 xl2 xl3 xl4 xl5 xl6 xl7 xper
              repeat first | rw [xs_0 (by omega)] | rw [xs_1 (by omega)] | rw [if_pos (by omega)] | rw [if_neg (by omega)]
              first | done | rfl | assumption | (exfalso; omega) | (refine Prod.ext ?_ (Prod.ext ?_ ?_) <;> (try dsimp only) <;> omega)
            have o2448a : ((xline B n q d)).1 = 0 := by rw [o2448]
            have o2448b : ((xline B n q d)).2.1 = ((xN B n q)) := by rw [o2448]
            have o2448c : ((xline B n q d)).2.2 = (xN B n (xN B n (xN B n (xN B n ((xN B n q)))))) := by rw [o2448]
            have o2449 : xdline B n q d = ((xdof B n ((xN B n q)) d)) := by
              unfold xdline
              repeat first | rw [xs_0 (by omega)] | rw [xs_1 (by omega)] | rw [if_pos (by omega)] | rw [if_neg (by omega)]
              first | done | rfl
            exact wp_zreturn e17 c17_191 rfl (by omega) ⟨rfl, w2428, f2445, z2430, rfl, ⟨by omega, by omega⟩, (Or.inl ⟨by omega, by omega, by omega, by omega, by rw [o2448]; exact a2438, by rw [o2449]; exact a2439⟩)⟩
          · have f2450 := f2412.tr f2429 rfl
            show wp _ _ 17 191 [(2, .ref 23), (0, .ref r0), (1, .ref r1)] [vI z2430] _ H2424 _
            have o2451 : (xline B n q d) = ((xtl B n ((xN B n q)) d).1, (xtl B n ((xN B n q)) d).2.1, (xtl B n ((xN B n q)) d).2.2) := by
              unfold xline xl0 xl1 xl2 xl3 xl4 xl5 xl6 xl7 xper
              repeat first | rw [xs_0 (by omega)] | rw [xs_1 (by omega)] | rw [if_pos (by omega)] | rw [if_neg (by omega)]
              first | done | rfl | assumption | (exfalso; omega) | (refine Prod.ext ?_ (Prod.ext ?_ ?_) <;> (try dsimp only) <;> omega)
            have o2451a : ((xline B n q d)).1 = (xtl B n ((xN B n q)) d).1 := by rw [o2451]
            have o2451b : ((xline B n q d)).2.1 = (xtl B n ((xN B n q)) d).2.1 := by rw [o2451]
            have o2451c : ((xline B n q d)).2.2 = (xtl B n ((xN B n q)) d).2.2 := by rw [o2451]
            exact wp_zreturn e17 c17_191 rfl (by omega) ⟨rfl, w2428, f2450, z2430, rfl, ⟨by omega, by omega⟩, (Or.inr ⟨by omega, by omega, by omega, by omega, by omega⟩)⟩
        · refine wp_of e17 c17_34 (rw_aload_n (pc' := 35) (v := .ref 23) rfl rfl rfl ?_)
          refine wp_of e17 c17_35 (rw_gs (pc' := 38) (k := 16) rfl rfl rfl rfl ?_)
          refine wp_of e17 c17_38 (rw_acmp_eq (p1 := 48) (p2 := 41) (a := some 23) (b := some 16) rfl rfl (by decide) rfl (fun q9 => absurd q9 (by decide)) (fun q9 => ?_))
          refine wp_of e17 c17_41 (rw_aload_n (pc' := 42) (v := .ref 23) rfl rfl rfl ?_)
          refine wp_of e17 c17_42 (rw_gs (pc' := 45) (k := 18) rfl rfl rfl rfl ?_)
          refine wp_of e17 c17_45 (rw_acmp_ne (p1 := 52) (p2 := 48) (a := some 23) (b := some 18) rfl rfl (by decide) rfl (fun q9 => ?_) (fun q9 => absurd q9 (by decide)))
          refine wp_of e17 c17_52 (rw_iconst (pc' := 53) rfl ?_)
          refine wp_of e17 c17_53 (rw_istore_n (pc' := 54) (z := 0) (L' := [(3, vI 0), (2, .ref 23), (0, .ref r0), (1, .ref r1)]) rfl rfl rfl ?_)
          refine wp_of e17 c17_54 (rw_aload_n (pc' := 55) (v := .ref r0) rfl rfl rfl ?_)
          refine wp_of e17 c17_55 (rw_iload_n (pc' := 56) (z := 0) rfl rfl ?_)
          refine wp_of e17 c17_56 (rw_if_eq (p1 := 63) (p2 := 59) (by decide) rfl ⟨by omega, by omega⟩ (fun c2452 => ?_) (fun c2452 => ?_))
          · refine wp_of e17 c17_63 (rw_iconst (pc' := 64) rfl ?_)
            refine wp_of e17 c17_64 (xc_V (pc' := 67) (r := r0) (as := [vI 5]) (st := []) (lm_1_47) rfl rfl (Nat.le_of_ble_eq_true rfl) hW g0 sh_3 (by decide) rfl (by decide) (u_20  hW g0 ⟨by omega, by omega⟩ qtk gtk) (fun R2453 T2454 H2455 p2456 => ?_))
            obtain ⟨e2457, w2459, f2460, z2461, e2458, b2462, p2463⟩ := p2456
            subst e2457
            subst e2458
            obtain ⟨a2464, a2465, a2466⟩ := p2463
            have f2467 := f0.tr f2460 rfl
            show wp _ _ 17 67 [(3, vI 0), (2, .ref 23), (0, .ref r0), (1, .ref r1)] [vI z2461] _ H2455 _
            have o2468 : (xline B n q d) = (5, q, q) := by
              unfold xline xl0 xl1 xl2 xl3 xl4 xl5 xl6 xl7 xper
              repeat first | rw [xs_0 (by omega)] | rw [xs_1 (by omega)] | rw [if_pos (by omega)] | rw [if_neg (by omega)]
              first | done | rfl | assumption | (exfalso; omega) | (refine Prod.ext ?_ (Prod.ext ?_ ?_) <;> (try dsimp only) <;> omega)
            have o2468a : ((xline B n q d)).1 = 5 := by rw [o2468]
            have o2468b : ((xline B n q d)).2.1 = q := by rw [o2468]
            have o2468c : ((xline B n q d)).2.2 = q := by rw [o2468]
            exact wp_zreturn e17 c17_67 rfl (by omega) ⟨rfl, w2459, f2467, z2461, rfl, ⟨by omega, by omega⟩, (Or.inr ⟨by omega, by omega, by omega, by omega, by omega⟩)⟩
          · exfalso
            omega
      · exfalso
        omega
    · subst c1749
      show wp _ _ 17 4 [(0, .ref r0), (1, .ref r1)] [.ref 24] _ H _
      refine wp_of e17 c17_4 (rw_astore_n (pc' := 5) (v := .ref 24) (L' := [(2, .ref 24), (0, .ref r0), (1, .ref r1)]) rfl rfl rfl rfl ?_)
      refine wp_of e17 c17_5 (rw_aload_n (pc' := 6) (v := .ref 24) rfl rfl rfl ?_)
      refine wp_of e17 c17_6 (rw_ifnull_r (p1 := 16) (p2 := 9) (by decide) rfl ?_)
      refine wp_of e17 c17_9 (rw_aload_n (pc' := 10) (v := .ref 24) rfl rfl rfl ?_)
      have k2469 : H 24 1 = 0 := (hW.2 24 _ (hW.1.2.2 8 (by decide))).2.2 1 (by decide) |> fun z => by have z1 : (0 : Int) ≤ H 24 1 ∧ H 24 1 ≤ 0 := z; omega
      refine wp_of e17 c17_10 (rw_getI (pc' := 13) (n := 2) (e := _) (lf_1_58).choose_spec.1 (lf_1_58).choose_spec.2.1 (hW.sh (hW.1.2.2 8 (by decide)) rfl) (by decide) rfl rfl ?_)
      rw [k2469]
      refine wp_of e17 c17_13 (rw_if_ne (p1 := 22) (p2 := 16) (by decide) rfl ⟨by omega, by omega⟩ (fun c2470 => ?_) (fun c2470 => ?_))
      · exfalso
        omega
      · refine wp_of e17 c17_16 (rw_aload_n (pc' := 17) (v := .ref r0) rfl rfl rfl ?_)
        refine wp_of e17 c17_17 (rw_iconst (pc' := 18) rfl ?_)
        refine wp_of e17 c17_18 (xc_V (pc' := 21) (r := r0) (as := [vI 1]) (st := []) (lm_1_47) rfl rfl (Nat.le_of_ble_eq_true rfl) hW g0 sh_3 (by decide) rfl (by decide) (u_20  hW g0 ⟨by omega, by omega⟩ qtk gtk) (fun R2471 T2472 H2473 p2474 => ?_))
        obtain ⟨e2475, w2477, f2478, z2479, e2476, b2480, p2481⟩ := p2474
        subst e2475
        subst e2476
        obtain ⟨a2482, a2483, a2484⟩ := p2481
        have f2485 := f0.tr f2478 rfl
        show wp _ _ 17 21 [(2, .ref 24), (0, .ref r0), (1, .ref r1)] [vI z2479] _ H2473 _
        have o2486 : (xline B n q d) = (1, q, q) := by
          unfold xline xl0 xl1 xl2 xl3 xl4 xl5 xl6 xl7 xper
          repeat first | rw [xs_0 (by omega)] | rw [xs_1 (by omega)] | rw [if_pos (by omega)] | rw [if_neg (by omega)]
          first | done | rfl | assumption | (exfalso; omega) | (refine Prod.ext ?_ (Prod.ext ?_ ?_) <;> (try dsimp only) <;> omega)
        have o2486a : ((xline B n q d)).1 = 1 := by rw [o2486]
        have o2486b : ((xline B n q d)).2.1 = q := by rw [o2486]
        have o2486c : ((xline B n q d)).2.2 = q := by rw [o2486]
        exact wp_zreturn e17 c17_21 rfl (by omega) ⟨rfl, w2477, f2485, z2479, rfl, ⟨by omega, by omega⟩, (Or.inr ⟨by omega, by omega, by omega, by omega, by omega⟩)⟩
    · subst c1749
      show wp _ _ 17 4 [(0, .ref r0), (1, .ref r1)] [.ref 25] _ H _
      refine wp_of e17 c17_4 (rw_astore_n (pc' := 5) (v := .ref 25) (L' := [(2, .ref 25), (0, .ref r0), (1, .ref r1)]) rfl rfl rfl rfl ?_)
      refine wp_of e17 c17_5 (rw_aload_n (pc' := 6) (v := .ref 25) rfl rfl rfl ?_)
      refine wp_of e17 c17_6 (rw_ifnull_r (p1 := 16) (p2 := 9) (by decide) rfl ?_)
      refine wp_of e17 c17_9 (rw_aload_n (pc' := 10) (v := .ref 25) rfl rfl rfl ?_)
      have k2487 : H 25 1 = 0 := (hW.2 25 _ (hW.1.2.2 9 (by decide))).2.2 1 (by decide) |> fun z => by have z1 : (0 : Int) ≤ H 25 1 ∧ H 25 1 ≤ 0 := z; omega
      refine wp_of e17 c17_10 (rw_getI (pc' := 13) (n := 2) (e := _) (lf_1_58).choose_spec.1 (lf_1_58).choose_spec.2.1 (hW.sh (hW.1.2.2 9 (by decide)) rfl) (by decide) rfl rfl ?_)
      rw [k2487]
      refine wp_of e17 c17_13 (rw_if_ne (p1 := 22) (p2 := 16) (by decide) rfl ⟨by omega, by omega⟩ (fun c2488 => ?_) (fun c2488 => ?_))
      · exfalso
        omega
      · refine wp_of e17 c17_16 (rw_aload_n (pc' := 17) (v := .ref r0) rfl rfl rfl ?_)
        refine wp_of e17 c17_17 (rw_iconst (pc' := 18) rfl ?_)
        refine wp_of e17 c17_18 (xc_V (pc' := 21) (r := r0) (as := [vI 1]) (st := []) (lm_1_47) rfl rfl (Nat.le_of_ble_eq_true rfl) hW g0 sh_3 (by decide) rfl (by decide) (u_20  hW g0 ⟨by omega, by omega⟩ qtk gtk) (fun R2489 T2490 H2491 p2492 => ?_))
        obtain ⟨e2493, w2495, f2496, z2497, e2494, b2498, p2499⟩ := p2492
        subst e2493
        subst e2494
        obtain ⟨a2500, a2501, a2502⟩ := p2499
        have f2503 := f0.tr f2496 rfl
        show wp _ _ 17 21 [(2, .ref 25), (0, .ref r0), (1, .ref r1)] [vI z2497] _ H2491 _
        have o2504 : (xline B n q d) = (1, q, q) := by
          unfold xline xl0 xl1 xl2 xl3 xl4 xl5 xl6 xl7 xper
          repeat first | rw [xs_0 (by omega)] | rw [xs_1 (by omega)] | rw [if_pos (by omega)] | rw [if_neg (by omega)]
          first | done | rfl | assumption | (exfalso; omega) | (refine Prod.ext ?_ (Prod.ext ?_ ?_) <;> (try dsimp only) <;> omega)
        have o2504a : ((xline B n q d)).1 = 1 := by rw [o2504]
        have o2504b : ((xline B n q d)).2.1 = q := by rw [o2504]
        have o2504c : ((xline B n q d)).2.2 = q := by rw [o2504]
        exact wp_zreturn e17 c17_21 rfl (by omega) ⟨rfl, w2495, f2503, z2497, rfl, ⟨by omega, by omega⟩, (Or.inr ⟨by omega, by omega, by omega, by omega, by omega⟩)⟩
    · subst c1749
      show wp _ _ 17 4 [(0, .ref r0), (1, .ref r1)] [.ref 26] _ H _
      refine wp_of e17 c17_4 (rw_astore_n (pc' := 5) (v := .ref 26) (L' := [(2, .ref 26), (0, .ref r0), (1, .ref r1)]) rfl rfl rfl rfl ?_)
      refine wp_of e17 c17_5 (rw_aload_n (pc' := 6) (v := .ref 26) rfl rfl rfl ?_)
      refine wp_of e17 c17_6 (rw_ifnull_r (p1 := 16) (p2 := 9) (by decide) rfl ?_)
      refine wp_of e17 c17_9 (rw_aload_n (pc' := 10) (v := .ref 26) rfl rfl rfl ?_)
      have k2505 : H 26 1 = 0 := (hW.2 26 _ (hW.1.2.2 10 (by decide))).2.2 1 (by decide) |> fun z => by have z1 : (0 : Int) ≤ H 26 1 ∧ H 26 1 ≤ 0 := z; omega
      refine wp_of e17 c17_10 (rw_getI (pc' := 13) (n := 2) (e := _) (lf_1_58).choose_spec.1 (lf_1_58).choose_spec.2.1 (hW.sh (hW.1.2.2 10 (by decide)) rfl) (by decide) rfl rfl ?_)
      rw [k2505]
      refine wp_of e17 c17_13 (rw_if_ne (p1 := 22) (p2 := 16) (by decide) rfl ⟨by omega, by omega⟩ (fun c2506 => ?_) (fun c2506 => ?_))
      · exfalso
        omega
      · refine wp_of e17 c17_16 (rw_aload_n (pc' := 17) (v := .ref r0) rfl rfl rfl ?_)
        refine wp_of e17 c17_17 (rw_iconst (pc' := 18) rfl ?_)
        refine wp_of e17 c17_18 (xc_V (pc' := 21) (r := r0) (as := [vI 1]) (st := []) (lm_1_47) rfl rfl (Nat.le_of_ble_eq_true rfl) hW g0 sh_3 (by decide) rfl (by decide) (u_20  hW g0 ⟨by omega, by omega⟩ qtk gtk) (fun R2507 T2508 H2509 p2510 => ?_))
        obtain ⟨e2511, w2513, f2514, z2515, e2512, b2516, p2517⟩ := p2510
        subst e2511
        subst e2512
        obtain ⟨a2518, a2519, a2520⟩ := p2517
        have f2521 := f0.tr f2514 rfl
        show wp _ _ 17 21 [(2, .ref 26), (0, .ref r0), (1, .ref r1)] [vI z2515] _ H2509 _
        have o2522 : (xline B n q d) = (1, q, q) := by
          unfold xline xl0 xl1 xl2 xl3 xl4 xl5 xl6 xl7 xper
          repeat first | rw [xs_0 (by omega)] | rw [xs_1 (by omega)] | rw [if_pos (by omega)] | rw [if_neg (by omega)]
          first | done | rfl | assumption | (exfalso; omega) | (refine Prod.ext ?_ (Prod.ext ?_ ?_) <;> (try dsimp only) <;> omega)
        have o2522a : ((xline B n q d)).1 = 1 := by rw [o2522]
        have o2522b : ((xline B n q d)).2.1 = q := by rw [o2522]
        have o2522c : ((xline B n q d)).2.2 = q := by rw [o2522]
        exact wp_zreturn e17 c17_21 rfl (by omega) ⟨rfl, w2513, f2521, z2515, rfl, ⟨by omega, by omega⟩, (Or.inr ⟨by omega, by omega, by omega, by omega, by omega⟩)⟩
/-! StrikeAwake$Reader.reads([BILStrikeAwake$Parish;)Z  -/
abbrev uq_13 (r0 : Nat) (r1 : Nat) (a2 : Int) (r3 : Nat) (tk : Nat) (B : Nat → Int) (T : wq_T) (H : wq_H) : Option Value → wq_T → wq_H → Prop := fun r T' H' => T = T' ∧ WT T H' ∧ wfr [(27, 7), (27, 8), (27, 9), (27, 10), (27, 11), (27, 12), (27, 13), (27, 14), (27, 15), (27, 16), (27, 17), (27, 18), (35, 6), (35, 7), (35, 8), (35, 9), (35, 10), (35, 11), (35, 12), (35, 13), (35, 14), (35, 15), (35, 16), (35, 17), (3, 1), (3, 2), (3, 3), (3, 4), (4, 0), (4, 1), (4, 2), (4, 3), (4, 4), (4, 5), (4, 6), (31, 999), (34, 999), (29, 999), (30, 999), (33, 999), (32, 999)] T H H' ∧ ∃ z : Int, some (vI z) = r ∧ (0 ≤ z ∧ z ≤ 1) ∧ (((z = 1) ∧ (((xparse B a2).1).1 = 0) ∧ (H' r0 3 = 0) ∧ DC T H' r3 ((xparse B a2).2)) ∨ ((z = 0) ∧ (((xparse B a2).1).1 ≠ 0) ∧ (H' r0 3 = ((xparse B a2).1).1) ∧ (H' r0 4 = ((xparse B a2).1).2.1)))
set_option maxHeartbeats 4000000 in
theorem u_13 {kt : Nat → Option mc_E} {T : wq_T} {H : wq_H} {r0 : Nat} {r1 : Nat} {a2 : Int} {r3 : Nat} {tk : Nat} {B : Nat → Int} (hW : WT T H) (g0 : T.2.2.2 r0 = some 3) (g1 : T.2.2.2 r1 = some 2) (i2 : 0 ≤ a2 ∧ a2 ≤ 900) (g3 : T.2.2.2 r3 = some 27) (qtk : H r0 0 = (tk : Int)) (gtk : T.2.2.2 tk = some 4) (hTP_r1 : TP T H r1 B) (hDD_r3 : DD T H r3 ) : wpc kt 7 13 [.ref r0, .ref r1, vI a2, .ref r3] T H (uq_13 r0 r1 a2 r3 tk B T H) := by
  refine wp_enter e13 (Nat.le_of_ble_eq_true rfl) rfl ?_
  have f0 : wfr [(27, 7), (27, 8), (27, 9), (27, 10), (27, 11), (27, 12), (27, 13), (27, 14), (27, 15), (27, 16), (27, 17), (27, 18), (35, 6), (35, 7), (35, 8), (35, 9), (35, 10), (35, 11), (35, 12), (35, 13), (35, 14), (35, 15), (35, 16), (35, 17), (3, 1), (3, 2), (3, 3), (3, 4), (4, 0), (4, 1), (4, 2), (4, 3), (4, 4), (4, 5), (4, 6), (31, 999), (34, 999), (29, 999), (30, 999), (33, 999), (32, 999)] T H H := wfr.rf
  show wp _ _ 13 0 [(0, .ref r0), (1, .ref r1), (2, vI a2), (3, .ref r3)] [] _ H _
  refine wp_of e13 c13_0 (rw_aload_n (pc' := 1) (v := .ref r0) rfl rfl rfl ?_)
  refine wp_of e13 c13_1 (rw_iconst (pc' := 2) rfl ?_)
  refine wp_of e13 c13_2 (xp_I (pc' := 5) lf_1_18 hW g0 sh_3 (by decide) (by decide) ty_3_3 rfl rfl (by omega) (by omega) ⟨by omega, by omega⟩ rfl (fun H1660 e1661 w1662 => ?_))
  have f1663 := f0.put' e1661 g0 rfl
  have k1664 : H1660 r0 3 = 0 := wq_u_s e1661
  refine wp_of e13 c13_5 (rw_aload_n (pc' := 6) (v := .ref r0) rfl rfl rfl ?_)
  refine wp_of e13 c13_6 (rw_iconst (pc' := 7) rfl ?_)
  refine wp_of e13 c13_7 (xp_I (pc' := 10) lf_1_22 w1662 g0 sh_3 (by decide) (by decide) ty_3_4 rfl rfl (by omega) (by omega) ⟨by omega, by omega⟩ rfl (fun H1665 e1666 w1667 => ?_))
  have f1668 := f1663.put' e1666 g0 rfl
  have k1669 : H1665 r0 4 = -1 := wq_u_s e1666
  refine wp_of e13 c13_10 (rw_aload_n (pc' := 11) (v := .ref r3) rfl rfl rfl ?_)
  refine wp_of e13 c13_11 (xc_V (pc' := 14) (r := r3) (as := []) (st := []) (lm_1_25) rfl rfl (Nat.le_of_ble_eq_true rfl) w1667 g3 sh_27 (by decide) rfl (by decide) (u_14  w1667 g3) (fun R1670 T1671 H1672 p1673 => ?_))
  obtain ⟨e1674, w1676, f1677, e1675, p1678⟩ := p1673
  subst e1674
  subst e1675
  have f1680 := f1668.tr f1677 rfl
  show wp _ _ 13 14 [(0, .ref r0), (1, .ref r1), (2, vI a2), (3, .ref r3)] [] _ H1672 _
  have u1681 := DC_k p1678
  refine wp_of e13 c13_14 (rw_aload_n (pc' := 15) (v := .ref r0) rfl rfl rfl ?_)
  have k1682 : H1672 r0 0 = H r0 0 := ((f1677 r0 0 _ g0 rfl).trans ((wq_u_j e1666 rfl).trans (wq_u_j e1661 rfl)))
  have q1683 : H1672 r0 0 = (tk : Int) := k1682.trans qtk
  refine wp_of e13 c13_15 (xg_K (pc' := 18) lf_1_12 w1676 g0 sh_3 (by decide) (by decide) rfl q1683 rfl ?_)
  refine wp_of e13 c13_18 (rw_aload_n (pc' := 19) (v := .ref r1) rfl rfl rfl ?_)
  refine wp_of e13 c13_19 (rw_iload_n (pc' := 20) (z := a2) rfl rfl ?_)
  have h1684 : TP T H1672 r1 B := (TP_fr w1667 g1 f1677 rfl (TP_fr w1662 g1 ((wfr.rf (l := [(3, 4)])).put' e1666 g0 rfl) rfl (TP_fr hW g1 ((wfr.rf (l := [(3, 3)])).put' e1661 g0 rfl) rfl hTP_r1)))
  refine wp_of e13 c13_20 (xc_V (pc' := 23) (r := tk) (as := [.ref r1, vI a2]) (st := []) (lm_1_30) rfl rfl (Nat.le_of_ble_eq_true rfl) w1676 gtk sh_4 (by decide) rfl (by decide) (u_15 (B := B) w1676 gtk g1 ⟨by omega, by omega⟩ h1684) (fun R1685 T1686 H1687 p1688 => ?_))
  obtain ⟨e1689, w1691, f1692, e1690, p1693⟩ := p1688
  subst e1689
  subst e1690
  obtain ⟨a1694, a1695⟩ := p1693
  have f1696 := f1680.tr f1692 rfl
  show wp _ _ 13 23 [(0, .ref r0), (1, .ref r1), (2, vI a2), (3, .ref r3)] [] _ H1687 _
  have u1697 := TC_k a1695
  refine wp_of e13 c13_23 (rw_iconst (pc' := 24) rfl ?_)
  refine wp_of e13 c13_24 (rw_istore (pc' := 26) (z := 0) (L' := [(4, vI 0), (0, .ref r0), (1, .ref r1), (2, vI a2), (3, .ref r3)]) rfl rfl rfl ?_)
  have k2210 : H1687 r0 3 = H1660 r0 3 := ((f1692 r0 3 _ g0 rfl).trans ((f1677 r0 3 _ g0 rfl).trans (wq_u_j e1666 rfl)))
  have lp2203 : ∀ (n2204 : Nat) (v2206 : Int) (H2207 : wq_H) (q2208 : Int) (d2209 : xD), WT T H2207 → wfr [(27, 7), (27, 8), (27, 9), (27, 10), (27, 11), (27, 12), (27, 13), (27, 14), (27, 15), (27, 16), (35, 6), (35, 7), (35, 8), (35, 9), (35, 10), (35, 11), (35, 12), (35, 13), (35, 14), (35, 15), (35, 16), (35, 17), (3, 1), (3, 2), (3, 3), (3, 4), (4, 2), (4, 3), (4, 4), (4, 5), (4, 6), (31, 999), (34, 999), (29, 999), (30, 999), (33, 999), (32, 999)] T H1687 H2207 → (0 ≤ v2206 ∧ v2206 ≤ 901) → (H2207 r0 3 = 0) → TC T H2207 tk B a2 q2208 → DC T H2207 r3 d2209 → (v2206 ≤ q2208) → (xpf B a2 (902 - v2206).toNat q2208 d2209 = xparse B a2) → (901 - v2206).toNat = n2204 → wp kt 6 13 26 [(4, vI v2206), (0, .ref r0), (3, .ref r3)] [] T H2207 (uq_13 r0 r1 a2 r3 tk B T H) := by
    intro n2204
    induction n2204 using Nat.strongRecOn with
    | _ n2204 ih2205 =>
      intro v2206 H2207 q2208 d2209 w2211 f2212 b2213 x2214 h2216 h2217 x2218 x2219 m2215
      have f2220 := f1696.tr f2212 rfl
      have u2221 := TC_k h2216
      have u2222 := DC_k h2217
      refine wp_of e13 c13_26 (rw_iload (pc' := 28) (z := v2206) rfl rfl ?_)
      refine wp_of e13 c13_28 (rw_sipush (pc' := 31) (z := 900) rfl (by decide) ?_)
      refine wp_of e13 c13_31 (rw_icmp_gt (p1 := 99) (p2 := 34) (by decide) rfl ⟨by omega, by omega⟩ ⟨by omega, by omega⟩ (fun c2223 => ?_) (fun c2223 => ?_))
      · exfalso
        omega
      · refine wp_of e13 c13_34 (rw_aload_n (pc' := 35) (v := .ref r0) rfl rfl rfl ?_)
        refine wp_of e13 c13_35 (rw_aload_n (pc' := 36) (v := .ref r3) rfl rfl rfl ?_)
        have k2224 : H2207 r0 0 = H1672 r0 0 := ((f2212 r0 0 _ g0 rfl).trans (f1692 r0 0 _ g0 rfl))
        have q2225 : H2207 r0 0 = (tk : Int) := k2224.trans q1683
        have k2226 : H2207 tk 0 = H1687 tk 0 := (f2212 tk 0 _ gtk rfl)
        have q2227 : H2207 tk 0 = (r1 : Int) := k2226.trans a1694
        have h2228 : DD T H2207 r3  := (DD_fr w1691 g3 f2212 rfl (DD_fr w1676 g3 f1692 rfl (DD_fr w1667 g3 f1677 rfl (DD_fr w1662 g3 ((wfr.rf (l := [(3, 4)])).put' e1666 g0 rfl) rfl (DD_fr hW g3 ((wfr.rf (l := [(3, 3)])).put' e1661 g0 rfl) rfl hDD_r3)))))
        refine wp_of e13 c13_36 (xc_V (pc' := 39) (r := r0) (as := [.ref r3]) (st := []) (lm_1_34) rfl rfl (Nat.le_of_ble_eq_true rfl) w2211 g0 sh_3 (by decide) rfl (by decide) (u_17 (B := B) (n := a2) (q := q2208) (d := d2209) w2211 g0 g3 q2225 gtk q2227 g1 h2216 h2217 h2228) (fun R2229 T2230 H2231 p2232 => ?_))
        obtain ⟨e2233, w2235, f2236, z2237, e2234, b2238, p2239⟩ := p2232
        subst e2233
        subst e2234
        rcases p2239 with ⟨a2240, a2241, a2242, a2243, a2244, a2245⟩ | ⟨a2246, a2247, a2248, a2249, a2250⟩
        · have f2251 := f2220.tr f2236 rfl
          have f2252 := f2212.tr f2236 rfl
          show wp _ _ 13 39 [(4, vI v2206), (0, .ref r0), (3, .ref r3)] [vI z2237] _ H2231 _
          have u2253 := TC_k a2244
          have u2254 := DC_k a2245
          refine wp_of e13 c13_39 (rw_if_ne (p1 := 44) (p2 := 42) (by decide) rfl ⟨by omega, by omega⟩ (fun c2255 => ?_) (fun c2255 => ?_))
          · refine wp_of e13 c13_44 (rw_aload_n (pc' := 45) (v := .ref r0) rfl rfl rfl ?_)
            have k2256 : H2231 r0 0 = H2207 r0 0 := (f2236 r0 0 _ g0 rfl)
            have q2257 : H2231 r0 0 = (tk : Int) := k2256.trans q2225
            refine wp_of e13 c13_45 (xg_K (pc' := 48) lf_1_12 w2235 g0 sh_3 (by decide) (by decide) rfl q2257 rfl ?_)
            refine wp_of e13 c13_48 (xg_I (pc' := 51) lf_1_38 w2235 gtk sh_4 (by decide) (by decide) ty_4_3 rfl rfl (fun b2258 b2259 => ?_))
            refine wp_of e13 c13_51 (rw_if_ne (p1 := 83) (p2 := 54) (by decide) rfl ⟨by omega, by omega⟩ (fun c2260 => ?_) (fun c2260 => ?_))
            · have _e := TC_e a2244
              refine wp_of e13 c13_83 (rw_aload_n (pc' := 84) (v := .ref r0) rfl rfl rfl ?_)
              refine wp_of e13 c13_84 (rw_iconst (pc' := 85) rfl ?_)
              have k2261 : H2231 tk 0 = H2207 tk 0 := (f2236 tk 0 _ gtk rfl)
              have q2262 : H2231 tk 0 = (r1 : Int) := k2261.trans q2227
              refine wp_of e13 c13_85 (xc_V (pc' := 88) (r := r0) (as := [vI 3]) (st := []) (lm_1_51) rfl rfl (Nat.le_of_ble_eq_true rfl) w2235 g0 sh_3 (by decide) rfl (by decide) (u_35 (B := B) (n := a2) (q := ((xline B a2 q2208 d2209).2.2)) w2235 g0 ⟨by omega, by omega⟩ q2257 gtk q2262 g1 a2244) (fun R2263 T2264 H2265 p2266 => ?_))
              obtain ⟨e2267, w2269, f2270, z2271, e2268, b2272, p2273⟩ := p2266
              subst e2267
              subst e2268
              rcases p2273 with ⟨a2274, a2275, a2276, a2277, a2278⟩ | ⟨a2279, a2280, a2281, a2282, a2283⟩
              · have f2284 := f2251.tr f2270 rfl
                have f2285 := f2252.tr f2270 rfl
                show wp _ _ 13 88 [(4, vI v2206), (0, .ref r0), (3, .ref r3)] [vI z2271] _ H2265 _
                have u2286 := TC_k a2278
                refine wp_of e13 c13_88 (rw_if_ne (p1 := 93) (p2 := 91) (by decide) rfl ⟨by omega, by omega⟩ (fun c2287 => ?_) (fun c2287 => ?_))
                · refine wp_of e13 c13_93 (rw_iinc (pc' := 96) (z := v2206) (L' := [(4, vI (v2206 + 1)), (0, .ref r0), (3, .ref r3)]) rfl rfl rfl rfl ?_)
                  refine wp_of e13 c13_96 (rw_goto (p1 := 26) (by decide) ?_)
                  have h2288 : DC T H2265 r3 (xdline B a2 q2208 d2209) := (DC_fr w2235 g3 f2270 rfl a2245)
                  exact wp_lc (ks := [4, 0, 3]) (wl_c rfl (wl_c rfl (wl_c rfl wl_n))) rfl (by decide) (ih2205 _ (by omega) (v2206 + 1) H2265 ((xN B a2 ((xline B a2 q2208 d2209).2.2))) (xdline B a2 q2208 d2209) w2269 f2285 ⟨by omega, by omega⟩ (by omega) a2278 h2288 (by omega) (by rw [← (‹xpf B a2 (902 - v2206).toNat q2208 d2209 = xparse B a2›), xpf_e (v := v2206) (q := q2208) (d := d2209) (by omega), if_pos (by omega), if_neg (by omega), if_pos (by omega)]) rfl)
                · exfalso
                  omega
              · have f2289 := f2251.tr f2270 rfl
                have f2290 := f2252.tr f2270 rfl
                show wp _ _ 13 88 [(4, vI v2206), (0, .ref r0), (3, .ref r3)] [vI z2271] _ H2265 _
                refine wp_of e13 c13_88 (rw_if_ne (p1 := 93) (p2 := 91) (by decide) rfl ⟨by omega, by omega⟩ (fun c2291 => ?_) (fun c2291 => ?_))
                · exfalso
                  omega
                · refine wp_of e13 c13_91 (rw_iconst (pc' := 92) rfl ?_)
                  have o2292 : ((xparse B a2).1) = (1, ((xline B a2 q2208 d2209).2.2), q2208) := by
                    rw [← (‹xpf B a2 (902 - v2206).toNat q2208 d2209 = xparse B a2›), xpf_e (by omega)]
                    repeat first | rw [xs_0 (by omega)] | rw [xs_1 (by omega)] | rw [if_pos (by omega)] | rw [if_neg (by omega)]
                    first | done | rfl | assumption | (exfalso; omega) | (refine Prod.ext ?_ (Prod.ext ?_ ?_) <;> (try dsimp only) <;> omega)
                  have o2292a : (((xparse B a2).1)).1 = 1 := by rw [o2292]
                  have o2292b : (((xparse B a2).1)).2.1 = ((xline B a2 q2208 d2209).2.2) := by rw [o2292]
                  have o2292c : (((xparse B a2).1)).2.2 = q2208 := by rw [o2292]
                  exact wp_zreturn e13 c13_92 rfl (by omega) ⟨rfl, w2269, f2289, 0, rfl, ⟨by omega, by omega⟩, (Or.inr ⟨by omega, by omega, by omega, by omega⟩)⟩
            · refine wp_of e13 c13_54 (rw_aload_n (pc' := 55) (v := .ref r3) rfl rfl rfl ?_)
              refine wp_of e13 c13_55 (xg_I (pc' := 58) lf_1_41 w2235 g3 sh_27 (by decide) (by decide) ty_27_7 rfl rfl (fun b2293 b2294 => ?_))
              refine wp_of e13 c13_58 (rw_if_le (p1 := 68) (p2 := 61) (by decide) rfl ⟨by omega, by omega⟩ (fun c2295 => ?_) (fun c2295 => ?_))
              · refine wp_of e13 c13_68 (rw_aload_n (pc' := 69) (v := .ref r0) rfl rfl rfl ?_)
                refine wp_of e13 c13_69 (rw_bipush (pc' := 71) (z := 6) rfl (by decide) ?_)
                refine wp_of e13 c13_71 (xc_V (pc' := 74) (r := r0) (as := [vI 6]) (st := []) (lm_1_47) rfl rfl (Nat.le_of_ble_eq_true rfl) w2235 g0 sh_3 (by decide) rfl (by decide) (u_20  w2235 g0 ⟨by omega, by omega⟩ q2257 gtk) (fun R2296 T2297 H2298 p2299 => ?_))
                obtain ⟨e2300, w2302, f2303, z2304, e2301, b2305, p2306⟩ := p2299
                subst e2300
                subst e2301
                obtain ⟨a2307, a2308, a2309⟩ := p2306
                have f2310 := f2251.tr f2303 rfl
                show wp _ _ 13 74 [(4, vI v2206), (0, .ref r0), (3, .ref r3)] [vI z2304] _ H2298 _
                refine wp_of e13 c13_74 (rw_if_eq (p1 := 81) (p2 := 77) (by decide) rfl ⟨by omega, by omega⟩ (fun c2311 => ?_) (fun c2311 => ?_))
                · refine wp_of e13 c13_81 (rw_iconst (pc' := 82) rfl ?_)
                  have o2312 : ((xparse B a2).1) = (6, ((xline B a2 q2208 d2209).2.2), q2208) := by
                    rw [← (‹xpf B a2 (902 - v2206).toNat q2208 d2209 = xparse B a2›), xpf_e (by omega)]
                    repeat first | rw [xs_0 (by omega)] | rw [xs_1 (by omega)] | rw [if_pos (by omega)] | rw [if_neg (by omega)]
                    first | done | rfl | assumption | (exfalso; omega) | (refine Prod.ext ?_ (Prod.ext ?_ ?_) <;> (try dsimp only) <;> omega)
                  have o2312a : (((xparse B a2).1)).1 = 6 := by rw [o2312]
                  have o2312b : (((xparse B a2).1)).2.1 = ((xline B a2 q2208 d2209).2.2) := by rw [o2312]
                  have o2312c : (((xparse B a2).1)).2.2 = q2208 := by rw [o2312]
                  exact wp_zreturn e13 c13_82 rfl (by omega) ⟨rfl, w2302, f2310, 0, rfl, ⟨by omega, by omega⟩, (Or.inr ⟨by omega, by omega, by omega, by omega⟩)⟩
                · exfalso
                  omega
              · refine wp_of e13 c13_61 (rw_aload_n (pc' := 62) (v := .ref r3) rfl rfl rfl ?_)
                refine wp_of e13 c13_62 (xg_I (pc' := 65) lf_1_44 w2235 g3 sh_27 (by decide) (by decide) ty_27_10 rfl rfl (fun b2313 b2314 => ?_))
                refine wp_of e13 c13_65 (rw_if_gt (p1 := 77) (p2 := 68) (by decide) rfl ⟨by omega, by omega⟩ (fun c2315 => ?_) (fun c2315 => ?_))
                · refine wp_of e13 c13_77 (rw_iconst (pc' := 78) rfl ?_)
                  refine wp_of e13 c13_78 (rw_goto (p1 := 82) (by decide) ?_)
                  have o2316 : ((xparse B a2).1) = (0, q2208, q2208) := by
                    rw [← (‹xpf B a2 (902 - v2206).toNat q2208 d2209 = xparse B a2›), xpf_e (by omega)]
                    repeat first | rw [xs_0 (by omega)] | rw [xs_1 (by omega)] | rw [if_pos (by omega)] | rw [if_neg (by omega)]
                    first | done | rfl | assumption | (exfalso; omega) | (refine Prod.ext ?_ (Prod.ext ?_ ?_) <;> (try dsimp only) <;> omega)
                  have o2316a : (((xparse B a2).1)).1 = 0 := by rw [o2316]
                  have o2316b : (((xparse B a2).1)).2.1 = q2208 := by rw [o2316]
                  have o2316c : (((xparse B a2).1)).2.2 = q2208 := by rw [o2316]
                  exact wp_zreturn e13 c13_82 rfl (by omega) ⟨rfl, w2235, f2251, 1, rfl, ⟨by omega, by omega⟩, (Or.inl ⟨by omega, by omega, by omega, by rw [← (‹xpf B a2 (902 - v2206).toNat q2208 d2209 = xparse B a2›), xpf_e (by omega), if_pos (by omega), if_pos (by omega), if_pos (by omega)]; exact a2245⟩)⟩
                · refine wp_of e13 c13_68 (rw_aload_n (pc' := 69) (v := .ref r0) rfl rfl rfl ?_)
                  refine wp_of e13 c13_69 (rw_bipush (pc' := 71) (z := 6) rfl (by decide) ?_)
                  refine wp_of e13 c13_71 (xc_V (pc' := 74) (r := r0) (as := [vI 6]) (st := []) (lm_1_47) rfl rfl (Nat.le_of_ble_eq_true rfl) w2235 g0 sh_3 (by decide) rfl (by decide) (u_20  w2235 g0 ⟨by omega, by omega⟩ q2257 gtk) (fun R2317 T2318 H2319 p2320 => ?_))
                  obtain ⟨e2321, w2323, f2324, z2325, e2322, b2326, p2327⟩ := p2320
                  subst e2321
                  subst e2322
                  obtain ⟨a2328, a2329, a2330⟩ := p2327
                  have f2331 := f2251.tr f2324 rfl
                  show wp _ _ 13 74 [(4, vI v2206), (0, .ref r0), (3, .ref r3)] [vI z2325] _ H2319 _
                  refine wp_of e13 c13_74 (rw_if_eq (p1 := 81) (p2 := 77) (by decide) rfl ⟨by omega, by omega⟩ (fun c2332 => ?_) (fun c2332 => ?_))
                  · refine wp_of e13 c13_81 (rw_iconst (pc' := 82) rfl ?_)
                    have o2333 : ((xparse B a2).1) = (6, ((xline B a2 q2208 d2209).2.2), q2208) := by
                      rw [← (‹xpf B a2 (902 - v2206).toNat q2208 d2209 = xparse B a2›), xpf_e (by omega)]
                      repeat first | rw [xs_0 (by omega)] | rw [xs_1 (by omega)] | rw [if_pos (by omega)] | rw [if_neg (by omega)]
                      first | done | rfl | assumption | (exfalso; omega) | (refine Prod.ext ?_ (Prod.ext ?_ ?_) <;> (try dsimp only) <;> omega)
                    have o2333a : (((xparse B a2).1)).1 = 6 := by rw [o2333]
                    have o2333b : (((xparse B a2).1)).2.1 = ((xline B a2 q2208 d2209).2.2) := by rw [o2333]
                    have o2333c : (((xparse B a2).1)).2.2 = q2208 := by rw [o2333]
                    exact wp_zreturn e13 c13_82 rfl (by omega) ⟨rfl, w2323, f2331, 0, rfl, ⟨by omega, by omega⟩, (Or.inr ⟨by omega, by omega, by omega, by omega⟩)⟩
                  · exfalso
                    omega
          · exfalso
            omega
        · have f2334 := f2220.tr f2236 rfl
          have f2335 := f2212.tr f2236 rfl
          show wp _ _ 13 39 [(4, vI v2206), (0, .ref r0), (3, .ref r3)] [vI z2237] _ H2231 _
          refine wp_of e13 c13_39 (rw_if_ne (p1 := 44) (p2 := 42) (by decide) rfl ⟨by omega, by omega⟩ (fun c2336 => ?_) (fun c2336 => ?_))
          · exfalso
            omega
          · refine wp_of e13 c13_42 (rw_iconst (pc' := 43) rfl ?_)
            have o2337 : ((xparse B a2).1) = ((xline B a2 q2208 d2209).1, (xline B a2 q2208 d2209).2.1, (xline B a2 q2208 d2209).2.2) := by
              rw [← (‹xpf B a2 (902 - v2206).toNat q2208 d2209 = xparse B a2›), xpf_e (by omega)]
              repeat first | rw [xs_0 (by omega)] | rw [xs_1 (by omega)] | rw [if_pos (by omega)] | rw [if_neg (by omega)]
              first | done | rfl | assumption | (exfalso; omega) | (refine Prod.ext ?_ (Prod.ext ?_ ?_) <;> (try dsimp only) <;> omega)
            have o2337a : (((xparse B a2).1)).1 = (xline B a2 q2208 d2209).1 := by rw [o2337]
            have o2337b : (((xparse B a2).1)).2.1 = (xline B a2 q2208 d2209).2.1 := by rw [o2337]
            have o2337c : (((xparse B a2).1)).2.2 = (xline B a2 q2208 d2209).2.2 := by rw [o2337]
            exact wp_zreturn e13 c13_43 rfl (by omega) ⟨rfl, w2235, f2334, 0, rfl, ⟨by omega, by omega⟩, (Or.inr ⟨by omega, by omega, by omega, by omega⟩)⟩
  have h2338 : DC T H1687 r3 xD0 := (DC_fr w1676 g3 f1692 rfl p1678)
  exact wp_lc (ks := [4, 0, 1, 2, 3]) (wl_c rfl (wl_c rfl (wl_c rfl wl_n))) rfl (by decide) (lp2203 _ 0 H1687 (xG 32 32 B a2 0) xD0 w1691 wfr.rf ⟨by omega, by omega⟩ (by omega) a1695 h2338 (by omega) (rfl) rfl)
/-! StrikeAwake.putOnTape(I)V  -/
abbrev uq_10 (r0 : Nat) (a1 : Int) (tp : Nat) (B : Nat → Int) (t : Int) (T : wq_T) (H : wq_H) : Option Value → wq_T → wq_H → Prop := fun r T' H' => T = T' ∧ WT T H' ∧ wfr [(1, 9), (2, 999)] T H H' ∧ none = r ∧ (((H' r0 9 = t + 4) ∧ TP T H' tp (xpk B t a1 4)))
set_option maxHeartbeats 4000000 in
theorem u_10 {kt : Nat → Option mc_E} {T : wq_T} {H : wq_H} {r0 : Nat} {a1 : Int} {tp : Nat} {B : Nat → Int} {t : Int} (hW : WT T H) (g0 : T.2.2.2 r0 = some 1) (i1 : (-2147483648) ≤ a1 ∧ a1 ≤ 2147483647) (qtp : H r0 0 = (tp : Int)) (gtp : T.2.2.2 tp = some 2) (p0 : H r0 9 = t) (p1 : t ≤ 896) (hTP_tp : TP T H tp B) : wpc kt 1 10 [.ref r0, vI a1] T H (uq_10 r0 a1 tp B t T H) := by
  refine wp_enter e10 (Nat.le_of_ble_eq_true rfl) rfl ?_
  have f0 : wfr [(1, 9), (2, 999)] T H H := wfr.rf
  show wp _ _ 10 0 [(0, .ref r0), (1, vI a1)] [] _ H _
  have b1147 : 0 ≤ H r0 9 ∧ H r0 9 ≤ 900 := hW.box g0 (n := 13) rfl (by decide) rfl
  refine wp_of e10 c10_0 (rw_bipush (pc' := 2) (z := 24) rfl (by decide) ?_)
  refine wp_of e10 c10_2 (rw_istore_n (pc' := 3) (z := 24) (L' := [(2, vI 24), (0, .ref r0), (1, vI a1)]) rfl rfl rfl ?_)
  have lp1269 : ∀ (n1270 : Nat) (v1272 : Int) (H1273 : wq_H) (ii1274 : Nat), WT T H1273 → wfr [(1, 9), (2, 999)] T H H1273 → ((-8) ≤ v1272 ∧ v1272 ≤ 24) → TP T H1273 tp (xpk B t a1 ii1274) → (v1272 = 24 - 8 * (ii1274 : Int)) → (ii1274 ≤ 4) → (H1273 r0 9 = t + (ii1274 : Int)) → (v1272 + 8).toNat = n1270 → wp kt 0 10 3 [(2, vI v1272), (0, .ref r0), (1, vI a1)] [] T H1273 (uq_10 r0 a1 tp B t T H) := by
    intro n1270
    induction n1270 using Nat.strongRecOn with
    | _ n1270 ih1271 =>
      intro v1272 H1273 ii1274 w1275 f1276 b1277 h1279 x1280 x1281 x1282 m1278
      have f1283 := f0.tr f1276 rfl
      refine wp_of e10 c10_3 (rw_iload_n (pc' := 4) (z := v1272) rfl rfl ?_)
      refine wp_of e10 c10_4 (rw_if_lt (p1 := 46) (p2 := 7) (by decide) rfl ⟨by omega, by omega⟩ (fun c1284 => ?_) (fun c1284 => ?_))
      · exact wp_return e10 c10_46 rfl ⟨rfl, w1275, f1283, rfl, ⟨by omega, by
          have e4 : ii1274 = 4 := by omega
          rw [← e4]
          exact h1279⟩⟩
      · refine wp_of e10 c10_7 (rw_aload_n (pc' := 8) (v := .ref r0) rfl rfl rfl ?_)
        refine wp_of e10 c10_8 (xg_I (pc' := 11) lf_0_62 w1275 g0 sh_1 (by decide) (by decide) ty_1_9 rfl rfl (fun b1285 b1286 => ?_))
        refine wp_of e10 c10_11 (rw_sipush (pc' := 14) (z := 900) rfl (by decide) ?_)
        refine wp_of e10 c10_14 (rw_icmp_ge (p1 := 46) (p2 := 17) (by decide) rfl ⟨by omega, by omega⟩ ⟨by omega, by omega⟩ (fun c1287 => ?_) (fun c1287 => ?_))
        · exact wp_return e10 c10_46 rfl ⟨rfl, w1275, f1283, rfl, ⟨by omega, by
            have e4 : ii1274 = 4 := by omega
            rw [← e4]
            exact h1279⟩⟩
        · refine wp_of e10 c10_17 (rw_aload_n (pc' := 18) (v := .ref r0) rfl rfl rfl ?_)
          have k1288 : H1273 r0 0 = H r0 0 := (f1276 r0 0 _ g0 rfl)
          have q1289 : H1273 r0 0 = (tp : Int) := k1288.trans qtp
          refine wp_of e10 c10_18 (xg_K (pc' := 21) lf_0_9 w1275 g0 sh_1 (by decide) (by decide) rfl q1289 rfl ?_)
          refine wp_of e10 c10_21 (rw_aload_n (pc' := 22) (v := .ref r0) rfl rfl rfl ?_)
          refine wp_of e10 c10_22 (xg_I (pc' := 25) lf_0_62 w1275 g0 sh_1 (by decide) (by decide) ty_1_9 rfl rfl (fun b1290 b1291 => ?_))
          refine wp_of e10 c10_25 (rw_iload_n (pc' := 26) (z := a1) rfl rfl ?_)
          refine wp_of e10 c10_26 (rw_iload_n (pc' := 27) (z := v1272) rfl rfl ?_)
          refine wp_of e10 c10_27 (rw_ishr (pc' := 28) rfl ?_)
          obtain ⟨v1292, e1293⟩ : ∃ x : Int, x = wq_shr a1 v1272 := ⟨_, rfl⟩
          rw [← e1293]
          have b1294 : -2147483648 ≤ v1292 ∧ v1292 ≤ 2147483647 := by
            rw [e1293]
            exact wI_shr _ _
          refine wp_of e10 c10_28 (rw_i2b (pc' := 29) rfl ?_)
          obtain ⟨v1295, e1296⟩ : ∃ x : Int, x = wq_i2b v1292 := ⟨_, rfl⟩
          rw [← e1296]
          have b1297 : -128 ≤ v1295 ∧ v1295 ≤ 127 := by
            rw [e1296]
            exact wq_i2b_b _
          have o1298 : v1295 = wq_i2b (wq_shr a1 v1272) := by
            subst_vars
            rfl
          refine wp_of e10 c10_29 (xs_B (pc' := 30) w1275 gtp (by decide) sh_2 (by decide) (ty_2 _) (by omega) (by omega) ⟨by omega, by omega⟩ (by omega) (by omega) rfl (fun H1299 e1300 w1301 => ?_))
          have f1302 := f1283.put' e1300 gtp rfl
          have f1303 := f1276.put' e1300 gtp rfl
          have h1304 : TP T H1299 tp (xpk B t a1 (ii1274 + 1)) := TP_pk h1279 e1300 (by omega) o1298 (by omega)
          refine wp_of e10 c10_30 (rw_aload_n (pc' := 31) (v := .ref r0) rfl rfl rfl ?_)
          refine wp_of e10 c10_31 (rw_dup (pc' := 32) rfl rfl ?_)
          have k1305 : H1299 r0 9 = H1273 r0 9 := (wq_u_t e1300 gtp g0 rfl 9)
          refine wp_of e10 c10_32 (xg_I (pc' := 35) lf_0_62 w1301 g0 sh_1 (by decide) (by decide) ty_1_9 rfl rfl (fun b1306 b1307 => ?_))
          refine wp_of e10 c10_35 (rw_iconst (pc' := 36) rfl ?_)
          refine wp_of e10 c10_36 (rw_iadd (pc' := 37) rfl ?_)
          refine wp_of e10 c10_37 (xp_I (pc' := 40) lf_0_62 w1301 g0 sh_1 (by decide) (by decide) ty_1_9 rfl rfl (by omega) (by omega) ⟨by omega, by omega⟩ rfl (fun H1308 e1309 w1310 => ?_))
          have f1311 := f1302.put' e1309 g0 rfl
          have f1312 := f1303.put' e1309 g0 rfl
          have k1313 : H1308 r0 9 = (H1299 r0 9) + 1 := wq_u_s e1309
          refine wp_of e10 c10_40 (rw_iinc (pc' := 43) (z := v1272) (L' := [(2, vI (v1272 + (-8))), (0, .ref r0), (1, vI a1)]) rfl rfl rfl rfl ?_)
          refine wp_of e10 c10_43 (rw_goto (p1 := 3) (by decide) ?_)
          have h1314 : TP T H1308 tp (xpk B t a1 (ii1274 + 1)) := (TP_fr w1301 gtp ((wfr.rf (l := [(1, 9)])).put' e1309 g0 rfl) rfl h1304)
          exact wp_lc (ks := [2, 0, 1]) (wl_c rfl (wl_c rfl (wl_c rfl wl_n))) rfl (by decide) (ih1271 _ (by omega) (v1272 + (-8)) H1308 ((ii1274 + 1)) w1310 f1312 ⟨by omega, by omega⟩ h1314 (by omega) (by omega) (by omega) rfl)
  have h1315 : TP T H tp (xpk B t a1 0) := hTP_tp
  exact wp_lc (ks := [2, 0, 1]) (wl_c rfl (wl_c rfl (wl_c rfl wl_n))) rfl (by decide) (lp1269 _ 24 H 0 hW wfr.rf ⟨by omega, by omega⟩ h1315 (by omega) (by omega) (by omega) rfl)
/-! StrikeAwake.feed(IIIII)I  -/
abbrev uq_9 (r0 : Nat) (a1 : Int) (a2 : Int) (a3 : Int) (a4 : Int) (a5 : Int) (tp : Nat) (B : Nat → Int) (t : Int) (b1 : Int) (b2 : Int) (b3 : Int) (b4 : Int) (b5 : Int) (T : wq_T) (H : wq_H) : Option Value → wq_T → wq_H → Prop := fun r T' H' => T = T' ∧ WT T H' ∧ wfr [(1, 9), (2, 999)] T H H' ∧ ∃ z : Int, some (vI z) = r ∧ ((-2147483648) ≤ z ∧ z ≤ 2147483647) ∧ (((z = -1) ∧ (880 < t) ∧ (H' r0 9 = t) ∧ TP T H' tp B) ∨ ((0 ≤ z ∧ z ≤ 900) ∧ (t ≤ 880) ∧ (z = t + 20) ∧ (H' r0 9 = t + 20) ∧ TP T H' tp (xfk B t b1 b2 b3 b4 b5 20)))
set_option maxHeartbeats 4000000 in
theorem u_9 {kt : Nat → Option mc_E} {T : wq_T} {H : wq_H} {r0 : Nat} {a1 : Int} {a2 : Int} {a3 : Int} {a4 : Int} {a5 : Int} {tp : Nat} {B : Nat → Int} {t : Int} {b1 : Int} {b2 : Int} {b3 : Int} {b4 : Int} {b5 : Int} (hW : WT T H) (g0 : T.2.2.2 r0 = some 1) (i1 : (-2147483648) ≤ a1 ∧ a1 ≤ 2147483647) (i2 : (-2147483648) ≤ a2 ∧ a2 ≤ 2147483647) (i3 : (-2147483648) ≤ a3 ∧ a3 ≤ 2147483647) (i4 : (-2147483648) ≤ a4 ∧ a4 ≤ 2147483647) (i5 : (-2147483648) ≤ a5 ∧ a5 ≤ 2147483647) (qtp : H r0 0 = (tp : Int)) (gtp : T.2.2.2 tp = some 2) (p0 : H r0 9 = t) (p1 : a1 = b1) (p2 : a2 = b2) (p3 : a3 = b3) (p4 : a4 = b4) (p5 : a5 = b5) (hTP_tp : TP T H tp B) : wpc kt 2 9 [.ref r0, vI a1, vI a2, vI a3, vI a4, vI a5] T H (uq_9 r0 a1 a2 a3 a4 a5 tp B t b1 b2 b3 b4 b5 T H) := by
  refine wp_enter e9 (Nat.le_of_ble_eq_true rfl) rfl ?_
  have f0 : wfr [(1, 9), (2, 999)] T H H := wfr.rf
  show wp _ _ 9 0 [(0, .ref r0), (1, vI a1), (2, vI a2), (3, vI a3), (4, vI a4), (5, vI a5)] [] _ H _
  have b1074 : 0 ≤ H r0 9 ∧ H r0 9 ≤ 900 := hW.box g0 (n := 13) rfl (by decide) rfl
  refine wp_of e9 c9_0 (rw_aload_n (pc' := 1) (v := .ref r0) rfl rfl rfl ?_)
  refine wp_of e9 c9_1 (xg_I (pc' := 4) lf_0_62 hW g0 sh_1 (by decide) (by decide) ty_1_9 rfl rfl (fun b1075 b1076 => ?_))
  refine wp_of e9 c9_4 (rw_sipush (pc' := 7) (z := 880) rfl (by decide) ?_)
  refine wp_of e9 c9_7 (rw_icmp_le (p1 := 12) (p2 := 10) (by decide) rfl ⟨by omega, by omega⟩ ⟨by omega, by omega⟩ (fun c1077 => ?_) (fun c1077 => ?_))
  · refine wp_of e9 c9_12 (rw_aload_n (pc' := 13) (v := .ref r0) rfl rfl rfl ?_)
    refine wp_of e9 c9_13 (rw_iload_n (pc' := 14) (z := a1) rfl rfl ?_)
    refine wp_of e9 c9_14 (xc_V (pc' := 17) (r := r0) (as := [vI a1]) (st := []) (lm_0_66) rfl rfl (Nat.le_of_ble_eq_true rfl) hW g0 sh_1 (by decide) rfl (by decide) (u_10 (B := B) (t := t) hW g0 ⟨by omega, by omega⟩ qtp gtp (by omega) (by omega) hTP_tp) (fun R1078 T1079 H1080 p1081 => ?_))
    obtain ⟨e1082, w1084, f1085, e1083, p1086⟩ := p1081
    subst e1082
    subst e1083
    obtain ⟨a1087, a1088⟩ := p1086
    have f1089 := f0.tr f1085 rfl
    show wp _ _ 9 17 [(0, .ref r0), (1, vI a1), (2, vI a2), (3, vI a3), (4, vI a4), (5, vI a5)] [] _ H1080 _
    refine wp_of e9 c9_17 (rw_aload_n (pc' := 18) (v := .ref r0) rfl rfl rfl ?_)
    refine wp_of e9 c9_18 (rw_iload_n (pc' := 19) (z := a2) rfl rfl ?_)
    have k1090 : H1080 r0 0 = H r0 0 := (f1085 r0 0 _ g0 rfl)
    have q1091 : H1080 r0 0 = (tp : Int) := k1090.trans qtp
    refine wp_of e9 c9_19 (xc_V (pc' := 22) (r := r0) (as := [vI a2]) (st := []) (lm_0_66) rfl rfl (Nat.le_of_ble_eq_true rfl) w1084 g0 sh_1 (by decide) rfl (by decide) (u_10 (B := (xpk B t a1 4)) (t := (t + 4)) w1084 g0 ⟨by omega, by omega⟩ q1091 gtp (by omega) (by omega) a1088) (fun R1092 T1093 H1094 p1095 => ?_))
    obtain ⟨e1096, w1098, f1099, e1097, p1100⟩ := p1095
    subst e1096
    subst e1097
    obtain ⟨a1101, a1102⟩ := p1100
    have f1103 := f1089.tr f1099 rfl
    show wp _ _ 9 22 [(0, .ref r0), (1, vI a1), (2, vI a2), (3, vI a3), (4, vI a4), (5, vI a5)] [] _ H1094 _
    refine wp_of e9 c9_22 (rw_aload_n (pc' := 23) (v := .ref r0) rfl rfl rfl ?_)
    refine wp_of e9 c9_23 (rw_iload_n (pc' := 24) (z := a3) rfl rfl ?_)
    have k1104 : H1094 r0 0 = H1080 r0 0 := (f1099 r0 0 _ g0 rfl)
    have q1105 : H1094 r0 0 = (tp : Int) := k1104.trans q1091
    refine wp_of e9 c9_24 (xc_V (pc' := 27) (r := r0) (as := [vI a3]) (st := []) (lm_0_66) rfl rfl (Nat.le_of_ble_eq_true rfl) w1098 g0 sh_1 (by decide) rfl (by decide) (u_10 (B := (xpk (xpk B t a1 4) (t + 4) a2 4)) (t := (t + 8)) w1098 g0 ⟨by omega, by omega⟩ q1105 gtp (by omega) (by omega) a1102) (fun R1106 T1107 H1108 p1109 => ?_))
    obtain ⟨e1110, w1112, f1113, e1111, p1114⟩ := p1109
    subst e1110
    subst e1111
    obtain ⟨a1115, a1116⟩ := p1114
    have f1117 := f1103.tr f1113 rfl
    show wp _ _ 9 27 [(0, .ref r0), (1, vI a1), (2, vI a2), (3, vI a3), (4, vI a4), (5, vI a5)] [] _ H1108 _
    refine wp_of e9 c9_27 (rw_aload_n (pc' := 28) (v := .ref r0) rfl rfl rfl ?_)
    refine wp_of e9 c9_28 (rw_iload (pc' := 30) (z := a4) rfl rfl ?_)
    have k1118 : H1108 r0 0 = H1094 r0 0 := (f1113 r0 0 _ g0 rfl)
    have q1119 : H1108 r0 0 = (tp : Int) := k1118.trans q1105
    refine wp_of e9 c9_30 (xc_V (pc' := 33) (r := r0) (as := [vI a4]) (st := []) (lm_0_66) rfl rfl (Nat.le_of_ble_eq_true rfl) w1112 g0 sh_1 (by decide) rfl (by decide) (u_10 (B := (xpk (xpk (xpk B t a1 4) (t + 4) a2 4) (t + 8) a3 4)) (t := (t + 12)) w1112 g0 ⟨by omega, by omega⟩ q1119 gtp (by omega) (by omega) a1116) (fun R1120 T1121 H1122 p1123 => ?_))
    obtain ⟨e1124, w1126, f1127, e1125, p1128⟩ := p1123
    subst e1124
    subst e1125
    obtain ⟨a1129, a1130⟩ := p1128
    have f1131 := f1117.tr f1127 rfl
    show wp _ _ 9 33 [(0, .ref r0), (1, vI a1), (2, vI a2), (3, vI a3), (4, vI a4), (5, vI a5)] [] _ H1122 _
    refine wp_of e9 c9_33 (rw_aload_n (pc' := 34) (v := .ref r0) rfl rfl rfl ?_)
    refine wp_of e9 c9_34 (rw_iload (pc' := 36) (z := a5) rfl rfl ?_)
    have k1132 : H1122 r0 0 = H1108 r0 0 := (f1127 r0 0 _ g0 rfl)
    have q1133 : H1122 r0 0 = (tp : Int) := k1132.trans q1119
    refine wp_of e9 c9_36 (xc_V (pc' := 39) (r := r0) (as := [vI a5]) (st := []) (lm_0_66) rfl rfl (Nat.le_of_ble_eq_true rfl) w1126 g0 sh_1 (by decide) rfl (by decide) (u_10 (B := (xpk (xpk (xpk (xpk B t a1 4) (t + 4) a2 4) (t + 8) a3 4) (t + 12) a4 4)) (t := (t + 16)) w1126 g0 ⟨by omega, by omega⟩ q1133 gtp (by omega) (by omega) a1130) (fun R1134 T1135 H1136 p1137 => ?_))
    obtain ⟨e1138, w1140, f1141, e1139, p1142⟩ := p1137
    subst e1138
    subst e1139
    obtain ⟨a1143, a1144⟩ := p1142
    have f1145 := f1131.tr f1141 rfl
    show wp _ _ 9 39 [(0, .ref r0), (1, vI a1), (2, vI a2), (3, vI a3), (4, vI a4), (5, vI a5)] [] _ H1136 _
    refine wp_of e9 c9_39 (rw_aload_n (pc' := 40) (v := .ref r0) rfl rfl rfl ?_)
    refine wp_of e9 c9_40 (xg_I (pc' := 43) lf_0_62 w1140 g0 sh_1 (by decide) (by decide) ty_1_9 rfl rfl (fun b1146 b1147 => ?_))
    exact wp_ireturn e9 c9_43 rfl ⟨rfl, w1140, f1145, H1136 r0 9, rfl, ⟨by omega, by omega⟩, (Or.inr ⟨by omega, by omega, by omega, by omega, by rw [← p1, ← p2, ← p3, ← p4, ← p5, ← xfk_4]; exact a1144⟩)⟩
  · refine wp_of e9 c9_10 (rw_iconst (pc' := 11) rfl ?_)
    exact wp_ireturn e9 c9_11 rfl ⟨rfl, hW, f0, -1, rfl, ⟨by omega, by omega⟩, (Or.inl ⟨by omega, by omega, by omega, hTP_tp⟩)⟩
/-! StrikeAwake.refuse(I)I  -/
abbrev uq_12 (r0 : Nat) (a1 : Int) (T : wq_T) (H : wq_H) : Option Value → wq_T → wq_H → Prop := fun r T' H' => T = T' ∧ WT T H' ∧ wfr [(1, 10)] T H H' ∧ ∃ z : Int, some (vI z) = r ∧ ((-2147483648) ≤ z ∧ z ≤ 2147483647) ∧ (((z = -1) ∧ (H' r0 10 = a1)))
set_option maxHeartbeats 4000000 in
theorem u_12 {kt : Nat → Option mc_E} {T : wq_T} {H : wq_H} {r0 : Nat} {a1 : Int} (hW : WT T H) (g0 : T.2.2.2 r0 = some 1) (i1 : (-2147483648) ≤ a1 ∧ a1 ≤ 2147483647) : wpc kt 1 12 [.ref r0, vI a1] T H (uq_12 r0 a1 T H) := by
  refine wp_enter e12 (Nat.le_of_ble_eq_true rfl) rfl ?_
  have f0 : wfr [(1, 10)] T H H := wfr.rf
  show wp _ _ 12 0 [(0, .ref r0), (1, vI a1)] [] _ H _
  refine wp_of e12 c12_0 (rw_aload_n (pc' := 1) (v := .ref r0) rfl rfl rfl ?_)
  refine wp_of e12 c12_1 (rw_iload_n (pc' := 2) (z := a1) rfl rfl ?_)
  refine wp_of e12 c12_2 (xp_I (pc' := 5) lf_0_102 hW g0 sh_1 (by decide) (by decide) ty_1_10 rfl rfl (by omega) (by omega) ⟨by omega, by omega⟩ rfl (fun H1006 e1007 w1008 => ?_))
  have f1009 := f0.put' e1007 g0 rfl
  have k1010 : H1006 r0 10 = a1 := wq_u_s e1007
  refine wp_of e12 c12_5 (rw_iconst (pc' := 6) rfl ?_)
  exact wp_ireturn e12 c12_6 rfl ⟨rfl, w1008, f1009, -1, rfl, ⟨by omega, by omega⟩, ⟨by omega, by omega⟩⟩
/-! StrikeAwake.answer(I)I  -/
abbrev uq_51 (r0 : Nat) (a1 : Int) (T : wq_T) (H : wq_H) : Option Value → wq_T → wq_H → Prop := fun r T' H' => T = T' ∧ WT T H' ∧ wfr [(1, 10)] T H H' ∧ ∃ z : Int, some (vI z) = r ∧ ((-2147483648) ≤ z ∧ z ≤ 2147483647) ∧ (((z = a1) ∧ (H' r0 10 = 0)))
set_option maxHeartbeats 4000000 in
theorem u_51 {kt : Nat → Option mc_E} {T : wq_T} {H : wq_H} {r0 : Nat} {a1 : Int} (hW : WT T H) (g0 : T.2.2.2 r0 = some 1) (i1 : (-2147483648) ≤ a1 ∧ a1 ≤ 2147483647) : wpc kt 1 51 [.ref r0, vI a1] T H (uq_51 r0 a1 T H) := by
  refine wp_enter e51 (Nat.le_of_ble_eq_true rfl) rfl ?_
  have f0 : wfr [(1, 10)] T H H := wfr.rf
  show wp _ _ 51 0 [(0, .ref r0), (1, vI a1)] [] _ H _
  refine wp_of e51 c51_0 (rw_aload_n (pc' := 1) (v := .ref r0) rfl rfl rfl ?_)
  refine wp_of e51 c51_1 (rw_iconst (pc' := 2) rfl ?_)
  refine wp_of e51 c51_2 (xp_I (pc' := 5) lf_0_102 hW g0 sh_1 (by decide) (by decide) ty_1_10 rfl rfl (by omega) (by omega) ⟨by omega, by omega⟩ rfl (fun H1006 e1007 w1008 => ?_))
  have f1009 := f0.put' e1007 g0 rfl
  have k1010 : H1006 r0 10 = 0 := wq_u_s e1007
  refine wp_of e51 c51_5 (rw_iload_n (pc' := 6) (z := a1) rfl rfl ?_)
  exact wp_ireturn e51 c51_6 rfl ⟨rfl, w1008, f1009, a1, rfl, ⟨by omega, by omega⟩, ⟨by omega, by omega⟩⟩
