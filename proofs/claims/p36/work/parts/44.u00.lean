/-! what methods do (own work, written by wip/gen3/sx3.py) -/
/-! StrikeAwake$Tokens.advance()V  -/
abbrev uq_16 (r0 : Nat) (rb : Nat) (B : Nat → Int) (n : Int) (a : Int) (q : Int) (T : wq_T) (H : wq_H) : Option Value → wq_T → wq_H → Prop := fun r T' H' => T = T' ∧ WT T H' ∧ wfr [(4, 2), (4, 3), (4, 4), (4, 5), (4, 6)] T H H' ∧ none = r ∧ ((TC T H' r0 B n q))
set_option maxHeartbeats 4000000 in
theorem u_16 {kt : Nat → Option mc_E} {T : wq_T} {H : wq_H} {r0 : Nat} {rb : Nat} {B : Nat → Int} {n : Int} {a : Int} {q : Int} (hW : WT T H) (g0 : T.2.2.2 r0 = some 4) (qrb : H r0 0 = (rb : Int)) (grb : T.2.2.2 rb = some 2) (p0 : H r0 1 = n) (p1 : H r0 2 = a) (p2 : a ≤ n) (p3 : q = xG 32 32 B n a) (hTP_rb : TP T H rb B) : wpc kt 1 16 [.ref r0] T H (uq_16 r0 rb B n a q T H) := by
  refine wp_enter e16 (Nat.le_of_ble_eq_true rfl) rfl ?_
  have f0 : wfr [(4, 2), (4, 3), (4, 4), (4, 5), (4, 6)] T H H := wfr.rf
  show wp _ _ 16 0 [(0, .ref r0)] [] _ H _
  have b1483 : 0 ≤ H r0 1 ∧ H r0 1 ≤ 900 := hW.box g0 (n := 7) rfl (by decide) rfl
  have b1484 : 0 ≤ H r0 2 ∧ H r0 2 ≤ 900 := hW.box g0 (n := 7) rfl (by decide) rfl
  have _x0 := @xG_b 32 32 B n a
  have _x1 := @xG_b 97 122 B n q
  have _x2 := @xG_b 48 57 B n q
  have _x3 := @xG_or 97 122 B n q
  have _x4 := @xG_or 48 57 B n q
  have _x5 := @xG_at 97 122 B n q
  have _x6 := @xG_at 48 57 B n q
  refine wp_of e16 c16_0 (rw_aload_n (pc' := 1) (v := .ref r0) rfl rfl rfl ?_)
  refine wp_of e16 c16_1 (xg_I (pc' := 4) lf_2_23 hW g0 sh_4 (by decide) (by decide) ty_4_2 rfl rfl (fun b1485 b1486 => ?_))
  have jn1504 : ∀ (v1503 : Int), (0 ≤ v1503 ∧ v1503 ≤ 900) → (v1503 = q) → wp kt 0 16 30 [(1, vI v1503), (0, .ref r0)] [] T H (uq_16 r0 rb B n a q T H) := by
    intro v1503 b1507 x1508
    refine wp_of e16 c16_30 (rw_aload_n (pc' := 31) (v := .ref r0) rfl rfl rfl ?_)
    refine wp_of e16 c16_31 (rw_iload_n (pc' := 32) (z := v1503) rfl rfl ?_)
    refine wp_of e16 c16_32 (xp_I (pc' := 35) lf_2_29 hW g0 sh_4 (by decide) (by decide) ty_4_4 rfl rfl (by omega) (by omega) ⟨by omega, by omega⟩ rfl (fun H1509 e1510 w1511 => ?_))
    have f1512 := f0.put' e1510 g0 rfl
    have k1513 : H1509 r0 4 = v1503 := wq_u_s e1510
    have jn1594 : ∀ (v1592 : Int) (H1593 : wq_H), WT T H1593 → wfr [(4, 6)] T H1509 H1593 → (0 ≤ v1592 ∧ v1592 ≤ 900) → (v1592 = xG 97 122 B n q) → (8 < v1592 - q ∨ H1593 r0 6 = xY B n q) → wp kt 0 16 101 [(1, vI v1592), (0, .ref r0)] [] T H1593 (uq_16 r0 rb B n a q T H) := by
      intro v1592 H1593 w1595 f1596 b1597 x1598 x1599
      have f1600 := f1512.tr f1596 rfl
      have k1601 : H1593 r0 4 = H1509 r0 4 := (f1596 r0 4 _ g0 rfl)
      refine wp_of e16 c16_101 (rw_iload_n (pc' := 102) (z := v1592) rfl rfl ?_)
      refine wp_of e16 c16_102 (rw_aload_n (pc' := 103) (v := .ref r0) rfl rfl rfl ?_)
      refine wp_of e16 c16_103 (xg_I (pc' := 106) lf_2_29 w1595 g0 sh_4 (by decide) (by decide) ty_4_4 rfl rfl (fun b1602 b1603 => ?_))
      refine wp_of e16 c16_106 (rw_isub (pc' := 107) rfl ?_)
      refine wp_of e16 c16_107 (rw_istore_n (pc' := 108) (z := v1592 - (H1593 r0 4)) (L' := [(2, vI (v1592 - (H1593 r0 4))), (1, vI v1592), (0, .ref r0)]) rfl rfl rfl ?_)
      refine wp_of e16 c16_108 (rw_aload_n (pc' := 109) (v := .ref r0) rfl rfl rfl ?_)
      refine wp_of e16 c16_109 (rw_iconst (pc' := 110) rfl ?_)
      have jn1687 : ∀ (v1685 : Int) (H1686 : wq_H), WT T H1686 → wfr [(4, 5)] T H1593 H1686 → (0 ≤ v1685 ∧ v1685 ≤ 900) → (((v1592 - (H1593 r0 4)) ≠ 0 ∧ v1685 = q + (v1592 - (H1593 r0 4))) ∨ ((v1592 - (H1593 r0 4)) = 0 ∧ v1685 = xG 48 57 B n q ∧ (3 < v1685 - q ∨ H1686 r0 5 = xV B n q))) → wp kt 0 16 174 [(1, vI v1685), (0, .ref r0), (2, vI (v1592 - (H1593 r0 4)))] [] T H1686 (uq_16 r0 rb B n a q T H) := by
        intro v1685 H1686 w1688 f1689 b1690 x1691
        have f1692 := f1600.tr f1689 rfl
        refine wp_of e16 c16_174 (rw_iload_n (pc' := 175) (z := v1685) rfl rfl ?_)
        refine wp_of e16 c16_175 (rw_aload_n (pc' := 176) (v := .ref r0) rfl rfl rfl ?_)
        have k1693 : H1686 r0 4 = H1593 r0 4 := (f1689 r0 4 _ g0 rfl)
        refine wp_of e16 c16_176 (xg_I (pc' := 179) lf_2_29 w1688 g0 sh_4 (by decide) (by decide) ty_4_4 rfl rfl (fun b1694 b1695 => ?_))
        refine wp_of e16 c16_179 (rw_isub (pc' := 180) rfl ?_)
        refine wp_of e16 c16_180 (rw_iload_n (pc' := 181) (z := v1592 - (H1593 r0 4)) rfl rfl ?_)
        refine wp_of e16 c16_181 (rw_isub (pc' := 182) rfl ?_)
        refine wp_of e16 c16_182 (rw_istore_n (pc' := 183) (z := (v1685 - (H1686 r0 4)) - (v1592 - (H1593 r0 4))) (L' := [(3, vI ((v1685 - (H1686 r0 4)) - (v1592 - (H1593 r0 4)))), (1, vI v1685), (0, .ref r0), (2, vI (v1592 - (H1593 r0 4)))]) rfl rfl rfl ?_)
        refine wp_of e16 c16_183 (rw_iload_n (pc' := 184) (z := v1592 - (H1593 r0 4)) rfl rfl ?_)
        refine wp_of e16 c16_184 (rw_if_le (p1 := 205) (p2 := 187) (by decide) rfl ⟨by omega, by omega⟩ (fun c1696 => ?_) (fun c1696 => ?_))
        · refine wp_of e16 c16_205 (rw_iload_n (pc' := 206) (z := (v1685 - (H1686 r0 4)) - (v1592 - (H1593 r0 4))) rfl rfl ?_)
          refine wp_of e16 c16_206 (rw_if_le (p1 := 226) (p2 := 209) (by decide) rfl ⟨by omega, by omega⟩ (fun c1697 => ?_) (fun c1697 => ?_))
          · have := @xB_q B q v1685
            refine wp_of e16 c16_226 (rw_iload_n (pc' := 227) (z := v1685) rfl rfl ?_)
            refine wp_of e16 c16_227 (rw_aload_n (pc' := 228) (v := .ref r0) rfl rfl rfl ?_)
            have k1698 : H1686 r0 1 = H r0 1 := ((f1689 r0 1 _ g0 rfl).trans ((f1596 r0 1 _ g0 rfl).trans (wq_u_j e1510 rfl)))
            refine wp_of e16 c16_228 (xg_I (pc' := 231) lf_2_19 w1688 g0 sh_4 (by decide) (by decide) ty_4_1 rfl rfl (fun b1699 b1700 => ?_))
            refine wp_of e16 c16_231 (rw_icmp_ge (p1 := 275) (p2 := 234) (by decide) rfl ⟨by omega, by omega⟩ ⟨Int.le_trans (by decide) b1699, Int.le_trans b1700 (by decide)⟩ (fun c1701 => ?_) (fun c1701 => ?_))
            · refine wp_of e16 c16_275 (rw_aload_n (pc' := 276) (v := .ref r0) rfl rfl rfl ?_)
              refine wp_of e16 c16_276 (rw_iconst (pc' := 277) rfl ?_)
              refine wp_of e16 c16_277 (xp_I (pc' := 280) lf_2_41 w1688 g0 sh_4 (by decide) (by decide) ty_4_3 rfl rfl (by decide) (by decide) ⟨by decide, by decide⟩ rfl (fun H1702 e1703 w1704 => ?_))
              have f1705 := f1692.put' e1703 g0 rfl
              have k1706 : H1702 r0 3 = 0 := wq_u_s e1703
              refine wp_of e16 c16_280 (rw_aload_n (pc' := 281) (v := .ref r0) rfl rfl rfl ?_)
              refine wp_of e16 c16_281 (rw_iload_n (pc' := 282) (z := v1685) rfl rfl ?_)
              refine wp_of e16 c16_282 (xp_I (pc' := 285) lf_2_23 w1704 g0 sh_4 (by decide) (by decide) ty_4_2 rfl rfl (by omega) (by omega) ⟨by omega, by omega⟩ rfl (fun H1707 e1708 w1709 => ?_))
              have f1710 := f1705.put' e1708 g0 rfl
              have k1711 : H1707 r0 2 = v1685 := wq_u_s e1708
              have k1712 : H1707 r0 3 = H1702 r0 3 := (wq_u_j e1708 rfl)
              have k1713 : H1707 r0 4 = H1686 r0 4 := ((wq_u_j e1708 rfl).trans (wq_u_j e1703 rfl))
              have k1714 : H1707 r0 5 = H1686 r0 5 := ((wq_u_j e1708 rfl).trans (wq_u_j e1703 rfl))
              have k1715 : H1707 r0 6 = H1593 r0 6 := ((wq_u_j e1708 rfl).trans ((wq_u_j e1703 rfl).trans (f1689 r0 6 _ g0 rfl)))
              have k1716 : H1707 r0 1 = H1686 r0 1 := ((wq_u_j e1708 rfl).trans (wq_u_j e1703 rfl))
              have ex := (xKE_e (B := B) (n := n) (q := q)).symm
              unfold xKE at ex
              repeat first | rw [if_pos (by omega -splitDisjunctions)] at ex | rw [if_neg (by omega -splitDisjunctions)] at ex | rw [if_neg (by omega)] at ex | rw [if_pos (by omega)] at ex
              have ek := congrArg Prod.fst ex
              have ee := congrArg Prod.snd ex
              dsimp only at ek ee
              have ek : xK B n q = H1707 r0 3 := by omega
              have ee : xE B n q = H1707 r0 2 := by omega
              have k1717 : H1707 r0 0 = H r0 0 := ((wq_u_j e1708 rfl).trans ((wq_u_j e1703 rfl).trans ((f1689 r0 0 _ g0 rfl).trans ((f1596 r0 0 _ g0 rfl).trans (wq_u_j e1510 rfl)))))
              have q1718 : H1707 r0 0 = (rb : Int) := k1717.trans qrb
              have h1719 : TP T H1707 rb B := (TP_fr w1704 grb ((wfr.rf (l := [(4, 2)])).put' e1708 g0 rfl) rfl (TP_fr w1688 grb ((wfr.rf (l := [(4, 3)])).put' e1703 g0 rfl) rfl (TP_fr w1595 grb f1689 rfl (TP_fr w1511 grb f1596 rfl (TP_fr hW grb ((wfr.rf (l := [(4, 4)])).put' e1510 g0 rfl) rfl hTP_rb)))))
              exact wp_return e16 c16_285 rfl ⟨rfl, w1709, f1710, rfl, (TC_mk q1718 grb h1719 (by omega) (fun h => by omega) (fun h => by omega))⟩
            · refine wp_of e16 c16_234 (rw_aload_n (pc' := 235) (v := .ref r0) rfl rfl rfl ?_)
              refine wp_of e16 c16_235 (rw_aload_n (pc' := 236) (v := .ref r0) rfl rfl rfl ?_)
              have k1720 : H1686 r0 0 = H r0 0 := ((f1689 r0 0 _ g0 rfl).trans ((f1596 r0 0 _ g0 rfl).trans (wq_u_j e1510 rfl)))
              have q1721 : H1686 r0 0 = (rb : Int) := k1720.trans qrb
              refine wp_of e16 c16_236 (xg_K (pc' := 239) lf_2_7 w1688 g0 sh_4 (by decide) (by decide) rfl q1721 rfl ?_)
              refine wp_of e16 c16_239 (rw_iload_n (pc' := 240) (z := v1685) rfl rfl ?_)
              refine wp_of e16 c16_240 (xa_B (by decide) (pc' := 241) w1688 grb sh_2 (by decide) (ty_2 _) (by omega) (by omega) rfl (fun b1722 b1723 => ?_))
              have h1724 : TP T H1686 rb B := (TP_fr w1595 grb f1689 rfl (TP_fr w1511 grb f1596 rfl (TP_fr hW grb ((wfr.rf (l := [(4, 4)])).put' e1510 g0 rfl) rfl hTP_rb)))
              have := h1724 (v1685.toNat) (by omega)
              refine wp_of e16 c16_241 (rw_bipush (pc' := 243) (z := 59) rfl (by decide) ?_)
              refine wp_of e16 c16_243 (rw_icmp_ne (p1 := 250) (p2 := 246) (by decide) rfl ⟨Int.le_trans (by decide) b1722, Int.le_trans b1723 (by decide)⟩ ⟨by decide, by decide⟩ (fun c1725 => ?_) (fun c1725 => ?_))
              · refine wp_of e16 c16_250 (rw_aload_n (pc' := 251) (v := .ref r0) rfl rfl rfl ?_)
                refine wp_of e16 c16_251 (xg_K (pc' := 254) lf_2_7 w1688 g0 sh_4 (by decide) (by decide) rfl q1721 rfl ?_)
                refine wp_of e16 c16_254 (rw_iload_n (pc' := 255) (z := v1685) rfl rfl ?_)
                refine wp_of e16 c16_255 (xa_B (by decide) (pc' := 256) w1688 grb sh_2 (by decide) (ty_2 _) (by omega) (by omega) rfl (fun b1726 b1727 => ?_))
                have := h1724 (v1685.toNat) (by omega)
                refine wp_of e16 c16_256 (rw_bipush (pc' := 258) (z := 44) rfl (by decide) ?_)
                refine wp_of e16 c16_258 (rw_icmp_ne (p1 := 265) (p2 := 261) (by decide) rfl ⟨Int.le_trans (by decide) b1726, Int.le_trans b1727 (by decide)⟩ ⟨by decide, by decide⟩ (fun c1728 => ?_) (fun c1728 => ?_))
                · refine wp_of e16 c16_265 (rw_iconst (pc' := 266) rfl ?_)
                  refine wp_of e16 c16_266 (xp_I (pc' := 269) lf_2_41 w1688 g0 sh_4 (by decide) (by decide) ty_4_3 rfl rfl (by decide) (by decide) ⟨by decide, by decide⟩ rfl (fun H1729 e1730 w1731 => ?_))
                  have f1732 := f1692.put' e1730 g0 rfl
                  have k1733 : H1729 r0 3 = 5 := wq_u_s e1730
                  refine wp_of e16 c16_269 (rw_iinc (pc' := 272) (z := v1685) (L' := [(1, vI (v1685 + 1)), (3, vI ((v1685 - (H1686 r0 4)) - (v1592 - (H1593 r0 4)))), (0, .ref r0), (2, vI (v1592 - (H1593 r0 4)))]) rfl rfl rfl rfl ?_)
                  refine wp_of e16 c16_272 (rw_goto (p1 := 280) (by decide) ?_)
                  refine wp_of e16 c16_280 (rw_aload_n (pc' := 281) (v := .ref r0) rfl rfl rfl ?_)
                  refine wp_of e16 c16_281 (rw_iload_n (pc' := 282) (z := v1685 + 1) rfl rfl ?_)
                  refine wp_of e16 c16_282 (xp_I (pc' := 285) lf_2_23 w1731 g0 sh_4 (by decide) (by decide) ty_4_2 rfl rfl (by omega) (by omega) ⟨by omega, by omega⟩ rfl (fun H1734 e1735 w1736 => ?_))
                  have f1737 := f1732.put' e1735 g0 rfl
                  have k1738 : H1734 r0 2 = v1685 + 1 := wq_u_s e1735
                  have k1739 : H1734 r0 3 = H1729 r0 3 := (wq_u_j e1735 rfl)
                  have k1740 : H1734 r0 4 = H1686 r0 4 := ((wq_u_j e1735 rfl).trans (wq_u_j e1730 rfl))
                  have k1741 : H1734 r0 5 = H1686 r0 5 := ((wq_u_j e1735 rfl).trans (wq_u_j e1730 rfl))
                  have k1742 : H1734 r0 6 = H1593 r0 6 := ((wq_u_j e1735 rfl).trans ((wq_u_j e1730 rfl).trans (f1689 r0 6 _ g0 rfl)))
                  have k1743 : H1734 r0 1 = H1686 r0 1 := ((wq_u_j e1735 rfl).trans (wq_u_j e1730 rfl))
                  have ex := (xKE_e (B := B) (n := n) (q := q)).symm
                  unfold xKE at ex
                  repeat first | rw [if_pos (by omega -splitDisjunctions)] at ex | rw [if_neg (by omega -splitDisjunctions)] at ex | rw [if_neg (by omega)] at ex | rw [if_pos (by omega)] at ex
                  have ek := congrArg Prod.fst ex
                  have ee := congrArg Prod.snd ex
                  dsimp only at ek ee
                  have ek : xK B n q = H1734 r0 3 := by omega
                  have ee : xE B n q = H1734 r0 2 := by omega
                  have k1744 : H1734 r0 0 = H1686 r0 0 := ((wq_u_j e1735 rfl).trans (wq_u_j e1730 rfl))
                  have q1745 : H1734 r0 0 = (rb : Int) := k1744.trans q1721
                  have h1746 : TP T H1734 rb B := (TP_fr w1731 grb ((wfr.rf (l := [(4, 2)])).put' e1735 g0 rfl) rfl (TP_fr w1688 grb ((wfr.rf (l := [(4, 3)])).put' e1730 g0 rfl) rfl h1724))
                  exact wp_return e16 c16_285 rfl ⟨rfl, w1736, f1737, rfl, (TC_mk q1745 grb h1746 (by omega) (fun h => by omega) (fun h => by omega))⟩
                · refine wp_of e16 c16_261 (rw_iconst (pc' := 262) rfl ?_)
                  refine wp_of e16 c16_262 (rw_goto (p1 := 266) (by decide) ?_)
                  refine wp_of e16 c16_266 (xp_I (pc' := 269) lf_2_41 w1688 g0 sh_4 (by decide) (by decide) ty_4_3 rfl rfl (by decide) (by decide) ⟨by decide, by decide⟩ rfl (fun H1747 e1748 w1749 => ?_))
                  have f1750 := f1692.put' e1748 g0 rfl
                  have k1751 : H1747 r0 3 = 4 := wq_u_s e1748
                  refine wp_of e16 c16_269 (rw_iinc (pc' := 272) (z := v1685) (L' := [(1, vI (v1685 + 1)), (3, vI ((v1685 - (H1686 r0 4)) - (v1592 - (H1593 r0 4)))), (0, .ref r0), (2, vI (v1592 - (H1593 r0 4)))]) rfl rfl rfl rfl ?_)
                  refine wp_of e16 c16_272 (rw_goto (p1 := 280) (by decide) ?_)
                  refine wp_of e16 c16_280 (rw_aload_n (pc' := 281) (v := .ref r0) rfl rfl rfl ?_)
                  refine wp_of e16 c16_281 (rw_iload_n (pc' := 282) (z := v1685 + 1) rfl rfl ?_)
                  refine wp_of e16 c16_282 (xp_I (pc' := 285) lf_2_23 w1749 g0 sh_4 (by decide) (by decide) ty_4_2 rfl rfl (by omega) (by omega) ⟨by omega, by omega⟩ rfl (fun H1752 e1753 w1754 => ?_))
                  have f1755 := f1750.put' e1753 g0 rfl
                  have k1756 : H1752 r0 2 = v1685 + 1 := wq_u_s e1753
                  have k1757 : H1752 r0 3 = H1747 r0 3 := (wq_u_j e1753 rfl)
                  have k1758 : H1752 r0 4 = H1686 r0 4 := ((wq_u_j e1753 rfl).trans (wq_u_j e1748 rfl))
                  have k1759 : H1752 r0 5 = H1686 r0 5 := ((wq_u_j e1753 rfl).trans (wq_u_j e1748 rfl))
                  have k1760 : H1752 r0 6 = H1593 r0 6 := ((wq_u_j e1753 rfl).trans ((wq_u_j e1748 rfl).trans (f1689 r0 6 _ g0 rfl)))
                  have k1761 : H1752 r0 1 = H1686 r0 1 := ((wq_u_j e1753 rfl).trans (wq_u_j e1748 rfl))
                  have ex := (xKE_e (B := B) (n := n) (q := q)).symm
                  unfold xKE at ex
                  repeat first | rw [if_pos (by omega -splitDisjunctions)] at ex | rw [if_neg (by omega -splitDisjunctions)] at ex | rw [if_neg (by omega)] at ex | rw [if_pos (by omega)] at ex
                  have ek := congrArg Prod.fst ex
                  have ee := congrArg Prod.snd ex
                  dsimp only at ek ee
                  have ek : xK B n q = H1752 r0 3 := by omega
                  have ee : xE B n q = H1752 r0 2 := by omega
                  have k1762 : H1752 r0 0 = H1686 r0 0 := ((wq_u_j e1753 rfl).trans (wq_u_j e1748 rfl))
                  have q1763 : H1752 r0 0 = (rb : Int) := k1762.trans q1721
                  have h1764 : TP T H1752 rb B := (TP_fr w1749 grb ((wfr.rf (l := [(4, 2)])).put' e1753 g0 rfl) rfl (TP_fr w1688 grb ((wfr.rf (l := [(4, 3)])).put' e1748 g0 rfl) rfl h1724))
                  exact wp_return e16 c16_285 rfl ⟨rfl, w1754, f1755, rfl, (TC_mk q1763 grb h1764 (by omega) (fun h => by omega) (fun h => by omega))⟩
              · refine wp_of e16 c16_246 (rw_iconst (pc' := 247) rfl ?_)
                refine wp_of e16 c16_247 (rw_goto (p1 := 266) (by decide) ?_)
                refine wp_of e16 c16_266 (xp_I (pc' := 269) lf_2_41 w1688 g0 sh_4 (by decide) (by decide) ty_4_3 rfl rfl (by decide) (by decide) ⟨by decide, by decide⟩ rfl (fun H1765 e1766 w1767 => ?_))
                have f1768 := f1692.put' e1766 g0 rfl
                have k1769 : H1765 r0 3 = 3 := wq_u_s e1766
                refine wp_of e16 c16_269 (rw_iinc (pc' := 272) (z := v1685) (L' := [(1, vI (v1685 + 1)), (3, vI ((v1685 - (H1686 r0 4)) - (v1592 - (H1593 r0 4)))), (0, .ref r0), (2, vI (v1592 - (H1593 r0 4)))]) rfl rfl rfl rfl ?_)
                refine wp_of e16 c16_272 (rw_goto (p1 := 280) (by decide) ?_)
                refine wp_of e16 c16_280 (rw_aload_n (pc' := 281) (v := .ref r0) rfl rfl rfl ?_)
                refine wp_of e16 c16_281 (rw_iload_n (pc' := 282) (z := v1685 + 1) rfl rfl ?_)
                refine wp_of e16 c16_282 (xp_I (pc' := 285) lf_2_23 w1767 g0 sh_4 (by decide) (by decide) ty_4_2 rfl rfl (by omega) (by omega) ⟨by omega, by omega⟩ rfl (fun H1770 e1771 w1772 => ?_))
                have f1773 := f1768.put' e1771 g0 rfl
                have k1774 : H1770 r0 2 = v1685 + 1 := wq_u_s e1771
                have k1775 : H1770 r0 3 = H1765 r0 3 := (wq_u_j e1771 rfl)
                have k1776 : H1770 r0 4 = H1686 r0 4 := ((wq_u_j e1771 rfl).trans (wq_u_j e1766 rfl))
                have k1777 : H1770 r0 5 = H1686 r0 5 := ((wq_u_j e1771 rfl).trans (wq_u_j e1766 rfl))
                have k1778 : H1770 r0 6 = H1593 r0 6 := ((wq_u_j e1771 rfl).trans ((wq_u_j e1766 rfl).trans (f1689 r0 6 _ g0 rfl)))
                have k1779 : H1770 r0 1 = H1686 r0 1 := ((wq_u_j e1771 rfl).trans (wq_u_j e1766 rfl))
                have ex := (xKE_e (B := B) (n := n) (q := q)).symm
                unfold xKE at ex
                repeat first | rw [if_pos (by omega -splitDisjunctions)] at ex | rw [if_neg (by omega -splitDisjunctions)] at ex | rw [if_neg (by omega)] at ex | rw [if_pos (by omega)] at ex
                have ek := congrArg Prod.fst ex
                have ee := congrArg Prod.snd ex
                dsimp only at ek ee
                have ek : xK B n q = H1770 r0 3 := by omega
                have ee : xE B n q = H1770 r0 2 := by omega
                have k1780 : H1770 r0 0 = H1686 r0 0 := ((wq_u_j e1771 rfl).trans (wq_u_j e1766 rfl))
                have q1781 : H1770 r0 0 = (rb : Int) := k1780.trans q1721
                have h1782 : TP T H1770 rb B := (TP_fr w1767 grb ((wfr.rf (l := [(4, 2)])).put' e1771 g0 rfl) rfl (TP_fr w1688 grb ((wfr.rf (l := [(4, 3)])).put' e1766 g0 rfl) rfl h1724))
                exact wp_return e16 c16_285 rfl ⟨rfl, w1772, f1773, rfl, (TC_mk q1781 grb h1782 (by omega) (fun h => by omega) (fun h => by omega))⟩
          · refine wp_of e16 c16_209 (rw_aload_n (pc' := 210) (v := .ref r0) rfl rfl rfl ?_)
            refine wp_of e16 c16_210 (rw_iload_n (pc' := 211) (z := (v1685 - (H1686 r0 4)) - (v1592 - (H1593 r0 4))) rfl rfl ?_)
            refine wp_of e16 c16_211 (rw_iconst (pc' := 212) rfl ?_)
            refine wp_of e16 c16_212 (rw_icmp_gt (p1 := 219) (p2 := 215) (by decide) rfl ⟨by omega, by omega⟩ ⟨by decide, by decide⟩ (fun c1783 => ?_) (fun c1783 => ?_))
            · refine wp_of e16 c16_219 (rw_iconst (pc' := 220) rfl ?_)
              refine wp_of e16 c16_220 (xp_I (pc' := 223) lf_2_41 w1688 g0 sh_4 (by decide) (by decide) ty_4_3 rfl rfl (by decide) (by decide) ⟨by decide, by decide⟩ rfl (fun H1784 e1785 w1786 => ?_))
              have f1787 := f1692.put' e1785 g0 rfl
              have k1788 : H1784 r0 3 = 5 := wq_u_s e1785
              refine wp_of e16 c16_223 (rw_goto (p1 := 280) (by decide) ?_)
              refine wp_of e16 c16_280 (rw_aload_n (pc' := 281) (v := .ref r0) rfl rfl rfl ?_)
              refine wp_of e16 c16_281 (rw_iload_n (pc' := 282) (z := v1685) rfl rfl ?_)
              refine wp_of e16 c16_282 (xp_I (pc' := 285) lf_2_23 w1786 g0 sh_4 (by decide) (by decide) ty_4_2 rfl rfl (by omega) (by omega) ⟨by omega, by omega⟩ rfl (fun H1789 e1790 w1791 => ?_))
              have f1792 := f1787.put' e1790 g0 rfl
              have k1793 : H1789 r0 2 = v1685 := wq_u_s e1790
              have k1794 : H1789 r0 3 = H1784 r0 3 := (wq_u_j e1790 rfl)
              have k1795 : H1789 r0 4 = H1686 r0 4 := ((wq_u_j e1790 rfl).trans (wq_u_j e1785 rfl))
              have k1796 : H1789 r0 5 = H1686 r0 5 := ((wq_u_j e1790 rfl).trans (wq_u_j e1785 rfl))
              have k1797 : H1789 r0 6 = H1593 r0 6 := ((wq_u_j e1790 rfl).trans ((wq_u_j e1785 rfl).trans (f1689 r0 6 _ g0 rfl)))
              have k1798 : H1789 r0 1 = H r0 1 := ((wq_u_j e1790 rfl).trans ((wq_u_j e1785 rfl).trans ((f1689 r0 1 _ g0 rfl).trans ((f1596 r0 1 _ g0 rfl).trans (wq_u_j e1510 rfl)))))
              have ex := (xKE_e (B := B) (n := n) (q := q)).symm
              unfold xKE at ex
              repeat first | rw [if_pos (by omega -splitDisjunctions)] at ex | rw [if_neg (by omega -splitDisjunctions)] at ex | rw [if_neg (by omega)] at ex | rw [if_pos (by omega)] at ex
              have ek := congrArg Prod.fst ex
              have ee := congrArg Prod.snd ex
              dsimp only at ek ee
              have ek : xK B n q = H1789 r0 3 := by omega
              have ee : xE B n q = H1789 r0 2 := by omega
              have k1799 : H1789 r0 0 = H r0 0 := ((wq_u_j e1790 rfl).trans ((wq_u_j e1785 rfl).trans ((f1689 r0 0 _ g0 rfl).trans ((f1596 r0 0 _ g0 rfl).trans (wq_u_j e1510 rfl)))))
              have q1800 : H1789 r0 0 = (rb : Int) := k1799.trans qrb
              have h1801 : TP T H1789 rb B := (TP_fr w1786 grb ((wfr.rf (l := [(4, 2)])).put' e1790 g0 rfl) rfl (TP_fr w1688 grb ((wfr.rf (l := [(4, 3)])).put' e1785 g0 rfl) rfl (TP_fr w1595 grb f1689 rfl (TP_fr w1511 grb f1596 rfl (TP_fr hW grb ((wfr.rf (l := [(4, 4)])).put' e1510 g0 rfl) rfl hTP_rb)))))
              exact wp_return e16 c16_285 rfl ⟨rfl, w1791, f1792, rfl, (TC_mk q1800 grb h1801 (by omega) (fun h => by omega) (fun h => by omega))⟩
            · refine wp_of e16 c16_215 (rw_iconst (pc' := 216) rfl ?_)
              refine wp_of e16 c16_216 (rw_goto (p1 := 220) (by decide) ?_)
              refine wp_of e16 c16_220 (xp_I (pc' := 223) lf_2_41 w1688 g0 sh_4 (by decide) (by decide) ty_4_3 rfl rfl (by decide) (by decide) ⟨by decide, by decide⟩ rfl (fun H1802 e1803 w1804 => ?_))
              have f1805 := f1692.put' e1803 g0 rfl
              have k1806 : H1802 r0 3 = 2 := wq_u_s e1803
              refine wp_of e16 c16_223 (rw_goto (p1 := 280) (by decide) ?_)
              refine wp_of e16 c16_280 (rw_aload_n (pc' := 281) (v := .ref r0) rfl rfl rfl ?_)
              refine wp_of e16 c16_281 (rw_iload_n (pc' := 282) (z := v1685) rfl rfl ?_)
              refine wp_of e16 c16_282 (xp_I (pc' := 285) lf_2_23 w1804 g0 sh_4 (by decide) (by decide) ty_4_2 rfl rfl (by omega) (by omega) ⟨by omega, by omega⟩ rfl (fun H1807 e1808 w1809 => ?_))
              have f1810 := f1805.put' e1808 g0 rfl
              have k1811 : H1807 r0 2 = v1685 := wq_u_s e1808
              have k1812 : H1807 r0 3 = H1802 r0 3 := (wq_u_j e1808 rfl)
              have k1813 : H1807 r0 4 = H1686 r0 4 := ((wq_u_j e1808 rfl).trans (wq_u_j e1803 rfl))
              have k1814 : H1807 r0 5 = H1686 r0 5 := ((wq_u_j e1808 rfl).trans (wq_u_j e1803 rfl))
              have k1815 : H1807 r0 6 = H1593 r0 6 := ((wq_u_j e1808 rfl).trans ((wq_u_j e1803 rfl).trans (f1689 r0 6 _ g0 rfl)))
              have k1816 : H1807 r0 1 = H r0 1 := ((wq_u_j e1808 rfl).trans ((wq_u_j e1803 rfl).trans ((f1689 r0 1 _ g0 rfl).trans ((f1596 r0 1 _ g0 rfl).trans (wq_u_j e1510 rfl)))))
              have ex := (xKE_e (B := B) (n := n) (q := q)).symm
              unfold xKE at ex
              repeat first | rw [if_pos (by omega -splitDisjunctions)] at ex | rw [if_neg (by omega -splitDisjunctions)] at ex | rw [if_neg (by omega)] at ex | rw [if_pos (by omega)] at ex
              have ek := congrArg Prod.fst ex
              have ee := congrArg Prod.snd ex
              dsimp only at ek ee
              have ek : xK B n q = H1807 r0 3 := by omega
              have ee : xE B n q = H1807 r0 2 := by omega
              have k1817 : H1807 r0 0 = H r0 0 := ((wq_u_j e1808 rfl).trans ((wq_u_j e1803 rfl).trans ((f1689 r0 0 _ g0 rfl).trans ((f1596 r0 0 _ g0 rfl).trans (wq_u_j e1510 rfl)))))
              have q1818 : H1807 r0 0 = (rb : Int) := k1817.trans qrb
              have h1819 : TP T H1807 rb B := (TP_fr w1804 grb ((wfr.rf (l := [(4, 2)])).put' e1808 g0 rfl) rfl (TP_fr w1688 grb ((wfr.rf (l := [(4, 3)])).put' e1803 g0 rfl) rfl (TP_fr w1595 grb f1689 rfl (TP_fr w1511 grb f1596 rfl (TP_fr hW grb ((wfr.rf (l := [(4, 4)])).put' e1510 g0 rfl) rfl hTP_rb)))))
              exact wp_return e16 c16_285 rfl ⟨rfl, w1809, f1810, rfl, (TC_mk q1818 grb h1819 (by omega) (fun h => by omega) (fun h => by omega))⟩
        · refine wp_of e16 c16_187 (rw_aload_n (pc' := 188) (v := .ref r0) rfl rfl rfl ?_)
          refine wp_of e16 c16_188 (rw_iload_n (pc' := 189) (z := v1592 - (H1593 r0 4)) rfl rfl ?_)
          refine wp_of e16 c16_189 (rw_bipush (pc' := 191) (z := 8) rfl (by decide) ?_)
          refine wp_of e16 c16_191 (rw_icmp_gt (p1 := 198) (p2 := 194) (by decide) rfl ⟨by omega, by omega⟩ ⟨by decide, by decide⟩ (fun c1820 => ?_) (fun c1820 => ?_))
          · refine wp_of e16 c16_198 (rw_iconst (pc' := 199) rfl ?_)
            refine wp_of e16 c16_199 (xp_I (pc' := 202) lf_2_41 w1688 g0 sh_4 (by decide) (by decide) ty_4_3 rfl rfl (by decide) (by decide) ⟨by decide, by decide⟩ rfl (fun H1821 e1822 w1823 => ?_))
            have f1824 := f1692.put' e1822 g0 rfl
            have k1825 : H1821 r0 3 = 5 := wq_u_s e1822
            refine wp_of e16 c16_202 (rw_goto (p1 := 280) (by decide) ?_)
            refine wp_of e16 c16_280 (rw_aload_n (pc' := 281) (v := .ref r0) rfl rfl rfl ?_)
            refine wp_of e16 c16_281 (rw_iload_n (pc' := 282) (z := v1685) rfl rfl ?_)
            refine wp_of e16 c16_282 (xp_I (pc' := 285) lf_2_23 w1823 g0 sh_4 (by decide) (by decide) ty_4_2 rfl rfl (by omega) (by omega) ⟨by omega, by omega⟩ rfl (fun H1826 e1827 w1828 => ?_))
            have f1829 := f1824.put' e1827 g0 rfl
            have k1830 : H1826 r0 2 = v1685 := wq_u_s e1827
            have k1831 : H1826 r0 3 = H1821 r0 3 := (wq_u_j e1827 rfl)
            have k1832 : H1826 r0 4 = H1686 r0 4 := ((wq_u_j e1827 rfl).trans (wq_u_j e1822 rfl))
            have k1833 : H1826 r0 5 = H1686 r0 5 := ((wq_u_j e1827 rfl).trans (wq_u_j e1822 rfl))
            have k1834 : H1826 r0 6 = H1593 r0 6 := ((wq_u_j e1827 rfl).trans ((wq_u_j e1822 rfl).trans (f1689 r0 6 _ g0 rfl)))
            have k1835 : H1826 r0 1 = H r0 1 := ((wq_u_j e1827 rfl).trans ((wq_u_j e1822 rfl).trans ((f1689 r0 1 _ g0 rfl).trans ((f1596 r0 1 _ g0 rfl).trans (wq_u_j e1510 rfl)))))
            have ex := (xKE_e (B := B) (n := n) (q := q)).symm
            unfold xKE at ex
            repeat first | rw [if_pos (by omega -splitDisjunctions)] at ex | rw [if_neg (by omega -splitDisjunctions)] at ex | rw [if_neg (by omega)] at ex | rw [if_pos (by omega)] at ex
            have ek := congrArg Prod.fst ex
            have ee := congrArg Prod.snd ex
            dsimp only at ek ee
            have ek : xK B n q = H1826 r0 3 := by omega
            have ee : xE B n q = H1826 r0 2 := by omega
            have k1836 : H1826 r0 0 = H r0 0 := ((wq_u_j e1827 rfl).trans ((wq_u_j e1822 rfl).trans ((f1689 r0 0 _ g0 rfl).trans ((f1596 r0 0 _ g0 rfl).trans (wq_u_j e1510 rfl)))))
            have q1837 : H1826 r0 0 = (rb : Int) := k1836.trans qrb
            have h1838 : TP T H1826 rb B := (TP_fr w1823 grb ((wfr.rf (l := [(4, 2)])).put' e1827 g0 rfl) rfl (TP_fr w1688 grb ((wfr.rf (l := [(4, 3)])).put' e1822 g0 rfl) rfl (TP_fr w1595 grb f1689 rfl (TP_fr w1511 grb f1596 rfl (TP_fr hW grb ((wfr.rf (l := [(4, 4)])).put' e1510 g0 rfl) rfl hTP_rb)))))
            exact wp_return e16 c16_285 rfl ⟨rfl, w1828, f1829, rfl, (TC_mk q1837 grb h1838 (by omega) (fun h => by omega) (fun h => by omega))⟩
          · refine wp_of e16 c16_194 (rw_iconst (pc' := 195) rfl ?_)
            refine wp_of e16 c16_195 (rw_goto (p1 := 199) (by decide) ?_)
            refine wp_of e16 c16_199 (xp_I (pc' := 202) lf_2_41 w1688 g0 sh_4 (by decide) (by decide) ty_4_3 rfl rfl (by decide) (by decide) ⟨by decide, by decide⟩ rfl (fun H1839 e1840 w1841 => ?_))
            have f1842 := f1692.put' e1840 g0 rfl
            have k1843 : H1839 r0 3 = 1 := wq_u_s e1840
            refine wp_of e16 c16_202 (rw_goto (p1 := 280) (by decide) ?_)
            refine wp_of e16 c16_280 (rw_aload_n (pc' := 281) (v := .ref r0) rfl rfl rfl ?_)
            refine wp_of e16 c16_281 (rw_iload_n (pc' := 282) (z := v1685) rfl rfl ?_)
            refine wp_of e16 c16_282 (xp_I (pc' := 285) lf_2_23 w1841 g0 sh_4 (by decide) (by decide) ty_4_2 rfl rfl (by omega) (by omega) ⟨by omega, by omega⟩ rfl (fun H1844 e1845 w1846 => ?_))
            have f1847 := f1842.put' e1845 g0 rfl
            have k1848 : H1844 r0 2 = v1685 := wq_u_s e1845
            have k1849 : H1844 r0 3 = H1839 r0 3 := (wq_u_j e1845 rfl)
            have k1850 : H1844 r0 4 = H1686 r0 4 := ((wq_u_j e1845 rfl).trans (wq_u_j e1840 rfl))
            have k1851 : H1844 r0 5 = H1686 r0 5 := ((wq_u_j e1845 rfl).trans (wq_u_j e1840 rfl))
            have k1852 : H1844 r0 6 = H1593 r0 6 := ((wq_u_j e1845 rfl).trans ((wq_u_j e1840 rfl).trans (f1689 r0 6 _ g0 rfl)))
            have k1853 : H1844 r0 1 = H r0 1 := ((wq_u_j e1845 rfl).trans ((wq_u_j e1840 rfl).trans ((f1689 r0 1 _ g0 rfl).trans ((f1596 r0 1 _ g0 rfl).trans (wq_u_j e1510 rfl)))))
            have ex := (xKE_e (B := B) (n := n) (q := q)).symm
            unfold xKE at ex
            repeat first | rw [if_pos (by omega -splitDisjunctions)] at ex | rw [if_neg (by omega -splitDisjunctions)] at ex | rw [if_neg (by omega)] at ex | rw [if_pos (by omega)] at ex
            have ek := congrArg Prod.fst ex
            have ee := congrArg Prod.snd ex
            dsimp only at ek ee
            have ek : xK B n q = H1844 r0 3 := by omega
            have ee : xE B n q = H1844 r0 2 := by omega
            have k1854 : H1844 r0 0 = H r0 0 := ((wq_u_j e1845 rfl).trans ((wq_u_j e1840 rfl).trans ((f1689 r0 0 _ g0 rfl).trans ((f1596 r0 0 _ g0 rfl).trans (wq_u_j e1510 rfl)))))
            have q1855 : H1844 r0 0 = (rb : Int) := k1854.trans qrb
            have h1856 : TP T H1844 rb B := (TP_fr w1841 grb ((wfr.rf (l := [(4, 2)])).put' e1845 g0 rfl) rfl (TP_fr w1688 grb ((wfr.rf (l := [(4, 3)])).put' e1840 g0 rfl) rfl (TP_fr w1595 grb f1689 rfl (TP_fr w1511 grb f1596 rfl (TP_fr hW grb ((wfr.rf (l := [(4, 4)])).put' e1510 g0 rfl) rfl hTP_rb)))))
            exact wp_return e16 c16_285 rfl ⟨rfl, w1846, f1847, rfl, (TC_mk q1855 grb h1856 (by omega) (fun h => by omega) (fun h => by omega))⟩
      have f1857 : wfr [(4, 5)] T H1593 H1593 := wfr.rf
      refine wp_of e16 c16_110 (xp_I (pc' := 113) lf_2_38 w1595 g0 sh_4 (by decide) (by decide) ty_4_5 rfl rfl (by decide) (by decide) ⟨by decide, by decide⟩ rfl (fun H1858 e1859 w1860 => ?_))
      have f1861 := f1600.put' e1859 g0 rfl
      have f1862 := f1857.put' e1859 g0 rfl
      have k1863 : H1858 r0 5 = 0 := wq_u_s e1859
      have lp1915 : ∀ (n1916 : Nat) (v1918 : Int) (H1919 : wq_H), WT T H1919 → wfr [(4, 5)] T H1858 H1919 → (0 ≤ v1918 ∧ v1918 ≤ 900) → (((v1592 - (H1593 r0 4)) ≠ 0 ∧ v1918 = q + (v1592 - (H1593 r0 4)) ∧ v1918 = xG 97 122 B n q) ∨ ((v1592 - (H1593 r0 4)) = 0 ∧ xG 48 57 B n v1918 = xG 48 57 B n q)) → (q ≤ v1918) → (v1918 ≤ n) → ((v1592 - (H1593 r0 4)) ≠ 0 ∨ 3 < v1918 - q ∨ H1919 r0 5 = xkf 10 48 B q (v1918 - q).toNat) → (900 - v1918).toNat = n1916 → wp kt 0 16 113 [(1, vI v1918), (2, vI (v1592 - (H1593 r0 4))), (0, .ref r0)] [] T H1919 (uq_16 r0 rb B n a q T H) := by
        intro n1916
        induction n1916 using Nat.strongRecOn with
        | _ n1916 ih1917 =>
          intro v1918 H1919 w1920 f1921 b1922 x1923 x1924 x1925 x1926 m1927
          have f1928 := f1861.tr f1921 rfl
          have f1929 := f1862.tr f1921 rfl
          have := @xG_b 48 57 B n v1918
          have := @xkf_V2 B n q v1918 (by omega)
          refine wp_of e16 c16_113 (rw_iload_n (pc' := 114) (z := v1918) rfl rfl ?_)
          refine wp_of e16 c16_114 (rw_aload_n (pc' := 115) (v := .ref r0) rfl rfl rfl ?_)
          have k1930 : H1919 r0 1 = H r0 1 := ((f1921 r0 1 _ g0 rfl).trans ((wq_u_j e1859 rfl).trans ((f1596 r0 1 _ g0 rfl).trans (wq_u_j e1510 rfl))))
          refine wp_of e16 c16_115 (xg_I (pc' := 118) lf_2_19 w1920 g0 sh_4 (by decide) (by decide) ty_4_1 rfl rfl (fun b1931 b1932 => ?_))
          refine wp_of e16 c16_118 (rw_icmp_ge (p1 := 174) (p2 := 121) (by decide) rfl ⟨Int.le_trans (by decide) b1922.1, Int.le_trans b1922.2 (by decide)⟩ ⟨Int.le_trans (by decide) b1931, Int.le_trans b1932 (by decide)⟩ (fun c1933 => ?_) (fun c1933 => ?_))
          · have := @xG_ez 48 57 B n v1918
            have := @xV_of B n q v1918
            exact wp_lc (ks := [1, 2, 0]) (wl_c rfl (wl_c rfl (wl_c rfl wl_n))) rfl (by decide) (jn1687 v1918 H1919 w1920 f1929 ⟨by omega, by omega⟩ (by omega))
          · refine wp_of e16 c16_121 (rw_iload_n (pc' := 122) (z := v1592 - (H1593 r0 4)) rfl rfl ?_)
            refine wp_of e16 c16_122 (rw_if_ne (p1 := 174) (p2 := 125) (by decide) rfl ⟨by omega, by omega⟩ (fun c1934 => ?_) (fun c1934 => ?_))
            · have := @xG_ez 48 57 B n v1918
              have := @xV_of B n q v1918
              exact wp_lc (ks := [1, 2, 0]) (wl_c rfl (wl_c rfl (wl_c rfl wl_n))) rfl (by decide) (jn1687 v1918 H1919 w1920 f1929 ⟨by omega, by omega⟩ (by omega))
            · refine wp_of e16 c16_125 (rw_aload_n (pc' := 126) (v := .ref r0) rfl rfl rfl ?_)
              have k1935 : H1919 r0 0 = H r0 0 := ((f1921 r0 0 _ g0 rfl).trans ((wq_u_j e1859 rfl).trans ((f1596 r0 0 _ g0 rfl).trans (wq_u_j e1510 rfl))))
              have q1936 : H1919 r0 0 = (rb : Int) := k1935.trans qrb
              refine wp_of e16 c16_126 (xg_K (pc' := 129) lf_2_7 w1920 g0 sh_4 (by decide) (by decide) rfl q1936 rfl ?_)
              refine wp_of e16 c16_129 (rw_iload_n (pc' := 130) (z := v1918) rfl rfl ?_)
              refine wp_of e16 c16_130 (xa_B (by decide) (pc' := 131) w1920 grb sh_2 (by decide) (ty_2 _) (b1922.1) (by omega) rfl (fun b1937 b1938 => ?_))
              have h1939 : TP T H1919 rb B := (TP_fr w1860 grb f1921 rfl (TP_fr w1595 grb ((wfr.rf (l := [(4, 5)])).put' e1859 g0 rfl) rfl (TP_fr w1511 grb f1596 rfl (TP_fr hW grb ((wfr.rf (l := [(4, 4)])).put' e1510 g0 rfl) rfl hTP_rb))))
              have := h1939 (v1918.toNat) (by omega)
              refine wp_of e16 c16_131 (rw_bipush (pc' := 133) (z := 48) rfl (by decide) ?_)
              refine wp_of e16 c16_133 (rw_icmp_lt (p1 := 174) (p2 := 136) (by decide) rfl ⟨Int.le_trans (by decide) b1937, Int.le_trans b1938 (by decide)⟩ ⟨by decide, by decide⟩ (fun c1940 => ?_) (fun c1940 => ?_))
              · have := @xG_ez 48 57 B n v1918
                have := @xV_of B n q v1918
                exact wp_lc (ks := [1, 2, 0]) (wl_c rfl (wl_c rfl (wl_c rfl wl_n))) rfl (by decide) (jn1687 v1918 H1919 w1920 f1929 ⟨by omega, by omega⟩ (by omega))
              · refine wp_of e16 c16_136 (rw_aload_n (pc' := 137) (v := .ref r0) rfl rfl rfl ?_)
                refine wp_of e16 c16_137 (xg_K (pc' := 140) lf_2_7 w1920 g0 sh_4 (by decide) (by decide) rfl q1936 rfl ?_)
                refine wp_of e16 c16_140 (rw_iload_n (pc' := 141) (z := v1918) rfl rfl ?_)
                refine wp_of e16 c16_141 (xa_B (by decide) (pc' := 142) w1920 grb sh_2 (by decide) (ty_2 _) (b1922.1) (by omega) rfl (fun b1941 b1942 => ?_))
                have := h1939 (v1918.toNat) (by omega)
                refine wp_of e16 c16_142 (rw_bipush (pc' := 144) (z := 57) rfl (by decide) ?_)
                refine wp_of e16 c16_144 (rw_icmp_gt (p1 := 174) (p2 := 147) (by decide) rfl ⟨Int.le_trans (by decide) b1941, Int.le_trans b1942 (by decide)⟩ ⟨by decide, by decide⟩ (fun c1943 => ?_) (fun c1943 => ?_))
                · have := @xG_ez 48 57 B n v1918
                  have := @xV_of B n q v1918
                  exact wp_lc (ks := [1, 2, 0]) (wl_c rfl (wl_c rfl (wl_c rfl wl_n))) rfl (by decide) (jn1687 v1918 H1919 w1920 f1929 ⟨by omega, by omega⟩ (by omega))
                · refine wp_of e16 c16_147 (rw_aload_n (pc' := 148) (v := .ref r0) rfl rfl rfl ?_)
                  refine wp_of e16 c16_148 (rw_aload_n (pc' := 149) (v := .ref r0) rfl rfl rfl ?_)
                  refine wp_of e16 c16_149 (xg_I (pc' := 152) lf_2_38 w1920 g0 sh_4 (by decide) (by decide) ty_4_5 rfl rfl (fun b1944 b1945 => ?_))
                  refine wp_of e16 c16_152 (rw_bipush (pc' := 154) (z := 10) rfl (by decide) ?_)
                  refine wp_of e16 c16_154 (rw_imulw (pc' := 155) rfl ?_)
                  obtain ⟨v1946, e1947⟩ : ∃ x : Int, x = wq_w ((H1919 r0 5) * 10) := ⟨_, rfl⟩
                  rw [← e1947]
                  have b1948 : -2147483648 ≤ v1946 ∧ v1946 ≤ 2147483647 := by
                    rw [e1947]
                    exact wI_w _
                  have b1949 : (-2147483648 ≤ (H1919 r0 5) * 10 ∧ (H1919 r0 5) * 10 ≤ 2147483647) → v1946 = (H1919 r0 5) * 10 := fun h => by rw [e1947]; exact wq_w_id h
                  refine wp_of e16 c16_155 (rw_aload_n (pc' := 156) (v := .ref r0) rfl rfl rfl ?_)
                  refine wp_of e16 c16_156 (xg_K (pc' := 159) lf_2_7 w1920 g0 sh_4 (by decide) (by decide) rfl q1936 rfl ?_)
                  refine wp_of e16 c16_159 (rw_iload_n (pc' := 160) (z := v1918) rfl rfl ?_)
                  refine wp_of e16 c16_160 (xa_B (by decide) (pc' := 161) w1920 grb sh_2 (by decide) (ty_2 _) (b1922.1) (by omega) rfl (fun b1950 b1951 => ?_))
                  have := h1939 (v1918.toNat) (by omega)
                  refine wp_of e16 c16_161 (rw_bipush (pc' := 163) (z := 48) rfl (by decide) ?_)
                  refine wp_of e16 c16_163 (rw_isub (pc' := 164) rfl ?_)
                  refine wp_of e16 c16_164 (rw_iaddw (pc' := 165) rfl ?_)
                  obtain ⟨v1952, e1953⟩ : ∃ x : Int, x = wq_w (v1946 + ((H1919 rb (v1918.toNat)) - 48)) := ⟨_, rfl⟩
                  rw [← e1953]
                  have b1954 : -2147483648 ≤ v1952 ∧ v1952 ≤ 2147483647 := by
                    rw [e1953]
                    exact wI_w _
                  have b1955 : (-2147483648 ≤ v1946 + ((H1919 rb (v1918.toNat)) - 48) ∧ v1946 + ((H1919 rb (v1918.toNat)) - 48) ≤ 2147483647) → v1952 = v1946 + ((H1919 rb (v1918.toNat)) - 48) := fun h => by rw [e1953]; exact wq_w_id h
                  refine wp_of e16 c16_165 (xp_I (pc' := 168) lf_2_38 w1920 g0 sh_4 (by decide) (by decide) ty_4_5 rfl rfl (b1954.1) (b1954.2) ⟨b1954.1, b1954.2⟩ rfl (fun H1956 e1957 w1958 => ?_))
                  have f1959 := f1928.put' e1957 g0 rfl
                  have f1960 := f1929.put' e1957 g0 rfl
                  have f1961 := f1921.put' e1957 g0 rfl
                  have k1962 : H1956 r0 5 = v1952 := wq_u_s e1957
                  refine wp_of e16 c16_168 (rw_iinc (pc' := 171) (z := v1918) (L' := [(1, vI (v1918 + 1)), (2, vI (v1592 - (H1593 r0 4))), (0, .ref r0)]) rfl rfl rfl rfl ?_)
                  refine wp_of e16 c16_171 (rw_goto (p1 := 113) (by decide) ?_)
                  have := @xG_s 48 57 B n v1918 (by omega) (by omega) (by omega)
                  have := @xkf_s B q 10 48 v1918 (by omega)
                  exact wp_lc (ks := [1, 2, 0]) (wl_c rfl (wl_c rfl (wl_c rfl wl_n))) rfl (by decide) (ih1917 _ (by omega) (v1918 + 1) H1956 w1958 f1961 ⟨by omega, by omega⟩ (by omega) (by omega) (by omega) (by omega) rfl)
      have := @xkf_q B q v1592 10 48
      have := @xG_q 48 57 B n q v1592
      exact wp_lc (ks := [2, 1, 0]) (wl_c rfl (wl_c rfl (wl_c rfl wl_n))) rfl (by decide) (lp1915 _ v1592 H1858 w1860 wfr.rf ⟨by omega, by omega⟩ (by omega) (by omega) (by omega) (by omega) rfl)
    have f1963 : wfr [(4, 6)] T H1509 H1509 := wfr.rf
    refine wp_of e16 c16_35 (rw_aload_n (pc' := 36) (v := .ref r0) rfl rfl rfl ?_)
    refine wp_of e16 c16_36 (rw_lconst (pc' := 37) (z := 0) rfl rfl ?_)
    refine wp_of e16 c16_37 (xp_L (pc' := 40) lf_2_32 w1511 g0 sh_4 (by decide) (by decide) ty_4_6 rfl rfl (by decide) (by decide) ⟨by decide, by decide⟩ rfl (fun H1964 e1965 w1966 => ?_))
    have f1967 := f1512.put' e1965 g0 rfl
    have f1968 := f1963.put' e1965 g0 rfl
    have k1969 : H1964 r0 6 = 0 := wq_u_s e1965
    have lp2019 : ∀ (n2020 : Nat) (v2022 : Int) (H2023 : wq_H), WT T H2023 → wfr [(4, 6)] T H1964 H2023 → (0 ≤ v2022 ∧ v2022 ≤ 900) → (xG 97 122 B n v2022 = xG 97 122 B n q) → (q ≤ v2022) → (v2022 ≤ n) → (8 < v2022 - q ∨ H2023 r0 6 = xkf 32 96 B q (v2022 - q).toNat) → (900 - v2022).toNat = n2020 → wp kt 0 16 40 [(1, vI v2022), (0, .ref r0)] [] T H2023 (uq_16 r0 rb B n a q T H) := by
      intro n2020
      induction n2020 using Nat.strongRecOn with
      | _ n2020 ih2021 =>
        intro v2022 H2023 w2024 f2025 b2026 x2027 x2028 x2029 x2030 m2031
        have f2032 := f1967.tr f2025 rfl
        have f2033 := f1968.tr f2025 rfl
        have := @xG_b 97 122 B n v2022
        have := @xkf_Y2 B n q v2022 (by omega) (by omega)
        refine wp_of e16 c16_40 (rw_iload_n (pc' := 41) (z := v2022) rfl rfl ?_)
        refine wp_of e16 c16_41 (rw_aload_n (pc' := 42) (v := .ref r0) rfl rfl rfl ?_)
        have k2034 : H2023 r0 1 = H r0 1 := ((f2025 r0 1 _ g0 rfl).trans ((wq_u_j e1965 rfl).trans (wq_u_j e1510 rfl)))
        refine wp_of e16 c16_42 (xg_I (pc' := 45) lf_2_19 w2024 g0 sh_4 (by decide) (by decide) ty_4_1 rfl rfl (fun b2035 b2036 => ?_))
        refine wp_of e16 c16_45 (rw_icmp_ge (p1 := 101) (p2 := 48) (by decide) rfl ⟨Int.le_trans (by decide) b2026.1, Int.le_trans b2026.2 (by decide)⟩ ⟨Int.le_trans (by decide) b2035, Int.le_trans b2036 (by decide)⟩ (fun c2037 => ?_) (fun c2037 => ?_))
        · have k2038 : H2023 r0 4 = H1509 r0 4 := ((f2025 r0 4 _ g0 rfl).trans (wq_u_j e1965 rfl))
          have := @xG_e 97 122 B n v2022 (by omega)
          have := @xY_of B n q v2022
          exact wp_lc (ks := [1, 0]) (wl_c rfl (wl_c rfl wl_n)) rfl (by decide) (jn1594 v2022 H2023 w2024 f2033 ⟨by omega, by omega⟩ (by omega) (by omega))
        · refine wp_of e16 c16_48 (rw_aload_n (pc' := 49) (v := .ref r0) rfl rfl rfl ?_)
          have k2039 : H2023 r0 0 = H r0 0 := ((f2025 r0 0 _ g0 rfl).trans ((wq_u_j e1965 rfl).trans (wq_u_j e1510 rfl)))
          have q2040 : H2023 r0 0 = (rb : Int) := k2039.trans qrb
          refine wp_of e16 c16_49 (xg_K (pc' := 52) lf_2_7 w2024 g0 sh_4 (by decide) (by decide) rfl q2040 rfl ?_)
          refine wp_of e16 c16_52 (rw_iload_n (pc' := 53) (z := v2022) rfl rfl ?_)
          refine wp_of e16 c16_53 (xa_B (by decide) (pc' := 54) w2024 grb sh_2 (by decide) (ty_2 _) (b2026.1) (by omega) rfl (fun b2041 b2042 => ?_))
          have h2043 : TP T H2023 rb B := (TP_fr w1966 grb f2025 rfl (TP_fr w1511 grb ((wfr.rf (l := [(4, 6)])).put' e1965 g0 rfl) rfl (TP_fr hW grb ((wfr.rf (l := [(4, 4)])).put' e1510 g0 rfl) rfl hTP_rb)))
          have := h2043 (v2022.toNat) (by omega)
          refine wp_of e16 c16_54 (rw_bipush (pc' := 56) (z := 97) rfl (by decide) ?_)
          refine wp_of e16 c16_56 (rw_icmp_lt (p1 := 101) (p2 := 59) (by decide) rfl ⟨Int.le_trans (by decide) b2041, Int.le_trans b2042 (by decide)⟩ ⟨by decide, by decide⟩ (fun c2044 => ?_) (fun c2044 => ?_))
          · have k2045 : H2023 r0 4 = H1509 r0 4 := ((f2025 r0 4 _ g0 rfl).trans (wq_u_j e1965 rfl))
            have := @xG_e 97 122 B n v2022 (by omega)
            have := @xY_of B n q v2022
            exact wp_lc (ks := [1, 0]) (wl_c rfl (wl_c rfl wl_n)) rfl (by decide) (jn1594 v2022 H2023 w2024 f2033 ⟨by omega, by omega⟩ (by omega) (by omega))
          · refine wp_of e16 c16_59 (rw_aload_n (pc' := 60) (v := .ref r0) rfl rfl rfl ?_)
            refine wp_of e16 c16_60 (xg_K (pc' := 63) lf_2_7 w2024 g0 sh_4 (by decide) (by decide) rfl q2040 rfl ?_)
            refine wp_of e16 c16_63 (rw_iload_n (pc' := 64) (z := v2022) rfl rfl ?_)
            refine wp_of e16 c16_64 (xa_B (by decide) (pc' := 65) w2024 grb sh_2 (by decide) (ty_2 _) (b2026.1) (by omega) rfl (fun b2046 b2047 => ?_))
            have := h2043 (v2022.toNat) (by omega)
            refine wp_of e16 c16_65 (rw_bipush (pc' := 67) (z := 122) rfl (by decide) ?_)
            refine wp_of e16 c16_67 (rw_icmp_gt (p1 := 101) (p2 := 70) (by decide) rfl ⟨Int.le_trans (by decide) b2046, Int.le_trans b2047 (by decide)⟩ ⟨by decide, by decide⟩ (fun c2048 => ?_) (fun c2048 => ?_))
            · have k2049 : H2023 r0 4 = H1509 r0 4 := ((f2025 r0 4 _ g0 rfl).trans (wq_u_j e1965 rfl))
              have := @xG_e 97 122 B n v2022 (by omega)
              have := @xY_of B n q v2022
              exact wp_lc (ks := [1, 0]) (wl_c rfl (wl_c rfl wl_n)) rfl (by decide) (jn1594 v2022 H2023 w2024 f2033 ⟨by omega, by omega⟩ (by omega) (by omega))
            · refine wp_of e16 c16_70 (rw_aload_n (pc' := 71) (v := .ref r0) rfl rfl rfl ?_)
              refine wp_of e16 c16_71 (rw_aload_n (pc' := 72) (v := .ref r0) rfl rfl rfl ?_)
              refine wp_of e16 c16_72 (xg_L (pc' := 75) lf_2_32 w2024 g0 sh_4 (by decide) (by decide) ty_4_6 rfl rfl (fun b2050 b2051 => ?_))
              refine wp_of e16 c16_75 (rw_ldc2 (pc' := 78) (z := 32) rfl rfl rfl ?_)
              refine wp_of e16 c16_78 (rw_lmulw (pc' := 79) rfl ?_)
              obtain ⟨v2052, e2053⟩ : ∃ x : Int, x = wl_w ((H2023 r0 6) * 32) := ⟨_, rfl⟩
              rw [← e2053]
              have b2054 : -9223372036854775808 ≤ v2052 ∧ v2052 ≤ 9223372036854775807 := by
                rw [e2053]
                exact wL_w _
              have b2055 : (-9223372036854775808 ≤ (H2023 r0 6) * 32 ∧ (H2023 r0 6) * 32 ≤ 9223372036854775807) → v2052 = (H2023 r0 6) * 32 := fun h => by rw [e2053]; exact wl_w_id h
              refine wp_of e16 c16_79 (rw_aload_n (pc' := 80) (v := .ref r0) rfl rfl rfl ?_)
              refine wp_of e16 c16_80 (xg_K (pc' := 83) lf_2_7 w2024 g0 sh_4 (by decide) (by decide) rfl q2040 rfl ?_)
              refine wp_of e16 c16_83 (rw_iload_n (pc' := 84) (z := v2022) rfl rfl ?_)
              refine wp_of e16 c16_84 (xa_B (by decide) (pc' := 85) w2024 grb sh_2 (by decide) (ty_2 _) (b2026.1) (by omega) rfl (fun b2056 b2057 => ?_))
              have := h2043 (v2022.toNat) (by omega)
              refine wp_of e16 c16_85 (rw_bipush (pc' := 87) (z := 97) rfl (by decide) ?_)
              refine wp_of e16 c16_87 (rw_isub (pc' := 88) rfl ?_)
              refine wp_of e16 c16_88 (rw_iconst (pc' := 89) rfl ?_)
              refine wp_of e16 c16_89 (rw_iadd (pc' := 90) rfl ?_)
              refine wp_of e16 c16_90 (rw_i2l (pc' := 91) rfl ⟨by omega, by omega⟩ ?_)
              refine wp_of e16 c16_91 (rw_laddw (pc' := 92) rfl ?_)
              obtain ⟨v2058, e2059⟩ : ∃ x : Int, x = wl_w (v2052 + (((H2023 rb (v2022.toNat)) - 97) + 1)) := ⟨_, rfl⟩
              rw [← e2059]
              have b2060 : -9223372036854775808 ≤ v2058 ∧ v2058 ≤ 9223372036854775807 := by
                rw [e2059]
                exact wL_w _
              have b2061 : (-9223372036854775808 ≤ v2052 + (((H2023 rb (v2022.toNat)) - 97) + 1) ∧ v2052 + (((H2023 rb (v2022.toNat)) - 97) + 1) ≤ 9223372036854775807) → v2058 = v2052 + (((H2023 rb (v2022.toNat)) - 97) + 1) := fun h => by rw [e2059]; exact wl_w_id h
              refine wp_of e16 c16_92 (xp_L (pc' := 95) lf_2_32 w2024 g0 sh_4 (by decide) (by decide) ty_4_6 rfl rfl (b2060.1) (b2060.2) ⟨b2060.1, b2060.2⟩ rfl (fun H2062 e2063 w2064 => ?_))
              have f2065 := f2032.put' e2063 g0 rfl
              have f2066 := f2033.put' e2063 g0 rfl
              have f2067 := f2025.put' e2063 g0 rfl
              have k2068 : H2062 r0 6 = v2058 := wq_u_s e2063
              refine wp_of e16 c16_95 (rw_iinc (pc' := 98) (z := v2022) (L' := [(1, vI (v2022 + 1)), (0, .ref r0)]) rfl rfl rfl rfl ?_)
              refine wp_of e16 c16_98 (rw_goto (p1 := 40) (by decide) ?_)
              have := @xG_s 97 122 B n v2022 (by omega) (by omega) (by omega)
              have := @xkf_s B q 32 96 v2022 (by omega)
              exact wp_lc (ks := [1, 0]) (wl_c rfl (wl_c rfl wl_n)) rfl (by decide) (ih2021 _ (by omega) (v2022 + 1) H2062 w2064 f2067 ⟨by omega, by omega⟩ (by omega) (by omega) (by omega) (by omega) rfl)
    have := @xkf_q B q v1503 32 96
    have := @xG_q 97 122 B n q v1503
    exact wp_lc (ks := [1, 0]) (wl_c rfl (wl_c rfl wl_n)) rfl (by decide) (lp2019 _ v1503 H1964 w1966 wfr.rf ⟨by omega, by omega⟩ (by omega) (by omega) (by omega) (by omega) rfl)
  refine wp_of e16 c16_4 (rw_istore_n (pc' := 5) (z := H r0 2) (L' := [(1, vI (H r0 2)), (0, .ref r0)]) rfl rfl rfl ?_)
  have lp2078 : ∀ (n2079 : Nat) (v2081 : Int), (0 ≤ v2081 ∧ v2081 ≤ 900) → (xG 32 32 B n v2081 = q) → (v2081 ≤ n) → (900 - v2081).toNat = n2079 → wp kt 0 16 5 [(1, vI v2081), (0, .ref r0)] [] T H (uq_16 r0 rb B n a q T H) := by
    intro n2079
    induction n2079 using Nat.strongRecOn with
    | _ n2079 ih2080 =>
      intro v2081 b2084 x2085 x2086 m2087
      refine wp_of e16 c16_5 (rw_iload_n (pc' := 6) (z := v2081) rfl rfl ?_)
      refine wp_of e16 c16_6 (rw_aload_n (pc' := 7) (v := .ref r0) rfl rfl rfl ?_)
      refine wp_of e16 c16_7 (xg_I (pc' := 10) lf_2_19 hW g0 sh_4 (by decide) (by decide) ty_4_1 rfl rfl (fun b2088 b2089 => ?_))
      refine wp_of e16 c16_10 (rw_icmp_ge (p1 := 30) (p2 := 13) (by decide) rfl ⟨Int.le_trans (by decide) b2084.1, Int.le_trans b2084.2 (by decide)⟩ ⟨Int.le_trans (by decide) b2088, Int.le_trans b2089 (by decide)⟩ (fun c2090 => ?_) (fun c2090 => ?_))
      · have := @xG_e 32 32 B n v2081 (by omega)
        exact wp_lc (ks := [1, 0]) (wl_c rfl (wl_c rfl wl_n)) rfl (by decide) (jn1504 v2081 ⟨by omega, by omega⟩ (by omega))
      · refine wp_of e16 c16_13 (rw_aload_n (pc' := 14) (v := .ref r0) rfl rfl rfl ?_)
        refine wp_of e16 c16_14 (xg_K (pc' := 17) lf_2_7 hW g0 sh_4 (by decide) (by decide) rfl qrb rfl ?_)
        refine wp_of e16 c16_17 (rw_iload_n (pc' := 18) (z := v2081) rfl rfl ?_)
        refine wp_of e16 c16_18 (xa_B (by decide) (pc' := 19) hW grb sh_2 (by decide) (ty_2 _) (b2084.1) (by omega) rfl (fun b2091 b2092 => ?_))
        have := hTP_rb (v2081.toNat) (by omega)
        refine wp_of e16 c16_19 (rw_bipush (pc' := 21) (z := 32) rfl (by decide) ?_)
        refine wp_of e16 c16_21 (rw_icmp_ne (p1 := 30) (p2 := 24) (by decide) rfl ⟨Int.le_trans (by decide) b2091, Int.le_trans b2092 (by decide)⟩ ⟨by decide, by decide⟩ (fun c2093 => ?_) (fun c2093 => ?_))
        · have := @xG_e 32 32 B n v2081 (by omega)
          exact wp_lc (ks := [1, 0]) (wl_c rfl (wl_c rfl wl_n)) rfl (by decide) (jn1504 v2081 ⟨by omega, by omega⟩ (by omega))
        · refine wp_of e16 c16_24 (rw_iinc (pc' := 27) (z := v2081) (L' := [(1, vI (v2081 + 1)), (0, .ref r0)]) rfl rfl rfl rfl ?_)
          refine wp_of e16 c16_27 (rw_goto (p1 := 5) (by decide) ?_)
          have := @xG_s 32 32 B n v2081 (by omega) (by omega) (by omega)
          exact wp_lc (ks := [1, 0]) (wl_c rfl (wl_c rfl wl_n)) rfl (by decide) (ih2080 _ (by omega) (v2081 + 1) ⟨by omega, by omega⟩ (by omega) (by omega) rfl)
  have := @xG_q 32 32 B n a (H r0 2)
  exact wp_lc (ks := [1, 0]) (wl_c rfl (wl_c rfl wl_n)) rfl (by decide) (lp2078 _ (H r0 2) ⟨b1485, b1486⟩ (by omega) (by omega) rfl)
