/-! what methods do (own work, written by wip/gen3/sx3.py) -/
/-! StrikeAwake$Tokens.advance()V  -/
abbrev uq_16 (r0 : Nat) (rb : Nat) (B : Nat → Int) (n : Int) (a : Int) (q : Int) (T : wq_T) (H : wq_H) : Option Value → wq_T → wq_H → Prop := fun r T' H' => T = T' ∧ WT T H' ∧ wfr [(4, 2), (4, 3), (4, 4), (4, 5), (4, 6)] T H H' ∧ none = r ∧ ((TC T H' r0 B n q))
set_option maxHeartbeats 4000000 in
theorem u_16 {kt : Nat → Option mc_E} {T : wq_T} {H : wq_H} {r0 : Nat} {rb : Nat} {B : Nat → Int} {n : Int} {a : Int} {q : Int} (hW : WT T H) (g0 : T.2.2.2 r0 = some 4) (qrb : H r0 0 = (rb : Int)) (grb : T.2.2.2 rb = some 2) (p0 : H r0 1 = n) (p1 : H r0 2 = a) (p2 : a ≤ n) (p3 : q = xG 32 32 B n a) (hTP_rb : TP T H rb B) : wpc kt 1 16 [.ref r0] T H (uq_16 r0 rb B n a q T H) := by
  refine wp_enter e16 (Nat.le_of_ble_eq_true rfl) rfl ?_
  have f0 : wfr [(4, 2), (4, 3), (4, 4), (4, 5), (4, 6)] T H H := wfr.rf
  show wp _ _ 16 0 [(0, .ref r0)] [] _ H _
  have b1483 : 0 ≤ H r0 1 ∧ H r0 1 ≤ 900 := hW.box g0 (n := 7) rfl (by decide) rfl
  have b1484 : 0 ≤ H r0 2 ∧ H r0 2 ≤ 900 := hW.box g0 (n := 7) rfl (by decide) rfl
  have _x0 := @xG_b2 32 32 B n a (by omega)
  have _q : q ≤ n := by omega
  have _x1 := @xG_b2 97 122 B n q _q
  have _x2 := @xG_b2 48 57 B n q _q
  refine wp_of e16 c16_0 (rw_aload_n (pc' := 1) (v := .ref r0) rfl rfl rfl ?_)
  refine wp_of e16 c16_1 (xg_I (pc' := 4) lf_2_23 hW g0 sh_4 (by decide) (by decide) ty_4_2 rfl rfl (fun b1485 b1486 => ?_))
  have jn1504 : ∀ (v1503 : Int), (0 ≤ v1503 ∧ v1503 ≤ 900) → (v1503 = q) → wp kt 0 16 30 [(1, vI v1503), (0, .ref r0)] [] T H (uq_16 r0 rb B n a q T H) := by
    intro v1503 b1507 x1508
    refine wp_of e16 c16_30 (rw_aload_n (pc' := 31) (v := .ref r0) rfl rfl rfl ?_)
    refine wp_of e16 c16_31 (rw_iload_n (pc' := 32) (z := v1503) rfl rfl ?_)
    refine wp_of e16 c16_32 (xp_I (pc' := 35) lf_2_29 hW g0 sh_4 (by decide) (by decide) ty_4_4 rfl rfl (by omega) (by omega) ⟨by omega, by omega⟩ rfl (fun H1509 e1510 w1511 => ?_))
    have f1512 := f0.put' e1510 g0 rfl
    have k1513 : H1509 r0 4 = v1503 := wq_u_s e1510
    have jn1594 : ∀ (v1592 : Int) (H1593 : wq_H), WT T H1593 → wfr [(4, 6)] T H1509 H1593 → (0 ≤ v1592 ∧ v1592 ≤ 900) → (v1592 = xG 97 122 B n q) → (8 < v1592 - q ∨ H1593 r0 6 = xY B n q) → wp kt 0 16 101 [(1, vI v1592), (0, .ref r0)] [] T H1593 (uq_16 r0 rb B n a q T H) := by
      intro v1592 H1593 w1595 f1596 b1597 x1598 x1599
      have f1600 := f1512.tr f1596 rfl
      have k1601 : H1593 r0 4 = H1509 r0 4 := (f1596 r0 4 _ g0 rfl)
      refine wp_of e16 c16_101 (rw_iload_n (pc' := 102) (z := v1592) rfl rfl ?_)
      refine wp_of e16 c16_102 (rw_aload_n (pc' := 103) (v := .ref r0) rfl rfl rfl ?_)
      refine wp_of e16 c16_103 (xg_I (pc' := 106) lf_2_29 w1595 g0 sh_4 (by decide) (by decide) ty_4_4 rfl rfl (fun b1602 b1603 => ?_))
      refine wp_of e16 c16_106 (rw_isub (pc' := 107) rfl ?_)
      refine wp_of e16 c16_107 (rw_istore_n (pc' := 108) (z := v1592 - (H1593 r0 4)) (L' := [(2, vI (v1592 - (H1593 r0 4))), (1, vI v1592), (0, .ref r0)]) rfl rfl rfl ?_)
      refine wp_of e16 c16_108 (rw_aload_n (pc' := 109) (v := .ref r0) rfl rfl rfl ?_)
      refine wp_of e16 c16_109 (rw_iconst (pc' := 110) rfl ?_)
      have jn1687 : ∀ (v1685 : Int) (H1686 : wq_H), WT T H1686 → wfr [(4, 5)] T H1593 H1686 → (0 ≤ v1685 ∧ v1685 ≤ 900) → (((v1592 - (H1593 r0 4)) ≠ 0 ∧ v1685 = q + (v1592 - (H1593 r0 4))) ∨ ((v1592 - (H1593 r0 4)) = 0 ∧ v1685 = xG 48 57 B n q ∧ (3 < v1685 - q ∨ H1686 r0 5 = xV B n q))) → wp kt 0 16 174 [(1, vI v1685), (0, .ref r0), (2, vI (v1592 - (H1593 r0 4)))] [] T H1686 (uq_16 r0 rb B n a q T H) := by
        intro v1685 H1686 w1688 f1689 b1690 x1691
        have f1692 := f1600.tr f1689 rfl
        have _z : v1685 = xZ B n q := by
          have := @xZ_w B n q
          have := @xZ_d B n q
          omega
        have _y := @xZ_b B n q _q
        refine wp_of e16 c16_174 (rw_iload_n (pc' := 175) (z := v1685) rfl rfl ?_)
        refine wp_of e16 c16_175 (rw_aload_n (pc' := 176) (v := .ref r0) rfl rfl rfl ?_)
        have k1693 : H1686 r0 4 = H1593 r0 4 := (f1689 r0 4 _ g0 rfl)
        refine wp_of e16 c16_176 (xg_I (pc' := 179) lf_2_29 w1688 g0 sh_4 (by decide) (by decide) ty_4_4 rfl rfl (fun b1694 b1695 => ?_))
        refine wp_of e16 c16_179 (rw_isub (pc' := 180) rfl ?_)
        refine wp_of e16 c16_180 (rw_iload_n (pc' := 181) (z := v1592 - (H1593 r0 4)) rfl rfl ?_)
        refine wp_of e16 c16_181 (rw_isub (pc' := 182) rfl ?_)
        refine wp_of e16 c16_182 (rw_istore_n (pc' := 183) (z := (v1685 - (H1686 r0 4)) - (v1592 - (H1593 r0 4))) (L' := [(3, vI ((v1685 - (H1686 r0 4)) - (v1592 - (H1593 r0 4)))), (1, vI v1685), (0, .ref r0), (2, vI (v1592 - (H1593 r0 4)))]) rfl rfl rfl ?_)
        refine wp_of e16 c16_183 (rw_iload_n (pc' := 184) (z := v1592 - (H1593 r0 4)) rfl rfl ?_)
        refine wp_of e16 c16_184 (rw_if_le (p1 := 205) (p2 := 187) (by decide) rfl ⟨by omega, by omega⟩ (fun c1696 => ?_) (fun c1696 => ?_))
        · refine wp_of e16 c16_205 (rw_iload_n (pc' := 206) (z := (v1685 - (H1686 r0 4)) - (v1592 - (H1593 r0 4))) rfl rfl ?_)
          refine wp_of e16 c16_206 (rw_if_le (p1 := 226) (p2 := 209) (by decide) rfl ⟨by omega, by omega⟩ (fun c1697 => ?_) (fun c1697 => ?_))
          · have := @xB_e B q v1685 (by omega)
            refine wp_of e16 c16_226 (rw_iload_n (pc' := 227) (z := v1685) rfl rfl ?_)
            refine wp_of e16 c16_227 (rw_aload_n (pc' := 228) (v := .ref r0) rfl rfl rfl ?_)
            have k1698 : H1686 r0 1 = H r0 1 := ((f1689 r0 1 _ g0 rfl).trans ((f1596 r0 1 _ g0 rfl).trans (wq_u_j e1510 rfl)))
            refine wp_of e16 c16_228 (xg_I (pc' := 231) lf_2_19 w1688 g0 sh_4 (by decide) (by decide) ty_4_1 rfl rfl (fun b1699 b1700 => ?_))
            refine wp_of e16 c16_231 (rw_icmp_ge (p1 := 275) (p2 := 234) (by decide) rfl ⟨by omega, by omega⟩ ⟨Int.le_trans (by decide) b1699, Int.le_trans b1700 (by decide)⟩ (fun c1701 => ?_) (fun c1701 => ?_))
            · refine wp_of e16 c16_275 (rw_aload_n (pc' := 276) (v := .ref r0) rfl rfl rfl ?_)
              refine wp_of e16 c16_276 (rw_iconst (pc' := 277) rfl ?_)
              refine wp_of e16 c16_277 (xp_I (pc' := 280) lf_2_41 w1688 g0 sh_4 (by decide) (by decide) ty_4_3 rfl rfl (by decide) (by decide) ⟨by decide, by decide⟩ rfl (fun H1702 e1703 w1704 => ?_))
              have f1705 := f1692.put' e1703 g0 rfl
              have k1706 : H1702 r0 3 = 0 := wq_u_s e1703
              refine wp_of e16 c16_280 (rw_aload_n (pc' := 281) (v := .ref r0) rfl rfl rfl ?_)
              refine wp_of e16 c16_281 (rw_iload_n (pc' := 282) (z := v1685) rfl rfl ?_)
              refine wp_of e16 c16_282 (xp_I (pc' := 285) lf_2_23 w1704 g0 sh_4 (by decide) (by decide) ty_4_2 rfl rfl (by omega) (by omega) ⟨by omega, by omega⟩ rfl (fun H1707 e1708 w1709 => ?_))
              have f1710 := f1705.put' e1708 g0 rfl
              have k1711 : H1707 r0 2 = v1685 := wq_u_s e1708
              have k1712 : H1707 r0 3 = H1702 r0 3 := (wq_u_j e1708 rfl)
              have k1713 : H1707 r0 4 = H1686 r0 4 := ((wq_u_j e1708 rfl).trans (wq_u_j e1703 rfl))
              have k1714 : H1707 r0 5 = H1686 r0 5 := ((wq_u_j e1708 rfl).trans (wq_u_j e1703 rfl))
              have k1715 : H1707 r0 6 = H1593 r0 6 := ((wq_u_j e1708 rfl).trans ((wq_u_j e1703 rfl).trans (f1689 r0 6 _ g0 rfl)))
              have k1716 : H1707 r0 1 = H1686 r0 1 := ((wq_u_j e1708 rfl).trans (wq_u_j e1703 rfl))
              first
                | have hl := @xL1 B n q (by omega -splitDisjunctions) (by omega -splitDisjunctions)
                | have hl := @xL5 B n q (by omega -splitDisjunctions)
                | have hl := @xL2 B n q (by omega -splitDisjunctions) (by omega -splitDisjunctions) (by omega -splitDisjunctions)
                | have hl := @xL6 B n q (by omega -splitDisjunctions) (by omega -splitDisjunctions)
                | have hl := @xM0 B n q (by omega -splitDisjunctions)
                | have hl := @xL3 B n q (by omega -splitDisjunctions) (by omega -splitDisjunctions) (by omega -splitDisjunctions)
                | have hl := @xL4 B n q (by omega -splitDisjunctions) (by omega -splitDisjunctions) (by omega -splitDisjunctions)
                | have hl := @xL7 B n q (by omega -splitDisjunctions) (by omega -splitDisjunctions) (by omega -splitDisjunctions) (by omega) (by omega)
                | have hl := @xL1 B n q (by omega) (by omega)
                | have hl := @xL5 B n q (by omega)
                | have hl := @xL2 B n q (by omega) (by omega) (by omega)
                | have hl := @xL6 B n q (by omega) (by omega)
                | have hl := @xM0 B n q (by omega)
                | have hl := @xL3 B n q (by omega) (by omega) (by omega)
                | have hl := @xL4 B n q (by omega) (by omega) (by omega)
                | have hl := @xL7 B n q (by omega) (by omega) (by omega) (by omega) (by omega)
              have ek : xK B n q = H1707 r0 3 := hl.1.trans (by omega)
              have ee : xE B n q = H1707 r0 2 := hl.2.trans (by omega)
              have k1717 : H1707 r0 0 = H r0 0 := ((wq_u_j e1708 rfl).trans ((wq_u_j e1703 rfl).trans ((f1689 r0 0 _ g0 rfl).trans ((f1596 r0 0 _ g0 rfl).trans (wq_u_j e1510 rfl)))))
              have q1718 : H1707 r0 0 = (rb : Int) := k1717.trans qrb
              have h1719 : TP T H1707 rb B := (TP_fr w1704 grb ((wfr.rf (l := [(4, 2)])).put' e1708 g0 rfl) rfl (TP_fr w1688 grb ((wfr.rf (l := [(4, 3)])).put' e1703 g0 rfl) rfl (TP_fr w1595 grb f1689 rfl (TP_fr w1511 grb f1596 rfl (TP_fr hW grb ((wfr.rf (l := [(4, 4)])).put' e1510 g0 rfl) rfl hTP_rb)))))
              exact wp_return e16 c16_285 rfl ⟨rfl, w1709, f1710, rfl, (TC_mk q1718 grb h1719 (by omega) (fun h => by omega) (fun h => by omega))⟩
            · refine wp_of e16 c16_234 (rw_aload_n (pc' := 235) (v := .ref r0) rfl rfl rfl ?_)
              refine wp_of e16 c16_235 (rw_aload_n (pc' := 236) (v := .ref r0) rfl rfl rfl ?_)
              have k1720 : H1686 r0 0 = H r0 0 := ((f1689 r0 0 _ g0 rfl).trans ((f1596 r0 0 _ g0 rfl).trans (wq_u_j e1510 rfl)))
              have q1721 : H1686 r0 0 = (rb : Int) := k1720.trans qrb
              refine wp_of e16 c16_236 (xg_K (pc' := 239) lf_2_7 w1688 g0 sh_4 (by decide) (by decide) rfl q1721 rfl ?_)
              refine wp_of e16 c16_239 (rw_iload_n (pc' := 240) (z := v1685) rfl rfl ?_)
              refine wp_of e16 c16_240 (xa_B (by decide) (pc' := 241) w1688 grb sh_2 (by decide) (ty_2 _) (by omega) (by omega) rfl (fun b1722 b1723 => ?_))
              have h1724 : TP T H1686 rb B := (TP_fr w1595 grb f1689 rfl (TP_fr w1511 grb f1596 rfl (TP_fr hW grb ((wfr.rf (l := [(4, 4)])).put' e1510 g0 rfl) rfl hTP_rb)))
              have := h1724 (v1685.toNat) (by omega)
              refine wp_of e16 c16_241 (rw_bipush (pc' := 243) (z := 59) rfl (by decide) ?_)
              refine wp_of e16 c16_243 (rw_icmp_ne (p1 := 250) (p2 := 246) (by decide) rfl ⟨Int.le_trans (by decide) b1722, Int.le_trans b1723 (by decide)⟩ ⟨by decide, by decide⟩ (fun c1725 => ?_) (fun c1725 => ?_))
              · refine wp_of e16 c16_250 (rw_aload_n (pc' := 251) (v := .ref r0) rfl rfl rfl ?_)
                refine wp_of e16 c16_251 (xg_K (pc' := 254) lf_2_7 w1688 g0 sh_4 (by decide) (by decide) rfl q1721 rfl ?_)
                refine wp_of e16 c16_254 (rw_iload_n (pc' := 255) (z := v1685) rfl rfl ?_)
                refine wp_of e16 c16_255 (xa_B (by decide) (pc' := 256) w1688 grb sh_2 (by decide) (ty_2 _) (by omega) (by omega) rfl (fun b1726 b1727 => ?_))
                have := h1724 (v1685.toNat) (by omega)
                refine wp_of e16 c16_256 (rw_bipush (pc' := 258) (z := 44) rfl (by decide) ?_)
                refine wp_of e16 c16_258 (rw_icmp_ne (p1 := 265) (p2 := 261) (by decide) rfl ⟨Int.le_trans (by decide) b1726, Int.le_trans b1727 (by decide)⟩ ⟨by decide, by decide⟩ (fun c1728 => ?_) (fun c1728 => ?_))
                · refine wp_of e16 c16_265 (rw_iconst (pc' := 266) rfl ?_)
                  refine wp_of e16 c16_266 (xp_I (pc' := 269) lf_2_41 w1688 g0 sh_4 (by decide) (by decide) ty_4_3 rfl rfl (by decide) (by decide) ⟨by decide, by decide⟩ rfl (fun H1729 e1730 w1731 => ?_))
                  have f1732 := f1692.put' e1730 g0 rfl
                  have k1733 : H1729 r0 3 = 5 := wq_u_s e1730
                  refine wp_of e16 c16_269 (rw_iinc (pc' := 272) (z := v1685) (L' := [(1, vI (v1685 + 1)), (3, vI ((v1685 - (H1686 r0 4)) - (v1592 - (H1593 r0 4)))), (0, .ref r0), (2, vI (v1592 - (H1593 r0 4)))]) rfl rfl rfl rfl ?_)
                  refine wp_of e16 c16_272 (rw_goto (p1 := 280) (by decide) ?_)
                  refine wp_of e16 c16_280 (rw_aload_n (pc' := 281) (v := .ref r0) rfl rfl rfl ?_)
                  refine wp_of e16 c16_281 (rw_iload_n (pc' := 282) (z := v1685 + 1) rfl rfl ?_)
                  refine wp_of e16 c16_282 (xp_I (pc' := 285) lf_2_23 w1731 g0 sh_4 (by decide) (by decide) ty_4_2 rfl rfl (by omega) (by omega) ⟨by omega, by omega⟩ rfl (fun H1734 e1735 w1736 => ?_))
                  have f1737 := f1732.put' e1735 g0 rfl
                  have k1738 : H1734 r0 2 = v1685 + 1 := wq_u_s e1735
                  have k1739 : H1734 r0 3 = H1729 r0 3 := (wq_u_j e1735 rfl)
                  have k1740 : H1734 r0 4 = H1686 r0 4 := ((wq_u_j e1735 rfl).trans (wq_u_j e1730 rfl))
                  have k1741 : H1734 r0 5 = H1686 r0 5 := ((wq_u_j e1735 rfl).trans (wq_u_j e1730 rfl))
                  have k1742 : H1734 r0 6 = H1593 r0 6 := ((wq_u_j e1735 rfl).trans ((wq_u_j e1730 rfl).trans (f1689 r0 6 _ g0 rfl)))
                  have k1743 : H1734 r0 1 = H1686 r0 1 := ((wq_u_j e1735 rfl).trans (wq_u_j e1730 rfl))
                  first
                    | have hl := @xL1 B n q (by omega -splitDisjunctions) (by omega -splitDisjunctions)
                    | have hl := @xL5 B n q (by omega -splitDisjunctions)
                    | have hl := @xL2 B n q (by omega -splitDisjunctions) (by omega -splitDisjunctions) (by omega -splitDisjunctions)
                    | have hl := @xL6 B n q (by omega -splitDisjunctions) (by omega -splitDisjunctions)
                    | have hl := @xM0 B n q (by omega -splitDisjunctions)
                    | have hl := @xL3 B n q (by omega -splitDisjunctions) (by omega -splitDisjunctions) (by omega -splitDisjunctions)
                    | have hl := @xL4 B n q (by omega -splitDisjunctions) (by omega -splitDisjunctions) (by omega -splitDisjunctions)
                    | have hl := @xL7 B n q (by omega -splitDisjunctions) (by omega -splitDisjunctions) (by omega -splitDisjunctions) (by omega) (by omega)
                    | have hl := @xL1 B n q (by omega) (by omega)
                    | have hl := @xL5 B n q (by omega)
                    | have hl := @xL2 B n q (by omega) (by omega) (by omega)
                    | have hl := @xL6 B n q (by omega) (by omega)
                    | have hl := @xM0 B n q (by omega)
                    | have hl := @xL3 B n q (by omega) (by omega) (by omega)
                    | have hl := @xL4 B n q (by omega) (by omega) (by omega)
                    | have hl := @xL7 B n q (by omega) (by omega) (by omega) (by omega) (by omega)
                  have ek : xK B n q = H1734 r0 3 := hl.1.trans (by omega)
                  have ee : xE B n q = H1734 r0 2 := hl.2.trans (by omega)
                  have k1744 : H1734 r0 0 = H1686 r0 0 := ((wq_u_j e1735 rfl).trans (wq_u_j e1730 rfl))
                  have q1745 : H1734 r0 0 = (rb : Int) := k1744.trans q1721
                  have h1746 : TP T H1734 rb B := (TP_fr w1731 grb ((wfr.rf (l := [(4, 2)])).put' e1735 g0 rfl) rfl (TP_fr w1688 grb ((wfr.rf (l := [(4, 3)])).put' e1730 g0 rfl) rfl h1724))
                  exact wp_return e16 c16_285 rfl ⟨rfl, w1736, f1737, rfl, (TC_mk q1745 grb h1746 (by omega) (fun h => by omega) (fun h => by omega))⟩
                · refine wp_of e16 c16_261 (rw_iconst (pc' := 262) rfl ?_)
                  refine wp_of e16 c16_262 (rw_goto (p1 := 266) (by decide) ?_)
                  refine wp_of e16 c16_266 (xp_I (pc' := 269) lf_2_41 w1688 g0 sh_4 (by decide) (by decide) ty_4_3 rfl rfl (by decide) (by decide) ⟨by decide, by decide⟩ rfl (fun H1747 e1748 w1749 => ?_))
                  have f1750 := f1692.put' e1748 g0 rfl
                  have k1751 : H1747 r0 3 = 4 := wq_u_s e1748
                  refine wp_of e16 c16_269 (rw_iinc (pc' := 272) (z := v1685) (L' := [(1, vI (v1685 + 1)), (3, vI ((v1685 - (H1686 r0 4)) - (v1592 - (H1593 r0 4)))), (0, .ref r0), (2, vI (v1592 - (H1593 r0 4)))]) rfl rfl rfl rfl ?_)
                  refine wp_of e16 c16_272 (rw_goto (p1 := 280) (by decide) ?_)
                  refine wp_of e16 c16_280 (rw_aload_n (pc' := 281) (v := .ref r0) rfl rfl rfl ?_)
                  refine wp_of e16 c16_281 (rw_iload_n (pc' := 282) (z := v1685 + 1) rfl rfl ?_)
                  refine wp_of e16 c16_282 (xp_I (pc' := 285) lf_2_23 w1749 g0 sh_4 (by decide) (by decide) ty_4_2 rfl rfl (by omega) (by omega) ⟨by omega, by omega⟩ rfl (fun H1752 e1753 w1754 => ?_))
                  have f1755 := f1750.put' e1753 g0 rfl
                  have k1756 : H1752 r0 2 = v1685 + 1 := wq_u_s e1753
                  have k1757 : H1752 r0 3 = H1747 r0 3 := (wq_u_j e1753 rfl)
                  have k1758 : H1752 r0 4 = H1686 r0 4 := ((wq_u_j e1753 rfl).trans (wq_u_j e1748 rfl))
                  have k1759 : H1752 r0 5 = H1686 r0 5 := ((wq_u_j e1753 rfl).trans (wq_u_j e1748 rfl))
                  have k1760 : H1752 r0 6 = H1593 r0 6 := ((wq_u_j e1753 rfl).trans ((wq_u_j e1748 rfl).trans (f1689 r0 6 _ g0 rfl)))
                  have k1761 : H1752 r0 1 = H1686 r0 1 := ((wq_u_j e1753 rfl).trans (wq_u_j e1748 rfl))
                  first
                    | have hl := @xL1 B n q (by omega -splitDisjunctions) (by omega -splitDisjunctions)
                    | have hl := @xL5 B n q (by omega -splitDisjunctions)
                    | have hl := @xL2 B n q (by omega -splitDisjunctions) (by omega -splitDisjunctions) (by omega -splitDisjunctions)
                    | have hl := @xL6 B n q (by omega -splitDisjunctions) (by omega -splitDisjunctions)
                    | have hl := @xM0 B n q (by omega -splitDisjunctions)
                    | have hl := @xL3 B n q (by omega -splitDisjunctions) (by omega -splitDisjunctions) (by omega -splitDisjunctions)
                    | have hl := @xL4 B n q (by omega -splitDisjunctions) (by omega -splitDisjunctions) (by omega -splitDisjunctions)
                    | have hl := @xL7 B n q (by omega -splitDisjunctions) (by omega -splitDisjunctions) (by omega -splitDisjunctions) (by omega) (by omega)
                    | have hl := @xL1 B n q (by omega) (by omega)
                    | have hl := @xL5 B n q (by omega)
                    | have hl := @xL2 B n q (by omega) (by omega) (by omega)
                    | have hl := @xL6 B n q (by omega) (by omega)
                    | have hl := @xM0 B n q (by omega)
                    | have hl := @xL3 B n q (by omega) (by omega) (by omega)
                    | have hl := @xL4 B n q (by omega) (by omega) (by omega)
                    | have hl := @xL7 B n q (by omega) (by omega) (by omega) (by omega) (by omega)
                  have ek : xK B n q = H1752 r0 3 := hl.1.trans (by omega)
                  have ee : xE B n q = H1752 r0 2 := hl.2.trans (by omega)
                  have k1762 : H1752 r0 0 = H1686 r0 0 := ((wq_u_j e1753 rfl).trans (wq_u_j e1748 rfl))
                  have q1763 : H1752 r0 0 = (rb : Int) := k1762.trans q1721
                  have h1764 : TP T H1752 rb B := (TP_fr w1749 grb ((wfr.rf (l := [(4, 2)])).put' e1753 g0 rfl) rfl (TP_fr w1688 grb ((wfr.rf (l := [(4, 3)])).put' e1748 g0 rfl) rfl h1724))
                  exact wp_return e16 c16_285 rfl ⟨rfl, w1754, f1755, rfl, (TC_mk q1763 grb h1764 (by omega) (fun h => by omega) (fun h => by omega))⟩
              · refine wp_of e16 c16_246 (rw_iconst (pc' := 247) rfl ?_)
                refine wp_of e16 c16_247 (rw_goto (p1 := 266) (by decide) ?_)
                refine wp_of e16 c16_266 (xp_I (pc' := 269) lf_2_41 w1688 g0 sh_4 (by decide) (by decide) ty_4_3 rfl rfl (by decide) (by decide) ⟨by decide, by decide⟩ rfl (fun H1765 e1766 w1767 => ?_))
                have f1768 := f1692.put' e1766 g0 rfl
                have k1769 : H1765 r0 3 = 3 := wq_u_s e1766
                refine wp_of e16 c16_269 (rw_iinc (pc' := 272) (z := v1685) (L' := [(1, vI (v1685 + 1)), (3, vI ((v1685 - (H1686 r0 4)) - (v1592 - (H1593 r0 4)))), (0, .ref r0), (2, vI (v1592 - (H1593 r0 4)))]) rfl rfl rfl rfl ?_)
                refine wp_of e16 c16_272 (rw_goto (p1 := 280) (by decide) ?_)
                refine wp_of e16 c16_280 (rw_aload_n (pc' := 281) (v := .ref r0) rfl rfl rfl ?_)
                refine wp_of e16 c16_281 (rw_iload_n (pc' := 282) (z := v1685 + 1) rfl rfl ?_)
                refine wp_of e16 c16_282 (xp_I (pc' := 285) lf_2_23 w1767 g0 sh_4 (by decide) (by decide) ty_4_2 rfl rfl (by omega) (by omega) ⟨by omega, by omega⟩ rfl (fun H1770 e1771 w1772 => ?_))
                have f1773 := f1768.put' e1771 g0 rfl
                have k1774 : H1770 r0 2 = v1685 + 1 := wq_u_s e1771
                have k1775 : H1770 r0 3 = H1765 r0 3 := (wq_u_j e1771 rfl)
                have k1776 : H1770 r0 4 = H1686 r0 4 := ((wq_u_j e1771 rfl).trans (wq_u_j e1766 rfl))
                have k1777 : H1770 r0 5 = H1686 r0 5 := ((wq_u_j e1771 rfl).trans (wq_u_j e1766 rfl))
                have k1778 : H1770 r0 6 = H1593 r0 6 := ((wq_u_j e1771 rfl).trans ((wq_u_j e1766 rfl).trans (f1689 r0 6 _ g0 rfl)))
                have k1779 : H1770 r0 1 = H1686 r0 1 := ((wq_u_j e1771 rfl).trans (wq_u_j e1766 rfl))
                first
                  | have hl := @xL1 B n q (by omega -splitDisjunctions) (by omega -splitDisjunctions)
                  | have hl := @xL5 B n q (by omega -splitDisjunctions)
                  | have hl := @xL2 B n q (by omega -splitDisjunctions) (by omega -splitDisjunctions) (by omega -splitDisjunctions)
                  | have hl := @xL6 B n q (by omega -splitDisjunctions) (by omega -splitDisjunctions)
                  | have hl := @xM0 B n q (by omega -splitDisjunctions)
                  | have hl := @xL3 B n q (by omega -splitDisjunctions) (by omega -splitDisjunctions) (by omega -splitDisjunctions)
                  | have hl := @xL4 B n q (by omega -splitDisjunctions) (by omega -splitDisjunctions) (by omega -splitDisjunctions)
                  | have hl := @xL7 B n q (by omega -splitDisjunctions) (by omega -splitDisjunctions) (by omega -splitDisjunctions) (by omega) (by omega)
                  | have hl := @xL1 B n q (by omega) (by omega)
                  | have hl := @xL5 B n q (by omega)
                  | have hl := @xL2 B n q (by omega) (by omega) (by omega)
                  | have hl := @xL6 B n q (by omega) (by omega)
                  | have hl := @xM0 B n q (by omega)
                  | have hl := @xL3 B n q (by omega) (by omega) (by omega)
                  | have hl := @xL4 B n q (by omega) (by omega) (by omega)
                  | have hl := @xL7 B n q (by omega) (by omega) (by omega) (by omega) (by omega)
                have ek : xK B n q = H1770 r0 3 := hl.1.trans (by omega)
                have ee : xE B n q = H1770 r0 2 := hl.2.trans (by omega)
                have k1780 : H1770 r0 0 = H1686 r0 0 := ((wq_u_j e1771 rfl).trans (wq_u_j e1766 rfl))
                have q1781 : H1770 r0 0 = (rb : Int) := k1780.trans q1721
                have h1782 : TP T H1770 rb B := (TP_fr w1767 grb ((wfr.rf (l := [(4, 2)])).put' e1771 g0 rfl) rfl (TP_fr w1688 grb ((wfr.rf (l := [(4, 3)])).put' e1766 g0 rfl) rfl h1724))
                exact wp_return e16 c16_285 rfl ⟨rfl, w1772, f1773, rfl, (TC_mk q1781 grb h1782 (by omega) (fun h => by omega) (fun h => by omega))⟩
          · refine wp_of e16 c16_209 (rw_aload_n (pc' := 210) (v := .ref r0) rfl rfl rfl ?_)
            refine wp_of e16 c16_210 (rw_iload_n (pc' := 211) (z := (v1685 - (H1686 r0 4)) - (v1592 - (H1593 r0 4))) rfl rfl ?_)
            refine wp_of e16 c16_211 (rw_iconst (pc' := 212) rfl ?_)
            refine wp_of e16 c16_212 (rw_icmp_gt (p1 := 219) (p2 := 215) (by decide) rfl ⟨by omega, by omega⟩ ⟨by decide, by decide⟩ (fun c1783 => ?_) (fun c1783 => ?_))
            · refine wp_of e16 c16_219 (rw_iconst (pc' := 220) rfl ?_)
              refine wp_of e16 c16_220 (xp_I (pc' := 223) lf_2_41 w1688 g0 sh_4 (by decide) (by decide) ty_4_3 rfl rfl (by decide) (by decide) ⟨by decide, by decide⟩ rfl (fun H1784 e1785 w1786 => ?_))
              have f1787 := f1692.put' e1785 g0 rfl
              have k1788 : H1784 r0 3 = 5 := wq_u_s e1785
              refine wp_of e16 c16_223 (rw_goto (p1 := 280) (by decide) ?_)
              refine wp_of e16 c16_280 (rw_aload_n (pc' := 281) (v := .ref r0) rfl rfl rfl ?_)
              refine wp_of e16 c16_281 (rw_iload_n (pc' := 282) (z := v1685) rfl rfl ?_)
              refine wp_of e16 c16_282 (xp_I (pc' := 285) lf_2_23 w1786 g0 sh_4 (by decide) (by decide) ty_4_2 rfl rfl (by omega) (by omega) ⟨by omega, by omega⟩ rfl (fun H1789 e1790 w1791 => ?_))
              have f1792 := f1787.put' e1790 g0 rfl
              have k1793 : H1789 r0 2 = v1685 := wq_u_s e1790
              have k1794 : H1789 r0 3 = H1784 r0 3 := (wq_u_j e1790 rfl)
              have k1795 : H1789 r0 4 = H1686 r0 4 := ((wq_u_j e1790 rfl).trans (wq_u_j e1785 rfl))
              have k1796 : H1789 r0 5 = H1686 r0 5 := ((wq_u_j e1790 rfl).trans (wq_u_j e1785 rfl))
              have k1797 : H1789 r0 6 = H1593 r0 6 := ((wq_u_j e1790 rfl).trans ((wq_u_j e1785 rfl).trans (f1689 r0 6 _ g0 rfl)))
              have k1798 : H1789 r0 1 = H r0 1 := ((wq_u_j e1790 rfl).trans ((wq_u_j e1785 rfl).trans ((f1689 r0 1 _ g0 rfl).trans ((f1596 r0 1 _ g0 rfl).trans (wq_u_j e1510 rfl)))))
              first
                | have hl := @xL1 B n q (by omega -splitDisjunctions) (by omega -splitDisjunctions)
                | have hl := @xL5 B n q (by omega -splitDisjunctions)
                | have hl := @xL2 B n q (by omega -splitDisjunctions) (by omega -splitDisjunctions) (by omega -splitDisjunctions)
                | have hl := @xL6 B n q (by omega -splitDisjunctions) (by omega -splitDisjunctions)
                | have hl := @xM0 B n q (by omega -splitDisjunctions)
                | have hl := @xL3 B n q (by omega -splitDisjunctions) (by omega -splitDisjunctions) (by omega -splitDisjunctions)
                | have hl := @xL4 B n q (by omega -splitDisjunctions) (by omega -splitDisjunctions) (by omega -splitDisjunctions)
                | have hl := @xL7 B n q (by omega -splitDisjunctions) (by omega -splitDisjunctions) (by omega -splitDisjunctions) (by omega) (by omega)
                | have hl := @xL1 B n q (by omega) (by omega)
                | have hl := @xL5 B n q (by omega)
                | have hl := @xL2 B n q (by omega) (by omega) (by omega)
                | have hl := @xL6 B n q (by omega) (by omega)
                | have hl := @xM0 B n q (by omega)
                | have hl := @xL3 B n q (by omega) (by omega) (by omega)
                | have hl := @xL4 B n q (by omega) (by omega) (by omega)
                | have hl := @xL7 B n q (by omega) (by omega) (by omega) (by omega) (by omega)
              have ek : xK B n q = H1789 r0 3 := hl.1.trans (by omega)
              have ee : xE B n q = H1789 r0 2 := hl.2.trans (by omega)
              have k1799 : H1789 r0 0 = H r0 0 := ((wq_u_j e1790 rfl).trans ((wq_u_j e1785 rfl).trans ((f1689 r0 0 _ g0 rfl).trans ((f1596 r0 0 _ g0 rfl).trans (wq_u_j e1510 rfl)))))
              have q1800 : H1789 r0 0 = (rb : Int) := k1799.trans qrb
              have h1801 : TP T H1789 rb B := (TP_fr w1786 grb ((wfr.rf (l := [(4, 2)])).put' e1790 g0 rfl) rfl (TP_fr w1688 grb ((wfr.rf (l := [(4, 3)])).put' e1785 g0 rfl) rfl (TP_fr w1595 grb f1689 rfl (TP_fr w1511 grb f1596 rfl (TP_fr hW grb ((wfr.rf (l := [(4, 4)])).put' e1510 g0 rfl) rfl hTP_rb)))))
              exact wp_return e16 c16_285 rfl ⟨rfl, w1791, f1792, rfl, (TC_mk q1800 grb h1801 (by omega) (fun h => by omega) (fun h => by omega))⟩
            · refine wp_of e16 c16_215 (rw_iconst (pc' := 216) rfl ?_)
              refine wp_of e16 c16_216 (rw_goto (p1 := 220) (by decide) ?_)
              refine wp_of e16 c16_220 (xp_I (pc' := 223) lf_2_41 w1688 g0 sh_4 (by decide) (by decide) ty_4_3 rfl rfl (by decide) (by decide) ⟨by decide, by decide⟩ rfl (fun H1802 e1803 w1804 => ?_))
              have f1805 := f1692.put' e1803 g0 rfl
              have k1806 : H1802 r0 3 = 2 := wq_u_s e1803
              refine wp_of e16 c16_223 (rw_goto (p1 := 280) (by decide) ?_)
              refine wp_of e16 c16_280 (rw_aload_n (pc' := 281) (v := .ref r0) rfl rfl rfl ?_)
              refine wp_of e16 c16_281 (rw_iload_n (pc' := 282) (z := v1685) rfl rfl ?_)
              refine wp_of e16 c16_282 (xp_I (pc' := 285) lf_2_23 w1804 g0 sh_4 (by decide) (by decide) ty_4_2 rfl rfl (by omega) (by omega) ⟨by omega, by omega⟩ rfl (fun H1807 e1808 w1809 => ?_))
              have f1810 := f1805.put' e1808 g0 rfl
              have k1811 : H1807 r0 2 = v1685 := wq_u_s e1808
              have k1812 : H1807 r0 3 = H1802 r0 3 := (wq_u_j e1808 rfl)
              have k1813 : H1807 r0 4 = H1686 r0 4 := ((wq_u_j e1808 rfl).trans (wq_u_j e1803 rfl))
              have k1814 : H1807 r0 5 = H1686 r0 5 := ((wq_u_j e1808 rfl).trans (wq_u_j e1803 rfl))
              have k1815 : H1807 r0 6 = H1593 r0 6 := ((wq_u_j e1808 rfl).trans ((wq_u_j e1803 rfl).trans (f1689 r0 6 _ g0 rfl)))
              have k1816 : H1807 r0 1 = H r0 1 := ((wq_u_j e1808 rfl).trans ((wq_u_j e1803 rfl).trans ((f1689 r0 1 _ g0 rfl).trans ((f1596 r0 1 _ g0 rfl).trans (wq_u_j e1510 rfl)))))
              first
                | have hl := @xL1 B n q (by omega -splitDisjunctions) (by omega -splitDisjunctions)
                | have hl := @xL5 B n q (by omega -splitDisjunctions)
                | have hl := @xL2 B n q (by omega -splitDisjunctions) (by omega -splitDisjunctions) (by omega -splitDisjunctions)
                | have hl := @xL6 B n q (by omega -splitDisjunctions) (by omega -splitDisjunctions)
                | have hl := @xM0 B n q (by omega -splitDisjunctions)
                | have hl := @xL3 B n q (by omega -splitDisjunctions) (by omega -splitDisjunctions) (by omega -splitDisjunctions)
                | have hl := @xL4 B n q (by omega -splitDisjunctions) (by omega -splitDisjunctions) (by omega -splitDisjunctions)
                | have hl := @xL7 B n q (by omega -splitDisjunctions) (by omega -splitDisjunctions) (by omega -splitDisjunctions) (by omega) (by omega)
                | have hl := @xL1 B n q (by omega) (by omega)
                | have hl := @xL5 B n q (by omega)
                | have hl := @xL2 B n q (by omega) (by omega) (by omega)
                | have hl := @xL6 B n q (by omega) (by omega)
                | have hl := @xM0 B n q (by omega)
                | have hl := @xL3 B n q (by omega) (by omega) (by omega)
                | have hl := @xL4 B n q (by omega) (by omega) (by omega)
                | have hl := @xL7 B n q (by omega) (by omega) (by omega) (by omega) (by omega)
              have ek : xK B n q = H1807 r0 3 := hl.1.trans (by omega)
              have ee : xE B n q = H1807 r0 2 := hl.2.trans (by omega)
              have k1817 : H1807 r0 0 = H r0 0 := ((wq_u_j e1808 rfl).trans ((wq_u_j e1803 rfl).trans ((f1689 r0 0 _ g0 rfl).trans ((f1596 r0 0 _ g0 rfl).trans (wq_u_j e1510 rfl)))))
              have q1818 : H1807 r0 0 = (rb : Int) := k1817.trans qrb
              have h1819 : TP T H1807 rb B := (TP_fr w1804 grb ((wfr.rf (l := [(4, 2)])).put' e1808 g0 rfl) rfl (TP_fr w1688 grb ((wfr.rf (l := [(4, 3)])).put' e1803 g0 rfl) rfl (TP_fr w1595 grb f1689 rfl (TP_fr w1511 grb f1596 rfl (TP_fr hW grb ((wfr.rf (l := [(4, 4)])).put' e1510 g0 rfl) rfl hTP_rb)))))
              exact wp_return e16 c16_285 rfl ⟨rfl, w1809, f1810, rfl, (TC_mk q1818 grb h1819 (by omega) (fun h => by omega) (fun h => by omega))⟩
        · refine wp_of e16 c16_187 (rw_aload_n (pc' := 188) (v := .ref r0) rfl rfl rfl ?_)
          refine wp_of e16 c16_188 (rw_iload_n (pc' := 189) (z := v1592 - (H1593 r0 4)) rfl rfl ?_)
          refine wp_of e16 c16_189 (rw_bipush (pc' := 191) (z := 8) rfl (by decide) ?_)
          refine wp_of e16 c16_191 (rw_icmp_gt (p1 := 198) (p2 := 194) (by decide) rfl ⟨by omega, by omega⟩ ⟨by decide, by decide⟩ (fun c1820 => ?_) (fun c1820 => ?_))
          · refine wp_of e16 c16_198 (rw_iconst (pc' := 199) rfl ?_)
            refine wp_of e16 c16_199 (xp_I (pc' := 202) lf_2_41 w1688 g0 sh_4 (by decide) (by decide) ty_4_3 rfl rfl (by decide) (by decide) ⟨by decide, by decide⟩ rfl (fun H1821 e1822 w1823 => ?_))
            have f1824 := f1692.put' e1822 g0 rfl
            have k1825 : H1821 r0 3 = 5 := wq_u_s e1822
            refine wp_of e16 c16_202 (rw_goto (p1 := 280) (by decide) ?_)
            refine wp_of e16 c16_280 (rw_aload_n (pc' := 281) (v := .ref r0) rfl rfl rfl ?_)
            refine wp_of e16 c16_281 (rw_iload_n (pc' := 282) (z := v1685) rfl rfl ?_)
            refine wp_of e16 c16_282 (xp_I (pc' := 285) lf_2_23 w1823 g0 sh_4 (by decide) (by decide) ty_4_2 rfl rfl (by omega) (by omega) ⟨by omega, by omega⟩ rfl (fun H1826 e1827 w1828 => ?_))
            have f1829 := f1824.put' e1827 g0 rfl
            have k1830 : H1826 r0 2 = v1685 := wq_u_s e1827
            have k1831 : H1826 r0 3 = H1821 r0 3 := (wq_u_j e1827 rfl)
            have k1832 : H1826 r0 4 = H1686 r0 4 := ((wq_u_j e1827 rfl).trans (wq_u_j e1822 rfl))
            have k1833 : H1826 r0 5 = H1686 r0 5 := ((wq_u_j e1827 rfl).trans (wq_u_j e1822 rfl))
            have k1834 : H1826 r0 6 = H1593 r0 6 := ((wq_u_j e1827 rfl).trans ((wq_u_j e1822 rfl).trans (f1689 r0 6 _ g0 rfl)))
            have k1835 : H1826 r0 1 = H r0 1 := ((wq_u_j e1827 rfl).trans ((wq_u_j e1822 rfl).trans ((f1689 r0 1 _ g0 rfl).trans ((f1596 r0 1 _ g0 rfl).trans (wq_u_j e1510 rfl)))))
            first
              | have hl := @xL1 B n q (by omega -splitDisjunctions) (by omega -splitDisjunctions)
              | have hl := @xL5 B n q (by omega -splitDisjunctions)
              | have hl := @xL2 B n q (by omega -splitDisjunctions) (by omega -splitDisjunctions) (by omega -splitDisjunctions)
              | have hl := @xL6 B n q (by omega -splitDisjunctions) (by omega -splitDisjunctions)
              | have hl := @xM0 B n q (by omega -splitDisjunctions)
              | have hl := @xL3 B n q (by omega -splitDisjunctions) (by omega -splitDisjunctions) (by omega -splitDisjunctions)
              | have hl := @xL4 B n q (by omega -splitDisjunctions) (by omega -splitDisjunctions) (by omega -splitDisjunctions)
              | have hl := @xL7 B n q (by omega -splitDisjunctions) (by omega -splitDisjunctions) (by omega -splitDisjunctions) (by omega) (by omega)
              | have hl := @xL1 B n q (by omega) (by omega)
              | have hl := @xL5 B n q (by omega)
              | have hl := @xL2 B n q (by omega) (by omega) (by omega)
              | have hl := @xL6 B n q (by omega) (by omega)
              | have hl := @xM0 B n q (by omega)
              | have hl := @xL3 B n q (by omega) (by omega) (by omega)
              | have hl := @xL4 B n q (by omega) (by omega) (by omega)
              | have hl := @xL7 B n q (by omega) (by omega) (by omega) (by omega) (by omega)
            have ek : xK B n q = H1826 r0 3 := hl.1.trans (by omega)
            have ee : xE B n q = H1826 r0 2 := hl.2.trans (by omega)
            have k1836 : H1826 r0 0 = H r0 0 := ((wq_u_j e1827 rfl).trans ((wq_u_j e1822 rfl).trans ((f1689 r0 0 _ g0 rfl).trans ((f1596 r0 0 _ g0 rfl).trans (wq_u_j e1510 rfl)))))
            have q1837 : H1826 r0 0 = (rb : Int) := k1836.trans qrb
            have h1838 : TP T H1826 rb B := (TP_fr w1823 grb ((wfr.rf (l := [(4, 2)])).put' e1827 g0 rfl) rfl (TP_fr w1688 grb ((wfr.rf (l := [(4, 3)])).put' e1822 g0 rfl) rfl (TP_fr w1595 grb f1689 rfl (TP_fr w1511 grb f1596 rfl (TP_fr hW grb ((wfr.rf (l := [(4, 4)])).put' e1510 g0 rfl) rfl hTP_rb)))))
            exact wp_return e16 c16_285 rfl ⟨rfl, w1828, f1829, rfl, (TC_mk q1837 grb h1838 (by omega) (fun h => by omega) (fun h => by omega))⟩
          · refine wp_of e16 c16_194 (rw_iconst (pc' := 195) rfl ?_)
            refine wp_of e16 c16_195 (rw_goto (p1 := 199) (by decide) ?_)
            refine wp_of e16 c16_199 (xp_I (pc' := 202) lf_2_41 w1688 g0 sh_4 (by decide) (by decide) ty_4_3 rfl rfl (by decide) (by decide) ⟨by decide, by decide⟩ rfl (fun H1839 e1840 w1841 => ?_))
            have f1842 := f1692.put' e1840 g0 rfl
            have k1843 : H1839 r0 3 = 1 := wq_u_s e1840
            refine wp_of e16 c16_202 (rw_goto (p1 := 280) (by decide) ?_)
            refine wp_of e16 c16_280 (rw_aload_n (pc' := 281) (v := .ref r0) rfl rfl rfl ?_)
            refine wp_of e16 c16_281 (rw_iload_n (pc' := 282) (z := v1685) rfl rfl ?_)
            refine wp_of e16 c16_282 (xp_I (pc' := 285) lf_2_23 w1841 g0 sh_4 (by decide) (by decide) ty_4_2 rfl rfl (by omega) (by omega) ⟨by omega, by omega⟩ rfl (fun H1844 e1845 w1846 => ?_))
            have f1847 := f1842.put' e1845 g0 rfl
            have k1848 : H1844 r0 2 = v1685 := wq_u_s e1845
            have k1849 : H1844 r0 3 = H1839 r0 3 := (wq_u_j e1845 rfl)
            have k1850 : H1844 r0 4 = H1686 r0 4 := ((wq_u_j e1845 rfl).trans (wq_u_j e1840 rfl))
            have k1851 : H1844 r0 5 = H1686 r0 5 := ((wq_u_j e1845 rfl).trans (wq_u_j e1840 rfl))
            have k1852 : H1844 r0 6 = H1593 r0 6 := ((wq_u_j e1845 rfl).trans ((wq_u_j e1840 rfl).trans (f1689 r0 6 _ g0 rfl)))
            have k1853 : H1844 r0 1 = H r0 1 := ((wq_u_j e1845 rfl).trans ((wq_u_j e1840 rfl).trans ((f1689 r0 1 _ g0 rfl).trans ((f1596 r0 1 _ g0 rfl).trans (wq_u_j e1510 rfl)))))
            first
              | have hl := @xL1 B n q (by omega -splitDisjunctions) (by omega -splitDisjunctions)
              | have hl := @xL5 B n q (by omega -splitDisjunctions)
              | have hl := @xL2 B n q (by omega -splitDisjunctions) (by omega -splitDisjunctions) (by omega -splitDisjunctions)
              | have hl := @xL6 B n q (by omega -splitDisjunctions) (by omega -splitDisjunctions)
              | have hl := @xM0 B n q (by omega -splitDisjunctions)
              | have hl := @xL3 B n q (by omega -splitDisjunctions) (by omega -splitDisjunctions) (by omega -splitDisjunctions)
              | have hl := @xL4 B n q (by omega -splitDisjunctions) (by omega -splitDisjunctions) (by omega -splitDisjunctions)
              | have hl := @xL7 B n q (by omega -splitDisjunctions) (by omega -splitDisjunctions) (by omega -splitDisjunctions) (by omega) (by omega)
              | have hl := @xL1 B n q (by omega) (by omega)
              | have hl := @xL5 B n q (by omega)
              | have hl := @xL2 B n q (by omega) (by omega) (by omega)
              | have hl := @xL6 B n q (by omega) (by omega)
              | have hl := @xM0 B n q (by omega)
              | have hl := @xL3 B n q (by omega) (by omega) (by omega)
              | have hl := @xL4 B n q (by omega) (by omega) (by omega)
              | have hl := @xL7 B n q (by omega) (by omega) (by omega) (by omega) (by omega)
            have ek : xK B n q = H1844 r0 3 := hl.1.trans (by omega)
            have ee : xE B n q = H1844 r0 2 := hl.2.trans (by omega)
            have k1854 : H1844 r0 0 = H r0 0 := ((wq_u_j e1845 rfl).trans ((wq_u_j e1840 rfl).trans ((f1689 r0 0 _ g0 rfl).trans ((f1596 r0 0 _ g0 rfl).trans (wq_u_j e1510 rfl)))))
            have q1855 : H1844 r0 0 = (rb : Int) := k1854.trans qrb
            have h1856 : TP T H1844 rb B := (TP_fr w1841 grb ((wfr.rf (l := [(4, 2)])).put' e1845 g0 rfl) rfl (TP_fr w1688 grb ((wfr.rf (l := [(4, 3)])).put' e1840 g0 rfl) rfl (TP_fr w1595 grb f1689 rfl (TP_fr w1511 grb f1596 rfl (TP_fr hW grb ((wfr.rf (l := [(4, 4)])).put' e1510 g0 rfl) rfl hTP_rb)))))
            exact wp_return e16 c16_285 rfl ⟨rfl, w1846, f1847, rfl, (TC_mk q1855 grb h1856 (by omega) (fun h => by omega) (fun h => by omega))⟩
      have f1857 : wfr [(4, 5)] T H1593 H1593 := wfr.rf
      refine wp_of e16 c16_110 (xp_I (pc' := 113) lf_2_38 w1595 g0 sh_4 (by decide) (by decide) ty_4_5 rfl rfl (by decide) (by decide) ⟨by decide, by decide⟩ rfl (fun H1858 e1859 w1860 => ?_))
      have f1861 := f1600.put' e1859 g0 rfl
      have f1862 := f1857.put' e1859 g0 rfl
      have k1863 : H1858 r0 5 = 0 := wq_u_s e1859
      have lp1915 : ∀ (n1916 : Nat) (v1918 : Int) (H1919 : wq_H), WT T H1919 → wfr [(4, 5)] T H1858 H1919 → (0 ≤ v1918 ∧ v1918 ≤ 900) → (((v1592 - (H1593 r0 4)) ≠ 0 ∧ v1918 = q + (v1592 - (H1593 r0 4)) ∧ v1918 = xG 97 122 B n q) ∨ ((v1592 - (H1593 r0 4)) = 0 ∧ xG 48 57 B n v1918 = xG 48 57 B n q)) → (q ≤ v1918) → (v1918 ≤ n) → ((v1592 - (H1593 r0 4)) ≠ 0 ∨ 3 < v1918 - q ∨ H1919 r0 5 = xkf 10 48 B q (v1918 - q).toNat) → (900 - v1918).toNat = n1916 → wp kt 0 16 113 [(1, vI v1918), (2, vI (v1592 - (H1593 r0 4))), (0, .ref r0)] [] T H1919 (uq_16 r0 rb B n a q T H) := by
        intro n1916
        induction n1916 using Nat.strongRecOn with
        | _ n1916 ih1917 =>
          intro v1918 H1919 w1920 f1921 b1922 x1923 x1924 x1925 x1926 m1927
          have f1928 := f1861.tr f1921 rfl
          have f1929 := f1862.tr f1921 rfl
          have := @xG_b2 48 57 B n v1918 (by omega)
          have := @xkf_V2 B n q v1918 (by omega)
          refine wp_of e16 c16_113 (rw_iload_n (pc' := 114) (z := v1918) rfl rfl ?_)
          refine wp_of e16 c16_114 (rw_aload_n (pc' := 115) (v := .ref r0) rfl rfl rfl ?_)
          have k1930 : H1919 r0 1 = H r0 1 := ((f1921 r0 1 _ g0 rfl).trans ((wq_u_j e1859 rfl).trans ((f1596 r0 1 _ g0 rfl).trans (wq_u_j e1510 rfl))))
          refine wp_of e16 c16_115 (xg_I (pc' := 118) lf_2_19 w1920 g0 sh_4 (by decide) (by decide) ty_4_1 rfl rfl (fun b1931 b1932 => ?_))
          refine wp_of e16 c16_118 (rw_icmp_ge (p1 := 174) (p2 := 121) (by decide) rfl ⟨Int.le_trans (by decide) b1922.1, Int.le_trans b1922.2 (by decide)⟩ ⟨Int.le_trans (by decide) b1931, Int.le_trans b1932 (by decide)⟩ (fun c1933 => ?_) (fun c1933 => ?_))
          · have := @xG_ez 48 57 B n v1918
            have := @xV_of B n q v1918
            exact wp_lc (ks := [1, 2, 0]) (wl_c rfl (wl_c rfl (wl_c rfl wl_n))) rfl (by decide) (jn1687 v1918 H1919 w1920 f1929 ⟨by omega, by omega⟩ (by omega))
          · refine wp_of e16 c16_121 (rw_iload_n (pc' := 122) (z := v1592 - (H1593 r0 4)) rfl rfl ?_)
            refine wp_of e16 c16_122 (rw_if_ne (p1 := 174) (p2 := 125) (by decide) rfl ⟨by omega, by omega⟩ (fun c1934 => ?_) (fun c1934 => ?_))
            · have := @xG_ez 48 57 B n v1918
              have := @xV_of B n q v1918
              exact wp_lc (ks := [1, 2, 0]) (wl_c rfl (wl_c rfl (wl_c rfl wl_n))) rfl (by decide) (jn1687 v1918 H1919 w1920 f1929 ⟨by omega, by omega⟩ (by omega))
            · refine wp_of e16 c16_125 (rw_aload_n (pc' := 126) (v := .ref r0) rfl rfl rfl ?_)
              have k1935 : H1919 r0 0 = H r0 0 := ((f1921 r0 0 _ g0 rfl).trans ((wq_u_j e1859 rfl).trans ((f1596 r0 0 _ g0 rfl).trans (wq_u_j e1510 rfl))))
              have q1936 : H1919 r0 0 = (rb : Int) := k1935.trans qrb
              refine wp_of e16 c16_126 (xg_K (pc' := 129) lf_2_7 w1920 g0 sh_4 (by decide) (by decide) rfl q1936 rfl ?_)
              refine wp_of e16 c16_129 (rw_iload_n (pc' := 130) (z := v1918) rfl rfl ?_)
              refine wp_of e16 c16_130 (xa_B (by decide) (pc' := 131) w1920 grb sh_2 (by decide) (ty_2 _) (b1922.1) (by omega) rfl (fun b1937 b1938 => ?_))
              have h1939 : TP T H1919 rb B := (TP_fr w1860 grb f1921 rfl (TP_fr w1595 grb ((wfr.rf (l := [(4, 5)])).put' e1859 g0 rfl) rfl (TP_fr w1511 grb f1596 rfl (TP_fr hW grb ((wfr.rf (l := [(4, 4)])).put' e1510 g0 rfl) rfl hTP_rb))))
              have := h1939 (v1918.toNat) (by omega)
              refine wp_of e16 c16_131 (rw_bipush (pc' := 133) (z := 48) rfl (by decide) ?_)
              refine wp_of e16 c16_133 (rw_icmp_lt (p1 := 174) (p2 := 136) (by decide) rfl ⟨Int.le_trans (by decide) b1937, Int.le_trans b1938 (by decide)⟩ ⟨by decide, by decide⟩ (fun c1940 => ?_) (fun c1940 => ?_))
              · have := @xG_ez 48 57 B n v1918
                have := @xV_of B n q v1918
                exact wp_lc (ks := [1, 2, 0]) (wl_c rfl (wl_c rfl (wl_c rfl wl_n))) rfl (by decide) (jn1687 v1918 H1919 w1920 f1929 ⟨by omega, by omega⟩ (by omega))
              · refine wp_of e16 c16_136 (rw_aload_n (pc' := 137) (v := .ref r0) rfl rfl rfl ?_)
                refine wp_of e16 c16_137 (xg_K (pc' := 140) lf_2_7 w1920 g0 sh_4 (by decide) (by decide) rfl q1936 rfl ?_)
                refine wp_of e16 c16_140 (rw_iload_n (pc' := 141) (z := v1918) rfl rfl ?_)
                refine wp_of e16 c16_141 (xa_B (by decide) (pc' := 142) w1920 grb sh_2 (by decide) (ty_2 _) (b1922.1) (by omega) rfl (fun b1941 b1942 => ?_))
                have := h1939 (v1918.toNat) (by omega)
                refine wp_of e16 c16_142 (rw_bipush (pc' := 144) (z := 57) rfl (by decide) ?_)
                refine wp_of e16 c16_144 (rw_icmp_gt (p1 := 174) (p2 := 147) (by decide) rfl ⟨Int.le_trans (by decide) b1941, Int.le_trans b1942 (by decide)⟩ ⟨by decide, by decide⟩ (fun c1943 => ?_) (fun c1943 => ?_))
                · have := @xG_ez 48 57 B n v1918
                  have := @xV_of B n q v1918
                  exact wp_lc (ks := [1, 2, 0]) (wl_c rfl (wl_c rfl (wl_c rfl wl_n))) rfl (by decide) (jn1687 v1918 H1919 w1920 f1929 ⟨by omega, by omega⟩ (by omega))
                · refine wp_of e16 c16_147 (rw_aload_n (pc' := 148) (v := .ref r0) rfl rfl rfl ?_)
                  refine wp_of e16 c16_148 (rw_aload_n (pc' := 149) (v := .ref r0) rfl rfl rfl ?_)
                  refine wp_of e16 c16_149 (xg_I (pc' := 152) lf_2_38 w1920 g0 sh_4 (by decide) (by decide) ty_4_5 rfl rfl (fun b1944 b1945 => ?_))
                  refine wp_of e16 c16_152 (rw_bipush (pc' := 154) (z := 10) rfl (by decide) ?_)
                  refine wp_of e16 c16_154 (rw_imulw (pc' := 155) rfl ?_)
                  obtain ⟨v1946, e1947⟩ : ∃ x : Int, x = wq_w ((H1919 r0 5) * 10) := ⟨_, rfl⟩
                  rw [← e1947]
                  have b1948 : -2147483648 ≤ v1946 ∧ v1946 ≤ 2147483647 := by
                    rw [e1947]
                    exact wI_w _
                  have b1949 : (-2147483648 ≤ (H1919 r0 5) * 10 ∧ (H1919 r0 5) * 10 ≤ 2147483647) → v1946 = (H1919 r0 5) * 10 := fun h => by rw [e1947]; exact wq_w_id h
                  refine wp_of e16 c16_155 (rw_aload_n (pc' := 156) (v := .ref r0) rfl rfl rfl ?_)
                  refine wp_of e16 c16_156 (xg_K (pc' := 159) lf_2_7 w1920 g0 sh_4 (by decide) (by decide) rfl q1936 rfl ?_)
                  refine wp_of e16 c16_159 (rw_iload_n (pc' := 160) (z := v1918) rfl rfl ?_)
                  refine wp_of e16 c16_160 (xa_B (by decide) (pc' := 161) w1920 grb sh_2 (by decide) (ty_2 _) (b1922.1) (by omega) rfl (fun b1950 b1951 => ?_))
                  have := h1939 (v1918.toNat) (by omega)
                  refine wp_of e16 c16_161 (rw_bipush (pc' := 163) (z := 48) rfl (by decide) ?_)
                  refine wp_of e16 c16_163 (rw_isub (pc' := 164) rfl ?_)
                  refine wp_of e16 c16_164 (rw_iaddw (pc' := 165) rfl ?_)
                  obtain ⟨v1952, e1953⟩ : ∃ x : Int, x = wq_w (v1946 + ((H1919 rb (v1918.toNat)) - 48)) := ⟨_, rfl⟩
                  rw [← e1953]
                  have b1954 : -2147483648 ≤ v1952 ∧ v1952 ≤ 2147483647 := by
                    rw [e1953]
                    exact wI_w _
                  have b1955 : (-2147483648 ≤ v1946 + ((H1919 rb (v1918.toNat)) - 48) ∧ v1946 + ((H1919 rb (v1918.toNat)) - 48) ≤ 2147483647) → v1952 = v1946 + ((H1919 rb (v1918.toNat)) - 48) := fun h => by rw [e1953]; exact wq_w_id h
                  refine wp_of e16 c16_165 (xp_I (pc' := 168) lf_2_38 w1920 g0 sh_4 (by decide) (by decide) ty_4_5 rfl rfl (b1954.1) (b1954.2) ⟨b1954.1, b1954.2⟩ rfl (fun H1956 e1957 w1958 => ?_))
                  have f1959 := f1928.put' e1957 g0 rfl
                  have f1960 := f1929.put' e1957 g0 rfl
                  have f1961 := f1921.put' e1957 g0 rfl
                  have k1962 : H1956 r0 5 = v1952 := wq_u_s e1957
                  refine wp_of e16 c16_168 (rw_iinc (pc' := 171) (z := v1918) (L' := [(1, vI (v1918 + 1)), (2, vI (v1592 - (H1593 r0 4))), (0, .ref r0)]) rfl rfl rfl rfl ?_)
                  refine wp_of e16 c16_171 (rw_goto (p1 := 113) (by decide) ?_)
                  have := @xG_s 48 57 B n v1918 (by omega) (by omega) (by omega)
                  have := @xkf_s B q 10 48 v1918 (by omega)
                  exact wp_lc (ks := [1, 2, 0]) (wl_c rfl (wl_c rfl (wl_c rfl wl_n))) rfl (by decide) (ih1917 _ (by omega) (v1918 + 1) H1956 w1958 f1961 ⟨by omega, by omega⟩ (by omega) (by omega) (by omega) (by omega) rfl)
      have := @xkf_q B q v1592 10 48
      have := @xG_q 48 57 B n q v1592
      exact wp_lc (ks := [2, 1, 0]) (wl_c rfl (wl_c rfl (wl_c rfl wl_n))) rfl (by decide) (lp1915 _ v1592 H1858 w1860 wfr.rf ⟨by omega, by omega⟩ (by omega) (by omega) (by omega) (by omega) rfl)
    have f1963 : wfr [(4, 6)] T H1509 H1509 := wfr.rf
    refine wp_of e16 c16_35 (rw_aload_n (pc' := 36) (v := .ref r0) rfl rfl rfl ?_)
    refine wp_of e16 c16_36 (rw_lconst (pc' := 37) (z := 0) rfl rfl ?_)
    refine wp_of e16 c16_37 (xp_L (pc' := 40) lf_2_32 w1511 g0 sh_4 (by decide) (by decide) ty_4_6 rfl rfl (by decide) (by decide) ⟨by decide, by decide⟩ rfl (fun H1964 e1965 w1966 => ?_))
    have f1967 := f1512.put' e1965 g0 rfl
    have f1968 := f1963.put' e1965 g0 rfl
    have k1969 : H1964 r0 6 = 0 := wq_u_s e1965
    have lp2019 : ∀ (n2020 : Nat) (v2022 : Int) (H2023 : wq_H), WT T H2023 → wfr [(4, 6)] T H1964 H2023 → (0 ≤ v2022 ∧ v2022 ≤ 900) → (xG 97 122 B n v2022 = xG 97 122 B n q) → (q ≤ v2022) → (v2022 ≤ n) → (8 < v2022 - q ∨ H2023 r0 6 = xkf 32 96 B q (v2022 - q).toNat) → (900 - v2022).toNat = n2020 → wp kt 0 16 40 [(1, vI v2022), (0, .ref r0)] [] T H2023 (uq_16 r0 rb B n a q T H) := by
      intro n2020
      induction n2020 using Nat.strongRecOn with
      | _ n2020 ih2021 =>
        intro v2022 H2023 w2024 f2025 b2026 x2027 x2028 x2029 x2030 m2031
        have f2032 := f1967.tr f2025 rfl
        have f2033 := f1968.tr f2025 rfl
        have := @xG_b2 97 122 B n v2022 (by omega)
        have := @xkf_Y2 B n q v2022 (by omega) (by omega)
        refine wp_of e16 c16_40 (rw_iload_n (pc' := 41) (z := v2022) rfl rfl ?_)
        refine wp_of e16 c16_41 (rw_aload_n (pc' := 42) (v := .ref r0) rfl rfl rfl ?_)
        have k2034 : H2023 r0 1 = H r0 1 := ((f2025 r0 1 _ g0 rfl).trans ((wq_u_j e1965 rfl).trans (wq_u_j e1510 rfl)))
        refine wp_of e16 c16_42 (xg_I (pc' := 45) lf_2_19 w2024 g0 sh_4 (by decide) (by decide) ty_4_1 rfl rfl (fun b2035 b2036 => ?_))
        refine wp_of e16 c16_45 (rw_icmp_ge (p1 := 101) (p2 := 48) (by decide) rfl ⟨Int.le_trans (by decide) b2026.1, Int.le_trans b2026.2 (by decide)⟩ ⟨Int.le_trans (by decide) b2035, Int.le_trans b2036 (by decide)⟩ (fun c2037 => ?_) (fun c2037 => ?_))
        · have k2038 : H2023 r0 4 = H1509 r0 4 := ((f2025 r0 4 _ g0 rfl).trans (wq_u_j e1965 rfl))
          have := @xG_e 97 122 B n v2022 (by omega)
          have := @xY_of B n q v2022
          exact wp_lc (ks := [1, 0]) (wl_c rfl (wl_c rfl wl_n)) rfl (by decide) (jn1594 v2022 H2023 w2024 f2033 ⟨by omega, by omega⟩ (by omega) (by omega))
        · refine wp_of e16 c16_48 (rw_aload_n (pc' := 49) (v := .ref r0) rfl rfl rfl ?_)
          have k2039 : H2023 r0 0 = H r0 0 := ((f2025 r0 0 _ g0 rfl).trans ((wq_u_j e1965 rfl).trans (wq_u_j e1510 rfl)))
          have q2040 : H2023 r0 0 = (rb : Int) := k2039.trans qrb
          refine wp_of e16 c16_49 (xg_K (pc' := 52) lf_2_7 w2024 g0 sh_4 (by decide) (by decide) rfl q2040 rfl ?_)
          refine wp_of e16 c16_52 (rw_iload_n (pc' := 53) (z := v2022) rfl rfl ?_)
          refine wp_of e16 c16_53 (xa_B (by decide) (pc' := 54) w2024 grb sh_2 (by decide) (ty_2 _) (b2026.1) (by omega) rfl (fun b2041 b2042 => ?_))
          have h2043 : TP T H2023 rb B := (TP_fr w1966 grb f2025 rfl (TP_fr w1511 grb ((wfr.rf (l := [(4, 6)])).put' e1965 g0 rfl) rfl (TP_fr hW grb ((wfr.rf (l := [(4, 4)])).put' e1510 g0 rfl) rfl hTP_rb)))
          have := h2043 (v2022.toNat) (by omega)
          refine wp_of e16 c16_54 (rw_bipush (pc' := 56) (z := 97) rfl (by decide) ?_)
          refine wp_of e16 c16_56 (rw_icmp_lt (p1 := 101) (p2 := 59) (by decide) rfl ⟨Int.le_trans (by decide) b2041, Int.le_trans b2042 (by decide)⟩ ⟨by decide, by decide⟩ (fun c2044 => ?_) (fun c2044 => ?_))
          · have k2045 : H2023 r0 4 = H1509 r0 4 := ((f2025 r0 4 _ g0 rfl).trans (wq_u_j e1965 rfl))
            have := @xG_e 97 122 B n v2022 (by omega)
            have := @xY_of B n q v2022
            exact wp_lc (ks := [1, 0]) (wl_c rfl (wl_c rfl wl_n)) rfl (by decide) (jn1594 v2022 H2023 w2024 f2033 ⟨by omega, by omega⟩ (by omega) (by omega))
          · refine wp_of e16 c16_59 (rw_aload_n (pc' := 60) (v := .ref r0) rfl rfl rfl ?_)
            refine wp_of e16 c16_60 (xg_K (pc' := 63) lf_2_7 w2024 g0 sh_4 (by decide) (by decide) rfl q2040 rfl ?_)
            refine wp_of e16 c16_63 (rw_iload_n (pc' := 64) (z := v2022) rfl rfl ?_)
            refine wp_of e16 c16_64 (xa_B (by decide) (pc' := 65) w2024 grb sh_2 (by decide) (ty_2 _) (b2026.1) (by omega) rfl (fun b2046 b2047 => ?_))
            have := h2043 (v2022.toNat) (by omega)
            refine wp_of e16 c16_65 (rw_bipush (pc' := 67) (z := 122) rfl (by decide) ?_)
            refine wp_of e16 c16_67 (rw_icmp_gt (p1 := 101) (p2 := 70) (by decide) rfl ⟨Int.le_trans (by decide) b2046, Int.le_trans b2047 (by decide)⟩ ⟨by decide, by decide⟩ (fun c2048 => ?_) (fun c2048 => ?_))
            · have k2049 : H2023 r0 4 = H1509 r0 4 := ((f2025 r0 4 _ g0 rfl).trans (wq_u_j e1965 rfl))
              have := @xG_e 97 122 B n v2022 (by omega)
              have := @xY_of B n q v2022
              exact wp_lc (ks := [1, 0]) (wl_c rfl (wl_c rfl wl_n)) rfl (by decide) (jn1594 v2022 H2023 w2024 f2033 ⟨by omega, by omega⟩ (by omega) (by omega))
            · refine wp_of e16 c16_70 (rw_aload_n (pc' := 71) (v := .ref r0) rfl rfl rfl ?_)
              refine wp_of e16 c16_71 (rw_aload_n (pc' := 72) (v := .ref r0) rfl rfl rfl ?_)
              refine wp_of e16 c16_72 (xg_L (pc' := 75) lf_2_32 w2024 g0 sh_4 (by decide) (by decide) ty_4_6 rfl rfl (fun b2050 b2051 => ?_))
              refine wp_of e16 c16_75 (rw_ldc2 (pc' := 78) (z := 32) rfl rfl rfl ?_)
              refine wp_of e16 c16_78 (rw_lmulw (pc' := 79) rfl ?_)
              obtain ⟨v2052, e2053⟩ : ∃ x : Int, x = wl_w ((H2023 r0 6) * 32) := ⟨_, rfl⟩
              rw [← e2053]
              have b2054 : -9223372036854775808 ≤ v2052 ∧ v2052 ≤ 9223372036854775807 := by
                rw [e2053]
                exact wL_w _
              have b2055 : (-9223372036854775808 ≤ (H2023 r0 6) * 32 ∧ (H2023 r0 6) * 32 ≤ 9223372036854775807) → v2052 = (H2023 r0 6) * 32 := fun h => by rw [e2053]; exact wl_w_id h
              refine wp_of e16 c16_79 (rw_aload_n (pc' := 80) (v := .ref r0) rfl rfl rfl ?_)
              refine wp_of e16 c16_80 (xg_K (pc' := 83) lf_2_7 w2024 g0 sh_4 (by decide) (by decide) rfl q2040 rfl ?_)
              refine wp_of e16 c16_83 (rw_iload_n (pc' := 84) (z := v2022) rfl rfl ?_)
              refine wp_of e16 c16_84 (xa_B (by decide) (pc' := 85) w2024 grb sh_2 (by decide) (ty_2 _) (b2026.1) (by omega) rfl (fun b2056 b2057 => ?_))
              have := h2043 (v2022.toNat) (by omega)
              refine wp_of e16 c16_85 (rw_bipush (pc' := 87) (z := 97) rfl (by decide) ?_)
              refine wp_of e16 c16_87 (rw_isub (pc' := 88) rfl ?_)
              refine wp_of e16 c16_88 (rw_iconst (pc' := 89) rfl ?_)
              refine wp_of e16 c16_89 (rw_iadd (pc' := 90) rfl ?_)
              refine wp_of e16 c16_90 (rw_i2l (pc' := 91) rfl ⟨by omega, by omega⟩ ?_)
              refine wp_of e16 c16_91 (rw_laddw (pc' := 92) rfl ?_)
              obtain ⟨v2058, e2059⟩ : ∃ x : Int, x = wl_w (v2052 + (((H2023 rb (v2022.toNat)) - 97) + 1)) := ⟨_, rfl⟩
              rw [← e2059]
              have b2060 : -9223372036854775808 ≤ v2058 ∧ v2058 ≤ 9223372036854775807 := by
                rw [e2059]
                exact wL_w _
              have b2061 : (-9223372036854775808 ≤ v2052 + (((H2023 rb (v2022.toNat)) - 97) + 1) ∧ v2052 + (((H2023 rb (v2022.toNat)) - 97) + 1) ≤ 9223372036854775807) → v2058 = v2052 + (((H2023 rb (v2022.toNat)) - 97) + 1) := fun h => by rw [e2059]; exact wl_w_id h
              refine wp_of e16 c16_92 (xp_L (pc' := 95) lf_2_32 w2024 g0 sh_4 (by decide) (by decide) ty_4_6 rfl rfl (b2060.1) (b2060.2) ⟨b2060.1, b2060.2⟩ rfl (fun H2062 e2063 w2064 => ?_))
              have f2065 := f2032.put' e2063 g0 rfl
              have f2066 := f2033.put' e2063 g0 rfl
              have f2067 := f2025.put' e2063 g0 rfl
              have k2068 : H2062 r0 6 = v2058 := wq_u_s e2063
              refine wp_of e16 c16_95 (rw_iinc (pc' := 98) (z := v2022) (L' := [(1, vI (v2022 + 1)), (0, .ref r0)]) rfl rfl rfl rfl ?_)
              refine wp_of e16 c16_98 (rw_goto (p1 := 40) (by decide) ?_)
              have := @xG_s 97 122 B n v2022 (by omega) (by omega) (by omega)
              have := @xkf_s B q 32 96 v2022 (by omega)
              exact wp_lc (ks := [1, 0]) (wl_c rfl (wl_c rfl wl_n)) rfl (by decide) (ih2021 _ (by omega) (v2022 + 1) H2062 w2064 f2067 ⟨by omega, by omega⟩ (by omega) (by omega) (by omega) (by omega) rfl)
    have := @xkf_q B q v1503 32 96
    have := @xG_q 97 122 B n q v1503
    exact wp_lc (ks := [1, 0]) (wl_c rfl (wl_c rfl wl_n)) rfl (by decide) (lp2019 _ v1503 H1964 w1966 wfr.rf ⟨by omega, by omega⟩ (by omega) (by omega) (by omega) (by omega) rfl)
  refine wp_of e16 c16_4 (rw_istore_n (pc' := 5) (z := H r0 2) (L' := [(1, vI (H r0 2)), (0, .ref r0)]) rfl rfl rfl ?_)
  have lp2078 : ∀ (n2079 : Nat) (v2081 : Int), (0 ≤ v2081 ∧ v2081 ≤ 900) → (xG 32 32 B n v2081 = q) → (v2081 ≤ n) → (900 - v2081).toNat = n2079 → wp kt 0 16 5 [(1, vI v2081), (0, .ref r0)] [] T H (uq_16 r0 rb B n a q T H) := by
    intro n2079
    induction n2079 using Nat.strongRecOn with
    | _ n2079 ih2080 =>
      intro v2081 b2084 x2085 x2086 m2087
      refine wp_of e16 c16_5 (rw_iload_n (pc' := 6) (z := v2081) rfl rfl ?_)
      refine wp_of e16 c16_6 (rw_aload_n (pc' := 7) (v := .ref r0) rfl rfl rfl ?_)
      refine wp_of e16 c16_7 (xg_I (pc' := 10) lf_2_19 hW g0 sh_4 (by decide) (by decide) ty_4_1 rfl rfl (fun b2088 b2089 => ?_))
      refine wp_of e16 c16_10 (rw_icmp_ge (p1 := 30) (p2 := 13) (by decide) rfl ⟨Int.le_trans (by decide) b2084.1, Int.le_trans b2084.2 (by decide)⟩ ⟨Int.le_trans (by decide) b2088, Int.le_trans b2089 (by decide)⟩ (fun c2090 => ?_) (fun c2090 => ?_))
      · have := @xG_e 32 32 B n v2081 (by omega)
        exact wp_lc (ks := [1, 0]) (wl_c rfl (wl_c rfl wl_n)) rfl (by decide) (jn1504 v2081 ⟨by omega, by omega⟩ (by omega))
      · refine wp_of e16 c16_13 (rw_aload_n (pc' := 14) (v := .ref r0) rfl rfl rfl ?_)
        refine wp_of e16 c16_14 (xg_K (pc' := 17) lf_2_7 hW g0 sh_4 (by decide) (by decide) rfl qrb rfl ?_)
        refine wp_of e16 c16_17 (rw_iload_n (pc' := 18) (z := v2081) rfl rfl ?_)
        refine wp_of e16 c16_18 (xa_B (by decide) (pc' := 19) hW grb sh_2 (by decide) (ty_2 _) (b2084.1) (by omega) rfl (fun b2091 b2092 => ?_))
        have := hTP_rb (v2081.toNat) (by omega)
        refine wp_of e16 c16_19 (rw_bipush (pc' := 21) (z := 32) rfl (by decide) ?_)
        refine wp_of e16 c16_21 (rw_icmp_ne (p1 := 30) (p2 := 24) (by decide) rfl ⟨Int.le_trans (by decide) b2091, Int.le_trans b2092 (by decide)⟩ ⟨by decide, by decide⟩ (fun c2093 => ?_) (fun c2093 => ?_))
        · have := @xG_e 32 32 B n v2081 (by omega)
          exact wp_lc (ks := [1, 0]) (wl_c rfl (wl_c rfl wl_n)) rfl (by decide) (jn1504 v2081 ⟨by omega, by omega⟩ (by omega))
        · refine wp_of e16 c16_24 (rw_iinc (pc' := 27) (z := v2081) (L' := [(1, vI (v2081 + 1)), (0, .ref r0)]) rfl rfl rfl rfl ?_)
          refine wp_of e16 c16_27 (rw_goto (p1 := 5) (by decide) ?_)
          have := @xG_s 32 32 B n v2081 (by omega) (by omega) (by omega)
          exact wp_lc (ks := [1, 0]) (wl_c rfl (wl_c rfl wl_n)) rfl (by decide) (ih2080 _ (by omega) (v2081 + 1) ⟨by omega, by omega⟩ (by omega) (by omega) rfl)
  have := @xG_q 32 32 B n a (H r0 2)
  exact wp_lc (ks := [1, 0]) (wl_c rfl (wl_c rfl wl_n)) rfl (by decide) (lp2078 _ (H r0 2) ⟨b1485, b1486⟩ (by omega) (by omega) rfl)
/-! StrikeAwake$Tokens.begin([BI)V  -/
abbrev uq_15 (r0 : Nat) (r1 : Nat) (a2 : Int) (B : Nat → Int) (T : wq_T) (H : wq_H) : Option Value → wq_T → wq_H → Prop := fun r T' H' => T = T' ∧ WT T H' ∧ wfr [(4, 0), (4, 1), (4, 2), (4, 3), (4, 4), (4, 5), (4, 6)] T H H' ∧ none = r ∧ (((H' r0 0 = (r1 : Int)) ∧ TC T H' r0 B a2 (xG 32 32 B a2 0)))
set_option maxHeartbeats 4000000 in
theorem u_15 {kt : Nat → Option mc_E} {T : wq_T} {H : wq_H} {r0 : Nat} {r1 : Nat} {a2 : Int} {B : Nat → Int} (hW : WT T H) (g0 : T.2.2.2 r0 = some 4) (g1 : T.2.2.2 r1 = some 2) (i2 : 0 ≤ a2 ∧ a2 ≤ 900) (hTP_r1 : TP T H r1 B) : wpc kt 2 15 [.ref r0, .ref r1, vI a2] T H (uq_15 r0 r1 a2 B T H) := by
  refine wp_enter e15 (Nat.le_of_ble_eq_true rfl) rfl ?_
  have f0 : wfr [(4, 0), (4, 1), (4, 2), (4, 3), (4, 4), (4, 5), (4, 6)] T H H := wfr.rf
  show wp _ _ 15 0 [(0, .ref r0), (1, .ref r1), (2, vI a2)] [] _ H _
  refine wp_of e15 c15_0 (rw_aload_n (pc' := 1) (v := .ref r0) rfl rfl rfl ?_)
  refine wp_of e15 c15_1 (rw_aload_n (pc' := 2) (v := .ref r1) rfl rfl rfl ?_)
  refine wp_of e15 c15_2 (xp_R (pc' := 5) lf_2_7 hW g0 sh_4 (by decide) (by decide) rfl rfl (wok_4 ty_4_0 g1) rfl (fun H1032 e1033 w1034 => ?_))
  have f1035 := f0.put' e1033 g0 rfl
  have q1036 : H1032 r0 0 = (r1 : Int) := wq_u_s e1033
  refine wp_of e15 c15_5 (rw_aload_n (pc' := 6) (v := .ref r0) rfl rfl rfl ?_)
  refine wp_of e15 c15_6 (rw_iload_n (pc' := 7) (z := a2) rfl rfl ?_)
  refine wp_of e15 c15_7 (rw_aload_n (pc' := 8) (v := .ref r1) rfl rfl rfl ?_)
  refine wp_of e15 c15_8 (xa_N (pc' := 9) (n := 900) w1034 g1 sh_2 (by decide) rfl ?_)
  refine wp_of e15 c15_9 (rw_math2 (pc' := 12) (z := min a2 900) rfl rfl ⟨by omega, by omega⟩ ⟨by omega, by omega⟩ (Or.inl ⟨rfl, rfl⟩) (Nat.le_of_ble_eq_true rfl) rfl ?_)
  obtain ⟨v1037, e1038⟩ : ∃ x : Int, x = min a2 900 := ⟨_, rfl⟩
  rw [← e1038]
  have b1039 : v1037 = a2 ∨ v1037 = 900 := by
    rw [e1038]
    omega
  have b1040 : v1037 ≤ a2 ∧ v1037 ≤ 900 := by
    rw [e1038]
    omega
  refine wp_of e15 c15_12 (xp_I (pc' := 15) lf_2_19 w1034 g0 sh_4 (by decide) (by decide) ty_4_1 rfl rfl (by omega) (by omega) ⟨by omega, by omega⟩ rfl (fun H1041 e1042 w1043 => ?_))
  have f1044 := f1035.put' e1042 g0 rfl
  have k1045 : H1041 r0 1 = v1037 := wq_u_s e1042
  refine wp_of e15 c15_15 (rw_aload_n (pc' := 16) (v := .ref r0) rfl rfl rfl ?_)
  refine wp_of e15 c15_16 (rw_iconst (pc' := 17) rfl ?_)
  refine wp_of e15 c15_17 (xp_I (pc' := 20) lf_2_23 w1043 g0 sh_4 (by decide) (by decide) ty_4_2 rfl rfl (by decide) (by decide) ⟨by decide, by decide⟩ rfl (fun H1046 e1047 w1048 => ?_))
  have f1049 := f1044.put' e1047 g0 rfl
  have k1050 : H1046 r0 2 = 0 := wq_u_s e1047
  refine wp_of e15 c15_20 (rw_aload_n (pc' := 21) (v := .ref r0) rfl rfl rfl ?_)
  have k1051 : H1046 r0 0 = H1032 r0 0 := ((wq_u_j e1047 rfl).trans (wq_u_j e1042 rfl))
  have q1052 : H1046 r0 0 = (r1 : Int) := k1051.trans q1036
  have k1053 : H1046 r0 1 = H1041 r0 1 := (wq_u_j e1047 rfl)
  have h1054 : TP T H1046 r1 B := (TP_fr w1043 g1 ((wfr.rf (l := [(4, 2)])).put' e1047 g0 rfl) rfl (TP_fr w1034 g1 ((wfr.rf (l := [(4, 1)])).put' e1042 g0 rfl) rfl (TP_fr hW g1 ((wfr.rf (l := [(4, 0)])).put' e1033 g0 rfl) rfl hTP_r1)))
  refine wp_of e15 c15_21 (xc_V (pc' := 24) (r := r0) (as := []) (st := []) (lm_2_26) rfl rfl (Nat.le_of_ble_eq_true rfl) w1048 g0 sh_4 (by decide) rfl (by decide) (u_16 (B := B) (n := a2) (a := 0) (q := (xG 32 32 B a2 0)) w1048 g0 q1052 g1 (by omega) (by omega) (by omega) (rfl) h1054) (fun R1055 T1056 H1057 p1058 => ?_))
  obtain ⟨e1059, w1061, f1062, e1060, p1063⟩ := p1058
  subst e1059
  subst e1060
  have f1065 := f1049.tr f1062 rfl
  show wp _ _ 15 24 [(0, .ref r0), (1, .ref r1), (2, vI a2)] [] _ H1057 _
  have u1066 := TC_k p1063
  have k1067 : H1057 r0 0 = H1046 r0 0 := (f1062 r0 0 _ g0 rfl)
  have q1068 : H1057 r0 0 = (r1 : Int) := k1067.trans q1052
  exact wp_return e15 c15_24 rfl ⟨rfl, w1061, f1065, rfl, ⟨q1068, p1063⟩⟩
/-! StrikeAwake$Tokens.isWord(Ljava/lang/String;)Z  -/
abbrev uq_19 (r0 : Nat) (s1 : Nat) (kk : Int) (T : wq_T) (H : wq_H) : Option Value → wq_T → wq_H → Prop := fun r T' H' => T = T' ∧ H = H' ∧ ∃ z : Int, some (vI z) = r ∧ (0 ≤ z ∧ z ≤ 1) ∧ (((z = 1) ∧ (H r0 3 = 1 ∧ H r0 6 = kk)) ∨ ((z = 0) ∧ (H r0 3 ≠ 1 ∨ H r0 6 ≠ kk)))
set_option maxHeartbeats 4000000 in
theorem u_19 {kt : Nat → Option mc_E} {T : wq_T} {H : wq_H} {r0 : Nat} {s1 : Nat} {t1 : List Int32} {kk : Int} (hW : WT T H) (g0 : T.2.2.2 r0 = some 4) (h1 : mc_find mc_sb s1 = some t1) (p0 : wkw t1 t1.length = kk) : wpc kt 1 19 [.ref r0, .ref s1] T H (uq_19 r0 s1 kk T H) := by
  refine wp_enter e19 (Nat.le_of_ble_eq_true rfl) rfl ?_
  show wp _ _ 19 0 [(0, .ref r0), (1, .ref s1)] [] _ H _
  refine wp_of e19 c19_0 (rw_aload_n (pc' := 1) (v := .ref r0) rfl rfl rfl ?_)
  refine wp_of e19 c19_1 (xg_I (pc' := 4) lf_2_41 hW g0 sh_4 (by decide) (by decide) ty_4_3 rfl rfl (fun b1105 b1106 => ?_))
  refine wp_of e19 c19_4 (rw_iconst (pc' := 5) rfl ?_)
  refine wp_of e19 c19_5 (rw_icmp_eq (p1 := 10) (p2 := 8) (by decide) rfl ⟨Int.le_trans (by decide) b1105, Int.le_trans b1106 (by decide)⟩ ⟨by decide, by decide⟩ (fun c1107 => ?_) (fun c1107 => ?_))
  · refine wp_of e19 c19_10 (rw_lconst (pc' := 11) (z := 0) rfl rfl ?_)
    refine wp_of e19 c19_11 (rw_lstore_n (pc' := 12) (z := 0) (L' := [(2, vL 0), (0, .ref r0), (1, .ref s1)]) rfl rfl rfl ?_)
    refine wp_of e19 c19_12 (rw_iconst (pc' := 13) rfl ?_)
    refine wp_of e19 c19_13 (rw_istore (pc' := 15) (z := 0) (L' := [(4, vI 0), (2, vL 0), (0, .ref r0), (1, .ref s1)]) rfl rfl rfl ?_)
    have lp1192 : ∀ (n1193 : Nat) (v1195 : Int) (v1196 : Int), (0 ≤ v1195 ∧ v1195 ≤ 63) → ((-9223372036854775808) ≤ v1196 ∧ v1196 ≤ 9223372036854775807) → (v1196 = wkw t1 (v1195).toNat) → (v1195 ≤ (t1.length : Int)) → (63 - v1195).toNat = n1193 → wp kt 0 19 15 [(4, vI v1195), (2, vL v1196), (0, .ref r0), (1, .ref s1)] [] T H (uq_19 r0 s1 kk T H) := by
      intro n1193
      induction n1193 using Nat.strongRecOn with
      | _ n1193 ih1194 =>
        intro v1195 v1196 b1199 b1200 x1201 x1202 m1203
        refine wp_of e19 c19_15 (rw_iload (pc' := 17) (z := v1195) rfl rfl ?_)
        refine wp_of e19 c19_17 (rw_aload_n (pc' := 18) (v := .ref s1) rfl rfl rfl ?_)
        refine wp_of e19 c19_18 (rw_slen (pc' := 21) rfl rfl rfl h1 (Nat.le_of_ble_eq_true rfl) rfl ?_)
        have k1204 := (mc_sb_k h1).2.1
        show wp _ _ 19 21 [(4, vI v1195), (2, vL v1196), (0, .ref r0), (1, .ref s1)] [vI ((t1.length : Int)), vI v1195] _ H _
        refine wp_of e19 c19_21 (rw_icmp_ge (p1 := 49) (p2 := 24) (by decide) rfl ⟨Int.le_trans (by decide) b1199.1, Int.le_trans b1199.2 (by decide)⟩ ⟨by omega, by omega⟩ (fun c1205 => ?_) (fun c1205 => ?_))
        · have : wkw t1 (v1195).toNat = kk := by
            rw [show (v1195).toNat = t1.length by omega]
            exact p0
          refine wp_of e19 c19_49 (rw_lload_n (pc' := 50) (z := v1196) rfl rfl ?_)
          refine wp_of e19 c19_50 (rw_aload_n (pc' := 51) (v := .ref r0) rfl rfl rfl ?_)
          refine wp_of e19 c19_51 (xg_L (pc' := 54) lf_2_32 hW g0 sh_4 (by decide) (by decide) ty_4_6 rfl rfl (fun b1206 b1207 => ?_))
          refine wp_of e19 c19_54 (rw_lcmp (pc' := 55) rfl ⟨b1200.1, b1200.2⟩ ⟨b1206, b1207⟩ ?_)
          have b1208 := wq_cmp_b v1196 (H r0 6)
          refine wp_of e19 c19_55 (rw_if_ne (p1 := 62) (p2 := 58) (by decide) rfl ⟨by omega, by omega⟩ (fun c1209 => ?_) (fun c1209 => ?_))
          · refine wp_of e19 c19_62 (rw_iconst (pc' := 63) rfl ?_)
            exact wp_zreturn e19 c19_63 rfl (by omega) ⟨rfl, rfl, 0, rfl, ⟨by decide, by decide⟩, (Or.inr ⟨by omega, by omega⟩)⟩
          · refine wp_of e19 c19_58 (rw_iconst (pc' := 59) rfl ?_)
            refine wp_of e19 c19_59 (rw_goto (p1 := 63) (by decide) ?_)
            exact wp_zreturn e19 c19_63 rfl (by omega) ⟨rfl, rfl, 1, rfl, ⟨by decide, by decide⟩, (Or.inl ⟨by omega, by omega⟩)⟩
        · refine wp_of e19 c19_24 (rw_lload_n (pc' := 25) (z := v1196) rfl rfl ?_)
          refine wp_of e19 c19_25 (rw_ldc2 (pc' := 28) (z := 32) rfl rfl rfl ?_)
          refine wp_of e19 c19_28 (rw_lmulw (pc' := 29) rfl ?_)
          obtain ⟨v1210, e1211⟩ : ∃ x : Int, x = wl_w (v1196 * 32) := ⟨_, rfl⟩
          rw [← e1211]
          have b1212 : -9223372036854775808 ≤ v1210 ∧ v1210 ≤ 9223372036854775807 := by
            rw [e1211]
            exact wL_w _
          have b1213 : (-9223372036854775808 ≤ v1196 * 32 ∧ v1196 * 32 ≤ 9223372036854775807) → v1210 = v1196 * 32 := fun h => by rw [e1211]; exact wl_w_id h
          refine wp_of e19 c19_29 (rw_aload_n (pc' := 30) (v := .ref s1) rfl rfl rfl ?_)
          refine wp_of e19 c19_30 (rw_iload (pc' := 32) (z := v1195) rfl rfl ?_)
          refine wp_of e19 c19_32 (rw_schr (pc' := 35) rfl rfl rfl h1 (by omega) (by omega) (Nat.le_of_ble_eq_true rfl) rfl ?_)
          obtain ⟨v1214, e1215⟩ : ∃ x : Int, x = (t1.getD (v1195).toNat 0).toInt := ⟨_, rfl⟩
          rw [← e1215]
          have b1216 : -2147483648 ≤ v1214 ∧ v1214 ≤ 2147483647 := by
            rw [e1215]
            exact wI_of _
          refine wp_of e19 c19_35 (rw_bipush (pc' := 37) (z := 97) rfl (by decide) ?_)
          refine wp_of e19 c19_37 (rw_isubw (pc' := 38) rfl ?_)
          obtain ⟨v1217, e1218⟩ : ∃ x : Int, x = wq_w (v1214 - 97) := ⟨_, rfl⟩
          rw [← e1218]
          have b1219 : -2147483648 ≤ v1217 ∧ v1217 ≤ 2147483647 := by
            rw [e1218]
            exact wI_w _
          have b1220 : (-2147483648 ≤ v1214 - 97 ∧ v1214 - 97 ≤ 2147483647) → v1217 = v1214 - 97 := fun h => by rw [e1218]; exact wq_w_id h
          refine wp_of e19 c19_38 (rw_iconst (pc' := 39) rfl ?_)
          refine wp_of e19 c19_39 (rw_iaddw (pc' := 40) rfl ?_)
          obtain ⟨v1221, e1222⟩ : ∃ x : Int, x = wq_w (v1217 + 1) := ⟨_, rfl⟩
          rw [← e1222]
          have b1223 : -2147483648 ≤ v1221 ∧ v1221 ≤ 2147483647 := by
            rw [e1222]
            exact wI_w _
          have b1224 : (-2147483648 ≤ v1217 + 1 ∧ v1217 + 1 ≤ 2147483647) → v1221 = v1217 + 1 := fun h => by rw [e1222]; exact wq_w_id h
          refine wp_of e19 c19_40 (rw_i2l (pc' := 41) rfl ⟨b1223.1, b1223.2⟩ ?_)
          refine wp_of e19 c19_41 (rw_laddw (pc' := 42) rfl ?_)
          obtain ⟨v1225, e1226⟩ : ∃ x : Int, x = wl_w (v1210 + v1221) := ⟨_, rfl⟩
          rw [← e1226]
          have b1227 : -9223372036854775808 ≤ v1225 ∧ v1225 ≤ 9223372036854775807 := by
            rw [e1226]
            exact wL_w _
          have b1228 : (-9223372036854775808 ≤ v1210 + v1221 ∧ v1210 + v1221 ≤ 9223372036854775807) → v1225 = v1210 + v1221 := fun h => by rw [e1226]; exact wl_w_id h
          refine wp_of e19 c19_42 (rw_lstore_n (pc' := 43) (z := v1225) (L' := [(2, vL v1225), (4, vI v1195), (0, .ref r0), (1, .ref s1)]) rfl rfl rfl ?_)
          refine wp_of e19 c19_43 (rw_iinc (pc' := 46) (z := v1195) (L' := [(4, vI (v1195 + 1)), (2, vL v1225), (0, .ref r0), (1, .ref s1)]) rfl rfl rfl rfl ?_)
          refine wp_of e19 c19_46 (rw_goto (p1 := 15) (by decide) ?_)
          have : wkw t1 (v1195 + 1).toNat = v1225 := by
            subst_vars
            exact wkw_s (by omega)
          exact wp_lc (ks := [4, 2, 0, 1]) (wl_c rfl (wl_c rfl (wl_c rfl (wl_c rfl wl_n)))) rfl (by decide) (ih1194 _ (by omega) (v1195 + 1) v1225 ⟨by omega, by omega⟩ ⟨b1227.1, b1227.2⟩ (by omega) (by omega) rfl)
    have : wkw t1 (0 : Int).toNat = 0 := rfl
    exact wp_lc (ks := [4, 2, 0, 1]) (wl_c rfl (wl_c rfl (wl_c rfl (wl_c rfl wl_n)))) rfl (by decide) (lp1192 _ 0 0 ⟨by decide, by decide⟩ ⟨by decide, by decide⟩ (by omega) (by omega) rfl)
  · refine wp_of e19 c19_8 (rw_iconst (pc' := 9) rfl ?_)
    exact wp_zreturn e19 c19_9 rfl (by omega) ⟨rfl, rfl, 0, rfl, ⟨by decide, by decide⟩, (Or.inr ⟨by omega, by omega⟩)⟩
/-! StrikeAwake$Tokens.isWord(Ljava/lang/String;)Z t -/
abbrev uq_19_t (r0 : Nat) (s1 : Nat) (B : Nat → Int) (n : Int) (q : Int) (kk : Int) (T : wq_T) (H : wq_H) : Option Value → wq_T → wq_H → Prop := fun r T' H' => T = T' ∧ H = H' ∧ ∃ z : Int, some (vI z) = r ∧ (0 ≤ z ∧ z ≤ 1) ∧ (((z = 1) ∧ (xw B n q kk = 0)) ∨ ((z = 0) ∧ (xw B n q kk = 1)))
set_option maxHeartbeats 4000000 in
theorem u_19_t {kt : Nat → Option mc_E} {T : wq_T} {H : wq_H} {r0 : Nat} {s1 : Nat} {t1 : List Int32} {B : Nat → Int} {n : Int} {q : Int} {kk : Int} (hW : WT T H) (g0 : T.2.2.2 r0 = some 4) (h1 : mc_find mc_sb s1 = some t1) (p0 : wkw t1 t1.length = kk) (hTC_r0 : TC T H r0 B n q) : wpc kt 1 19 [.ref r0, .ref s1] T H (uq_19_t r0 s1 B n q kk T H) := by
  refine wp_enter e19 (Nat.le_of_ble_eq_true rfl) rfl ?_
  show wp _ _ 19 0 [(0, .ref r0), (1, .ref s1)] [] _ H _
  have u1105 := TC_k hTC_r0
  have _i := TC_i hTC_r0
  have _w := @xw_b B n q kk
  refine wp_of e19 c19_0 (rw_aload_n (pc' := 1) (v := .ref r0) rfl rfl rfl ?_)
  refine wp_of e19 c19_1 (xg_I (pc' := 4) lf_2_41 hW g0 sh_4 (by decide) (by decide) ty_4_3 rfl rfl (fun b1106 b1107 => ?_))
  refine wp_of e19 c19_4 (rw_iconst (pc' := 5) rfl ?_)
  refine wp_of e19 c19_5 (rw_icmp_eq (p1 := 10) (p2 := 8) (by decide) rfl ⟨Int.le_trans (by decide) b1106, Int.le_trans b1107 (by decide)⟩ ⟨by decide, by decide⟩ (fun c1108 => ?_) (fun c1108 => ?_))
  · refine wp_of e19 c19_10 (rw_lconst (pc' := 11) (z := 0) rfl rfl ?_)
    refine wp_of e19 c19_11 (rw_lstore_n (pc' := 12) (z := 0) (L' := [(2, vL 0), (0, .ref r0), (1, .ref s1)]) rfl rfl rfl ?_)
    refine wp_of e19 c19_12 (rw_iconst (pc' := 13) rfl ?_)
    refine wp_of e19 c19_13 (rw_istore (pc' := 15) (z := 0) (L' := [(4, vI 0), (2, vL 0), (0, .ref r0), (1, .ref s1)]) rfl rfl rfl ?_)
    have lp1193 : ∀ (n1194 : Nat) (v1196 : Int) (v1197 : Int), (0 ≤ v1196 ∧ v1196 ≤ 63) → ((-9223372036854775808) ≤ v1197 ∧ v1197 ≤ 9223372036854775807) → (v1197 = wkw t1 (v1196).toNat) → (v1196 ≤ (t1.length : Int)) → (63 - v1196).toNat = n1194 → wp kt 0 19 15 [(4, vI v1196), (2, vL v1197), (0, .ref r0), (1, .ref s1)] [] T H (uq_19_t r0 s1 B n q kk T H) := by
      intro n1194
      induction n1194 using Nat.strongRecOn with
      | _ n1194 ih1195 =>
        intro v1196 v1197 b1200 b1201 x1202 x1203 m1204
        refine wp_of e19 c19_15 (rw_iload (pc' := 17) (z := v1196) rfl rfl ?_)
        refine wp_of e19 c19_17 (rw_aload_n (pc' := 18) (v := .ref s1) rfl rfl rfl ?_)
        refine wp_of e19 c19_18 (rw_slen (pc' := 21) rfl rfl rfl h1 (Nat.le_of_ble_eq_true rfl) rfl ?_)
        have k1205 := (mc_sb_k h1).2.1
        show wp _ _ 19 21 [(4, vI v1196), (2, vL v1197), (0, .ref r0), (1, .ref s1)] [vI ((t1.length : Int)), vI v1196] _ H _
        refine wp_of e19 c19_21 (rw_icmp_ge (p1 := 49) (p2 := 24) (by decide) rfl ⟨Int.le_trans (by decide) b1200.1, Int.le_trans b1200.2 (by decide)⟩ ⟨by omega, by omega⟩ (fun c1206 => ?_) (fun c1206 => ?_))
        · have : wkw t1 (v1196).toNat = kk := by
            rw [show (v1196).toNat = t1.length by omega]
            exact p0
          refine wp_of e19 c19_49 (rw_lload_n (pc' := 50) (z := v1197) rfl rfl ?_)
          refine wp_of e19 c19_50 (rw_aload_n (pc' := 51) (v := .ref r0) rfl rfl rfl ?_)
          refine wp_of e19 c19_51 (xg_L (pc' := 54) lf_2_32 hW g0 sh_4 (by decide) (by decide) ty_4_6 rfl rfl (fun b1207 b1208 => ?_))
          refine wp_of e19 c19_54 (rw_lcmp (pc' := 55) rfl ⟨b1201.1, b1201.2⟩ ⟨b1207, b1208⟩ ?_)
          have b1209 := wq_cmp_b v1197 (H r0 6)
          refine wp_of e19 c19_55 (rw_if_ne (p1 := 62) (p2 := 58) (by decide) rfl ⟨by omega, by omega⟩ (fun c1210 => ?_) (fun c1210 => ?_))
          · refine wp_of e19 c19_62 (rw_iconst (pc' := 63) rfl ?_)
            exact wp_zreturn e19 c19_63 rfl (by omega) ⟨rfl, rfl, 0, rfl, ⟨by decide, by decide⟩, (Or.inr ⟨by omega, by omega⟩)⟩
          · refine wp_of e19 c19_58 (rw_iconst (pc' := 59) rfl ?_)
            refine wp_of e19 c19_59 (rw_goto (p1 := 63) (by decide) ?_)
            exact wp_zreturn e19 c19_63 rfl (by omega) ⟨rfl, rfl, 1, rfl, ⟨by decide, by decide⟩, (Or.inl ⟨by omega, by omega⟩)⟩
        · refine wp_of e19 c19_24 (rw_lload_n (pc' := 25) (z := v1197) rfl rfl ?_)
          refine wp_of e19 c19_25 (rw_ldc2 (pc' := 28) (z := 32) rfl rfl rfl ?_)
          refine wp_of e19 c19_28 (rw_lmulw (pc' := 29) rfl ?_)
          obtain ⟨v1211, e1212⟩ : ∃ x : Int, x = wl_w (v1197 * 32) := ⟨_, rfl⟩
          rw [← e1212]
          have b1213 : -9223372036854775808 ≤ v1211 ∧ v1211 ≤ 9223372036854775807 := by
            rw [e1212]
            exact wL_w _
          have b1214 : (-9223372036854775808 ≤ v1197 * 32 ∧ v1197 * 32 ≤ 9223372036854775807) → v1211 = v1197 * 32 := fun h => by rw [e1212]; exact wl_w_id h
          refine wp_of e19 c19_29 (rw_aload_n (pc' := 30) (v := .ref s1) rfl rfl rfl ?_)
          refine wp_of e19 c19_30 (rw_iload (pc' := 32) (z := v1196) rfl rfl ?_)
          refine wp_of e19 c19_32 (rw_schr (pc' := 35) rfl rfl rfl h1 (by omega) (by omega) (Nat.le_of_ble_eq_true rfl) rfl ?_)
          obtain ⟨v1215, e1216⟩ : ∃ x : Int, x = (t1.getD (v1196).toNat 0).toInt := ⟨_, rfl⟩
          rw [← e1216]
          have b1217 : -2147483648 ≤ v1215 ∧ v1215 ≤ 2147483647 := by
            rw [e1216]
            exact wI_of _
          refine wp_of e19 c19_35 (rw_bipush (pc' := 37) (z := 97) rfl (by decide) ?_)
          refine wp_of e19 c19_37 (rw_isubw (pc' := 38) rfl ?_)
          obtain ⟨v1218, e1219⟩ : ∃ x : Int, x = wq_w (v1215 - 97) := ⟨_, rfl⟩
          rw [← e1219]
          have b1220 : -2147483648 ≤ v1218 ∧ v1218 ≤ 2147483647 := by
            rw [e1219]
            exact wI_w _
          have b1221 : (-2147483648 ≤ v1215 - 97 ∧ v1215 - 97 ≤ 2147483647) → v1218 = v1215 - 97 := fun h => by rw [e1219]; exact wq_w_id h
          refine wp_of e19 c19_38 (rw_iconst (pc' := 39) rfl ?_)
          refine wp_of e19 c19_39 (rw_iaddw (pc' := 40) rfl ?_)
          obtain ⟨v1222, e1223⟩ : ∃ x : Int, x = wq_w (v1218 + 1) := ⟨_, rfl⟩
          rw [← e1223]
          have b1224 : -2147483648 ≤ v1222 ∧ v1222 ≤ 2147483647 := by
            rw [e1223]
            exact wI_w _
          have b1225 : (-2147483648 ≤ v1218 + 1 ∧ v1218 + 1 ≤ 2147483647) → v1222 = v1218 + 1 := fun h => by rw [e1223]; exact wq_w_id h
          refine wp_of e19 c19_40 (rw_i2l (pc' := 41) rfl ⟨b1224.1, b1224.2⟩ ?_)
          refine wp_of e19 c19_41 (rw_laddw (pc' := 42) rfl ?_)
          obtain ⟨v1226, e1227⟩ : ∃ x : Int, x = wl_w (v1211 + v1222) := ⟨_, rfl⟩
          rw [← e1227]
          have b1228 : -9223372036854775808 ≤ v1226 ∧ v1226 ≤ 9223372036854775807 := by
            rw [e1227]
            exact wL_w _
          have b1229 : (-9223372036854775808 ≤ v1211 + v1222 ∧ v1211 + v1222 ≤ 9223372036854775807) → v1226 = v1211 + v1222 := fun h => by rw [e1227]; exact wl_w_id h
          refine wp_of e19 c19_42 (rw_lstore_n (pc' := 43) (z := v1226) (L' := [(2, vL v1226), (4, vI v1196), (0, .ref r0), (1, .ref s1)]) rfl rfl rfl ?_)
          refine wp_of e19 c19_43 (rw_iinc (pc' := 46) (z := v1196) (L' := [(4, vI (v1196 + 1)), (2, vL v1226), (0, .ref r0), (1, .ref s1)]) rfl rfl rfl rfl ?_)
          refine wp_of e19 c19_46 (rw_goto (p1 := 15) (by decide) ?_)
          have : wkw t1 (v1196 + 1).toNat = v1226 := by
            subst_vars
            exact wkw_s (by omega)
          exact wp_lc (ks := [4, 2, 0, 1]) (wl_c rfl (wl_c rfl (wl_c rfl (wl_c rfl wl_n)))) rfl (by decide) (ih1195 _ (by omega) (v1196 + 1) v1226 ⟨by omega, by omega⟩ ⟨b1228.1, b1228.2⟩ (by omega) (by omega) rfl)
    have : wkw t1 (0 : Int).toNat = 0 := rfl
    exact wp_lc (ks := [4, 2, 0, 1]) (wl_c rfl (wl_c rfl (wl_c rfl (wl_c rfl wl_n)))) rfl (by decide) (lp1193 _ 0 0 ⟨by decide, by decide⟩ ⟨by decide, by decide⟩ (by omega) (by omega) rfl)
  · refine wp_of e19 c19_8 (rw_iconst (pc' := 9) rfl ?_)
    exact wp_zreturn e19 c19_9 rfl (by omega) ⟨rfl, rfl, 0, rfl, ⟨by decide, by decide⟩, (Or.inr ⟨by omega, by omega⟩)⟩
/-! StrikeAwake$Reader.fail(I)Z  -/
abbrev uq_20 (r0 : Nat) (a1 : Int) (tk : Nat) (T : wq_T) (H : wq_H) : Option Value → wq_T → wq_H → Prop := fun r T' H' => T = T' ∧ WT T H' ∧ wfr [(3, 3), (3, 4)] T H H' ∧ ∃ z : Int, some (vI z) = r ∧ (0 ≤ z ∧ z ≤ 1) ∧ (((z = 0) ∧ (H' r0 3 = a1) ∧ (H' r0 4 = H tk 4)))
set_option maxHeartbeats 4000000 in
theorem u_20 {kt : Nat → Option mc_E} {T : wq_T} {H : wq_H} {r0 : Nat} {a1 : Int} {tk : Nat} (hW : WT T H) (g0 : T.2.2.2 r0 = some 3) (i1 : (-2147483648) ≤ a1 ∧ a1 ≤ 2147483647) (qtk : H r0 0 = (tk : Int)) (gtk : T.2.2.2 tk = some 4) : wpc kt 1 20 [.ref r0, vI a1] T H (uq_20 r0 a1 tk T H) := by
  refine wp_enter e20 (Nat.le_of_ble_eq_true rfl) rfl ?_
  have f0 : wfr [(3, 3), (3, 4)] T H H := wfr.rf
  show wp _ _ 20 0 [(0, .ref r0), (1, vI a1)] [] _ H _
  refine wp_of e20 c20_0 (rw_aload_n (pc' := 1) (v := .ref r0) rfl rfl rfl ?_)
  refine wp_of e20 c20_1 (rw_iload_n (pc' := 2) (z := a1) rfl rfl ?_)
  refine wp_of e20 c20_2 (xp_I (pc' := 5) lf_1_18 hW g0 sh_3 (by decide) (by decide) ty_3_3 rfl rfl (i1.1) (i1.2) ⟨i1.1, i1.2⟩ rfl (fun H1016 e1017 w1018 => ?_))
  have f1019 := f0.put' e1017 g0 rfl
  have k1020 : H1016 r0 3 = a1 := wq_u_s e1017
  refine wp_of e20 c20_5 (rw_aload_n (pc' := 6) (v := .ref r0) rfl rfl rfl ?_)
  refine wp_of e20 c20_6 (rw_aload_n (pc' := 7) (v := .ref r0) rfl rfl rfl ?_)
  have k1021 : H1016 r0 0 = H r0 0 := (wq_u_j e1017 rfl)
  have q1022 : H1016 r0 0 = (tk : Int) := k1021.trans qtk
  refine wp_of e20 c20_7 (xg_K (pc' := 10) lf_1_12 w1018 g0 sh_3 (by decide) (by decide) rfl q1022 rfl ?_)
  have k1023 : H1016 tk 4 = H tk 4 := (wq_u_t e1017 g0 gtk rfl 4)
  refine wp_of e20 c20_10 (xg_I (pc' := 13) lf_1_257 w1018 gtk sh_4 (by decide) (by decide) ty_4_4 rfl rfl (fun b1024 b1025 => ?_))
  refine wp_of e20 c20_13 (xp_I (pc' := 16) lf_1_22 w1018 g0 sh_3 (by decide) (by decide) ty_3_4 rfl rfl (Int.le_trans (by decide) b1024) (Int.le_trans b1025 (by decide)) ⟨Int.le_trans (by decide) b1024, Int.le_trans b1025 (by decide)⟩ rfl (fun H1026 e1027 w1028 => ?_))
  have f1029 := f1019.put' e1027 g0 rfl
  have k1030 : H1026 r0 4 = H1016 tk 4 := wq_u_s e1027
  refine wp_of e20 c20_16 (rw_iconst (pc' := 17) rfl ?_)
  have k1031 : H1026 r0 3 = H1016 r0 3 := (wq_u_j e1027 rfl)
  exact wp_zreturn e20 c20_17 rfl (by omega) ⟨rfl, w1028, f1029, 0, rfl, ⟨by decide, by decide⟩, ⟨by omega, by omega, by omega⟩⟩
/-! StrikeAwake$Reader.reserved()LStrikeAwake$Reserved;  -/
abbrev uq_18 (r0 : Nat) (tk : Nat) (rb : Nat) (B : Nat → Int) (n : Int) (q : Int) (T : wq_T) (H : wq_H) : Option Value → wq_T → wq_H → Prop := fun r T' H' => T = T' ∧ H = H' ∧ ((some .null = r ∧ (xre B n q ≥ 11)) ∨ ∃ b : Nat, some (.ref b) = r ∧ 16 ≤ b ∧ b < 27 ∧ (xre B n q = (b : Int) - 16))
set_option maxHeartbeats 4000000 in
theorem u_18 {kt : Nat → Option mc_E} {T : wq_T} {H : wq_H} {r0 : Nat} {tk : Nat} {rb : Nat} {B : Nat → Int} {n : Int} {q : Int} (hW : WT T H) (g0 : T.2.2.2 r0 = some 3) (qtk : H r0 0 = (tk : Int)) (gtk : T.2.2.2 tk = some 4) (qrb : H tk 0 = (rb : Int)) (grb : T.2.2.2 rb = some 2) (hTC_tk : TC T H tk B n q) : wpc kt 2 18 [.ref r0] T H (uq_18 r0 tk rb B n q T H) := by
  refine wp_enter e18 (Nat.le_of_ble_eq_true rfl) rfl ?_
  show wp _ _ 18 0 [(0, .ref r0)] [] _ H _
  have u2015 := TC_k hTC_tk
  have _x := @xre_b B n q
  have _i := TC_i hTC_tk
  refine wp_of e18 c18_0 (rw_iconst (pc' := 1) rfl ?_)
  refine wp_of e18 c18_1 (rw_istore_n (pc' := 2) (z := 0) (L' := [(1, vI 0), (0, .ref r0)]) rfl rfl rfl ?_)
  have lp2795 : ∀ (n2796 : Nat) (v2798 : Int), (0 ≤ v2798 ∧ v2798 ≤ 11) → (v2798 ≤ xre B n q) → (11 - v2798).toNat = n2796 → wp kt 1 18 2 [(1, vI v2798), (0, .ref r0)] [] T H (uq_18 r0 tk rb B n q T H) := by
    intro n2796
    induction n2796 using Nat.strongRecOn with
    | _ n2796 ih2797 =>
      intro v2798 b2801 x2802 m2803
      refine wp_of e18 c18_2 (rw_iload_n (pc' := 3) (z := v2798) rfl rfl ?_)
      refine wp_of e18 c18_3 (rw_gs (pc' := 6) (k := 1) rfl rfl rfl rfl ?_)
      refine wp_of e18 c18_6 (rw_alen (pc' := 7) (n := 11) (hW.sh hW.1.1 rfl) (by decide) rfl ?_)
      refine wp_of e18 c18_7 (rw_icmp_ge (p1 := 40) (p2 := 10) (by decide) rfl ⟨Int.le_trans (by decide) b2801.1, Int.le_trans b2801.2 (by decide)⟩ ⟨by decide, by decide⟩ (fun c2804 => ?_) (fun c2804 => ?_))
      · refine wp_of e18 c18_40 (rw_null (pc' := 41) rfl ?_)
        exact wp_areturn e18 c18_41 rfl rfl ⟨rfl, rfl, Or.inl ⟨rfl, by omega⟩⟩
      · refine wp_of e18 c18_10 (rw_aload_n (pc' := 11) (v := .ref r0) rfl rfl rfl ?_)
        refine wp_of e18 c18_11 (xg_K (pc' := 14) lf_1_12 hW g0 sh_3 (by decide) (by decide) rfl qtk rfl ?_)
        refine wp_of e18 c18_14 (rw_gs (pc' := 17) (k := 1) rfl rfl rfl rfl ?_)
        refine wp_of e18 c18_17 (rw_iload_n (pc' := 18) (z := v2798) rfl rfl ?_)
        have c2806 : v2798 = 0 ∨ v2798 = 1 ∨ v2798 = 2 ∨ v2798 = 3 ∨ v2798 = 4 ∨ v2798 = 5 ∨ v2798 = 6 ∨ v2798 = 7 ∨ v2798 = 8 ∨ v2798 = 9 ∨ v2798 = 10 := by omega
        rcases c2806 with c2806 | c2806 | c2806 | c2806 | c2806 | c2806 | c2806 | c2806 | c2806 | c2806 | c2806
        · subst c2806
          have k2808 : H 1 (0 : Int).toNat = ((16 : Nat) : Int) := (hW.2 1 _ hW.1.1).2.2 0 (by decide) |> fun z => by have z1 : (16 : Int) ≤ H 1 0 ∧ H 1 0 ≤ 16 := z; exact Int.le_antisymm z1.2 z1.1
          refine wp_of e18 c18_18 (rw_aaload (pc' := 19) (n := 11) (b := 16) (hW.sh hW.1.1 rfl) (by decide) (by decide) (by decide) rfl k2808 rfl ?_)
          have k2809 : H 16 0 = ((32 : Nat) : Int) := (hW.2 16 _ (hW.1.2.2 0 (by decide))).2.2 0 (by decide) |> fun z => by have z1 : (32 : Int) ≤ H 16 0 ∧ H 16 0 ≤ 32 := z; omega
          refine wp_of e18 c18_19 (rw_getR (pc' := 22) (n := 2) (b := 32) (e := _) (lf_1_181).choose_spec.1 (lf_1_181).choose_spec.2.1 (hW.sh (hW.1.2.2 0 (by decide)) rfl) (by decide) rfl k2809 rfl ?_)
          refine wp_of e18 c18_22 (xc_V (pc' := 25) (r := tk) (as := [.ref 32]) (st := []) (lm_1_185) rfl rfl (Nat.le_of_ble_eq_true rfl) hW gtk sh_4 (by decide) rfl (by decide) (u_19 (kk := 12343) hW gtk rfl (by decide +kernel)) (fun R2810 T2811 H2812 p2813 => ?_))
          obtain ⟨e2814, e2816, z2817, e2815, b2818, p2819⟩ := p2813
          subst e2814
          subst e2815
          subst e2816
          rcases p2819 with ⟨a2820, a2821⟩ | ⟨a2822, a2823⟩
          · show wp _ _ 18 25 [(1, vI 0), (0, .ref r0)] [vI z2817] _ H _
            refine wp_of e18 c18_25 (rw_if_eq (p1 := 34) (p2 := 28) (by decide) rfl ⟨Int.le_trans (by decide) b2818.1, Int.le_trans b2818.2 (by decide)⟩ (fun c2824 => ?_) (fun c2824 => ?_))
            · exfalso
              omega
            · have := @xre_le B n q 0 12343 rfl (by decide)
              refine wp_of e18 c18_28 (rw_gs (pc' := 31) (k := 1) rfl rfl rfl rfl ?_)
              refine wp_of e18 c18_31 (rw_iload_n (pc' := 32) (z := 0) rfl rfl ?_)
              have k2826 : H 1 (0 : Int).toNat = ((16 : Nat) : Int) := (hW.2 1 _ hW.1.1).2.2 0 (by decide) |> fun z => by have z1 : (16 : Int) ≤ H 1 0 ∧ H 1 0 ≤ 16 := z; exact Int.le_antisymm z1.2 z1.1
              refine wp_of e18 c18_32 (rw_aaload (pc' := 33) (n := 11) (b := 16) (hW.sh hW.1.1 rfl) (by decide) (by decide) (by decide) rfl k2826 rfl ?_)
              exact wp_areturn e18 c18_33 rfl rfl ⟨rfl, rfl, Or.inr ⟨16, rfl, by decide, by decide, by omega⟩⟩
          · show wp _ _ 18 25 [(1, vI 0), (0, .ref r0)] [vI z2817] _ H _
            refine wp_of e18 c18_25 (rw_if_eq (p1 := 34) (p2 := 28) (by decide) rfl ⟨Int.le_trans (by decide) b2818.1, Int.le_trans b2818.2 (by decide)⟩ (fun c2827 => ?_) (fun c2827 => ?_))
            · have := @xre_at B n q 0 12343 rfl (by decide)
              refine wp_of e18 c18_34 (rw_iinc (pc' := 37) (z := 0) (L' := [(1, vI (0 + 1)), (0, .ref r0)]) rfl rfl rfl rfl ?_)
              refine wp_of e18 c18_37 (rw_goto (p1 := 2) (by decide) ?_)
              exact wp_lc (ks := [1, 0]) (wl_c rfl (wl_c rfl wl_n)) rfl (by decide) (ih2797 _ (by omega) (0 + 1) ⟨by omega, by omega⟩ (by omega) rfl)
            · exfalso
              omega
        · subst c2806
          have k2829 : H 1 (1 : Int).toNat = ((17 : Nat) : Int) := (hW.2 1 _ hW.1.1).2.2 1 (by decide) |> fun z => by have z1 : (17 : Int) ≤ H 1 1 ∧ H 1 1 ≤ 17 := z; exact Int.le_antisymm z1.2 z1.1
          refine wp_of e18 c18_18 (rw_aaload (pc' := 19) (n := 11) (b := 17) (hW.sh hW.1.1 rfl) (by decide) (by decide) (by decide) rfl k2829 rfl ?_)
          have k2830 : H 17 0 = ((33 : Nat) : Int) := (hW.2 17 _ (hW.1.2.2 1 (by decide))).2.2 0 (by decide) |> fun z => by have z1 : (33 : Int) ≤ H 17 0 ∧ H 17 0 ≤ 33 := z; omega
          refine wp_of e18 c18_19 (rw_getR (pc' := 22) (n := 2) (b := 33) (e := _) (lf_1_181).choose_spec.1 (lf_1_181).choose_spec.2.1 (hW.sh (hW.1.2.2 1 (by decide)) rfl) (by decide) rfl k2830 rfl ?_)
          refine wp_of e18 c18_22 (xc_V (pc' := 25) (r := tk) (as := [.ref 33]) (st := []) (lm_1_185) rfl rfl (Nat.le_of_ble_eq_true rfl) hW gtk sh_4 (by decide) rfl (by decide) (u_19 (kk := 542723566) hW gtk rfl (by decide +kernel)) (fun R2831 T2832 H2833 p2834 => ?_))
          obtain ⟨e2835, e2837, z2838, e2836, b2839, p2840⟩ := p2834
          subst e2835
          subst e2836
          subst e2837
          rcases p2840 with ⟨a2841, a2842⟩ | ⟨a2843, a2844⟩
          · show wp _ _ 18 25 [(1, vI 1), (0, .ref r0)] [vI z2838] _ H _
            refine wp_of e18 c18_25 (rw_if_eq (p1 := 34) (p2 := 28) (by decide) rfl ⟨Int.le_trans (by decide) b2839.1, Int.le_trans b2839.2 (by decide)⟩ (fun c2845 => ?_) (fun c2845 => ?_))
            · exfalso
              omega
            · have := @xre_le B n q 1 542723566 rfl (by decide)
              refine wp_of e18 c18_28 (rw_gs (pc' := 31) (k := 1) rfl rfl rfl rfl ?_)
              refine wp_of e18 c18_31 (rw_iload_n (pc' := 32) (z := 1) rfl rfl ?_)
              have k2847 : H 1 (1 : Int).toNat = ((17 : Nat) : Int) := (hW.2 1 _ hW.1.1).2.2 1 (by decide) |> fun z => by have z1 : (17 : Int) ≤ H 1 1 ∧ H 1 1 ≤ 17 := z; exact Int.le_antisymm z1.2 z1.1
              refine wp_of e18 c18_32 (rw_aaload (pc' := 33) (n := 11) (b := 17) (hW.sh hW.1.1 rfl) (by decide) (by decide) (by decide) rfl k2847 rfl ?_)
              exact wp_areturn e18 c18_33 rfl rfl ⟨rfl, rfl, Or.inr ⟨17, rfl, by decide, by decide, by omega⟩⟩
          · show wp _ _ 18 25 [(1, vI 1), (0, .ref r0)] [vI z2838] _ H _
            refine wp_of e18 c18_25 (rw_if_eq (p1 := 34) (p2 := 28) (by decide) rfl ⟨Int.le_trans (by decide) b2839.1, Int.le_trans b2839.2 (by decide)⟩ (fun c2848 => ?_) (fun c2848 => ?_))
            · have := @xre_at B n q 1 542723566 rfl (by decide)
              refine wp_of e18 c18_34 (rw_iinc (pc' := 37) (z := 1) (L' := [(1, vI (1 + 1)), (0, .ref r0)]) rfl rfl rfl rfl ?_)
              refine wp_of e18 c18_37 (rw_goto (p1 := 2) (by decide) ?_)
              exact wp_lc (ks := [1, 0]) (wl_c rfl (wl_c rfl wl_n)) rfl (by decide) (ih2797 _ (by omega) (1 + 1) ⟨by omega, by omega⟩ (by omega) rfl)
            · exfalso
              omega
        · subst c2806
          have k2850 : H 1 (2 : Int).toNat = ((18 : Nat) : Int) := (hW.2 1 _ hW.1.1).2.2 2 (by decide) |> fun z => by have z1 : (18 : Int) ≤ H 1 2 ∧ H 1 2 ≤ 18 := z; exact Int.le_antisymm z1.2 z1.1
          refine wp_of e18 c18_18 (rw_aaload (pc' := 19) (n := 11) (b := 18) (hW.sh hW.1.1 rfl) (by decide) (by decide) (by decide) rfl k2850 rfl ?_)
          have k2851 : H 18 0 = ((34 : Nat) : Int) := (hW.2 18 _ (hW.1.2.2 2 (by decide))).2.2 0 (by decide) |> fun z => by have z1 : (34 : Int) ≤ H 18 0 ∧ H 18 0 ≤ 34 := z; omega
          refine wp_of e18 c18_19 (rw_getR (pc' := 22) (n := 2) (b := 34) (e := _) (lf_1_181).choose_spec.1 (lf_1_181).choose_spec.2.1 (hW.sh (hW.1.2.2 2 (by decide)) rfl) (by decide) rfl k2851 rfl ?_)
          refine wp_of e18 c18_22 (xc_V (pc' := 25) (r := tk) (as := [.ref 34]) (st := []) (lm_1_185) rfl rfl (Nat.le_of_ble_eq_true rfl) hW gtk sh_4 (by decide) rfl (by decide) (u_19 (kk := 643584494) hW gtk rfl (by decide +kernel)) (fun R2852 T2853 H2854 p2855 => ?_))
          obtain ⟨e2856, e2858, z2859, e2857, b2860, p2861⟩ := p2855
          subst e2856
          subst e2857
          subst e2858
          rcases p2861 with ⟨a2862, a2863⟩ | ⟨a2864, a2865⟩
          · show wp _ _ 18 25 [(1, vI 2), (0, .ref r0)] [vI z2859] _ H _
            refine wp_of e18 c18_25 (rw_if_eq (p1 := 34) (p2 := 28) (by decide) rfl ⟨Int.le_trans (by decide) b2860.1, Int.le_trans b2860.2 (by decide)⟩ (fun c2866 => ?_) (fun c2866 => ?_))
            · exfalso
              omega
            · have := @xre_le B n q 2 643584494 rfl (by decide)
              refine wp_of e18 c18_28 (rw_gs (pc' := 31) (k := 1) rfl rfl rfl rfl ?_)
              refine wp_of e18 c18_31 (rw_iload_n (pc' := 32) (z := 2) rfl rfl ?_)
              have k2868 : H 1 (2 : Int).toNat = ((18 : Nat) : Int) := (hW.2 1 _ hW.1.1).2.2 2 (by decide) |> fun z => by have z1 : (18 : Int) ≤ H 1 2 ∧ H 1 2 ≤ 18 := z; exact Int.le_antisymm z1.2 z1.1
              refine wp_of e18 c18_32 (rw_aaload (pc' := 33) (n := 11) (b := 18) (hW.sh hW.1.1 rfl) (by decide) (by decide) (by decide) rfl k2868 rfl ?_)
              exact wp_areturn e18 c18_33 rfl rfl ⟨rfl, rfl, Or.inr ⟨18, rfl, by decide, by decide, by omega⟩⟩
          · show wp _ _ 18 25 [(1, vI 2), (0, .ref r0)] [vI z2859] _ H _
            refine wp_of e18 c18_25 (rw_if_eq (p1 := 34) (p2 := 28) (by decide) rfl ⟨Int.le_trans (by decide) b2860.1, Int.le_trans b2860.2 (by decide)⟩ (fun c2869 => ?_) (fun c2869 => ?_))
            · have := @xre_at B n q 2 643584494 rfl (by decide)
              refine wp_of e18 c18_34 (rw_iinc (pc' := 37) (z := 2) (L' := [(1, vI (2 + 1)), (0, .ref r0)]) rfl rfl rfl rfl ?_)
              refine wp_of e18 c18_37 (rw_goto (p1 := 2) (by decide) ?_)
              exact wp_lc (ks := [1, 0]) (wl_c rfl (wl_c rfl wl_n)) rfl (by decide) (ih2797 _ (by omega) (2 + 1) ⟨by omega, by omega⟩ (by omega) rfl)
            · exfalso
              omega
        · subst c2806
          have k2871 : H 1 (3 : Int).toNat = ((19 : Nat) : Int) := (hW.2 1 _ hW.1.1).2.2 3 (by decide) |> fun z => by have z1 : (19 : Int) ≤ H 1 3 ∧ H 1 3 ≤ 19 := z; exact Int.le_antisymm z1.2 z1.1
          refine wp_of e18 c18_18 (rw_aaload (pc' := 19) (n := 11) (b := 19) (hW.sh hW.1.1 rfl) (by decide) (by decide) (by decide) rfl k2871 rfl ?_)
          have k2872 : H 19 0 = ((35 : Nat) : Int) := (hW.2 19 _ (hW.1.2.2 3 (by decide))).2.2 0 (by decide) |> fun z => by have z1 : (35 : Int) ≤ H 19 0 ∧ H 19 0 ≤ 35 := z; omega
          refine wp_of e18 c18_19 (rw_getR (pc' := 22) (n := 2) (b := 35) (e := _) (lf_1_181).choose_spec.1 (lf_1_181).choose_spec.2.1 (hW.sh (hW.1.2.2 3 (by decide)) rfl) (by decide) rfl k2872 rfl ?_)
          refine wp_of e18 c18_22 (xc_V (pc' := 25) (r := tk) (as := [.ref 35]) (st := []) (lm_1_185) rfl rfl (Nat.le_of_ble_eq_true rfl) hW gtk sh_4 (by decide) rfl (by decide) (u_19 (kk := 1574484) hW gtk rfl (by decide +kernel)) (fun R2873 T2874 H2875 p2876 => ?_))
          obtain ⟨e2877, e2879, z2880, e2878, b2881, p2882⟩ := p2876
          subst e2877
          subst e2878
          subst e2879
          rcases p2882 with ⟨a2883, a2884⟩ | ⟨a2885, a2886⟩
          · show wp _ _ 18 25 [(1, vI 3), (0, .ref r0)] [vI z2880] _ H _
            refine wp_of e18 c18_25 (rw_if_eq (p1 := 34) (p2 := 28) (by decide) rfl ⟨Int.le_trans (by decide) b2881.1, Int.le_trans b2881.2 (by decide)⟩ (fun c2887 => ?_) (fun c2887 => ?_))
            · exfalso
              omega
            · have := @xre_le B n q 3 1574484 rfl (by decide)
              refine wp_of e18 c18_28 (rw_gs (pc' := 31) (k := 1) rfl rfl rfl rfl ?_)
              refine wp_of e18 c18_31 (rw_iload_n (pc' := 32) (z := 3) rfl rfl ?_)
              have k2889 : H 1 (3 : Int).toNat = ((19 : Nat) : Int) := (hW.2 1 _ hW.1.1).2.2 3 (by decide) |> fun z => by have z1 : (19 : Int) ≤ H 1 3 ∧ H 1 3 ≤ 19 := z; exact Int.le_antisymm z1.2 z1.1
              refine wp_of e18 c18_32 (rw_aaload (pc' := 33) (n := 11) (b := 19) (hW.sh hW.1.1 rfl) (by decide) (by decide) (by decide) rfl k2889 rfl ?_)
              exact wp_areturn e18 c18_33 rfl rfl ⟨rfl, rfl, Or.inr ⟨19, rfl, by decide, by decide, by omega⟩⟩
          · show wp _ _ 18 25 [(1, vI 3), (0, .ref r0)] [vI z2880] _ H _
            refine wp_of e18 c18_25 (rw_if_eq (p1 := 34) (p2 := 28) (by decide) rfl ⟨Int.le_trans (by decide) b2881.1, Int.le_trans b2881.2 (by decide)⟩ (fun c2890 => ?_) (fun c2890 => ?_))
            · have := @xre_at B n q 3 1574484 rfl (by decide)
              refine wp_of e18 c18_34 (rw_iinc (pc' := 37) (z := 3) (L' := [(1, vI (3 + 1)), (0, .ref r0)]) rfl rfl rfl rfl ?_)
              refine wp_of e18 c18_37 (rw_goto (p1 := 2) (by decide) ?_)
              exact wp_lc (ks := [1, 0]) (wl_c rfl (wl_c rfl wl_n)) rfl (by decide) (ih2797 _ (by omega) (3 + 1) ⟨by omega, by omega⟩ (by omega) rfl)
            · exfalso
              omega
        · subst c2806
          have k2892 : H 1 (4 : Int).toNat = ((20 : Nat) : Int) := (hW.2 1 _ hW.1.1).2.2 4 (by decide) |> fun z => by have z1 : (20 : Int) ≤ H 1 4 ∧ H 1 4 ≤ 20 := z; exact Int.le_antisymm z1.2 z1.1
          refine wp_of e18 c18_18 (rw_aaload (pc' := 19) (n := 11) (b := 20) (hW.sh hW.1.1 rfl) (by decide) (by decide) (by decide) rfl k2892 rfl ?_)
          have k2893 : H 20 0 = ((36 : Nat) : Int) := (hW.2 20 _ (hW.1.2.2 4 (by decide))).2.2 0 (by decide) |> fun z => by have z1 : (36 : Int) ≤ H 20 0 ∧ H 20 0 ≤ 36 := z; omega
          refine wp_of e18 c18_19 (rw_getR (pc' := 22) (n := 2) (b := 36) (e := _) (lf_1_181).choose_spec.1 (lf_1_181).choose_spec.2.1 (hW.sh (hW.1.2.2 4 (by decide)) rfl) (by decide) rfl k2893 rfl ?_)
          refine wp_of e18 c18_22 (xc_V (pc' := 25) (r := tk) (as := [.ref 36]) (st := []) (lm_1_185) rfl rfl (Nat.le_of_ble_eq_true rfl) hW gtk sh_4 (by decide) rfl (by decide) (u_19 (kk := 81486) hW gtk rfl (by decide +kernel)) (fun R2894 T2895 H2896 p2897 => ?_))
          obtain ⟨e2898, e2900, z2901, e2899, b2902, p2903⟩ := p2897
          subst e2898
          subst e2899
          subst e2900
          rcases p2903 with ⟨a2904, a2905⟩ | ⟨a2906, a2907⟩
          · show wp _ _ 18 25 [(1, vI 4), (0, .ref r0)] [vI z2901] _ H _
            refine wp_of e18 c18_25 (rw_if_eq (p1 := 34) (p2 := 28) (by decide) rfl ⟨Int.le_trans (by decide) b2902.1, Int.le_trans b2902.2 (by decide)⟩ (fun c2908 => ?_) (fun c2908 => ?_))
            · exfalso
              omega
            · have := @xre_le B n q 4 81486 rfl (by decide)
              refine wp_of e18 c18_28 (rw_gs (pc' := 31) (k := 1) rfl rfl rfl rfl ?_)
              refine wp_of e18 c18_31 (rw_iload_n (pc' := 32) (z := 4) rfl rfl ?_)
              have k2910 : H 1 (4 : Int).toNat = ((20 : Nat) : Int) := (hW.2 1 _ hW.1.1).2.2 4 (by decide) |> fun z => by have z1 : (20 : Int) ≤ H 1 4 ∧ H 1 4 ≤ 20 := z; exact Int.le_antisymm z1.2 z1.1
              refine wp_of e18 c18_32 (rw_aaload (pc' := 33) (n := 11) (b := 20) (hW.sh hW.1.1 rfl) (by decide) (by decide) (by decide) rfl k2910 rfl ?_)
              exact wp_areturn e18 c18_33 rfl rfl ⟨rfl, rfl, Or.inr ⟨20, rfl, by decide, by decide, by omega⟩⟩
          · show wp _ _ 18 25 [(1, vI 4), (0, .ref r0)] [vI z2901] _ H _
            refine wp_of e18 c18_25 (rw_if_eq (p1 := 34) (p2 := 28) (by decide) rfl ⟨Int.le_trans (by decide) b2902.1, Int.le_trans b2902.2 (by decide)⟩ (fun c2911 => ?_) (fun c2911 => ?_))
            · have := @xre_at B n q 4 81486 rfl (by decide)
              refine wp_of e18 c18_34 (rw_iinc (pc' := 37) (z := 4) (L' := [(1, vI (4 + 1)), (0, .ref r0)]) rfl rfl rfl rfl ?_)
              refine wp_of e18 c18_37 (rw_goto (p1 := 2) (by decide) ?_)
              exact wp_lc (ks := [1, 0]) (wl_c rfl (wl_c rfl wl_n)) rfl (by decide) (ih2797 _ (by omega) (4 + 1) ⟨by omega, by omega⟩ (by omega) rfl)
            · exfalso
              omega
        · subst c2806
          have k2913 : H 1 (5 : Int).toNat = ((21 : Nat) : Int) := (hW.2 1 _ hW.1.1).2.2 5 (by decide) |> fun z => by have z1 : (21 : Int) ≤ H 1 5 ∧ H 1 5 ≤ 21 := z; exact Int.le_antisymm z1.2 z1.1
          refine wp_of e18 c18_18 (rw_aaload (pc' := 19) (n := 11) (b := 21) (hW.sh hW.1.1 rfl) (by decide) (by decide) (by decide) rfl k2913 rfl ?_)
          have k2914 : H 21 0 = ((37 : Nat) : Int) := (hW.2 21 _ (hW.1.2.2 5 (by decide))).2.2 0 (by decide) |> fun z => by have z1 : (37 : Int) ≤ H 21 0 ∧ H 21 0 ≤ 37 := z; omega
          refine wp_of e18 c18_19 (rw_getR (pc' := 22) (n := 2) (b := 37) (e := _) (lf_1_181).choose_spec.1 (lf_1_181).choose_spec.2.1 (hW.sh (hW.1.2.2 5 (by decide)) rfl) (by decide) rfl k2914 rfl ?_)
          refine wp_of e18 c18_22 (xc_V (pc' := 25) (r := tk) (as := [.ref 37]) (st := []) (lm_1_185) rfl rfl (Nat.le_of_ble_eq_true rfl) hW gtk sh_4 (by decide) rfl (by decide) (u_19 (kk := 659117163) hW gtk rfl (by decide +kernel)) (fun R2915 T2916 H2917 p2918 => ?_))
          obtain ⟨e2919, e2921, z2922, e2920, b2923, p2924⟩ := p2918
          subst e2919
          subst e2920
          subst e2921
          rcases p2924 with ⟨a2925, a2926⟩ | ⟨a2927, a2928⟩
          · show wp _ _ 18 25 [(1, vI 5), (0, .ref r0)] [vI z2922] _ H _
            refine wp_of e18 c18_25 (rw_if_eq (p1 := 34) (p2 := 28) (by decide) rfl ⟨Int.le_trans (by decide) b2923.1, Int.le_trans b2923.2 (by decide)⟩ (fun c2929 => ?_) (fun c2929 => ?_))
            · exfalso
              omega
            · have := @xre_le B n q 5 659117163 rfl (by decide)
              refine wp_of e18 c18_28 (rw_gs (pc' := 31) (k := 1) rfl rfl rfl rfl ?_)
              refine wp_of e18 c18_31 (rw_iload_n (pc' := 32) (z := 5) rfl rfl ?_)
              have k2931 : H 1 (5 : Int).toNat = ((21 : Nat) : Int) := (hW.2 1 _ hW.1.1).2.2 5 (by decide) |> fun z => by have z1 : (21 : Int) ≤ H 1 5 ∧ H 1 5 ≤ 21 := z; exact Int.le_antisymm z1.2 z1.1
              refine wp_of e18 c18_32 (rw_aaload (pc' := 33) (n := 11) (b := 21) (hW.sh hW.1.1 rfl) (by decide) (by decide) (by decide) rfl k2931 rfl ?_)
              exact wp_areturn e18 c18_33 rfl rfl ⟨rfl, rfl, Or.inr ⟨21, rfl, by decide, by decide, by omega⟩⟩
          · show wp _ _ 18 25 [(1, vI 5), (0, .ref r0)] [vI z2922] _ H _
            refine wp_of e18 c18_25 (rw_if_eq (p1 := 34) (p2 := 28) (by decide) rfl ⟨Int.le_trans (by decide) b2923.1, Int.le_trans b2923.2 (by decide)⟩ (fun c2932 => ?_) (fun c2932 => ?_))
            · have := @xre_at B n q 5 659117163 rfl (by decide)
              refine wp_of e18 c18_34 (rw_iinc (pc' := 37) (z := 5) (L' := [(1, vI (5 + 1)), (0, .ref r0)]) rfl rfl rfl rfl ?_)
              refine wp_of e18 c18_37 (rw_goto (p1 := 2) (by decide) ?_)
              exact wp_lc (ks := [1, 0]) (wl_c rfl (wl_c rfl wl_n)) rfl (by decide) (ih2797 _ (by omega) (5 + 1) ⟨by omega, by omega⟩ (by omega) rfl)
            · exfalso
              omega
        · subst c2806
          have k2934 : H 1 (6 : Int).toNat = ((22 : Nat) : Int) := (hW.2 1 _ hW.1.1).2.2 6 (by decide) |> fun z => by have z1 : (22 : Int) ≤ H 1 6 ∧ H 1 6 ≤ 22 := z; exact Int.le_antisymm z1.2 z1.1
          refine wp_of e18 c18_18 (rw_aaload (pc' := 19) (n := 11) (b := 22) (hW.sh hW.1.1 rfl) (by decide) (by decide) (by decide) rfl k2934 rfl ?_)
          have k2935 : H 22 0 = ((38 : Nat) : Int) := (hW.2 22 _ (hW.1.2.2 6 (by decide))).2.2 0 (by decide) |> fun z => by have z1 : (38 : Int) ≤ H 22 0 ∧ H 22 0 ≤ 38 := z; omega
          refine wp_of e18 c18_19 (rw_getR (pc' := 22) (n := 2) (b := 38) (e := _) (lf_1_181).choose_spec.1 (lf_1_181).choose_spec.2.1 (hW.sh (hW.1.2.2 6 (by decide)) rfl) (by decide) rfl k2935 rfl ?_)
          refine wp_of e18 c18_22 (xc_V (pc' := 25) (r := tk) (as := [.ref 38]) (st := []) (lm_1_185) rfl rfl (Nat.le_of_ble_eq_true rfl) hW gtk sh_4 (by decide) rfl (by decide) (u_19 (kk := 671108) hW gtk rfl (by decide +kernel)) (fun R2936 T2937 H2938 p2939 => ?_))
          obtain ⟨e2940, e2942, z2943, e2941, b2944, p2945⟩ := p2939
          subst e2940
          subst e2941
          subst e2942
          rcases p2945 with ⟨a2946, a2947⟩ | ⟨a2948, a2949⟩
          · show wp _ _ 18 25 [(1, vI 6), (0, .ref r0)] [vI z2943] _ H _
            refine wp_of e18 c18_25 (rw_if_eq (p1 := 34) (p2 := 28) (by decide) rfl ⟨Int.le_trans (by decide) b2944.1, Int.le_trans b2944.2 (by decide)⟩ (fun c2950 => ?_) (fun c2950 => ?_))
            · exfalso
              omega
            · have := @xre_le B n q 6 671108 rfl (by decide)
              refine wp_of e18 c18_28 (rw_gs (pc' := 31) (k := 1) rfl rfl rfl rfl ?_)
              refine wp_of e18 c18_31 (rw_iload_n (pc' := 32) (z := 6) rfl rfl ?_)
              have k2952 : H 1 (6 : Int).toNat = ((22 : Nat) : Int) := (hW.2 1 _ hW.1.1).2.2 6 (by decide) |> fun z => by have z1 : (22 : Int) ≤ H 1 6 ∧ H 1 6 ≤ 22 := z; exact Int.le_antisymm z1.2 z1.1
              refine wp_of e18 c18_32 (rw_aaload (pc' := 33) (n := 11) (b := 22) (hW.sh hW.1.1 rfl) (by decide) (by decide) (by decide) rfl k2952 rfl ?_)
              exact wp_areturn e18 c18_33 rfl rfl ⟨rfl, rfl, Or.inr ⟨22, rfl, by decide, by decide, by omega⟩⟩
          · show wp _ _ 18 25 [(1, vI 6), (0, .ref r0)] [vI z2943] _ H _
            refine wp_of e18 c18_25 (rw_if_eq (p1 := 34) (p2 := 28) (by decide) rfl ⟨Int.le_trans (by decide) b2944.1, Int.le_trans b2944.2 (by decide)⟩ (fun c2953 => ?_) (fun c2953 => ?_))
            · have := @xre_at B n q 6 671108 rfl (by decide)
              refine wp_of e18 c18_34 (rw_iinc (pc' := 37) (z := 6) (L' := [(1, vI (6 + 1)), (0, .ref r0)]) rfl rfl rfl rfl ?_)
              refine wp_of e18 c18_37 (rw_goto (p1 := 2) (by decide) ?_)
              exact wp_lc (ks := [1, 0]) (wl_c rfl (wl_c rfl wl_n)) rfl (by decide) (ih2797 _ (by omega) (6 + 1) ⟨by omega, by omega⟩ (by omega) rfl)
            · exfalso
              omega
        · subst c2806
          have k2955 : H 1 (7 : Int).toNat = ((23 : Nat) : Int) := (hW.2 1 _ hW.1.1).2.2 7 (by decide) |> fun z => by have z1 : (23 : Int) ≤ H 1 7 ∧ H 1 7 ≤ 23 := z; exact Int.le_antisymm z1.2 z1.1
          refine wp_of e18 c18_18 (rw_aaload (pc' := 19) (n := 11) (b := 23) (hW.sh hW.1.1 rfl) (by decide) (by decide) (by decide) rfl k2955 rfl ?_)
          have k2956 : H 23 0 = ((39 : Nat) : Int) := (hW.2 23 _ (hW.1.2.2 7 (by decide))).2.2 0 (by decide) |> fun z => by have z1 : (39 : Int) ≤ H 23 0 ∧ H 23 0 ≤ 39 := z; omega
          refine wp_of e18 c18_19 (rw_getR (pc' := 22) (n := 2) (b := 39) (e := _) (lf_1_181).choose_spec.1 (lf_1_181).choose_spec.2.1 (hW.sh (hW.1.2.2 7 (by decide)) rfl) (by decide) rfl k2956 rfl ?_)
          refine wp_of e18 c18_22 (xc_V (pc' := 25) (r := tk) (as := [.ref 39]) (st := []) (lm_1_185) rfl rfl (Nat.le_of_ble_eq_true rfl) hW gtk sh_4 (by decide) rfl (by decide) (u_19 (kk := 15931570) hW gtk rfl (by decide +kernel)) (fun R2957 T2958 H2959 p2960 => ?_))
          obtain ⟨e2961, e2963, z2964, e2962, b2965, p2966⟩ := p2960
          subst e2961
          subst e2962
          subst e2963
          rcases p2966 with ⟨a2967, a2968⟩ | ⟨a2969, a2970⟩
          · show wp _ _ 18 25 [(1, vI 7), (0, .ref r0)] [vI z2964] _ H _
            refine wp_of e18 c18_25 (rw_if_eq (p1 := 34) (p2 := 28) (by decide) rfl ⟨Int.le_trans (by decide) b2965.1, Int.le_trans b2965.2 (by decide)⟩ (fun c2971 => ?_) (fun c2971 => ?_))
            · exfalso
              omega
            · have := @xre_le B n q 7 15931570 rfl (by decide)
              refine wp_of e18 c18_28 (rw_gs (pc' := 31) (k := 1) rfl rfl rfl rfl ?_)
              refine wp_of e18 c18_31 (rw_iload_n (pc' := 32) (z := 7) rfl rfl ?_)
              have k2973 : H 1 (7 : Int).toNat = ((23 : Nat) : Int) := (hW.2 1 _ hW.1.1).2.2 7 (by decide) |> fun z => by have z1 : (23 : Int) ≤ H 1 7 ∧ H 1 7 ≤ 23 := z; exact Int.le_antisymm z1.2 z1.1
              refine wp_of e18 c18_32 (rw_aaload (pc' := 33) (n := 11) (b := 23) (hW.sh hW.1.1 rfl) (by decide) (by decide) (by decide) rfl k2973 rfl ?_)
              exact wp_areturn e18 c18_33 rfl rfl ⟨rfl, rfl, Or.inr ⟨23, rfl, by decide, by decide, by omega⟩⟩
          · show wp _ _ 18 25 [(1, vI 7), (0, .ref r0)] [vI z2964] _ H _
            refine wp_of e18 c18_25 (rw_if_eq (p1 := 34) (p2 := 28) (by decide) rfl ⟨Int.le_trans (by decide) b2965.1, Int.le_trans b2965.2 (by decide)⟩ (fun c2974 => ?_) (fun c2974 => ?_))
            · have := @xre_at B n q 7 15931570 rfl (by decide)
              refine wp_of e18 c18_34 (rw_iinc (pc' := 37) (z := 7) (L' := [(1, vI (7 + 1)), (0, .ref r0)]) rfl rfl rfl rfl ?_)
              refine wp_of e18 c18_37 (rw_goto (p1 := 2) (by decide) ?_)
              exact wp_lc (ks := [1, 0]) (wl_c rfl (wl_c rfl wl_n)) rfl (by decide) (ih2797 _ (by omega) (7 + 1) ⟨by omega, by omega⟩ (by omega) rfl)
            · exfalso
              omega
        · subst c2806
          have k2976 : H 1 (8 : Int).toNat = ((24 : Nat) : Int) := (hW.2 1 _ hW.1.1).2.2 8 (by decide) |> fun z => by have z1 : (24 : Int) ≤ H 1 8 ∧ H 1 8 ≤ 24 := z; exact Int.le_antisymm z1.2 z1.1
          refine wp_of e18 c18_18 (rw_aaload (pc' := 19) (n := 11) (b := 24) (hW.sh hW.1.1 rfl) (by decide) (by decide) (by decide) rfl k2976 rfl ?_)
          have k2977 : H 24 0 = ((40 : Nat) : Int) := (hW.2 24 _ (hW.1.2.2 8 (by decide))).2.2 0 (by decide) |> fun z => by have z1 : (40 : Int) ≤ H 24 0 ∧ H 24 0 ≤ 40 := z; omega
          refine wp_of e18 c18_19 (rw_getR (pc' := 22) (n := 2) (b := 40) (e := _) (lf_1_181).choose_spec.1 (lf_1_181).choose_spec.2.1 (hW.sh (hW.1.2.2 8 (by decide)) rfl) (by decide) rfl k2977 rfl ?_)
          refine wp_of e18 c18_22 (xc_V (pc' := 25) (r := tk) (as := [.ref 40]) (st := []) (lm_1_185) rfl rfl (Nat.le_of_ble_eq_true rfl) hW gtk sh_4 (by decide) rfl (by decide) (u_19 (kk := 8423732) hW gtk rfl (by decide +kernel)) (fun R2978 T2979 H2980 p2981 => ?_))
          obtain ⟨e2982, e2984, z2985, e2983, b2986, p2987⟩ := p2981
          subst e2982
          subst e2983
          subst e2984
          rcases p2987 with ⟨a2988, a2989⟩ | ⟨a2990, a2991⟩
          · show wp _ _ 18 25 [(1, vI 8), (0, .ref r0)] [vI z2985] _ H _
            refine wp_of e18 c18_25 (rw_if_eq (p1 := 34) (p2 := 28) (by decide) rfl ⟨Int.le_trans (by decide) b2986.1, Int.le_trans b2986.2 (by decide)⟩ (fun c2992 => ?_) (fun c2992 => ?_))
            · exfalso
              omega
            · have := @xre_le B n q 8 8423732 rfl (by decide)
              refine wp_of e18 c18_28 (rw_gs (pc' := 31) (k := 1) rfl rfl rfl rfl ?_)
              refine wp_of e18 c18_31 (rw_iload_n (pc' := 32) (z := 8) rfl rfl ?_)
              have k2994 : H 1 (8 : Int).toNat = ((24 : Nat) : Int) := (hW.2 1 _ hW.1.1).2.2 8 (by decide) |> fun z => by have z1 : (24 : Int) ≤ H 1 8 ∧ H 1 8 ≤ 24 := z; exact Int.le_antisymm z1.2 z1.1
              refine wp_of e18 c18_32 (rw_aaload (pc' := 33) (n := 11) (b := 24) (hW.sh hW.1.1 rfl) (by decide) (by decide) (by decide) rfl k2994 rfl ?_)
              exact wp_areturn e18 c18_33 rfl rfl ⟨rfl, rfl, Or.inr ⟨24, rfl, by decide, by decide, by omega⟩⟩
          · show wp _ _ 18 25 [(1, vI 8), (0, .ref r0)] [vI z2985] _ H _
            refine wp_of e18 c18_25 (rw_if_eq (p1 := 34) (p2 := 28) (by decide) rfl ⟨Int.le_trans (by decide) b2986.1, Int.le_trans b2986.2 (by decide)⟩ (fun c2995 => ?_) (fun c2995 => ?_))
            · have := @xre_at B n q 8 8423732 rfl (by decide)
              refine wp_of e18 c18_34 (rw_iinc (pc' := 37) (z := 8) (L' := [(1, vI (8 + 1)), (0, .ref r0)]) rfl rfl rfl rfl ?_)
              refine wp_of e18 c18_37 (rw_goto (p1 := 2) (by decide) ?_)
              exact wp_lc (ks := [1, 0]) (wl_c rfl (wl_c rfl wl_n)) rfl (by decide) (ih2797 _ (by omega) (8 + 1) ⟨by omega, by omega⟩ (by omega) rfl)
            · exfalso
              omega
        · subst c2806
          have k2997 : H 1 (9 : Int).toNat = ((25 : Nat) : Int) := (hW.2 1 _ hW.1.1).2.2 9 (by decide) |> fun z => by have z1 : (25 : Int) ≤ H 1 9 ∧ H 1 9 ≤ 25 := z; exact Int.le_antisymm z1.2 z1.1
          refine wp_of e18 c18_18 (rw_aaload (pc' := 19) (n := 11) (b := 25) (hW.sh hW.1.1 rfl) (by decide) (by decide) (by decide) rfl k2997 rfl ?_)
          have k2998 : H 25 0 = ((41 : Nat) : Int) := (hW.2 25 _ (hW.1.2.2 9 (by decide))).2.2 0 (by decide) |> fun z => by have z1 : (41 : Int) ≤ H 25 0 ∧ H 25 0 ≤ 41 := z; omega
          refine wp_of e18 c18_19 (rw_getR (pc' := 22) (n := 2) (b := 41) (e := _) (lf_1_181).choose_spec.1 (lf_1_181).choose_spec.2.1 (hW.sh (hW.1.2.2 9 (by decide)) rfl) (by decide) rfl k2998 rfl ?_)
          refine wp_of e18 c18_22 (xc_V (pc' := 25) (r := tk) (as := [.ref 41]) (st := []) (lm_1_185) rfl rfl (Nat.le_of_ble_eq_true rfl) hW gtk sh_4 (by decide) rfl (by decide) (u_19 (kk := 14384) hW gtk rfl (by decide +kernel)) (fun R2999 T3000 H3001 p3002 => ?_))
          obtain ⟨e3003, e3005, z3006, e3004, b3007, p3008⟩ := p3002
          subst e3003
          subst e3004
          subst e3005
          rcases p3008 with ⟨a3009, a3010⟩ | ⟨a3011, a3012⟩
          · show wp _ _ 18 25 [(1, vI 9), (0, .ref r0)] [vI z3006] _ H _
            refine wp_of e18 c18_25 (rw_if_eq (p1 := 34) (p2 := 28) (by decide) rfl ⟨Int.le_trans (by decide) b3007.1, Int.le_trans b3007.2 (by decide)⟩ (fun c3013 => ?_) (fun c3013 => ?_))
            · exfalso
              omega
            · have := @xre_le B n q 9 14384 rfl (by decide)
              refine wp_of e18 c18_28 (rw_gs (pc' := 31) (k := 1) rfl rfl rfl rfl ?_)
              refine wp_of e18 c18_31 (rw_iload_n (pc' := 32) (z := 9) rfl rfl ?_)
              have k3015 : H 1 (9 : Int).toNat = ((25 : Nat) : Int) := (hW.2 1 _ hW.1.1).2.2 9 (by decide) |> fun z => by have z1 : (25 : Int) ≤ H 1 9 ∧ H 1 9 ≤ 25 := z; exact Int.le_antisymm z1.2 z1.1
              refine wp_of e18 c18_32 (rw_aaload (pc' := 33) (n := 11) (b := 25) (hW.sh hW.1.1 rfl) (by decide) (by decide) (by decide) rfl k3015 rfl ?_)
              exact wp_areturn e18 c18_33 rfl rfl ⟨rfl, rfl, Or.inr ⟨25, rfl, by decide, by decide, by omega⟩⟩
          · show wp _ _ 18 25 [(1, vI 9), (0, .ref r0)] [vI z3006] _ H _
            refine wp_of e18 c18_25 (rw_if_eq (p1 := 34) (p2 := 28) (by decide) rfl ⟨Int.le_trans (by decide) b3007.1, Int.le_trans b3007.2 (by decide)⟩ (fun c3016 => ?_) (fun c3016 => ?_))
            · have := @xre_at B n q 9 14384 rfl (by decide)
              refine wp_of e18 c18_34 (rw_iinc (pc' := 37) (z := 9) (L' := [(1, vI (9 + 1)), (0, .ref r0)]) rfl rfl rfl rfl ?_)
              refine wp_of e18 c18_37 (rw_goto (p1 := 2) (by decide) ?_)
              exact wp_lc (ks := [1, 0]) (wl_c rfl (wl_c rfl wl_n)) rfl (by decide) (ih2797 _ (by omega) (9 + 1) ⟨by omega, by omega⟩ (by omega) rfl)
            · exfalso
              omega
        · subst c2806
          have k3018 : H 1 (10 : Int).toNat = ((26 : Nat) : Int) := (hW.2 1 _ hW.1.1).2.2 10 (by decide) |> fun z => by have z1 : (26 : Int) ≤ H 1 10 ∧ H 1 10 ≤ 26 := z; exact Int.le_antisymm z1.2 z1.1
          refine wp_of e18 c18_18 (rw_aaload (pc' := 19) (n := 11) (b := 26) (hW.sh hW.1.1 rfl) (by decide) (by decide) (by decide) rfl k3018 rfl ?_)
          have k3019 : H 26 0 = ((42 : Nat) : Int) := (hW.2 26 _ (hW.1.2.2 10 (by decide))).2.2 0 (by decide) |> fun z => by have z1 : (42 : Int) ≤ H 26 0 ∧ H 26 0 ≤ 42 := z; omega
          refine wp_of e18 c18_19 (rw_getR (pc' := 22) (n := 2) (b := 42) (e := _) (lf_1_181).choose_spec.1 (lf_1_181).choose_spec.2.1 (hW.sh (hW.1.2.2 10 (by decide)) rfl) (by decide) rfl k3019 rfl ?_)
          refine wp_of e18 c18_22 (xc_V (pc' := 25) (r := tk) (as := [.ref 42]) (st := []) (lm_1_185) rfl rfl (Nat.le_of_ble_eq_true rfl) hW gtk sh_4 (by decide) rfl (by decide) (u_19 (kk := 56377) hW gtk rfl (by decide +kernel)) (fun R3020 T3021 H3022 p3023 => ?_))
          obtain ⟨e3024, e3026, z3027, e3025, b3028, p3029⟩ := p3023
          subst e3024
          subst e3025
          subst e3026
          rcases p3029 with ⟨a3030, a3031⟩ | ⟨a3032, a3033⟩
          · show wp _ _ 18 25 [(1, vI 10), (0, .ref r0)] [vI z3027] _ H _
            refine wp_of e18 c18_25 (rw_if_eq (p1 := 34) (p2 := 28) (by decide) rfl ⟨Int.le_trans (by decide) b3028.1, Int.le_trans b3028.2 (by decide)⟩ (fun c3034 => ?_) (fun c3034 => ?_))
            · exfalso
              omega
            · have := @xre_le B n q 10 56377 rfl (by decide)
              refine wp_of e18 c18_28 (rw_gs (pc' := 31) (k := 1) rfl rfl rfl rfl ?_)
              refine wp_of e18 c18_31 (rw_iload_n (pc' := 32) (z := 10) rfl rfl ?_)
              have k3036 : H 1 (10 : Int).toNat = ((26 : Nat) : Int) := (hW.2 1 _ hW.1.1).2.2 10 (by decide) |> fun z => by have z1 : (26 : Int) ≤ H 1 10 ∧ H 1 10 ≤ 26 := z; exact Int.le_antisymm z1.2 z1.1
              refine wp_of e18 c18_32 (rw_aaload (pc' := 33) (n := 11) (b := 26) (hW.sh hW.1.1 rfl) (by decide) (by decide) (by decide) rfl k3036 rfl ?_)
              exact wp_areturn e18 c18_33 rfl rfl ⟨rfl, rfl, Or.inr ⟨26, rfl, by decide, by decide, by omega⟩⟩
          · show wp _ _ 18 25 [(1, vI 10), (0, .ref r0)] [vI z3027] _ H _
            refine wp_of e18 c18_25 (rw_if_eq (p1 := 34) (p2 := 28) (by decide) rfl ⟨Int.le_trans (by decide) b3028.1, Int.le_trans b3028.2 (by decide)⟩ (fun c3037 => ?_) (fun c3037 => ?_))
            · have := @xre_at B n q 10 56377 rfl (by decide)
              refine wp_of e18 c18_34 (rw_iinc (pc' := 37) (z := 10) (L' := [(1, vI (10 + 1)), (0, .ref r0)]) rfl rfl rfl rfl ?_)
              refine wp_of e18 c18_37 (rw_goto (p1 := 2) (by decide) ?_)
              exact wp_lc (ks := [1, 0]) (wl_c rfl (wl_c rfl wl_n)) rfl (by decide) (ih2797 _ (by omega) (10 + 1) ⟨by omega, by omega⟩ (by omega) rfl)
            · exfalso
              omega
  exact wp_lc (ks := [1, 0]) (wl_c rfl (wl_c rfl wl_n)) rfl (by decide) (lp2795 _ 0 ⟨by decide, by decide⟩ (by omega) rfl)
/-! StrikeAwake$Reader.isName()Z  -/
abbrev uq_26 (r0 : Nat) (tk : Nat) (rb : Nat) (B : Nat → Int) (n : Int) (q : Int) (T : wq_T) (H : wq_H) : Option Value → wq_T → wq_H → Prop := fun r T' H' => T = T' ∧ H = H' ∧ ∃ z : Int, some (vI z) = r ∧ (0 ≤ z ∧ z ≤ 1) ∧ (((z = 1) ∧ (xre B n q = 11)) ∨ ((z = 0) ∧ (xre B n q ≠ 11)))
set_option maxHeartbeats 4000000 in
theorem u_26 {kt : Nat → Option mc_E} {T : wq_T} {H : wq_H} {r0 : Nat} {tk : Nat} {rb : Nat} {B : Nat → Int} {n : Int} {q : Int} (hW : WT T H) (g0 : T.2.2.2 r0 = some 3) (qtk : H r0 0 = (tk : Int)) (gtk : T.2.2.2 tk = some 4) (qrb : H tk 0 = (rb : Int)) (grb : T.2.2.2 rb = some 2) (hTC_tk : TC T H tk B n q) : wpc kt 3 26 [.ref r0] T H (uq_26 r0 tk rb B n q T H) := by
  refine wp_enter e26 (Nat.le_of_ble_eq_true rfl) rfl ?_
  show wp _ _ 26 0 [(0, .ref r0)] [] _ H _
  have u1016 := TC_k hTC_tk
  have _x := @xre_b B n q
  refine wp_of e26 c26_0 (rw_aload_n (pc' := 1) (v := .ref r0) rfl rfl rfl ?_)
  refine wp_of e26 c26_1 (xg_K (pc' := 4) lf_1_12 hW g0 sh_3 (by decide) (by decide) rfl qtk rfl ?_)
  refine wp_of e26 c26_4 (xg_I (pc' := 7) lf_1_38 hW gtk sh_4 (by decide) (by decide) ty_4_3 rfl rfl (fun b1017 b1018 => ?_))
  refine wp_of e26 c26_7 (rw_iconst (pc' := 8) rfl ?_)
  refine wp_of e26 c26_8 (rw_icmp_ne (p1 := 22) (p2 := 11) (by decide) rfl ⟨Int.le_trans (by decide) b1017, Int.le_trans b1018 (by decide)⟩ ⟨by decide, by decide⟩ (fun c1019 => ?_) (fun c1019 => ?_))
  · refine wp_of e26 c26_22 (rw_iconst (pc' := 23) rfl ?_)
    exact wp_zreturn e26 c26_23 rfl (by omega) ⟨rfl, rfl, 0, rfl, ⟨by decide, by decide⟩, (Or.inr ⟨by omega, by omega⟩)⟩
  · refine wp_of e26 c26_11 (rw_aload_n (pc' := 12) (v := .ref r0) rfl rfl rfl ?_)
    refine wp_of e26 c26_12 (xc_V (pc' := 15) (r := r0) (as := []) (st := []) (lm_1_54) rfl rfl (Nat.le_of_ble_eq_true rfl) hW g0 sh_3 (by decide) rfl (by decide) (u_18 (B := B) (n := n) (q := q) hW g0 qtk gtk qrb grb hTC_tk) (fun R1020 T1021 H1022 p1023 => ?_))
    obtain ⟨e1024, e1026, e1025⟩ := p1023
    subst e1024
    subst e1026
    rcases e1025 with ⟨e1025, b1030⟩ | ⟨r1027, e1025, b1028, b1029, b1030⟩
    · subst e1025
      show wp _ _ 26 15 [(0, .ref r0)] [.null] _ H _
      refine wp_of e26 c26_15 (rw_ifnonnull_n (p1 := 22) (p2 := 18) (by decide) rfl ?_)
      refine wp_of e26 c26_18 (rw_iconst (pc' := 19) rfl ?_)
      refine wp_of e26 c26_19 (rw_goto (p1 := 23) (by decide) ?_)
      exact wp_zreturn e26 c26_23 rfl (by omega) ⟨rfl, rfl, 1, rfl, ⟨by decide, by decide⟩, (Or.inl ⟨by omega, by omega⟩)⟩
    · subst e1025
      have c1031 : r1027 = 16 ∨ r1027 = 17 ∨ r1027 = 18 ∨ r1027 = 19 ∨ r1027 = 20 ∨ r1027 = 21 ∨ r1027 = 22 ∨ r1027 = 23 ∨ r1027 = 24 ∨ r1027 = 25 ∨ r1027 = 26 := by omega
      rcases c1031 with c1031 | c1031 | c1031 | c1031 | c1031 | c1031 | c1031 | c1031 | c1031 | c1031 | c1031
      · subst c1031
        show wp _ _ 26 15 [(0, .ref r0)] [.ref 16] _ H _
        refine wp_of e26 c26_15 (rw_ifnonnull_r (p1 := 22) (p2 := 18) (by decide) rfl ?_)
        refine wp_of e26 c26_22 (rw_iconst (pc' := 23) rfl ?_)
        exact wp_zreturn e26 c26_23 rfl (by omega) ⟨rfl, rfl, 0, rfl, ⟨by decide, by decide⟩, (Or.inr ⟨by omega, by omega⟩)⟩
      · subst c1031
        show wp _ _ 26 15 [(0, .ref r0)] [.ref 17] _ H _
        refine wp_of e26 c26_15 (rw_ifnonnull_r (p1 := 22) (p2 := 18) (by decide) rfl ?_)
        refine wp_of e26 c26_22 (rw_iconst (pc' := 23) rfl ?_)
        exact wp_zreturn e26 c26_23 rfl (by omega) ⟨rfl, rfl, 0, rfl, ⟨by decide, by decide⟩, (Or.inr ⟨by omega, by omega⟩)⟩
      · subst c1031
        show wp _ _ 26 15 [(0, .ref r0)] [.ref 18] _ H _
        refine wp_of e26 c26_15 (rw_ifnonnull_r (p1 := 22) (p2 := 18) (by decide) rfl ?_)
        refine wp_of e26 c26_22 (rw_iconst (pc' := 23) rfl ?_)
        exact wp_zreturn e26 c26_23 rfl (by omega) ⟨rfl, rfl, 0, rfl, ⟨by decide, by decide⟩, (Or.inr ⟨by omega, by omega⟩)⟩
      · subst c1031
        show wp _ _ 26 15 [(0, .ref r0)] [.ref 19] _ H _
        refine wp_of e26 c26_15 (rw_ifnonnull_r (p1 := 22) (p2 := 18) (by decide) rfl ?_)
        refine wp_of e26 c26_22 (rw_iconst (pc' := 23) rfl ?_)
        exact wp_zreturn e26 c26_23 rfl (by omega) ⟨rfl, rfl, 0, rfl, ⟨by decide, by decide⟩, (Or.inr ⟨by omega, by omega⟩)⟩
      · subst c1031
        show wp _ _ 26 15 [(0, .ref r0)] [.ref 20] _ H _
        refine wp_of e26 c26_15 (rw_ifnonnull_r (p1 := 22) (p2 := 18) (by decide) rfl ?_)
        refine wp_of e26 c26_22 (rw_iconst (pc' := 23) rfl ?_)
        exact wp_zreturn e26 c26_23 rfl (by omega) ⟨rfl, rfl, 0, rfl, ⟨by decide, by decide⟩, (Or.inr ⟨by omega, by omega⟩)⟩
      · subst c1031
        show wp _ _ 26 15 [(0, .ref r0)] [.ref 21] _ H _
        refine wp_of e26 c26_15 (rw_ifnonnull_r (p1 := 22) (p2 := 18) (by decide) rfl ?_)
        refine wp_of e26 c26_22 (rw_iconst (pc' := 23) rfl ?_)
        exact wp_zreturn e26 c26_23 rfl (by omega) ⟨rfl, rfl, 0, rfl, ⟨by decide, by decide⟩, (Or.inr ⟨by omega, by omega⟩)⟩
      · subst c1031
        show wp _ _ 26 15 [(0, .ref r0)] [.ref 22] _ H _
        refine wp_of e26 c26_15 (rw_ifnonnull_r (p1 := 22) (p2 := 18) (by decide) rfl ?_)
        refine wp_of e26 c26_22 (rw_iconst (pc' := 23) rfl ?_)
        exact wp_zreturn e26 c26_23 rfl (by omega) ⟨rfl, rfl, 0, rfl, ⟨by decide, by decide⟩, (Or.inr ⟨by omega, by omega⟩)⟩
      · subst c1031
        show wp _ _ 26 15 [(0, .ref r0)] [.ref 23] _ H _
        refine wp_of e26 c26_15 (rw_ifnonnull_r (p1 := 22) (p2 := 18) (by decide) rfl ?_)
        refine wp_of e26 c26_22 (rw_iconst (pc' := 23) rfl ?_)
        exact wp_zreturn e26 c26_23 rfl (by omega) ⟨rfl, rfl, 0, rfl, ⟨by decide, by decide⟩, (Or.inr ⟨by omega, by omega⟩)⟩
      · subst c1031
        show wp _ _ 26 15 [(0, .ref r0)] [.ref 24] _ H _
        refine wp_of e26 c26_15 (rw_ifnonnull_r (p1 := 22) (p2 := 18) (by decide) rfl ?_)
        refine wp_of e26 c26_22 (rw_iconst (pc' := 23) rfl ?_)
        exact wp_zreturn e26 c26_23 rfl (by omega) ⟨rfl, rfl, 0, rfl, ⟨by decide, by decide⟩, (Or.inr ⟨by omega, by omega⟩)⟩
      · subst c1031
        show wp _ _ 26 15 [(0, .ref r0)] [.ref 25] _ H _
        refine wp_of e26 c26_15 (rw_ifnonnull_r (p1 := 22) (p2 := 18) (by decide) rfl ?_)
        refine wp_of e26 c26_22 (rw_iconst (pc' := 23) rfl ?_)
        exact wp_zreturn e26 c26_23 rfl (by omega) ⟨rfl, rfl, 0, rfl, ⟨by decide, by decide⟩, (Or.inr ⟨by omega, by omega⟩)⟩
      · subst c1031
        show wp _ _ 26 15 [(0, .ref r0)] [.ref 26] _ H _
        refine wp_of e26 c26_15 (rw_ifnonnull_r (p1 := 22) (p2 := 18) (by decide) rfl ?_)
        refine wp_of e26 c26_22 (rw_iconst (pc' := 23) rfl ?_)
        exact wp_zreturn e26 c26_23 rfl (by omega) ⟨rfl, rfl, 0, rfl, ⟨by decide, by decide⟩, (Or.inr ⟨by omega, by omega⟩)⟩
/-! StrikeAwake$Reader.takes(I)Z  -/
abbrev uq_35 (r0 : Nat) (a1 : Int) (tk : Nat) (rb : Nat) (B : Nat → Int) (n : Int) (q : Int) (T : wq_T) (H : wq_H) : Option Value → wq_T → wq_H → Prop := fun r T' H' => T = T' ∧ WT T H' ∧ wfr [(3, 3), (3, 4), (4, 2), (4, 3), (4, 4), (4, 5), (4, 6)] T H H' ∧ ∃ z : Int, some (vI z) = r ∧ (0 ≤ z ∧ z ≤ 1) ∧ (((z = 1) ∧ (xk B n q a1 = 0) ∧ (xK B n q = a1) ∧ (H' r0 3 = H r0 3) ∧ TC T H' tk B n (xN B n q)) ∨ ((z = 0) ∧ (xk B n q a1 = 1) ∧ (xK B n q ≠ a1) ∧ (H' r0 3 = 1) ∧ (H' r0 4 = q)))
set_option maxHeartbeats 4000000 in
theorem u_35 {kt : Nat → Option mc_E} {T : wq_T} {H : wq_H} {r0 : Nat} {a1 : Int} {tk : Nat} {rb : Nat} {B : Nat → Int} {n : Int} {q : Int} (hW : WT T H) (g0 : T.2.2.2 r0 = some 3) (i1 : (-2147483648) ≤ a1 ∧ a1 ≤ 2147483647) (qtk : H r0 0 = (tk : Int)) (gtk : T.2.2.2 tk = some 4) (qrb : H tk 0 = (rb : Int)) (grb : T.2.2.2 rb = some 2) (hTC_tk : TC T H tk B n q) : wpc kt 2 35 [.ref r0, vI a1] T H (uq_35 r0 a1 tk rb B n q T H) := by
  refine wp_enter e35 (Nat.le_of_ble_eq_true rfl) rfl ?_
  have f0 : wfr [(3, 3), (3, 4), (4, 2), (4, 3), (4, 4), (4, 5), (4, 6)] T H H := wfr.rf
  show wp _ _ 35 0 [(0, .ref r0), (1, vI a1)] [] _ H _
  have u1030 := TC_k hTC_tk
  refine wp_of e35 c35_0 (rw_aload_n (pc' := 1) (v := .ref r0) rfl rfl rfl ?_)
  refine wp_of e35 c35_1 (xg_K (pc' := 4) lf_1_12 hW g0 sh_3 (by decide) (by decide) rfl qtk rfl ?_)
  refine wp_of e35 c35_4 (xg_I (pc' := 7) lf_1_38 hW gtk sh_4 (by decide) (by decide) ty_4_3 rfl rfl (fun b1031 b1032 => ?_))
  refine wp_of e35 c35_7 (rw_iload_n (pc' := 8) (z := a1) rfl rfl ?_)
  refine wp_of e35 c35_8 (rw_icmp_eq (p1 := 17) (p2 := 11) (by decide) rfl ⟨Int.le_trans (by decide) b1031, Int.le_trans b1032 (by decide)⟩ ⟨i1.1, i1.2⟩ (fun c1033 => ?_) (fun c1033 => ?_))
  · refine wp_of e35 c35_17 (rw_aload_n (pc' := 18) (v := .ref r0) rfl rfl rfl ?_)
    refine wp_of e35 c35_18 (xg_K (pc' := 21) lf_1_12 hW g0 sh_3 (by decide) (by decide) rfl qtk rfl ?_)
    have h1034 : TP T H rb B := TC_tp hTC_tk qrb
    refine wp_of e35 c35_21 (xc_V (pc' := 24) (r := tk) (as := []) (st := []) (lm_1_74) rfl rfl (Nat.le_of_ble_eq_true rfl) hW gtk sh_4 (by decide) rfl (by decide) (u_16 (B := B) (n := n) (a := (xE B n q)) (q := (xN B n q)) hW gtk qrb grb (by omega) (by omega) (by omega) (rfl) h1034) (fun R1035 T1036 H1037 p1038 => ?_))
    obtain ⟨e1039, w1041, f1042, e1040, p1043⟩ := p1038
    subst e1039
    subst e1040
    have f1045 := f0.tr f1042 rfl
    show wp _ _ 35 24 [(0, .ref r0), (1, vI a1)] [] _ H1037 _
    have u1046 := TC_k p1043
    refine wp_of e35 c35_24 (rw_iconst (pc' := 25) rfl ?_)
    have k1047 : H1037 r0 3 = H r0 3 := (f1042 r0 3 _ g0 rfl)
    have := @xk_b B n q a1
    exact wp_zreturn e35 c35_25 rfl (by omega) ⟨rfl, w1041, f1045, 1, rfl, ⟨by decide, by decide⟩, (Or.inl ⟨by omega, by omega, by omega, by omega, p1043⟩)⟩
  · refine wp_of e35 c35_11 (rw_aload_n (pc' := 12) (v := .ref r0) rfl rfl rfl ?_)
    refine wp_of e35 c35_12 (rw_iconst (pc' := 13) rfl ?_)
    refine wp_of e35 c35_13 (xc_V (pc' := 16) (r := r0) (as := [vI 1]) (st := []) (lm_1_47) rfl rfl (Nat.le_of_ble_eq_true rfl) hW g0 sh_3 (by decide) rfl (by decide) (u_20  hW g0 ⟨by decide, by decide⟩ qtk gtk) (fun R1048 T1049 H1050 p1051 => ?_))
    obtain ⟨e1052, w1054, f1055, z1056, e1053, b1057, p1058⟩ := p1051
    subst e1052
    subst e1053
    obtain ⟨a1059, a1060, a1061⟩ := p1058
    have f1062 := f0.tr f1055 rfl
    show wp _ _ 35 16 [(0, .ref r0), (1, vI a1)] [vI z1056] _ H1050 _
    have := @xk_b B n q a1
    exact wp_zreturn e35 c35_16 rfl (by omega) ⟨rfl, w1054, f1062, z1056, rfl, ⟨b1057.1, b1057.2⟩, (Or.inr ⟨by omega, by omega, by omega, by omega, by omega⟩)⟩
/-! StrikeAwake$Reader.takesWord(Ljava/lang/String;)Z  -/
abbrev uq_23 (r0 : Nat) (s1 : Nat) (tk : Nat) (rb : Nat) (B : Nat → Int) (n : Int) (q : Int) (kk : Int) (T : wq_T) (H : wq_H) : Option Value → wq_T → wq_H → Prop := fun r T' H' => T = T' ∧ WT T H' ∧ wfr [(3, 3), (3, 4), (4, 2), (4, 3), (4, 4), (4, 5), (4, 6)] T H H' ∧ ∃ z : Int, some (vI z) = r ∧ (0 ≤ z ∧ z ≤ 1) ∧ (((z = 1) ∧ (xw B n q kk = 0) ∧ (H' r0 3 = H r0 3) ∧ TC T H' tk B n (xN B n q)) ∨ ((z = 0) ∧ (xw B n q kk = 1) ∧ (H' r0 3 = 1) ∧ (H' r0 4 = q)))
set_option maxHeartbeats 4000000 in
theorem u_23 {kt : Nat → Option mc_E} {T : wq_T} {H : wq_H} {r0 : Nat} {s1 : Nat} {t1 : List Int32} {tk : Nat} {rb : Nat} {B : Nat → Int} {n : Int} {q : Int} {kk : Int} (hW : WT T H) (g0 : T.2.2.2 r0 = some 3) (h1 : mc_find mc_sb s1 = some t1) (qtk : H r0 0 = (tk : Int)) (gtk : T.2.2.2 tk = some 4) (qrb : H tk 0 = (rb : Int)) (grb : T.2.2.2 rb = some 2) (p0 : wkw t1 t1.length = kk) (hTC_tk : TC T H tk B n q) : wpc kt 2 23 [.ref r0, .ref s1] T H (uq_23 r0 s1 tk rb B n q kk T H) := by
  refine wp_enter e23 (Nat.le_of_ble_eq_true rfl) rfl ?_
  have f0 : wfr [(3, 3), (3, 4), (4, 2), (4, 3), (4, 4), (4, 5), (4, 6)] T H H := wfr.rf
  show wp _ _ 23 0 [(0, .ref r0), (1, .ref s1)] [] _ H _
  have u1043 := TC_k hTC_tk
  have _i := TC_i hTC_tk
  refine wp_of e23 c23_0 (rw_aload_n (pc' := 1) (v := .ref r0) rfl rfl rfl ?_)
  refine wp_of e23 c23_1 (xg_K (pc' := 4) lf_1_12 hW g0 sh_3 (by decide) (by decide) rfl qtk rfl ?_)
  refine wp_of e23 c23_4 (rw_aload_n (pc' := 5) (v := .ref s1) rfl rfl rfl ?_)
  refine wp_of e23 c23_5 (xc_V (pc' := 8) (r := tk) (as := [.ref s1]) (st := []) (lm_1_185) rfl rfl (Nat.le_of_ble_eq_true rfl) hW gtk sh_4 (by decide) rfl (by decide) (u_19 (kk := kk) hW gtk h1 (by assumption)) (fun R1044 T1045 H1046 p1047 => ?_))
  obtain ⟨e1048, e1050, z1051, e1049, b1052, p1053⟩ := p1047
  subst e1048
  subst e1049
  subst e1050
  rcases p1053 with ⟨a1054, a1055⟩ | ⟨a1056, a1057⟩
  · show wp _ _ 23 8 [(0, .ref r0), (1, .ref s1)] [vI z1051] _ H _
    refine wp_of e23 c23_8 (rw_if_ne (p1 := 17) (p2 := 11) (by decide) rfl ⟨Int.le_trans (by decide) b1052.1, Int.le_trans b1052.2 (by decide)⟩ (fun c1058 => ?_) (fun c1058 => ?_))
    · refine wp_of e23 c23_17 (rw_aload_n (pc' := 18) (v := .ref r0) rfl rfl rfl ?_)
      refine wp_of e23 c23_18 (xg_K (pc' := 21) lf_1_12 hW g0 sh_3 (by decide) (by decide) rfl qtk rfl ?_)
      have h1059 : TP T H rb B := TC_tp hTC_tk qrb
      refine wp_of e23 c23_21 (xc_V (pc' := 24) (r := tk) (as := []) (st := []) (lm_1_74) rfl rfl (Nat.le_of_ble_eq_true rfl) hW gtk sh_4 (by decide) rfl (by decide) (u_16 (B := B) (n := n) (a := (xE B n q)) (q := (xN B n q)) hW gtk qrb grb (by omega) (by omega) (by omega) (rfl) h1059) (fun R1060 T1061 H1062 p1063 => ?_))
      obtain ⟨e1064, w1066, f1067, e1065, p1068⟩ := p1063
      subst e1064
      subst e1065
      have f1070 := f0.tr f1067 rfl
      show wp _ _ 23 24 [(0, .ref r0), (1, .ref s1)] [] _ H1062 _
      have u1071 := TC_k p1068
      refine wp_of e23 c23_24 (rw_iconst (pc' := 25) rfl ?_)
      have k1072 : H1062 r0 3 = H r0 3 := (f1067 r0 3 _ g0 rfl)
      have := @xw_b B n q kk
      exact wp_zreturn e23 c23_25 rfl (by omega) ⟨rfl, w1066, f1070, 1, rfl, ⟨by decide, by decide⟩, (Or.inl ⟨by omega, by omega, by omega, p1068⟩)⟩
    · exfalso
      omega
  · show wp _ _ 23 8 [(0, .ref r0), (1, .ref s1)] [vI z1051] _ H _
    refine wp_of e23 c23_8 (rw_if_ne (p1 := 17) (p2 := 11) (by decide) rfl ⟨Int.le_trans (by decide) b1052.1, Int.le_trans b1052.2 (by decide)⟩ (fun c1073 => ?_) (fun c1073 => ?_))
    · exfalso
      omega
    · refine wp_of e23 c23_11 (rw_aload_n (pc' := 12) (v := .ref r0) rfl rfl rfl ?_)
      refine wp_of e23 c23_12 (rw_iconst (pc' := 13) rfl ?_)
      refine wp_of e23 c23_13 (xc_V (pc' := 16) (r := r0) (as := [vI 1]) (st := []) (lm_1_47) rfl rfl (Nat.le_of_ble_eq_true rfl) hW g0 sh_3 (by decide) rfl (by decide) (u_20  hW g0 ⟨by decide, by decide⟩ qtk gtk) (fun R1074 T1075 H1076 p1077 => ?_))
      obtain ⟨e1078, w1080, f1081, z1082, e1079, b1083, p1084⟩ := p1077
      subst e1078
      subst e1079
      obtain ⟨a1085, a1086, a1087⟩ := p1084
      have f1088 := f0.tr f1081 rfl
      show wp _ _ 23 16 [(0, .ref r0), (1, .ref s1)] [vI z1082] _ H1076 _
      have := @xw_b B n q kk
      exact wp_zreturn e23 c23_16 rfl (by omega) ⟨rfl, w1080, f1088, z1082, rfl, ⟨b1083.1, b1083.2⟩, (Or.inr ⟨by omega, by omega, by omega, by omega⟩)⟩
/-! StrikeAwake$Reader.whole(II)I  -/
abbrev uq_24 (r0 : Nat) (a1 : Int) (a2 : Int) (tk : Nat) (rb : Nat) (B : Nat → Int) (n : Int) (q : Int) (lo : Int) (hi : Int) (T : wq_T) (H : wq_H) : Option Value → wq_T → wq_H → Prop := fun r T' H' => T = T' ∧ WT T H' ∧ wfr [(3, 3), (3, 4), (4, 2), (4, 3), (4, 4), (4, 5), (4, 6)] T H H' ∧ ∃ z : Int, some (vI z) = r ∧ ((-1) ≤ z ∧ z ≤ 100) ∧ (((xh B n q lo hi = 0) ∧ (z = xV B n q) ∧ (lo ≤ z ∧ z ≤ hi) ∧ (H' r0 3 = H r0 3) ∧ TC T H' tk B n (xN B n q)) ∨ ((z = -1) ∧ (xh B n q lo hi ≠ 0) ∧ (H' r0 3 = xh B n q lo hi) ∧ (H' r0 4 = q)))
set_option maxHeartbeats 4000000 in
theorem u_24 {kt : Nat → Option mc_E} {T : wq_T} {H : wq_H} {r0 : Nat} {a1 : Int} {a2 : Int} {tk : Nat} {rb : Nat} {B : Nat → Int} {n : Int} {q : Int} {lo : Int} {hi : Int} (hW : WT T H) (g0 : T.2.2.2 r0 = some 3) (i1 : 0 ≤ a1 ∧ a1 ≤ 100) (i2 : 0 ≤ a2 ∧ a2 ≤ 100) (qtk : H r0 0 = (tk : Int)) (gtk : T.2.2.2 tk = some 4) (qrb : H tk 0 = (rb : Int)) (grb : T.2.2.2 rb = some 2) (p0 : a1 = lo) (p1 : a2 = hi) (hTC_tk : TC T H tk B n q) : wpc kt 2 24 [.ref r0, vI a1, vI a2] T H (uq_24 r0 a1 a2 tk rb B n q lo hi T H) := by
  refine wp_enter e24 (Nat.le_of_ble_eq_true rfl) rfl ?_
  have f0 : wfr [(3, 3), (3, 4), (4, 2), (4, 3), (4, 4), (4, 5), (4, 6)] T H H := wfr.rf
  show wp _ _ 24 0 [(0, .ref r0), (1, vI a1), (2, vI a2)] [] _ H _
  have u1064 := TC_k hTC_tk
  have _i := TC_i hTC_tk
  refine wp_of e24 c24_0 (rw_aload_n (pc' := 1) (v := .ref r0) rfl rfl rfl ?_)
  refine wp_of e24 c24_1 (xg_K (pc' := 4) lf_1_12 hW g0 sh_3 (by decide) (by decide) rfl qtk rfl ?_)
  refine wp_of e24 c24_4 (xg_I (pc' := 7) lf_1_38 hW gtk sh_4 (by decide) (by decide) ty_4_3 rfl rfl (fun b1065 b1066 => ?_))
  refine wp_of e24 c24_7 (rw_iconst (pc' := 8) rfl ?_)
  refine wp_of e24 c24_8 (rw_icmp_eq (p1 := 19) (p2 := 11) (by decide) rfl ⟨Int.le_trans (by decide) b1065, Int.le_trans b1066 (by decide)⟩ ⟨by decide, by decide⟩ (fun c1067 => ?_) (fun c1067 => ?_))
  · refine wp_of e24 c24_19 (rw_aload_n (pc' := 20) (v := .ref r0) rfl rfl rfl ?_)
    refine wp_of e24 c24_20 (xg_K (pc' := 23) lf_1_12 hW g0 sh_3 (by decide) (by decide) rfl qtk rfl ?_)
    refine wp_of e24 c24_23 (xg_I (pc' := 26) lf_1_230 hW gtk sh_4 (by decide) (by decide) ty_4_5 rfl rfl (fun b1068 b1069 => ?_))
    refine wp_of e24 c24_26 (rw_istore_n (pc' := 27) (z := H tk 5) (L' := [(3, vI (H tk 5)), (0, .ref r0), (1, vI a1), (2, vI a2)]) rfl rfl rfl ?_)
    refine wp_of e24 c24_27 (rw_iload_n (pc' := 28) (z := H tk 5) rfl rfl ?_)
    refine wp_of e24 c24_28 (rw_iload_n (pc' := 29) (z := a1) rfl rfl ?_)
    refine wp_of e24 c24_29 (rw_icmp_lt (p1 := 37) (p2 := 32) (by decide) rfl ⟨b1068, b1069⟩ ⟨Int.le_trans (by decide) i1.1, Int.le_trans i1.2 (by decide)⟩ (fun c1070 => ?_) (fun c1070 => ?_))
    · refine wp_of e24 c24_37 (rw_aload_n (pc' := 38) (v := .ref r0) rfl rfl rfl ?_)
      refine wp_of e24 c24_38 (rw_iconst (pc' := 39) rfl ?_)
      refine wp_of e24 c24_39 (xc_V (pc' := 42) (r := r0) (as := [vI 4]) (st := []) (lm_1_47) rfl rfl (Nat.le_of_ble_eq_true rfl) hW g0 sh_3 (by decide) rfl (by decide) (u_20  hW g0 ⟨by decide, by decide⟩ qtk gtk) (fun R1071 T1072 H1073 p1074 => ?_))
      obtain ⟨e1075, w1077, f1078, z1079, e1076, b1080, p1081⟩ := p1074
      subst e1075
      subst e1076
      obtain ⟨a1082, a1083, a1084⟩ := p1081
      have f1085 := f0.tr f1078 rfl
      show wp _ _ 24 42 [(3, vI (H tk 5)), (0, .ref r0), (1, vI a1), (2, vI a2)] [vI z1079] _ H1073 _
      refine wp_of e24 c24_42 (rw_pop (pc' := 43) rfl rfl ?_)
      refine wp_of e24 c24_43 (rw_iconst (pc' := 44) rfl ?_)
      have := @xh_b B n q lo hi
      exact wp_ireturn e24 c24_44 rfl ⟨rfl, w1077, f1085, -1, rfl, ⟨by decide, by decide⟩, (Or.inr ⟨by omega, by omega, by omega, by omega⟩)⟩
    · refine wp_of e24 c24_32 (rw_iload_n (pc' := 33) (z := H tk 5) rfl rfl ?_)
      refine wp_of e24 c24_33 (rw_iload_n (pc' := 34) (z := a2) rfl rfl ?_)
      refine wp_of e24 c24_34 (rw_icmp_le (p1 := 45) (p2 := 37) (by decide) rfl ⟨b1068, b1069⟩ ⟨Int.le_trans (by decide) i2.1, Int.le_trans i2.2 (by decide)⟩ (fun c1086 => ?_) (fun c1086 => ?_))
      · refine wp_of e24 c24_45 (rw_aload_n (pc' := 46) (v := .ref r0) rfl rfl rfl ?_)
        refine wp_of e24 c24_46 (xg_K (pc' := 49) lf_1_12 hW g0 sh_3 (by decide) (by decide) rfl qtk rfl ?_)
        have h1087 : TP T H rb B := TC_tp hTC_tk qrb
        refine wp_of e24 c24_49 (xc_V (pc' := 52) (r := tk) (as := []) (st := []) (lm_1_74) rfl rfl (Nat.le_of_ble_eq_true rfl) hW gtk sh_4 (by decide) rfl (by decide) (u_16 (B := B) (n := n) (a := (xE B n q)) (q := (xN B n q)) hW gtk qrb grb (by omega) (by omega) (by omega) (rfl) h1087) (fun R1088 T1089 H1090 p1091 => ?_))
        obtain ⟨e1092, w1094, f1095, e1093, p1096⟩ := p1091
        subst e1092
        subst e1093
        have f1098 := f0.tr f1095 rfl
        show wp _ _ 24 52 [(3, vI (H tk 5)), (0, .ref r0), (1, vI a1), (2, vI a2)] [] _ H1090 _
        have u1099 := TC_k p1096
        refine wp_of e24 c24_52 (rw_iload_n (pc' := 53) (z := H tk 5) rfl rfl ?_)
        have k1100 : H1090 r0 3 = H r0 3 := (f1095 r0 3 _ g0 rfl)
        have := @xh_b B n q lo hi
        exact wp_ireturn e24 c24_53 rfl ⟨rfl, w1094, f1098, H tk 5, rfl, ⟨by omega, by omega⟩, (Or.inl ⟨by omega, by omega, by omega, by omega, p1096⟩)⟩
      · refine wp_of e24 c24_37 (rw_aload_n (pc' := 38) (v := .ref r0) rfl rfl rfl ?_)
        refine wp_of e24 c24_38 (rw_iconst (pc' := 39) rfl ?_)
        refine wp_of e24 c24_39 (xc_V (pc' := 42) (r := r0) (as := [vI 4]) (st := []) (lm_1_47) rfl rfl (Nat.le_of_ble_eq_true rfl) hW g0 sh_3 (by decide) rfl (by decide) (u_20  hW g0 ⟨by decide, by decide⟩ qtk gtk) (fun R1101 T1102 H1103 p1104 => ?_))
        obtain ⟨e1105, w1107, f1108, z1109, e1106, b1110, p1111⟩ := p1104
        subst e1105
        subst e1106
        obtain ⟨a1112, a1113, a1114⟩ := p1111
        have f1115 := f0.tr f1108 rfl
        show wp _ _ 24 42 [(3, vI (H tk 5)), (0, .ref r0), (1, vI a1), (2, vI a2)] [vI z1109] _ H1103 _
        refine wp_of e24 c24_42 (rw_pop (pc' := 43) rfl rfl ?_)
        refine wp_of e24 c24_43 (rw_iconst (pc' := 44) rfl ?_)
        have := @xh_b B n q lo hi
        exact wp_ireturn e24 c24_44 rfl ⟨rfl, w1107, f1115, -1, rfl, ⟨by decide, by decide⟩, (Or.inr ⟨by omega, by omega, by omega, by omega⟩)⟩
  · refine wp_of e24 c24_11 (rw_aload_n (pc' := 12) (v := .ref r0) rfl rfl rfl ?_)
    refine wp_of e24 c24_12 (rw_iconst (pc' := 13) rfl ?_)
    refine wp_of e24 c24_13 (xc_V (pc' := 16) (r := r0) (as := [vI 1]) (st := []) (lm_1_47) rfl rfl (Nat.le_of_ble_eq_true rfl) hW g0 sh_3 (by decide) rfl (by decide) (u_20  hW g0 ⟨by decide, by decide⟩ qtk gtk) (fun R1116 T1117 H1118 p1119 => ?_))
    obtain ⟨e1120, w1122, f1123, z1124, e1121, b1125, p1126⟩ := p1119
    subst e1120
    subst e1121
    obtain ⟨a1127, a1128, a1129⟩ := p1126
    have f1130 := f0.tr f1123 rfl
    show wp _ _ 24 16 [(0, .ref r0), (1, vI a1), (2, vI a2)] [vI z1124] _ H1118 _
    refine wp_of e24 c24_16 (rw_pop (pc' := 17) rfl rfl ?_)
    refine wp_of e24 c24_17 (rw_iconst (pc' := 18) rfl ?_)
    have := @xh_b B n q lo hi
    exact wp_ireturn e24 c24_18 rfl ⟨rfl, w1122, f1130, -1, rfl, ⟨by decide, by decide⟩, (Or.inr ⟨by omega, by omega, by omega, by omega⟩)⟩
