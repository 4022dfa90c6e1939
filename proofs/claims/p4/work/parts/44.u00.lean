/-! what methods do (own work, written by wip/gen3/sx3.py) -/
/-! StrikeAwake$Tokens.advance()V  -/
abbrev uq_16 (r0 : Nat) (rb : Nat) (B : Nat → Int) (n : Int) (a : Int) (q : Int) (T : wq_T) (H : wq_H) : Option Value → wq_T → wq_H → Prop := fun r T' H' => T = T' ∧ WT T H' ∧ wfr [(4, 2), (4, 3), (4, 4), (4, 5), (4, 6)] T H H' ∧ none = r ∧ ((TC T H' r0 B n q))
set_option maxHeartbeats 4000000 in
theorem u_16 {kt : Nat → Option mc_E} {T : wq_T} {H : wq_H} {r0 : Nat} {rb : Nat} {B : Nat → Int} {n : Int} {a : Int} {q : Int} (hW : WT T H) (g0 : T.2.2.2 r0 = some 4) (qrb : H r0 0 = (rb : Int)) (grb : T.2.2.2 rb = some 2) (p0 : H r0 1 = n) (p1 : H r0 2 = a) (p2 : a ≤ n) (p3 : q = xG 32 32 B n a) (hTP_rb : TP T H rb B) : wpc kt 1 16 [.ref r0] T H (uq_16 r0 rb B n a q T H) := by
  refine wp_enter e16 (Nat.le_of_ble_eq_true rfl) rfl ?_
  have f0 : wfr [(4, 2), (4, 3), (4, 4), (4, 5), (4, 6)] T H H := wfr.rf
  show wp _ _ 16 0 [(0, .ref r0)] [] _ H _
  have b483 : 0 ≤ H r0 1 ∧ H r0 1 ≤ 900 := hW.box g0 (n := 7) rfl (by decide) rfl
  have b484 : 0 ≤ H r0 2 ∧ H r0 2 ≤ 900 := hW.box g0 (n := 7) rfl (by decide) rfl
  have _x0 := @xG_b 32 32 B n a
  have _x1 := @xG_b 97 122 B n q
  have _x2 := @xG_b 48 57 B n q
  have _x3 := @xG_or 97 122 B n q
  have _x4 := @xG_or 48 57 B n q
  have _x5 := @xG_at 97 122 B n q
  have _x6 := @xG_at 48 57 B n q
  refine wp_of e16 c16_0 (rw_aload_n (pc' := 1) (v := .ref r0) rfl rfl rfl ?_)
  refine wp_of e16 c16_1 (xg_I (pc' := 4) lf_2_23 hW g0 sh_4 (by decide) (by decide) ty_4_2 rfl rfl (fun b485 b486 => ?_))
  have jn504 : ∀ (v503 : Int), (0 ≤ v503 ∧ v503 ≤ 900) → (v503 = q) → wp kt 0 16 30 [(1, vI v503), (0, .ref r0)] [] T H (uq_16 r0 rb B n a q T H) := by
    intro v503 b507 x508
    refine wp_of e16 c16_30 (rw_aload_n (pc' := 31) (v := .ref r0) rfl rfl rfl ?_)
    refine wp_of e16 c16_31 (rw_iload_n (pc' := 32) (z := v503) rfl rfl ?_)
    refine wp_of e16 c16_32 (xp_I (pc' := 35) lf_2_29 hW g0 sh_4 (by decide) (by decide) ty_4_4 rfl rfl (by omega) (by omega) ⟨by omega, by omega⟩ rfl (fun H509 e510 w511 => ?_))
    have f512 := f0.put' e510 g0 rfl
    have k513 : H509 r0 4 = v503 := wq_u_s e510
    have jn594 : ∀ (v592 : Int) (H593 : wq_H), WT T H593 → wfr [(4, 6)] T H509 H593 → (0 ≤ v592 ∧ v592 ≤ 900) → (v592 = xG 97 122 B n q) → (8 < v592 - q ∨ H593 r0 6 = xY B n q) → wp kt 0 16 101 [(1, vI v592), (0, .ref r0)] [] T H593 (uq_16 r0 rb B n a q T H) := by
      intro v592 H593 w595 f596 b597 x598 x599
      have f600 := f512.tr f596 rfl
      have k601 : H593 r0 4 = H509 r0 4 := (f596 r0 4 _ g0 rfl)
      refine wp_of e16 c16_101 (rw_iload_n (pc' := 102) (z := v592) rfl rfl ?_)
      refine wp_of e16 c16_102 (rw_aload_n (pc' := 103) (v := .ref r0) rfl rfl rfl ?_)
      refine wp_of e16 c16_103 (xg_I (pc' := 106) lf_2_29 w595 g0 sh_4 (by decide) (by decide) ty_4_4 rfl rfl (fun b602 b603 => ?_))
      refine wp_of e16 c16_106 (rw_isub (pc' := 107) rfl ?_)
      refine wp_of e16 c16_107 (rw_istore_n (pc' := 108) (z := v592 - (H593 r0 4)) (L' := [(2, vI (v592 - (H593 r0 4))), (1, vI v592), (0, .ref r0)]) rfl rfl rfl ?_)
      refine wp_of e16 c16_108 (rw_aload_n (pc' := 109) (v := .ref r0) rfl rfl rfl ?_)
      refine wp_of e16 c16_109 (rw_iconst (pc' := 110) rfl ?_)
      have jn687 : ∀ (v685 : Int) (H686 : wq_H), WT T H686 → wfr [(4, 5)] T H593 H686 → (0 ≤ v685 ∧ v685 ≤ 900) → (((v592 - (H593 r0 4)) ≠ 0 ∧ v685 = q + (v592 - (H593 r0 4))) ∨ ((v592 - (H593 r0 4)) = 0 ∧ v685 = xG 48 57 B n q ∧ (3 < v685 - q ∨ H686 r0 5 = xV B n q))) → wp kt 0 16 174 [(1, vI v685), (0, .ref r0), (2, vI (v592 - (H593 r0 4)))] [] T H686 (uq_16 r0 rb B n a q T H) := by
        intro v685 H686 w688 f689 b690 x691
        have f692 := f600.tr f689 rfl
        refine wp_of e16 c16_174 (rw_iload_n (pc' := 175) (z := v685) rfl rfl ?_)
        refine wp_of e16 c16_175 (rw_aload_n (pc' := 176) (v := .ref r0) rfl rfl rfl ?_)
        have k693 : H686 r0 4 = H593 r0 4 := (f689 r0 4 _ g0 rfl)
        refine wp_of e16 c16_176 (xg_I (pc' := 179) lf_2_29 w688 g0 sh_4 (by decide) (by decide) ty_4_4 rfl rfl (fun b694 b695 => ?_))
        refine wp_of e16 c16_179 (rw_isub (pc' := 180) rfl ?_)
        refine wp_of e16 c16_180 (rw_iload_n (pc' := 181) (z := v592 - (H593 r0 4)) rfl rfl ?_)
        refine wp_of e16 c16_181 (rw_isub (pc' := 182) rfl ?_)
        refine wp_of e16 c16_182 (rw_istore_n (pc' := 183) (z := (v685 - (H686 r0 4)) - (v592 - (H593 r0 4))) (L' := [(3, vI ((v685 - (H686 r0 4)) - (v592 - (H593 r0 4)))), (1, vI v685), (0, .ref r0), (2, vI (v592 - (H593 r0 4)))]) rfl rfl rfl ?_)
        refine wp_of e16 c16_183 (rw_iload_n (pc' := 184) (z := v592 - (H593 r0 4)) rfl rfl ?_)
        refine wp_of e16 c16_184 (rw_if_le (p1 := 205) (p2 := 187) (by decide) rfl ⟨by omega, by omega⟩ (fun c696 => ?_) (fun c696 => ?_))
        · refine wp_of e16 c16_205 (rw_iload_n (pc' := 206) (z := (v685 - (H686 r0 4)) - (v592 - (H593 r0 4))) rfl rfl ?_)
          refine wp_of e16 c16_206 (rw_if_le (p1 := 226) (p2 := 209) (by decide) rfl ⟨by omega, by omega⟩ (fun c697 => ?_) (fun c697 => ?_))
          · have := @xB_q B q v685
            refine wp_of e16 c16_226 (rw_iload_n (pc' := 227) (z := v685) rfl rfl ?_)
            refine wp_of e16 c16_227 (rw_aload_n (pc' := 228) (v := .ref r0) rfl rfl rfl ?_)
            have k698 : H686 r0 1 = H r0 1 := ((f689 r0 1 _ g0 rfl).trans ((f596 r0 1 _ g0 rfl).trans (wq_u_j e510 rfl)))
            refine wp_of e16 c16_228 (xg_I (pc' := 231) lf_2_19 w688 g0 sh_4 (by decide) (by decide) ty_4_1 rfl rfl (fun b699 b700 => ?_))
            refine wp_of e16 c16_231 (rw_icmp_ge (p1 := 275) (p2 := 234) (by decide) rfl ⟨by omega, by omega⟩ ⟨by omega, by omega⟩ (fun c701 => ?_) (fun c701 => ?_))
            · refine wp_of e16 c16_275 (rw_aload_n (pc' := 276) (v := .ref r0) rfl rfl rfl ?_)
              refine wp_of e16 c16_276 (rw_iconst (pc' := 277) rfl ?_)
              refine wp_of e16 c16_277 (xp_I (pc' := 280) lf_2_41 w688 g0 sh_4 (by decide) (by decide) ty_4_3 rfl rfl (by omega) (by omega) ⟨by omega, by omega⟩ rfl (fun H702 e703 w704 => ?_))
              have f705 := f692.put' e703 g0 rfl
              have k706 : H702 r0 3 = 0 := wq_u_s e703
              refine wp_of e16 c16_280 (rw_aload_n (pc' := 281) (v := .ref r0) rfl rfl rfl ?_)
              refine wp_of e16 c16_281 (rw_iload_n (pc' := 282) (z := v685) rfl rfl ?_)
              refine wp_of e16 c16_282 (xp_I (pc' := 285) lf_2_23 w704 g0 sh_4 (by decide) (by decide) ty_4_2 rfl rfl (by omega) (by omega) ⟨by omega, by omega⟩ rfl (fun H707 e708 w709 => ?_))
              have f710 := f705.put' e708 g0 rfl
              have k711 : H707 r0 2 = v685 := wq_u_s e708
              have k712 : H707 r0 3 = H702 r0 3 := (wq_u_j e708 rfl)
              have k713 : H707 r0 4 = H686 r0 4 := ((wq_u_j e708 rfl).trans (wq_u_j e703 rfl))
              have k714 : H707 r0 5 = H686 r0 5 := ((wq_u_j e708 rfl).trans (wq_u_j e703 rfl))
              have k715 : H707 r0 6 = H593 r0 6 := ((wq_u_j e708 rfl).trans ((wq_u_j e703 rfl).trans (f689 r0 6 _ g0 rfl)))
              have k716 : H707 r0 1 = H686 r0 1 := ((wq_u_j e708 rfl).trans (wq_u_j e703 rfl))
              have ek : xK B n q = H707 r0 3 := by
                unfold xK
                repeat first | rw [if_pos (by omega)] | rw [if_neg (by omega)]
                omega
              have ee : xE B n q = H707 r0 2 := by
                unfold xE
                repeat first | rw [if_pos (by omega)] | rw [if_neg (by omega)]
                omega
              have k717 : H707 r0 0 = H r0 0 := ((wq_u_j e708 rfl).trans ((wq_u_j e703 rfl).trans ((f689 r0 0 _ g0 rfl).trans ((f596 r0 0 _ g0 rfl).trans (wq_u_j e510 rfl)))))
              have q718 : H707 r0 0 = (rb : Int) := k717.trans qrb
              have h719 : TP T H707 rb B := (TP_fr w704 grb ((wfr.rf (l := [(4, 2)])).put' e708 g0 rfl) rfl (TP_fr w688 grb ((wfr.rf (l := [(4, 3)])).put' e703 g0 rfl) rfl (TP_fr w595 grb f689 rfl (TP_fr w511 grb f596 rfl (TP_fr hW grb ((wfr.rf (l := [(4, 4)])).put' e510 g0 rfl) rfl hTP_rb)))))
              exact wp_return e16 c16_285 rfl ⟨rfl, w709, f710, rfl, (TC_mk q718 grb h719 (by omega) (fun h => by omega) (fun h => by omega))⟩
            · refine wp_of e16 c16_234 (rw_aload_n (pc' := 235) (v := .ref r0) rfl rfl rfl ?_)
              refine wp_of e16 c16_235 (rw_aload_n (pc' := 236) (v := .ref r0) rfl rfl rfl ?_)
              have k720 : H686 r0 0 = H r0 0 := ((f689 r0 0 _ g0 rfl).trans ((f596 r0 0 _ g0 rfl).trans (wq_u_j e510 rfl)))
              have q721 : H686 r0 0 = (rb : Int) := k720.trans qrb
              refine wp_of e16 c16_236 (xg_K (pc' := 239) lf_2_7 w688 g0 sh_4 (by decide) (by decide) rfl q721 rfl ?_)
              refine wp_of e16 c16_239 (rw_iload_n (pc' := 240) (z := v685) rfl rfl ?_)
              refine wp_of e16 c16_240 (xa_B (by decide) (pc' := 241) w688 grb sh_2 (by decide) (ty_2 _) (by omega) (by omega) rfl (fun b722 b723 => ?_))
              have h724 : TP T H686 rb B := (TP_fr w595 grb f689 rfl (TP_fr w511 grb f596 rfl (TP_fr hW grb ((wfr.rf (l := [(4, 4)])).put' e510 g0 rfl) rfl hTP_rb)))
              have := h724 (v685.toNat) (by omega)
              refine wp_of e16 c16_241 (rw_bipush (pc' := 243) (z := 59) rfl (by decide) ?_)
              refine wp_of e16 c16_243 (rw_icmp_ne (p1 := 250) (p2 := 246) (by decide) rfl ⟨by omega, by omega⟩ ⟨by omega, by omega⟩ (fun c725 => ?_) (fun c725 => ?_))
              · refine wp_of e16 c16_250 (rw_aload_n (pc' := 251) (v := .ref r0) rfl rfl rfl ?_)
                refine wp_of e16 c16_251 (xg_K (pc' := 254) lf_2_7 w688 g0 sh_4 (by decide) (by decide) rfl q721 rfl ?_)
                refine wp_of e16 c16_254 (rw_iload_n (pc' := 255) (z := v685) rfl rfl ?_)
                refine wp_of e16 c16_255 (xa_B (by decide) (pc' := 256) w688 grb sh_2 (by decide) (ty_2 _) (by omega) (by omega) rfl (fun b726 b727 => ?_))
                have := h724 (v685.toNat) (by omega)
                refine wp_of e16 c16_256 (rw_bipush (pc' := 258) (z := 44) rfl (by decide) ?_)
                refine wp_of e16 c16_258 (rw_icmp_ne (p1 := 265) (p2 := 261) (by decide) rfl ⟨by omega, by omega⟩ ⟨by omega, by omega⟩ (fun c728 => ?_) (fun c728 => ?_))
                · refine wp_of e16 c16_265 (rw_iconst (pc' := 266) rfl ?_)
                  refine wp_of e16 c16_266 (xp_I (pc' := 269) lf_2_41 w688 g0 sh_4 (by decide) (by decide) ty_4_3 rfl rfl (by omega) (by omega) ⟨by omega, by omega⟩ rfl (fun H729 e730 w731 => ?_))
                  have f732 := f692.put' e730 g0 rfl
                  have k733 : H729 r0 3 = 5 := wq_u_s e730
                  refine wp_of e16 c16_269 (rw_iinc (pc' := 272) (z := v685) (L' := [(1, vI (v685 + 1)), (3, vI ((v685 - (H686 r0 4)) - (v592 - (H593 r0 4)))), (0, .ref r0), (2, vI (v592 - (H593 r0 4)))]) rfl rfl rfl rfl ?_)
                  refine wp_of e16 c16_272 (rw_goto (p1 := 280) (by decide) ?_)
                  refine wp_of e16 c16_280 (rw_aload_n (pc' := 281) (v := .ref r0) rfl rfl rfl ?_)
                  refine wp_of e16 c16_281 (rw_iload_n (pc' := 282) (z := v685 + 1) rfl rfl ?_)
                  refine wp_of e16 c16_282 (xp_I (pc' := 285) lf_2_23 w731 g0 sh_4 (by decide) (by decide) ty_4_2 rfl rfl (by omega) (by omega) ⟨by omega, by omega⟩ rfl (fun H734 e735 w736 => ?_))
                  have f737 := f732.put' e735 g0 rfl
                  have k738 : H734 r0 2 = v685 + 1 := wq_u_s e735
                  have k739 : H734 r0 3 = H729 r0 3 := (wq_u_j e735 rfl)
                  have k740 : H734 r0 4 = H686 r0 4 := ((wq_u_j e735 rfl).trans (wq_u_j e730 rfl))
                  have k741 : H734 r0 5 = H686 r0 5 := ((wq_u_j e735 rfl).trans (wq_u_j e730 rfl))
                  have k742 : H734 r0 6 = H593 r0 6 := ((wq_u_j e735 rfl).trans ((wq_u_j e730 rfl).trans (f689 r0 6 _ g0 rfl)))
                  have k743 : H734 r0 1 = H686 r0 1 := ((wq_u_j e735 rfl).trans (wq_u_j e730 rfl))
                  have ek : xK B n q = H734 r0 3 := by
                    unfold xK
                    repeat first | rw [if_pos (by omega)] | rw [if_neg (by omega)]
                    omega
                  have ee : xE B n q = H734 r0 2 := by
                    unfold xE
                    repeat first | rw [if_pos (by omega)] | rw [if_neg (by omega)]
                    omega
                  have k744 : H734 r0 0 = H686 r0 0 := ((wq_u_j e735 rfl).trans (wq_u_j e730 rfl))
                  have q745 : H734 r0 0 = (rb : Int) := k744.trans q721
                  have h746 : TP T H734 rb B := (TP_fr w731 grb ((wfr.rf (l := [(4, 2)])).put' e735 g0 rfl) rfl (TP_fr w688 grb ((wfr.rf (l := [(4, 3)])).put' e730 g0 rfl) rfl h724))
                  exact wp_return e16 c16_285 rfl ⟨rfl, w736, f737, rfl, (TC_mk q745 grb h746 (by omega) (fun h => by omega) (fun h => by omega))⟩
                · refine wp_of e16 c16_261 (rw_iconst (pc' := 262) rfl ?_)
                  refine wp_of e16 c16_262 (rw_goto (p1 := 266) (by decide) ?_)
                  refine wp_of e16 c16_266 (xp_I (pc' := 269) lf_2_41 w688 g0 sh_4 (by decide) (by decide) ty_4_3 rfl rfl (by omega) (by omega) ⟨by omega, by omega⟩ rfl (fun H747 e748 w749 => ?_))
                  have f750 := f692.put' e748 g0 rfl
                  have k751 : H747 r0 3 = 4 := wq_u_s e748
                  refine wp_of e16 c16_269 (rw_iinc (pc' := 272) (z := v685) (L' := [(1, vI (v685 + 1)), (3, vI ((v685 - (H686 r0 4)) - (v592 - (H593 r0 4)))), (0, .ref r0), (2, vI (v592 - (H593 r0 4)))]) rfl rfl rfl rfl ?_)
                  refine wp_of e16 c16_272 (rw_goto (p1 := 280) (by decide) ?_)
                  refine wp_of e16 c16_280 (rw_aload_n (pc' := 281) (v := .ref r0) rfl rfl rfl ?_)
                  refine wp_of e16 c16_281 (rw_iload_n (pc' := 282) (z := v685 + 1) rfl rfl ?_)
                  refine wp_of e16 c16_282 (xp_I (pc' := 285) lf_2_23 w749 g0 sh_4 (by decide) (by decide) ty_4_2 rfl rfl (by omega) (by omega) ⟨by omega, by omega⟩ rfl (fun H752 e753 w754 => ?_))
                  have f755 := f750.put' e753 g0 rfl
                  have k756 : H752 r0 2 = v685 + 1 := wq_u_s e753
                  have k757 : H752 r0 3 = H747 r0 3 := (wq_u_j e753 rfl)
                  have k758 : H752 r0 4 = H686 r0 4 := ((wq_u_j e753 rfl).trans (wq_u_j e748 rfl))
                  have k759 : H752 r0 5 = H686 r0 5 := ((wq_u_j e753 rfl).trans (wq_u_j e748 rfl))
                  have k760 : H752 r0 6 = H593 r0 6 := ((wq_u_j e753 rfl).trans ((wq_u_j e748 rfl).trans (f689 r0 6 _ g0 rfl)))
                  have k761 : H752 r0 1 = H686 r0 1 := ((wq_u_j e753 rfl).trans (wq_u_j e748 rfl))
                  have ek : xK B n q = H752 r0 3 := by
                    unfold xK
                    repeat first | rw [if_pos (by omega)] | rw [if_neg (by omega)]
                    omega
                  have ee : xE B n q = H752 r0 2 := by
                    unfold xE
                    repeat first | rw [if_pos (by omega)] | rw [if_neg (by omega)]
                    omega
                  have k762 : H752 r0 0 = H686 r0 0 := ((wq_u_j e753 rfl).trans (wq_u_j e748 rfl))
                  have q763 : H752 r0 0 = (rb : Int) := k762.trans q721
                  have h764 : TP T H752 rb B := (TP_fr w749 grb ((wfr.rf (l := [(4, 2)])).put' e753 g0 rfl) rfl (TP_fr w688 grb ((wfr.rf (l := [(4, 3)])).put' e748 g0 rfl) rfl h724))
                  exact wp_return e16 c16_285 rfl ⟨rfl, w754, f755, rfl, (TC_mk q763 grb h764 (by omega) (fun h => by omega) (fun h => by omega))⟩
              · refine wp_of e16 c16_246 (rw_iconst (pc' := 247) rfl ?_)
                refine wp_of e16 c16_247 (rw_goto (p1 := 266) (by decide) ?_)
                refine wp_of e16 c16_266 (xp_I (pc' := 269) lf_2_41 w688 g0 sh_4 (by decide) (by decide) ty_4_3 rfl rfl (by omega) (by omega) ⟨by omega, by omega⟩ rfl (fun H765 e766 w767 => ?_))
                have f768 := f692.put' e766 g0 rfl
                have k769 : H765 r0 3 = 3 := wq_u_s e766
                refine wp_of e16 c16_269 (rw_iinc (pc' := 272) (z := v685) (L' := [(1, vI (v685 + 1)), (3, vI ((v685 - (H686 r0 4)) - (v592 - (H593 r0 4)))), (0, .ref r0), (2, vI (v592 - (H593 r0 4)))]) rfl rfl rfl rfl ?_)
                refine wp_of e16 c16_272 (rw_goto (p1 := 280) (by decide) ?_)
                refine wp_of e16 c16_280 (rw_aload_n (pc' := 281) (v := .ref r0) rfl rfl rfl ?_)
                refine wp_of e16 c16_281 (rw_iload_n (pc' := 282) (z := v685 + 1) rfl rfl ?_)
                refine wp_of e16 c16_282 (xp_I (pc' := 285) lf_2_23 w767 g0 sh_4 (by decide) (by decide) ty_4_2 rfl rfl (by omega) (by omega) ⟨by omega, by omega⟩ rfl (fun H770 e771 w772 => ?_))
                have f773 := f768.put' e771 g0 rfl
                have k774 : H770 r0 2 = v685 + 1 := wq_u_s e771
                have k775 : H770 r0 3 = H765 r0 3 := (wq_u_j e771 rfl)
                have k776 : H770 r0 4 = H686 r0 4 := ((wq_u_j e771 rfl).trans (wq_u_j e766 rfl))
                have k777 : H770 r0 5 = H686 r0 5 := ((wq_u_j e771 rfl).trans (wq_u_j e766 rfl))
                have k778 : H770 r0 6 = H593 r0 6 := ((wq_u_j e771 rfl).trans ((wq_u_j e766 rfl).trans (f689 r0 6 _ g0 rfl)))
                have k779 : H770 r0 1 = H686 r0 1 := ((wq_u_j e771 rfl).trans (wq_u_j e766 rfl))
                have ek : xK B n q = H770 r0 3 := by
                  unfold xK
                  repeat first | rw [if_pos (by omega)] | rw [if_neg (by omega)]
                  omega
                have ee : xE B n q = H770 r0 2 := by
                  unfold xE
                  repeat first | rw [if_pos (by omega)] | rw [if_neg (by omega)]
                  omega
                have k780 : H770 r0 0 = H686 r0 0 := ((wq_u_j e771 rfl).trans (wq_u_j e766 rfl))
                have q781 : H770 r0 0 = (rb : Int) := k780.trans q721
                have h782 : TP T H770 rb B := (TP_fr w767 grb ((wfr.rf (l := [(4, 2)])).put' e771 g0 rfl) rfl (TP_fr w688 grb ((wfr.rf (l := [(4, 3)])).put' e766 g0 rfl) rfl h724))
                exact wp_return e16 c16_285 rfl ⟨rfl, w772, f773, rfl, (TC_mk q781 grb h782 (by omega) (fun h => by omega) (fun h => by omega))⟩
          · refine wp_of e16 c16_209 (rw_aload_n (pc' := 210) (v := .ref r0) rfl rfl rfl ?_)
            refine wp_of e16 c16_210 (rw_iload_n (pc' := 211) (z := (v685 - (H686 r0 4)) - (v592 - (H593 r0 4))) rfl rfl ?_)
            refine wp_of e16 c16_211 (rw_iconst (pc' := 212) rfl ?_)
            refine wp_of e16 c16_212 (rw_icmp_gt (p1 := 219) (p2 := 215) (by decide) rfl ⟨by omega, by omega⟩ ⟨by omega, by omega⟩ (fun c783 => ?_) (fun c783 => ?_))
            · refine wp_of e16 c16_219 (rw_iconst (pc' := 220) rfl ?_)
              refine wp_of e16 c16_220 (xp_I (pc' := 223) lf_2_41 w688 g0 sh_4 (by decide) (by decide) ty_4_3 rfl rfl (by omega) (by omega) ⟨by omega, by omega⟩ rfl (fun H784 e785 w786 => ?_))
              have f787 := f692.put' e785 g0 rfl
              have k788 : H784 r0 3 = 5 := wq_u_s e785
              refine wp_of e16 c16_223 (rw_goto (p1 := 280) (by decide) ?_)
              refine wp_of e16 c16_280 (rw_aload_n (pc' := 281) (v := .ref r0) rfl rfl rfl ?_)
              refine wp_of e16 c16_281 (rw_iload_n (pc' := 282) (z := v685) rfl rfl ?_)
              refine wp_of e16 c16_282 (xp_I (pc' := 285) lf_2_23 w786 g0 sh_4 (by decide) (by decide) ty_4_2 rfl rfl (by omega) (by omega) ⟨by omega, by omega⟩ rfl (fun H789 e790 w791 => ?_))
              have f792 := f787.put' e790 g0 rfl
              have k793 : H789 r0 2 = v685 := wq_u_s e790
              have k794 : H789 r0 3 = H784 r0 3 := (wq_u_j e790 rfl)
              have k795 : H789 r0 4 = H686 r0 4 := ((wq_u_j e790 rfl).trans (wq_u_j e785 rfl))
              have k796 : H789 r0 5 = H686 r0 5 := ((wq_u_j e790 rfl).trans (wq_u_j e785 rfl))
              have k797 : H789 r0 6 = H593 r0 6 := ((wq_u_j e790 rfl).trans ((wq_u_j e785 rfl).trans (f689 r0 6 _ g0 rfl)))
              have k798 : H789 r0 1 = H r0 1 := ((wq_u_j e790 rfl).trans ((wq_u_j e785 rfl).trans ((f689 r0 1 _ g0 rfl).trans ((f596 r0 1 _ g0 rfl).trans (wq_u_j e510 rfl)))))
              have ek : xK B n q = H789 r0 3 := by
                unfold xK
                repeat first | rw [if_pos (by omega)] | rw [if_neg (by omega)]
                omega
              have ee : xE B n q = H789 r0 2 := by
                unfold xE
                repeat first | rw [if_pos (by omega)] | rw [if_neg (by omega)]
                omega
              have k799 : H789 r0 0 = H r0 0 := ((wq_u_j e790 rfl).trans ((wq_u_j e785 rfl).trans ((f689 r0 0 _ g0 rfl).trans ((f596 r0 0 _ g0 rfl).trans (wq_u_j e510 rfl)))))
              have q800 : H789 r0 0 = (rb : Int) := k799.trans qrb
              have h801 : TP T H789 rb B := (TP_fr w786 grb ((wfr.rf (l := [(4, 2)])).put' e790 g0 rfl) rfl (TP_fr w688 grb ((wfr.rf (l := [(4, 3)])).put' e785 g0 rfl) rfl (TP_fr w595 grb f689 rfl (TP_fr w511 grb f596 rfl (TP_fr hW grb ((wfr.rf (l := [(4, 4)])).put' e510 g0 rfl) rfl hTP_rb)))))
              exact wp_return e16 c16_285 rfl ⟨rfl, w791, f792, rfl, (TC_mk q800 grb h801 (by omega) (fun h => by omega) (fun h => by omega))⟩
            · refine wp_of e16 c16_215 (rw_iconst (pc' := 216) rfl ?_)
              refine wp_of e16 c16_216 (rw_goto (p1 := 220) (by decide) ?_)
              refine wp_of e16 c16_220 (xp_I (pc' := 223) lf_2_41 w688 g0 sh_4 (by decide) (by decide) ty_4_3 rfl rfl (by omega) (by omega) ⟨by omega, by omega⟩ rfl (fun H802 e803 w804 => ?_))
              have f805 := f692.put' e803 g0 rfl
              have k806 : H802 r0 3 = 2 := wq_u_s e803
              refine wp_of e16 c16_223 (rw_goto (p1 := 280) (by decide) ?_)
              refine wp_of e16 c16_280 (rw_aload_n (pc' := 281) (v := .ref r0) rfl rfl rfl ?_)
              refine wp_of e16 c16_281 (rw_iload_n (pc' := 282) (z := v685) rfl rfl ?_)
              refine wp_of e16 c16_282 (xp_I (pc' := 285) lf_2_23 w804 g0 sh_4 (by decide) (by decide) ty_4_2 rfl rfl (by omega) (by omega) ⟨by omega, by omega⟩ rfl (fun H807 e808 w809 => ?_))
              have f810 := f805.put' e808 g0 rfl
              have k811 : H807 r0 2 = v685 := wq_u_s e808
              have k812 : H807 r0 3 = H802 r0 3 := (wq_u_j e808 rfl)
              have k813 : H807 r0 4 = H686 r0 4 := ((wq_u_j e808 rfl).trans (wq_u_j e803 rfl))
              have k814 : H807 r0 5 = H686 r0 5 := ((wq_u_j e808 rfl).trans (wq_u_j e803 rfl))
              have k815 : H807 r0 6 = H593 r0 6 := ((wq_u_j e808 rfl).trans ((wq_u_j e803 rfl).trans (f689 r0 6 _ g0 rfl)))
              have k816 : H807 r0 1 = H r0 1 := ((wq_u_j e808 rfl).trans ((wq_u_j e803 rfl).trans ((f689 r0 1 _ g0 rfl).trans ((f596 r0 1 _ g0 rfl).trans (wq_u_j e510 rfl)))))
              have ek : xK B n q = H807 r0 3 := by
                unfold xK
                repeat first | rw [if_pos (by omega)] | rw [if_neg (by omega)]
                omega
              have ee : xE B n q = H807 r0 2 := by
                unfold xE
                repeat first | rw [if_pos (by omega)] | rw [if_neg (by omega)]
                omega
              have k817 : H807 r0 0 = H r0 0 := ((wq_u_j e808 rfl).trans ((wq_u_j e803 rfl).trans ((f689 r0 0 _ g0 rfl).trans ((f596 r0 0 _ g0 rfl).trans (wq_u_j e510 rfl)))))
              have q818 : H807 r0 0 = (rb : Int) := k817.trans qrb
              have h819 : TP T H807 rb B := (TP_fr w804 grb ((wfr.rf (l := [(4, 2)])).put' e808 g0 rfl) rfl (TP_fr w688 grb ((wfr.rf (l := [(4, 3)])).put' e803 g0 rfl) rfl (TP_fr w595 grb f689 rfl (TP_fr w511 grb f596 rfl (TP_fr hW grb ((wfr.rf (l := [(4, 4)])).put' e510 g0 rfl) rfl hTP_rb)))))
              exact wp_return e16 c16_285 rfl ⟨rfl, w809, f810, rfl, (TC_mk q818 grb h819 (by omega) (fun h => by omega) (fun h => by omega))⟩
        · refine wp_of e16 c16_187 (rw_aload_n (pc' := 188) (v := .ref r0) rfl rfl rfl ?_)
          refine wp_of e16 c16_188 (rw_iload_n (pc' := 189) (z := v592 - (H593 r0 4)) rfl rfl ?_)
          refine wp_of e16 c16_189 (rw_bipush (pc' := 191) (z := 8) rfl (by decide) ?_)
          refine wp_of e16 c16_191 (rw_icmp_gt (p1 := 198) (p2 := 194) (by decide) rfl ⟨by omega, by omega⟩ ⟨by omega, by omega⟩ (fun c820 => ?_) (fun c820 => ?_))
          · refine wp_of e16 c16_198 (rw_iconst (pc' := 199) rfl ?_)
            refine wp_of e16 c16_199 (xp_I (pc' := 202) lf_2_41 w688 g0 sh_4 (by decide) (by decide) ty_4_3 rfl rfl (by omega) (by omega) ⟨by omega, by omega⟩ rfl (fun H821 e822 w823 => ?_))
            have f824 := f692.put' e822 g0 rfl
            have k825 : H821 r0 3 = 5 := wq_u_s e822
            refine wp_of e16 c16_202 (rw_goto (p1 := 280) (by decide) ?_)
            refine wp_of e16 c16_280 (rw_aload_n (pc' := 281) (v := .ref r0) rfl rfl rfl ?_)
            refine wp_of e16 c16_281 (rw_iload_n (pc' := 282) (z := v685) rfl rfl ?_)
            refine wp_of e16 c16_282 (xp_I (pc' := 285) lf_2_23 w823 g0 sh_4 (by decide) (by decide) ty_4_2 rfl rfl (by omega) (by omega) ⟨by omega, by omega⟩ rfl (fun H826 e827 w828 => ?_))
            have f829 := f824.put' e827 g0 rfl
            have k830 : H826 r0 2 = v685 := wq_u_s e827
            have k831 : H826 r0 3 = H821 r0 3 := (wq_u_j e827 rfl)
            have k832 : H826 r0 4 = H686 r0 4 := ((wq_u_j e827 rfl).trans (wq_u_j e822 rfl))
            have k833 : H826 r0 5 = H686 r0 5 := ((wq_u_j e827 rfl).trans (wq_u_j e822 rfl))
            have k834 : H826 r0 6 = H593 r0 6 := ((wq_u_j e827 rfl).trans ((wq_u_j e822 rfl).trans (f689 r0 6 _ g0 rfl)))
            have k835 : H826 r0 1 = H r0 1 := ((wq_u_j e827 rfl).trans ((wq_u_j e822 rfl).trans ((f689 r0 1 _ g0 rfl).trans ((f596 r0 1 _ g0 rfl).trans (wq_u_j e510 rfl)))))
            have ek : xK B n q = H826 r0 3 := by
              unfold xK
              repeat first | rw [if_pos (by omega)] | rw [if_neg (by omega)]
              omega
            have ee : xE B n q = H826 r0 2 := by
              unfold xE
              repeat first | rw [if_pos (by omega)] | rw [if_neg (by omega)]
              omega
            have k836 : H826 r0 0 = H r0 0 := ((wq_u_j e827 rfl).trans ((wq_u_j e822 rfl).trans ((f689 r0 0 _ g0 rfl).trans ((f596 r0 0 _ g0 rfl).trans (wq_u_j e510 rfl)))))
            have q837 : H826 r0 0 = (rb : Int) := k836.trans qrb
            have h838 : TP T H826 rb B := (TP_fr w823 grb ((wfr.rf (l := [(4, 2)])).put' e827 g0 rfl) rfl (TP_fr w688 grb ((wfr.rf (l := [(4, 3)])).put' e822 g0 rfl) rfl (TP_fr w595 grb f689 rfl (TP_fr w511 grb f596 rfl (TP_fr hW grb ((wfr.rf (l := [(4, 4)])).put' e510 g0 rfl) rfl hTP_rb)))))
            exact wp_return e16 c16_285 rfl ⟨rfl, w828, f829, rfl, (TC_mk q837 grb h838 (by omega) (fun h => by omega) (fun h => by omega))⟩
          · refine wp_of e16 c16_194 (rw_iconst (pc' := 195) rfl ?_)
            refine wp_of e16 c16_195 (rw_goto (p1 := 199) (by decide) ?_)
            refine wp_of e16 c16_199 (xp_I (pc' := 202) lf_2_41 w688 g0 sh_4 (by decide) (by decide) ty_4_3 rfl rfl (by omega) (by omega) ⟨by omega, by omega⟩ rfl (fun H839 e840 w841 => ?_))
            have f842 := f692.put' e840 g0 rfl
            have k843 : H839 r0 3 = 1 := wq_u_s e840
            refine wp_of e16 c16_202 (rw_goto (p1 := 280) (by decide) ?_)
            refine wp_of e16 c16_280 (rw_aload_n (pc' := 281) (v := .ref r0) rfl rfl rfl ?_)
            refine wp_of e16 c16_281 (rw_iload_n (pc' := 282) (z := v685) rfl rfl ?_)
            refine wp_of e16 c16_282 (xp_I (pc' := 285) lf_2_23 w841 g0 sh_4 (by decide) (by decide) ty_4_2 rfl rfl (by omega) (by omega) ⟨by omega, by omega⟩ rfl (fun H844 e845 w846 => ?_))
            have f847 := f842.put' e845 g0 rfl
            have k848 : H844 r0 2 = v685 := wq_u_s e845
            have k849 : H844 r0 3 = H839 r0 3 := (wq_u_j e845 rfl)
            have k850 : H844 r0 4 = H686 r0 4 := ((wq_u_j e845 rfl).trans (wq_u_j e840 rfl))
            have k851 : H844 r0 5 = H686 r0 5 := ((wq_u_j e845 rfl).trans (wq_u_j e840 rfl))
            have k852 : H844 r0 6 = H593 r0 6 := ((wq_u_j e845 rfl).trans ((wq_u_j e840 rfl).trans (f689 r0 6 _ g0 rfl)))
            have k853 : H844 r0 1 = H r0 1 := ((wq_u_j e845 rfl).trans ((wq_u_j e840 rfl).trans ((f689 r0 1 _ g0 rfl).trans ((f596 r0 1 _ g0 rfl).trans (wq_u_j e510 rfl)))))
            have ek : xK B n q = H844 r0 3 := by
              unfold xK
              repeat first | rw [if_pos (by omega)] | rw [if_neg (by omega)]
              omega
            have ee : xE B n q = H844 r0 2 := by
              unfold xE
              repeat first | rw [if_pos (by omega)] | rw [if_neg (by omega)]
              omega
            have k854 : H844 r0 0 = H r0 0 := ((wq_u_j e845 rfl).trans ((wq_u_j e840 rfl).trans ((f689 r0 0 _ g0 rfl).trans ((f596 r0 0 _ g0 rfl).trans (wq_u_j e510 rfl)))))
            have q855 : H844 r0 0 = (rb : Int) := k854.trans qrb
            have h856 : TP T H844 rb B := (TP_fr w841 grb ((wfr.rf (l := [(4, 2)])).put' e845 g0 rfl) rfl (TP_fr w688 grb ((wfr.rf (l := [(4, 3)])).put' e840 g0 rfl) rfl (TP_fr w595 grb f689 rfl (TP_fr w511 grb f596 rfl (TP_fr hW grb ((wfr.rf (l := [(4, 4)])).put' e510 g0 rfl) rfl hTP_rb)))))
            exact wp_return e16 c16_285 rfl ⟨rfl, w846, f847, rfl, (TC_mk q855 grb h856 (by omega) (fun h => by omega) (fun h => by omega))⟩
      have f857 : wfr [(4, 5)] T H593 H593 := wfr.rf
      refine wp_of e16 c16_110 (xp_I (pc' := 113) lf_2_38 w595 g0 sh_4 (by decide) (by decide) ty_4_5 rfl rfl (by omega) (by omega) ⟨by omega, by omega⟩ rfl (fun H858 e859 w860 => ?_))
      have f861 := f600.put' e859 g0 rfl
      have f862 := f857.put' e859 g0 rfl
      have k863 : H858 r0 5 = 0 := wq_u_s e859
      have lp915 : ∀ (n916 : Nat) (v918 : Int) (H919 : wq_H), WT T H919 → wfr [(4, 5)] T H858 H919 → (0 ≤ v918 ∧ v918 ≤ 900) → (((v592 - (H593 r0 4)) ≠ 0 ∧ v918 = q + (v592 - (H593 r0 4)) ∧ v918 = xG 97 122 B n q) ∨ ((v592 - (H593 r0 4)) = 0 ∧ xG 48 57 B n v918 = xG 48 57 B n q)) → (q ≤ v918) → (v918 ≤ n) → ((v592 - (H593 r0 4)) ≠ 0 ∨ 3 < v918 - q ∨ H919 r0 5 = xkf 10 48 B q (v918 - q).toNat) → (900 - v918).toNat = n916 → wp kt 0 16 113 [(1, vI v918), (2, vI (v592 - (H593 r0 4))), (0, .ref r0)] [] T H919 (uq_16 r0 rb B n a q T H) := by
        intro n916
        induction n916 using Nat.strongRecOn with
        | _ n916 ih917 =>
          intro v918 H919 w920 f921 b922 x923 x924 x925 x926 m927
          have f928 := f861.tr f921 rfl
          have f929 := f862.tr f921 rfl
          have := @xG_b 48 57 B n v918
          have := @xkf_V2 B n q v918 (by omega)
          refine wp_of e16 c16_113 (rw_iload_n (pc' := 114) (z := v918) rfl rfl ?_)
          refine wp_of e16 c16_114 (rw_aload_n (pc' := 115) (v := .ref r0) rfl rfl rfl ?_)
          have k930 : H919 r0 1 = H r0 1 := ((f921 r0 1 _ g0 rfl).trans ((wq_u_j e859 rfl).trans ((f596 r0 1 _ g0 rfl).trans (wq_u_j e510 rfl))))
          refine wp_of e16 c16_115 (xg_I (pc' := 118) lf_2_19 w920 g0 sh_4 (by decide) (by decide) ty_4_1 rfl rfl (fun b931 b932 => ?_))
          refine wp_of e16 c16_118 (rw_icmp_ge (p1 := 174) (p2 := 121) (by decide) rfl ⟨by omega, by omega⟩ ⟨by omega, by omega⟩ (fun c933 => ?_) (fun c933 => ?_))
          · have := @xG_ez 48 57 B n v918
            have := @xV_of B n q v918
            exact wp_lc (ks := [1, 2, 0]) (wl_c rfl (wl_c rfl (wl_c rfl wl_n))) rfl (by decide) (jn687 v918 H919 w920 f929 ⟨by omega, by omega⟩ (by omega))
          · refine wp_of e16 c16_121 (rw_iload_n (pc' := 122) (z := v592 - (H593 r0 4)) rfl rfl ?_)
            refine wp_of e16 c16_122 (rw_if_ne (p1 := 174) (p2 := 125) (by decide) rfl ⟨by omega, by omega⟩ (fun c934 => ?_) (fun c934 => ?_))
            · have := @xG_ez 48 57 B n v918
              have := @xV_of B n q v918
              exact wp_lc (ks := [1, 2, 0]) (wl_c rfl (wl_c rfl (wl_c rfl wl_n))) rfl (by decide) (jn687 v918 H919 w920 f929 ⟨by omega, by omega⟩ (by omega))
            · refine wp_of e16 c16_125 (rw_aload_n (pc' := 126) (v := .ref r0) rfl rfl rfl ?_)
              have k935 : H919 r0 0 = H r0 0 := ((f921 r0 0 _ g0 rfl).trans ((wq_u_j e859 rfl).trans ((f596 r0 0 _ g0 rfl).trans (wq_u_j e510 rfl))))
              have q936 : H919 r0 0 = (rb : Int) := k935.trans qrb
              refine wp_of e16 c16_126 (xg_K (pc' := 129) lf_2_7 w920 g0 sh_4 (by decide) (by decide) rfl q936 rfl ?_)
              refine wp_of e16 c16_129 (rw_iload_n (pc' := 130) (z := v918) rfl rfl ?_)
              refine wp_of e16 c16_130 (xa_B (by decide) (pc' := 131) w920 grb sh_2 (by decide) (ty_2 _) (by omega) (by omega) rfl (fun b937 b938 => ?_))
              have h939 : TP T H919 rb B := (TP_fr w860 grb f921 rfl (TP_fr w595 grb ((wfr.rf (l := [(4, 5)])).put' e859 g0 rfl) rfl (TP_fr w511 grb f596 rfl (TP_fr hW grb ((wfr.rf (l := [(4, 4)])).put' e510 g0 rfl) rfl hTP_rb))))
              have := h939 (v918.toNat) (by omega)
              refine wp_of e16 c16_131 (rw_bipush (pc' := 133) (z := 48) rfl (by decide) ?_)
              refine wp_of e16 c16_133 (rw_icmp_lt (p1 := 174) (p2 := 136) (by decide) rfl ⟨by omega, by omega⟩ ⟨by omega, by omega⟩ (fun c940 => ?_) (fun c940 => ?_))
              · have := @xG_ez 48 57 B n v918
                have := @xV_of B n q v918
                exact wp_lc (ks := [1, 2, 0]) (wl_c rfl (wl_c rfl (wl_c rfl wl_n))) rfl (by decide) (jn687 v918 H919 w920 f929 ⟨by omega, by omega⟩ (by omega))
              · refine wp_of e16 c16_136 (rw_aload_n (pc' := 137) (v := .ref r0) rfl rfl rfl ?_)
                refine wp_of e16 c16_137 (xg_K (pc' := 140) lf_2_7 w920 g0 sh_4 (by decide) (by decide) rfl q936 rfl ?_)
                refine wp_of e16 c16_140 (rw_iload_n (pc' := 141) (z := v918) rfl rfl ?_)
                refine wp_of e16 c16_141 (xa_B (by decide) (pc' := 142) w920 grb sh_2 (by decide) (ty_2 _) (by omega) (by omega) rfl (fun b941 b942 => ?_))
                have := h939 (v918.toNat) (by omega)
                refine wp_of e16 c16_142 (rw_bipush (pc' := 144) (z := 57) rfl (by decide) ?_)
                refine wp_of e16 c16_144 (rw_icmp_gt (p1 := 174) (p2 := 147) (by decide) rfl ⟨by omega, by omega⟩ ⟨by omega, by omega⟩ (fun c943 => ?_) (fun c943 => ?_))
                · have := @xG_ez 48 57 B n v918
                  have := @xV_of B n q v918
                  exact wp_lc (ks := [1, 2, 0]) (wl_c rfl (wl_c rfl (wl_c rfl wl_n))) rfl (by decide) (jn687 v918 H919 w920 f929 ⟨by omega, by omega⟩ (by omega))
                · refine wp_of e16 c16_147 (rw_aload_n (pc' := 148) (v := .ref r0) rfl rfl rfl ?_)
                  refine wp_of e16 c16_148 (rw_aload_n (pc' := 149) (v := .ref r0) rfl rfl rfl ?_)
                  refine wp_of e16 c16_149 (xg_I (pc' := 152) lf_2_38 w920 g0 sh_4 (by decide) (by decide) ty_4_5 rfl rfl (fun b944 b945 => ?_))
                  refine wp_of e16 c16_152 (rw_bipush (pc' := 154) (z := 10) rfl (by decide) ?_)
                  refine wp_of e16 c16_154 (rw_imulw (pc' := 155) rfl ?_)
                  obtain ⟨v946, e947⟩ : ∃ x : Int, x = wq_w ((H919 r0 5) * 10) := ⟨_, rfl⟩
                  rw [← e947]
                  have b948 : -2147483648 ≤ v946 ∧ v946 ≤ 2147483647 := by
                    rw [e947]
                    exact wI_w _
                  have b949 : (-2147483648 ≤ (H919 r0 5) * 10 ∧ (H919 r0 5) * 10 ≤ 2147483647) → v946 = (H919 r0 5) * 10 := fun h => by rw [e947]; exact wq_w_id h
                  refine wp_of e16 c16_155 (rw_aload_n (pc' := 156) (v := .ref r0) rfl rfl rfl ?_)
                  refine wp_of e16 c16_156 (xg_K (pc' := 159) lf_2_7 w920 g0 sh_4 (by decide) (by decide) rfl q936 rfl ?_)
                  refine wp_of e16 c16_159 (rw_iload_n (pc' := 160) (z := v918) rfl rfl ?_)
                  refine wp_of e16 c16_160 (xa_B (by decide) (pc' := 161) w920 grb sh_2 (by decide) (ty_2 _) (by omega) (by omega) rfl (fun b950 b951 => ?_))
                  have := h939 (v918.toNat) (by omega)
                  refine wp_of e16 c16_161 (rw_bipush (pc' := 163) (z := 48) rfl (by decide) ?_)
                  refine wp_of e16 c16_163 (rw_isub (pc' := 164) rfl ?_)
                  refine wp_of e16 c16_164 (rw_iaddw (pc' := 165) rfl ?_)
                  obtain ⟨v952, e953⟩ : ∃ x : Int, x = wq_w (v946 + ((H919 rb (v918.toNat)) - 48)) := ⟨_, rfl⟩
                  rw [← e953]
                  have b954 : -2147483648 ≤ v952 ∧ v952 ≤ 2147483647 := by
                    rw [e953]
                    exact wI_w _
                  have b955 : (-2147483648 ≤ v946 + ((H919 rb (v918.toNat)) - 48) ∧ v946 + ((H919 rb (v918.toNat)) - 48) ≤ 2147483647) → v952 = v946 + ((H919 rb (v918.toNat)) - 48) := fun h => by rw [e953]; exact wq_w_id h
                  refine wp_of e16 c16_165 (xp_I (pc' := 168) lf_2_38 w920 g0 sh_4 (by decide) (by decide) ty_4_5 rfl rfl (by omega) (by omega) ⟨by omega, by omega⟩ rfl (fun H956 e957 w958 => ?_))
                  have f959 := f928.put' e957 g0 rfl
                  have f960 := f929.put' e957 g0 rfl
                  have f961 := f921.put' e957 g0 rfl
                  have k962 : H956 r0 5 = v952 := wq_u_s e957
                  refine wp_of e16 c16_168 (rw_iinc (pc' := 171) (z := v918) (L' := [(1, vI (v918 + 1)), (2, vI (v592 - (H593 r0 4))), (0, .ref r0)]) rfl rfl rfl rfl ?_)
                  refine wp_of e16 c16_171 (rw_goto (p1 := 113) (by decide) ?_)
                  have := @xG_s 48 57 B n v918 (by omega) (by omega) (by omega)
                  have := @xkf_s B q 10 48 v918 (by omega)
                  exact wp_lc (ks := [1, 2, 0]) (wl_c rfl (wl_c rfl (wl_c rfl wl_n))) rfl (by decide) (ih917 _ (by omega) (v918 + 1) H956 w958 f961 ⟨by omega, by omega⟩ (by omega) (by omega) (by omega) (by omega) rfl)
      have := @xkf_q B q v592 10 48
      have := @xG_q 48 57 B n q v592
      exact wp_lc (ks := [2, 1, 0]) (wl_c rfl (wl_c rfl (wl_c rfl wl_n))) rfl (by decide) (lp915 _ v592 H858 w860 wfr.rf ⟨by omega, by omega⟩ (by omega) (by omega) (by omega) (by omega) rfl)
    have f963 : wfr [(4, 6)] T H509 H509 := wfr.rf
    refine wp_of e16 c16_35 (rw_aload_n (pc' := 36) (v := .ref r0) rfl rfl rfl ?_)
    refine wp_of e16 c16_36 (rw_lconst (pc' := 37) (z := 0) rfl rfl ?_)
    refine wp_of e16 c16_37 (xp_L (pc' := 40) lf_2_32 w511 g0 sh_4 (by decide) (by decide) ty_4_6 rfl rfl (by omega) (by omega) ⟨by omega, by omega⟩ rfl (fun H964 e965 w966 => ?_))
    have f967 := f512.put' e965 g0 rfl
    have f968 := f963.put' e965 g0 rfl
    have k969 : H964 r0 6 = 0 := wq_u_s e965
    have lp1019 : ∀ (n1020 : Nat) (v1022 : Int) (H1023 : wq_H), WT T H1023 → wfr [(4, 6)] T H964 H1023 → (0 ≤ v1022 ∧ v1022 ≤ 900) → (xG 97 122 B n v1022 = xG 97 122 B n q) → (q ≤ v1022) → (v1022 ≤ n) → (8 < v1022 - q ∨ H1023 r0 6 = xkf 32 96 B q (v1022 - q).toNat) → (900 - v1022).toNat = n1020 → wp kt 0 16 40 [(1, vI v1022), (0, .ref r0)] [] T H1023 (uq_16 r0 rb B n a q T H) := by
      intro n1020
      induction n1020 using Nat.strongRecOn with
      | _ n1020 ih1021 =>
        intro v1022 H1023 w1024 f1025 b1026 x1027 x1028 x1029 x1030 m1031
        have f1032 := f967.tr f1025 rfl
        have f1033 := f968.tr f1025 rfl
        have := @xG_b 97 122 B n v1022
        have := @xkf_Y2 B n q v1022 (by omega) (by omega)
        refine wp_of e16 c16_40 (rw_iload_n (pc' := 41) (z := v1022) rfl rfl ?_)
        refine wp_of e16 c16_41 (rw_aload_n (pc' := 42) (v := .ref r0) rfl rfl rfl ?_)
        have k1034 : H1023 r0 1 = H r0 1 := ((f1025 r0 1 _ g0 rfl).trans ((wq_u_j e965 rfl).trans (wq_u_j e510 rfl)))
        refine wp_of e16 c16_42 (xg_I (pc' := 45) lf_2_19 w1024 g0 sh_4 (by decide) (by decide) ty_4_1 rfl rfl (fun b1035 b1036 => ?_))
        refine wp_of e16 c16_45 (rw_icmp_ge (p1 := 101) (p2 := 48) (by decide) rfl ⟨by omega, by omega⟩ ⟨by omega, by omega⟩ (fun c1037 => ?_) (fun c1037 => ?_))
        · have k1038 : H1023 r0 4 = H509 r0 4 := ((f1025 r0 4 _ g0 rfl).trans (wq_u_j e965 rfl))
          have := @xG_e 97 122 B n v1022 (by omega)
          have := @xY_of B n q v1022
          exact wp_lc (ks := [1, 0]) (wl_c rfl (wl_c rfl wl_n)) rfl (by decide) (jn594 v1022 H1023 w1024 f1033 ⟨by omega, by omega⟩ (by omega) (by omega))
        · refine wp_of e16 c16_48 (rw_aload_n (pc' := 49) (v := .ref r0) rfl rfl rfl ?_)
          have k1039 : H1023 r0 0 = H r0 0 := ((f1025 r0 0 _ g0 rfl).trans ((wq_u_j e965 rfl).trans (wq_u_j e510 rfl)))
          have q1040 : H1023 r0 0 = (rb : Int) := k1039.trans qrb
          refine wp_of e16 c16_49 (xg_K (pc' := 52) lf_2_7 w1024 g0 sh_4 (by decide) (by decide) rfl q1040 rfl ?_)
          refine wp_of e16 c16_52 (rw_iload_n (pc' := 53) (z := v1022) rfl rfl ?_)
          refine wp_of e16 c16_53 (xa_B (by decide) (pc' := 54) w1024 grb sh_2 (by decide) (ty_2 _) (by omega) (by omega) rfl (fun b1041 b1042 => ?_))
          have h1043 : TP T H1023 rb B := (TP_fr w966 grb f1025 rfl (TP_fr w511 grb ((wfr.rf (l := [(4, 6)])).put' e965 g0 rfl) rfl (TP_fr hW grb ((wfr.rf (l := [(4, 4)])).put' e510 g0 rfl) rfl hTP_rb)))
          have := h1043 (v1022.toNat) (by omega)
          refine wp_of e16 c16_54 (rw_bipush (pc' := 56) (z := 97) rfl (by decide) ?_)
          refine wp_of e16 c16_56 (rw_icmp_lt (p1 := 101) (p2 := 59) (by decide) rfl ⟨by omega, by omega⟩ ⟨by omega, by omega⟩ (fun c1044 => ?_) (fun c1044 => ?_))
          · have k1045 : H1023 r0 4 = H509 r0 4 := ((f1025 r0 4 _ g0 rfl).trans (wq_u_j e965 rfl))
            have := @xG_e 97 122 B n v1022 (by omega)
            have := @xY_of B n q v1022
            exact wp_lc (ks := [1, 0]) (wl_c rfl (wl_c rfl wl_n)) rfl (by decide) (jn594 v1022 H1023 w1024 f1033 ⟨by omega, by omega⟩ (by omega) (by omega))
          · refine wp_of e16 c16_59 (rw_aload_n (pc' := 60) (v := .ref r0) rfl rfl rfl ?_)
            refine wp_of e16 c16_60 (xg_K (pc' := 63) lf_2_7 w1024 g0 sh_4 (by decide) (by decide) rfl q1040 rfl ?_)
            refine wp_of e16 c16_63 (rw_iload_n (pc' := 64) (z := v1022) rfl rfl ?_)
            refine wp_of e16 c16_64 (xa_B (by decide) (pc' := 65) w1024 grb sh_2 (by decide) (ty_2 _) (by omega) (by omega) rfl (fun b1046 b1047 => ?_))
            have := h1043 (v1022.toNat) (by omega)
            refine wp_of e16 c16_65 (rw_bipush (pc' := 67) (z := 122) rfl (by decide) ?_)
            refine wp_of e16 c16_67 (rw_icmp_gt (p1 := 101) (p2 := 70) (by decide) rfl ⟨by omega, by omega⟩ ⟨by omega, by omega⟩ (fun c1048 => ?_) (fun c1048 => ?_))
            · have k1049 : H1023 r0 4 = H509 r0 4 := ((f1025 r0 4 _ g0 rfl).trans (wq_u_j e965 rfl))
              have := @xG_e 97 122 B n v1022 (by omega)
              have := @xY_of B n q v1022
              exact wp_lc (ks := [1, 0]) (wl_c rfl (wl_c rfl wl_n)) rfl (by decide) (jn594 v1022 H1023 w1024 f1033 ⟨by omega, by omega⟩ (by omega) (by omega))
            · refine wp_of e16 c16_70 (rw_aload_n (pc' := 71) (v := .ref r0) rfl rfl rfl ?_)
              refine wp_of e16 c16_71 (rw_aload_n (pc' := 72) (v := .ref r0) rfl rfl rfl ?_)
              refine wp_of e16 c16_72 (xg_L (pc' := 75) lf_2_32 w1024 g0 sh_4 (by decide) (by decide) ty_4_6 rfl rfl (fun b1050 b1051 => ?_))
              refine wp_of e16 c16_75 (rw_ldc2 (pc' := 78) (z := 32) rfl rfl rfl ?_)
              refine wp_of e16 c16_78 (rw_lmulw (pc' := 79) rfl ?_)
              obtain ⟨v1052, e1053⟩ : ∃ x : Int, x = wl_w ((H1023 r0 6) * 32) := ⟨_, rfl⟩
              rw [← e1053]
              have b1054 : -9223372036854775808 ≤ v1052 ∧ v1052 ≤ 9223372036854775807 := by
                rw [e1053]
                exact wL_w _
              have b1055 : (-9223372036854775808 ≤ (H1023 r0 6) * 32 ∧ (H1023 r0 6) * 32 ≤ 9223372036854775807) → v1052 = (H1023 r0 6) * 32 := fun h => by rw [e1053]; exact wl_w_id h
              refine wp_of e16 c16_79 (rw_aload_n (pc' := 80) (v := .ref r0) rfl rfl rfl ?_)
              refine wp_of e16 c16_80 (xg_K (pc' := 83) lf_2_7 w1024 g0 sh_4 (by decide) (by decide) rfl q1040 rfl ?_)
              refine wp_of e16 c16_83 (rw_iload_n (pc' := 84) (z := v1022) rfl rfl ?_)
              refine wp_of e16 c16_84 (xa_B (by decide) (pc' := 85) w1024 grb sh_2 (by decide) (ty_2 _) (by omega) (by omega) rfl (fun b1056 b1057 => ?_))
              have := h1043 (v1022.toNat) (by omega)
              refine wp_of e16 c16_85 (rw_bipush (pc' := 87) (z := 97) rfl (by decide) ?_)
              refine wp_of e16 c16_87 (rw_isub (pc' := 88) rfl ?_)
              refine wp_of e16 c16_88 (rw_iconst (pc' := 89) rfl ?_)
              refine wp_of e16 c16_89 (rw_iadd (pc' := 90) rfl ?_)
              refine wp_of e16 c16_90 (rw_i2l (pc' := 91) rfl ⟨by omega, by omega⟩ ?_)
              refine wp_of e16 c16_91 (rw_laddw (pc' := 92) rfl ?_)
              obtain ⟨v1058, e1059⟩ : ∃ x : Int, x = wl_w (v1052 + (((H1023 rb (v1022.toNat)) - 97) + 1)) := ⟨_, rfl⟩
              rw [← e1059]
              have b1060 : -9223372036854775808 ≤ v1058 ∧ v1058 ≤ 9223372036854775807 := by
                rw [e1059]
                exact wL_w _
              have b1061 : (-9223372036854775808 ≤ v1052 + (((H1023 rb (v1022.toNat)) - 97) + 1) ∧ v1052 + (((H1023 rb (v1022.toNat)) - 97) + 1) ≤ 9223372036854775807) → v1058 = v1052 + (((H1023 rb (v1022.toNat)) - 97) + 1) := fun h => by rw [e1059]; exact wl_w_id h
              refine wp_of e16 c16_92 (xp_L (pc' := 95) lf_2_32 w1024 g0 sh_4 (by decide) (by decide) ty_4_6 rfl rfl (by omega) (by omega) ⟨by omega, by omega⟩ rfl (fun H1062 e1063 w1064 => ?_))
              have f1065 := f1032.put' e1063 g0 rfl
              have f1066 := f1033.put' e1063 g0 rfl
              have f1067 := f1025.put' e1063 g0 rfl
              have k1068 : H1062 r0 6 = v1058 := wq_u_s e1063
              refine wp_of e16 c16_95 (rw_iinc (pc' := 98) (z := v1022) (L' := [(1, vI (v1022 + 1)), (0, .ref r0)]) rfl rfl rfl rfl ?_)
              refine wp_of e16 c16_98 (rw_goto (p1 := 40) (by decide) ?_)
              have := @xG_s 97 122 B n v1022 (by omega) (by omega) (by omega)
              have := @xkf_s B q 32 96 v1022 (by omega)
              exact wp_lc (ks := [1, 0]) (wl_c rfl (wl_c rfl wl_n)) rfl (by decide) (ih1021 _ (by omega) (v1022 + 1) H1062 w1064 f1067 ⟨by omega, by omega⟩ (by omega) (by omega) (by omega) (by omega) rfl)
    have := @xkf_q B q v503 32 96
    have := @xG_q 97 122 B n q v503
    exact wp_lc (ks := [1, 0]) (wl_c rfl (wl_c rfl wl_n)) rfl (by decide) (lp1019 _ v503 H964 w966 wfr.rf ⟨by omega, by omega⟩ (by omega) (by omega) (by omega) (by omega) rfl)
  refine wp_of e16 c16_4 (rw_istore_n (pc' := 5) (z := H r0 2) (L' := [(1, vI (H r0 2)), (0, .ref r0)]) rfl rfl rfl ?_)
  have lp1078 : ∀ (n1079 : Nat) (v1081 : Int), (0 ≤ v1081 ∧ v1081 ≤ 900) → (xG 32 32 B n v1081 = q) → (v1081 ≤ n) → (900 - v1081).toNat = n1079 → wp kt 0 16 5 [(1, vI v1081), (0, .ref r0)] [] T H (uq_16 r0 rb B n a q T H) := by
    intro n1079
    induction n1079 using Nat.strongRecOn with
    | _ n1079 ih1080 =>
      intro v1081 b1084 x1085 x1086 m1087
      refine wp_of e16 c16_5 (rw_iload_n (pc' := 6) (z := v1081) rfl rfl ?_)
      refine wp_of e16 c16_6 (rw_aload_n (pc' := 7) (v := .ref r0) rfl rfl rfl ?_)
      refine wp_of e16 c16_7 (xg_I (pc' := 10) lf_2_19 hW g0 sh_4 (by decide) (by decide) ty_4_1 rfl rfl (fun b1088 b1089 => ?_))
      refine wp_of e16 c16_10 (rw_icmp_ge (p1 := 30) (p2 := 13) (by decide) rfl ⟨by omega, by omega⟩ ⟨by omega, by omega⟩ (fun c1090 => ?_) (fun c1090 => ?_))
      · have := @xG_e 32 32 B n v1081 (by omega)
        exact wp_lc (ks := [1, 0]) (wl_c rfl (wl_c rfl wl_n)) rfl (by decide) (jn504 v1081 ⟨by omega, by omega⟩ (by omega))
      · refine wp_of e16 c16_13 (rw_aload_n (pc' := 14) (v := .ref r0) rfl rfl rfl ?_)
        refine wp_of e16 c16_14 (xg_K (pc' := 17) lf_2_7 hW g0 sh_4 (by decide) (by decide) rfl qrb rfl ?_)
        refine wp_of e16 c16_17 (rw_iload_n (pc' := 18) (z := v1081) rfl rfl ?_)
        refine wp_of e16 c16_18 (xa_B (by decide) (pc' := 19) hW grb sh_2 (by decide) (ty_2 _) (by omega) (by omega) rfl (fun b1091 b1092 => ?_))
        have := hTP_rb (v1081.toNat) (by omega)
        refine wp_of e16 c16_19 (rw_bipush (pc' := 21) (z := 32) rfl (by decide) ?_)
        refine wp_of e16 c16_21 (rw_icmp_ne (p1 := 30) (p2 := 24) (by decide) rfl ⟨by omega, by omega⟩ ⟨by omega, by omega⟩ (fun c1093 => ?_) (fun c1093 => ?_))
        · have := @xG_e 32 32 B n v1081 (by omega)
          exact wp_lc (ks := [1, 0]) (wl_c rfl (wl_c rfl wl_n)) rfl (by decide) (jn504 v1081 ⟨by omega, by omega⟩ (by omega))
        · refine wp_of e16 c16_24 (rw_iinc (pc' := 27) (z := v1081) (L' := [(1, vI (v1081 + 1)), (0, .ref r0)]) rfl rfl rfl rfl ?_)
          refine wp_of e16 c16_27 (rw_goto (p1 := 5) (by decide) ?_)
          have := @xG_s 32 32 B n v1081 (by omega) (by omega) (by omega)
          exact wp_lc (ks := [1, 0]) (wl_c rfl (wl_c rfl wl_n)) rfl (by decide) (ih1080 _ (by omega) (v1081 + 1) ⟨by omega, by omega⟩ (by omega) (by omega) rfl)
  have := @xG_q 32 32 B n a (H r0 2)
  exact wp_lc (ks := [1, 0]) (wl_c rfl (wl_c rfl wl_n)) rfl (by decide) (lp1078 _ (H r0 2) ⟨by omega, by omega⟩ (by omega) (by omega) rfl)
/-! StrikeAwake$Tokens.begin([BI)V  -/
abbrev uq_15 (r0 : Nat) (r1 : Nat) (a2 : Int) (B : Nat → Int) (T : wq_T) (H : wq_H) : Option Value → wq_T → wq_H → Prop := fun r T' H' => T = T' ∧ WT T H' ∧ wfr [(4, 0), (4, 1), (4, 2), (4, 3), (4, 4), (4, 5), (4, 6)] T H H' ∧ none = r ∧ (((H' r0 0 = (r1 : Int)) ∧ TC T H' r0 B a2 (xG 32 32 B a2 0)))
set_option maxHeartbeats 4000000 in
theorem u_15 {kt : Nat → Option mc_E} {T : wq_T} {H : wq_H} {r0 : Nat} {r1 : Nat} {a2 : Int} {B : Nat → Int} (hW : WT T H) (g0 : T.2.2.2 r0 = some 4) (g1 : T.2.2.2 r1 = some 2) (i2 : 0 ≤ a2 ∧ a2 ≤ 900) (hTP_r1 : TP T H r1 B) : wpc kt 2 15 [.ref r0, .ref r1, vI a2] T H (uq_15 r0 r1 a2 B T H) := by
  refine wp_enter e15 (Nat.le_of_ble_eq_true rfl) rfl ?_
  have f0 : wfr [(4, 0), (4, 1), (4, 2), (4, 3), (4, 4), (4, 5), (4, 6)] T H H := wfr.rf
  show wp _ _ 15 0 [(0, .ref r0), (1, .ref r1), (2, vI a2)] [] _ H _
  refine wp_of e15 c15_0 (rw_aload_n (pc' := 1) (v := .ref r0) rfl rfl rfl ?_)
  refine wp_of e15 c15_1 (rw_aload_n (pc' := 2) (v := .ref r1) rfl rfl rfl ?_)
  refine wp_of e15 c15_2 (xp_R (pc' := 5) lf_2_7 hW g0 sh_4 (by decide) (by decide) rfl rfl (wok_4 ty_4_0 g1) rfl (fun H32 e33 w34 => ?_))
  have f35 := f0.put' e33 g0 rfl
  have q36 : H32 r0 0 = (r1 : Int) := wq_u_s e33
  refine wp_of e15 c15_5 (rw_aload_n (pc' := 6) (v := .ref r0) rfl rfl rfl ?_)
  refine wp_of e15 c15_6 (rw_iload_n (pc' := 7) (z := a2) rfl rfl ?_)
  refine wp_of e15 c15_7 (rw_aload_n (pc' := 8) (v := .ref r1) rfl rfl rfl ?_)
  refine wp_of e15 c15_8 (xa_N (pc' := 9) (n := 900) w34 g1 sh_2 (by decide) rfl ?_)
  refine wp_of e15 c15_9 (rw_math2 (pc' := 12) (z := min a2 900) rfl rfl ⟨by omega, by omega⟩ ⟨by omega, by omega⟩ (Or.inl ⟨rfl, rfl⟩) (Nat.le_of_ble_eq_true rfl) rfl ?_)
  obtain ⟨v37, e38⟩ : ∃ x : Int, x = min a2 900 := ⟨_, rfl⟩
  rw [← e38]
  have b39 : v37 = a2 ∨ v37 = 900 := by
    rw [e38]
    omega
  have b40 : v37 ≤ a2 ∧ v37 ≤ 900 := by
    rw [e38]
    omega
  refine wp_of e15 c15_12 (xp_I (pc' := 15) lf_2_19 w34 g0 sh_4 (by decide) (by decide) ty_4_1 rfl rfl (by omega) (by omega) ⟨by omega, by omega⟩ rfl (fun H41 e42 w43 => ?_))
  have f44 := f35.put' e42 g0 rfl
  have k45 : H41 r0 1 = v37 := wq_u_s e42
  refine wp_of e15 c15_15 (rw_aload_n (pc' := 16) (v := .ref r0) rfl rfl rfl ?_)
  refine wp_of e15 c15_16 (rw_iconst (pc' := 17) rfl ?_)
  refine wp_of e15 c15_17 (xp_I (pc' := 20) lf_2_23 w43 g0 sh_4 (by decide) (by decide) ty_4_2 rfl rfl (by omega) (by omega) ⟨by omega, by omega⟩ rfl (fun H46 e47 w48 => ?_))
  have f49 := f44.put' e47 g0 rfl
  have k50 : H46 r0 2 = 0 := wq_u_s e47
  refine wp_of e15 c15_20 (rw_aload_n (pc' := 21) (v := .ref r0) rfl rfl rfl ?_)
  have k51 : H46 r0 0 = H32 r0 0 := ((wq_u_j e47 rfl).trans (wq_u_j e42 rfl))
  have q52 : H46 r0 0 = (r1 : Int) := k51.trans q36
  have k53 : H46 r0 1 = H41 r0 1 := (wq_u_j e47 rfl)
  have h54 : TP T H46 r1 B := (TP_fr w43 g1 ((wfr.rf (l := [(4, 2)])).put' e47 g0 rfl) rfl (TP_fr w34 g1 ((wfr.rf (l := [(4, 1)])).put' e42 g0 rfl) rfl (TP_fr hW g1 ((wfr.rf (l := [(4, 0)])).put' e33 g0 rfl) rfl hTP_r1)))
  refine wp_of e15 c15_21 (xc_V (pc' := 24) (r := r0) (as := []) (st := []) (lm_2_26) rfl rfl (Nat.le_of_ble_eq_true rfl) w48 g0 sh_4 (by decide) rfl (by decide) (u_16 (B := B) (n := a2) (a := 0) (q := (xG 32 32 B a2 0)) w48 g0 q52 g1 (by omega) (by omega) (by omega) (rfl) h54) (fun R55 T56 H57 p58 => ?_))
  obtain ⟨e59, w61, f62, e60, p63⟩ := p58
  subst e59
  subst e60
  have f65 := f49.tr f62 rfl
  show wp _ _ 15 24 [(0, .ref r0), (1, .ref r1), (2, vI a2)] [] _ H57 _
  have u66 := TC_k p63
  have k67 : H57 r0 0 = H46 r0 0 := (f62 r0 0 _ g0 rfl)
  have q68 : H57 r0 0 = (r1 : Int) := k67.trans q52
  exact wp_return e15 c15_24 rfl ⟨rfl, w61, f65, rfl, ⟨q68, p63⟩⟩
/-! StrikeAwake$Tokens.isWord(Ljava/lang/String;)Z  -/
abbrev uq_19 (r0 : Nat) (s1 : Nat) (kk : Int) (T : wq_T) (H : wq_H) : Option Value → wq_T → wq_H → Prop := fun r T' H' => T = T' ∧ H = H' ∧ ∃ z : Int, some (vI z) = r ∧ (0 ≤ z ∧ z ≤ 1) ∧ (((z = 1) ∧ (H r0 3 = 1 ∧ H r0 6 = kk)) ∨ ((z = 0) ∧ (H r0 3 ≠ 1 ∨ H r0 6 ≠ kk)))
set_option maxHeartbeats 4000000 in
theorem u_19 {kt : Nat → Option mc_E} {T : wq_T} {H : wq_H} {r0 : Nat} {s1 : Nat} {t1 : List Int32} {kk : Int} (hW : WT T H) (g0 : T.2.2.2 r0 = some 4) (h1 : mc_find mc_sb s1 = some t1) (p0 : wkw t1 t1.length = kk) : wpc kt 1 19 [.ref r0, .ref s1] T H (uq_19 r0 s1 kk T H) := by
  refine wp_enter e19 (Nat.le_of_ble_eq_true rfl) rfl ?_
  show wp _ _ 19 0 [(0, .ref r0), (1, .ref s1)] [] _ H _
  refine wp_of e19 c19_0 (rw_aload_n (pc' := 1) (v := .ref r0) rfl rfl rfl ?_)
  refine wp_of e19 c19_1 (xg_I (pc' := 4) lf_2_41 hW g0 sh_4 (by decide) (by decide) ty_4_3 rfl rfl (fun b105 b106 => ?_))
  refine wp_of e19 c19_4 (rw_iconst (pc' := 5) rfl ?_)
  refine wp_of e19 c19_5 (rw_icmp_eq (p1 := 10) (p2 := 8) (by decide) rfl ⟨by omega, by omega⟩ ⟨by omega, by omega⟩ (fun c107 => ?_) (fun c107 => ?_))
  · refine wp_of e19 c19_10 (rw_lconst (pc' := 11) (z := 0) rfl rfl ?_)
    refine wp_of e19 c19_11 (rw_lstore_n (pc' := 12) (z := 0) (L' := [(2, vL 0), (0, .ref r0), (1, .ref s1)]) rfl rfl rfl ?_)
    refine wp_of e19 c19_12 (rw_iconst (pc' := 13) rfl ?_)
    refine wp_of e19 c19_13 (rw_istore (pc' := 15) (z := 0) (L' := [(4, vI 0), (2, vL 0), (0, .ref r0), (1, .ref s1)]) rfl rfl rfl ?_)
    have lp192 : ∀ (n193 : Nat) (v195 : Int) (v196 : Int), (0 ≤ v195 ∧ v195 ≤ 63) → ((-9223372036854775808) ≤ v196 ∧ v196 ≤ 9223372036854775807) → (v196 = wkw t1 (v195).toNat) → (v195 ≤ (t1.length : Int)) → (63 - v195).toNat = n193 → wp kt 0 19 15 [(4, vI v195), (2, vL v196), (0, .ref r0), (1, .ref s1)] [] T H (uq_19 r0 s1 kk T H) := by
      intro n193
      induction n193 using Nat.strongRecOn with
      | _ n193 ih194 =>
        intro v195 v196 b199 b200 x201 x202 m203
        refine wp_of e19 c19_15 (rw_iload (pc' := 17) (z := v195) rfl rfl ?_)
        refine wp_of e19 c19_17 (rw_aload_n (pc' := 18) (v := .ref s1) rfl rfl rfl ?_)
        refine wp_of e19 c19_18 (rw_slen (pc' := 21) rfl rfl rfl h1 (Nat.le_of_ble_eq_true rfl) rfl ?_)
        have k204 := (mc_sb_k h1).2.1
        show wp _ _ 19 21 [(4, vI v195), (2, vL v196), (0, .ref r0), (1, .ref s1)] [vI ((t1.length : Int)), vI v195] _ H _
        refine wp_of e19 c19_21 (rw_icmp_ge (p1 := 49) (p2 := 24) (by decide) rfl ⟨by omega, by omega⟩ ⟨by omega, by omega⟩ (fun c205 => ?_) (fun c205 => ?_))
        · have : wkw t1 (v195).toNat = kk := by
            rw [show (v195).toNat = t1.length by omega]
            exact p0
          refine wp_of e19 c19_49 (rw_lload_n (pc' := 50) (z := v196) rfl rfl ?_)
          refine wp_of e19 c19_50 (rw_aload_n (pc' := 51) (v := .ref r0) rfl rfl rfl ?_)
          refine wp_of e19 c19_51 (xg_L (pc' := 54) lf_2_32 hW g0 sh_4 (by decide) (by decide) ty_4_6 rfl rfl (fun b206 b207 => ?_))
          refine wp_of e19 c19_54 (rw_lcmp (pc' := 55) rfl ⟨by omega, by omega⟩ ⟨by omega, by omega⟩ ?_)
          have b208 := wq_cmp_b v196 (H r0 6)
          refine wp_of e19 c19_55 (rw_if_ne (p1 := 62) (p2 := 58) (by decide) rfl ⟨by omega, by omega⟩ (fun c209 => ?_) (fun c209 => ?_))
          · refine wp_of e19 c19_62 (rw_iconst (pc' := 63) rfl ?_)
            exact wp_zreturn e19 c19_63 rfl (by omega) ⟨rfl, rfl, 0, rfl, ⟨by omega, by omega⟩, (Or.inr ⟨by omega, by omega⟩)⟩
          · refine wp_of e19 c19_58 (rw_iconst (pc' := 59) rfl ?_)
            refine wp_of e19 c19_59 (rw_goto (p1 := 63) (by decide) ?_)
            exact wp_zreturn e19 c19_63 rfl (by omega) ⟨rfl, rfl, 1, rfl, ⟨by omega, by omega⟩, (Or.inl ⟨by omega, by omega⟩)⟩
        · refine wp_of e19 c19_24 (rw_lload_n (pc' := 25) (z := v196) rfl rfl ?_)
          refine wp_of e19 c19_25 (rw_ldc2 (pc' := 28) (z := 32) rfl rfl rfl ?_)
          refine wp_of e19 c19_28 (rw_lmulw (pc' := 29) rfl ?_)
          obtain ⟨v210, e211⟩ : ∃ x : Int, x = wl_w (v196 * 32) := ⟨_, rfl⟩
          rw [← e211]
          have b212 : -9223372036854775808 ≤ v210 ∧ v210 ≤ 9223372036854775807 := by
            rw [e211]
            exact wL_w _
          have b213 : (-9223372036854775808 ≤ v196 * 32 ∧ v196 * 32 ≤ 9223372036854775807) → v210 = v196 * 32 := fun h => by rw [e211]; exact wl_w_id h
          refine wp_of e19 c19_29 (rw_aload_n (pc' := 30) (v := .ref s1) rfl rfl rfl ?_)
          refine wp_of e19 c19_30 (rw_iload (pc' := 32) (z := v195) rfl rfl ?_)
          refine wp_of e19 c19_32 (rw_schr (pc' := 35) rfl rfl rfl h1 (by omega) (by omega) (Nat.le_of_ble_eq_true rfl) rfl ?_)
          obtain ⟨v214, e215⟩ : ∃ x : Int, x = (t1.getD (v195).toNat 0).toInt := ⟨_, rfl⟩
          rw [← e215]
          have b216 : -2147483648 ≤ v214 ∧ v214 ≤ 2147483647 := by
            rw [e215]
            exact wI_of _
          refine wp_of e19 c19_35 (rw_bipush (pc' := 37) (z := 97) rfl (by decide) ?_)
          refine wp_of e19 c19_37 (rw_isubw (pc' := 38) rfl ?_)
          obtain ⟨v217, e218⟩ : ∃ x : Int, x = wq_w (v214 - 97) := ⟨_, rfl⟩
          rw [← e218]
          have b219 : -2147483648 ≤ v217 ∧ v217 ≤ 2147483647 := by
            rw [e218]
            exact wI_w _
          have b220 : (-2147483648 ≤ v214 - 97 ∧ v214 - 97 ≤ 2147483647) → v217 = v214 - 97 := fun h => by rw [e218]; exact wq_w_id h
          refine wp_of e19 c19_38 (rw_iconst (pc' := 39) rfl ?_)
          refine wp_of e19 c19_39 (rw_iaddw (pc' := 40) rfl ?_)
          obtain ⟨v221, e222⟩ : ∃ x : Int, x = wq_w (v217 + 1) := ⟨_, rfl⟩
          rw [← e222]
          have b223 : -2147483648 ≤ v221 ∧ v221 ≤ 2147483647 := by
            rw [e222]
            exact wI_w _
          have b224 : (-2147483648 ≤ v217 + 1 ∧ v217 + 1 ≤ 2147483647) → v221 = v217 + 1 := fun h => by rw [e222]; exact wq_w_id h
          refine wp_of e19 c19_40 (rw_i2l (pc' := 41) rfl ⟨by omega, by omega⟩ ?_)
          refine wp_of e19 c19_41 (rw_laddw (pc' := 42) rfl ?_)
          obtain ⟨v225, e226⟩ : ∃ x : Int, x = wl_w (v210 + v221) := ⟨_, rfl⟩
          rw [← e226]
          have b227 : -9223372036854775808 ≤ v225 ∧ v225 ≤ 9223372036854775807 := by
            rw [e226]
            exact wL_w _
          have b228 : (-9223372036854775808 ≤ v210 + v221 ∧ v210 + v221 ≤ 9223372036854775807) → v225 = v210 + v221 := fun h => by rw [e226]; exact wl_w_id h
          refine wp_of e19 c19_42 (rw_lstore_n (pc' := 43) (z := v225) (L' := [(2, vL v225), (4, vI v195), (0, .ref r0), (1, .ref s1)]) rfl rfl rfl ?_)
          refine wp_of e19 c19_43 (rw_iinc (pc' := 46) (z := v195) (L' := [(4, vI (v195 + 1)), (2, vL v225), (0, .ref r0), (1, .ref s1)]) rfl rfl rfl rfl ?_)
          refine wp_of e19 c19_46 (rw_goto (p1 := 15) (by decide) ?_)
          have : wkw t1 (v195 + 1).toNat = v225 := by
            subst_vars
            exact wkw_s (by omega)
          exact wp_lc (ks := [4, 2, 0, 1]) (wl_c rfl (wl_c rfl (wl_c rfl (wl_c rfl wl_n)))) rfl (by decide) (ih194 _ (by omega) (v195 + 1) v225 ⟨by omega, by omega⟩ ⟨by omega, by omega⟩ (by omega) (by omega) rfl)
    have : wkw t1 (0 : Int).toNat = 0 := rfl
    exact wp_lc (ks := [4, 2, 0, 1]) (wl_c rfl (wl_c rfl (wl_c rfl (wl_c rfl wl_n)))) rfl (by decide) (lp192 _ 0 0 ⟨by omega, by omega⟩ ⟨by omega, by omega⟩ (by omega) (by omega) rfl)
  · refine wp_of e19 c19_8 (rw_iconst (pc' := 9) rfl ?_)
    exact wp_zreturn e19 c19_9 rfl (by omega) ⟨rfl, rfl, 0, rfl, ⟨by omega, by omega⟩, (Or.inr ⟨by omega, by omega⟩)⟩
/-! StrikeAwake$Tokens.isWord(Ljava/lang/String;)Z t -/
abbrev uq_19_t (r0 : Nat) (s1 : Nat) (B : Nat → Int) (n : Int) (q : Int) (kk : Int) (T : wq_T) (H : wq_H) : Option Value → wq_T → wq_H → Prop := fun r T' H' => T = T' ∧ H = H' ∧ ∃ z : Int, some (vI z) = r ∧ (0 ≤ z ∧ z ≤ 1) ∧ (((z = 1) ∧ (xw B n q kk = 0)) ∨ ((z = 0) ∧ (xw B n q kk = 1)))
set_option maxHeartbeats 4000000 in
theorem u_19_t {kt : Nat → Option mc_E} {T : wq_T} {H : wq_H} {r0 : Nat} {s1 : Nat} {t1 : List Int32} {B : Nat → Int} {n : Int} {q : Int} {kk : Int} (hW : WT T H) (g0 : T.2.2.2 r0 = some 4) (h1 : mc_find mc_sb s1 = some t1) (p0 : wkw t1 t1.length = kk) (hTC_r0 : TC T H r0 B n q) : wpc kt 1 19 [.ref r0, .ref s1] T H (uq_19_t r0 s1 B n q kk T H) := by
  refine wp_enter e19 (Nat.le_of_ble_eq_true rfl) rfl ?_
  show wp _ _ 19 0 [(0, .ref r0), (1, .ref s1)] [] _ H _
  have u105 := TC_k hTC_r0
  have _i := TC_i hTC_r0
  have _w := @xw_b B n q kk
  refine wp_of e19 c19_0 (rw_aload_n (pc' := 1) (v := .ref r0) rfl rfl rfl ?_)
  refine wp_of e19 c19_1 (xg_I (pc' := 4) lf_2_41 hW g0 sh_4 (by decide) (by decide) ty_4_3 rfl rfl (fun b106 b107 => ?_))
  refine wp_of e19 c19_4 (rw_iconst (pc' := 5) rfl ?_)
  refine wp_of e19 c19_5 (rw_icmp_eq (p1 := 10) (p2 := 8) (by decide) rfl ⟨by omega, by omega⟩ ⟨by omega, by omega⟩ (fun c108 => ?_) (fun c108 => ?_))
  · refine wp_of e19 c19_10 (rw_lconst (pc' := 11) (z := 0) rfl rfl ?_)
    refine wp_of e19 c19_11 (rw_lstore_n (pc' := 12) (z := 0) (L' := [(2, vL 0), (0, .ref r0), (1, .ref s1)]) rfl rfl rfl ?_)
    refine wp_of e19 c19_12 (rw_iconst (pc' := 13) rfl ?_)
    refine wp_of e19 c19_13 (rw_istore (pc' := 15) (z := 0) (L' := [(4, vI 0), (2, vL 0), (0, .ref r0), (1, .ref s1)]) rfl rfl rfl ?_)
    have lp193 : ∀ (n194 : Nat) (v196 : Int) (v197 : Int), (0 ≤ v196 ∧ v196 ≤ 63) → ((-9223372036854775808) ≤ v197 ∧ v197 ≤ 9223372036854775807) → (v197 = wkw t1 (v196).toNat) → (v196 ≤ (t1.length : Int)) → (63 - v196).toNat = n194 → wp kt 0 19 15 [(4, vI v196), (2, vL v197), (0, .ref r0), (1, .ref s1)] [] T H (uq_19_t r0 s1 B n q kk T H) := by
      intro n194
      induction n194 using Nat.strongRecOn with
      | _ n194 ih195 =>
        intro v196 v197 b200 b201 x202 x203 m204
        refine wp_of e19 c19_15 (rw_iload (pc' := 17) (z := v196) rfl rfl ?_)
        refine wp_of e19 c19_17 (rw_aload_n (pc' := 18) (v := .ref s1) rfl rfl rfl ?_)
        refine wp_of e19 c19_18 (rw_slen (pc' := 21) rfl rfl rfl h1 (Nat.le_of_ble_eq_true rfl) rfl ?_)
        have k205 := (mc_sb_k h1).2.1
        show wp _ _ 19 21 [(4, vI v196), (2, vL v197), (0, .ref r0), (1, .ref s1)] [vI ((t1.length : Int)), vI v196] _ H _
        refine wp_of e19 c19_21 (rw_icmp_ge (p1 := 49) (p2 := 24) (by decide) rfl ⟨by omega, by omega⟩ ⟨by omega, by omega⟩ (fun c206 => ?_) (fun c206 => ?_))
        · have : wkw t1 (v196).toNat = kk := by
            rw [show (v196).toNat = t1.length by omega]
            exact p0
          refine wp_of e19 c19_49 (rw_lload_n (pc' := 50) (z := v197) rfl rfl ?_)
          refine wp_of e19 c19_50 (rw_aload_n (pc' := 51) (v := .ref r0) rfl rfl rfl ?_)
          refine wp_of e19 c19_51 (xg_L (pc' := 54) lf_2_32 hW g0 sh_4 (by decide) (by decide) ty_4_6 rfl rfl (fun b207 b208 => ?_))
          refine wp_of e19 c19_54 (rw_lcmp (pc' := 55) rfl ⟨by omega, by omega⟩ ⟨by omega, by omega⟩ ?_)
          have b209 := wq_cmp_b v197 (H r0 6)
          refine wp_of e19 c19_55 (rw_if_ne (p1 := 62) (p2 := 58) (by decide) rfl ⟨by omega, by omega⟩ (fun c210 => ?_) (fun c210 => ?_))
          · refine wp_of e19 c19_62 (rw_iconst (pc' := 63) rfl ?_)
            exact wp_zreturn e19 c19_63 rfl (by omega) ⟨rfl, rfl, 0, rfl, ⟨by omega, by omega⟩, (Or.inr ⟨by omega, by omega⟩)⟩
          · refine wp_of e19 c19_58 (rw_iconst (pc' := 59) rfl ?_)
            refine wp_of e19 c19_59 (rw_goto (p1 := 63) (by decide) ?_)
            exact wp_zreturn e19 c19_63 rfl (by omega) ⟨rfl, rfl, 1, rfl, ⟨by omega, by omega⟩, (Or.inl ⟨by omega, by omega⟩)⟩
        · refine wp_of e19 c19_24 (rw_lload_n (pc' := 25) (z := v197) rfl rfl ?_)
          refine wp_of e19 c19_25 (rw_ldc2 (pc' := 28) (z := 32) rfl rfl rfl ?_)
          refine wp_of e19 c19_28 (rw_lmulw (pc' := 29) rfl ?_)
          obtain ⟨v211, e212⟩ : ∃ x : Int, x = wl_w (v197 * 32) := ⟨_, rfl⟩
          rw [← e212]
          have b213 : -9223372036854775808 ≤ v211 ∧ v211 ≤ 9223372036854775807 := by
            rw [e212]
            exact wL_w _
          have b214 : (-9223372036854775808 ≤ v197 * 32 ∧ v197 * 32 ≤ 9223372036854775807) → v211 = v197 * 32 := fun h => by rw [e212]; exact wl_w_id h
          refine wp_of e19 c19_29 (rw_aload_n (pc' := 30) (v := .ref s1) rfl rfl rfl ?_)
          refine wp_of e19 c19_30 (rw_iload (pc' := 32) (z := v196) rfl rfl ?_)
          refine wp_of e19 c19_32 (rw_schr (pc' := 35) rfl rfl rfl h1 (by omega) (by omega) (Nat.le_of_ble_eq_true rfl) rfl ?_)
          obtain ⟨v215, e216⟩ : ∃ x : Int, x = (t1.getD (v196).toNat 0).toInt := ⟨_, rfl⟩
          rw [← e216]
          have b217 : -2147483648 ≤ v215 ∧ v215 ≤ 2147483647 := by
            rw [e216]
            exact wI_of _
          refine wp_of e19 c19_35 (rw_bipush (pc' := 37) (z := 97) rfl (by decide) ?_)
          refine wp_of e19 c19_37 (rw_isubw (pc' := 38) rfl ?_)
          obtain ⟨v218, e219⟩ : ∃ x : Int, x = wq_w (v215 - 97) := ⟨_, rfl⟩
          rw [← e219]
          have b220 : -2147483648 ≤ v218 ∧ v218 ≤ 2147483647 := by
            rw [e219]
            exact wI_w _
          have b221 : (-2147483648 ≤ v215 - 97 ∧ v215 - 97 ≤ 2147483647) → v218 = v215 - 97 := fun h => by rw [e219]; exact wq_w_id h
          refine wp_of e19 c19_38 (rw_iconst (pc' := 39) rfl ?_)
          refine wp_of e19 c19_39 (rw_iaddw (pc' := 40) rfl ?_)
          obtain ⟨v222, e223⟩ : ∃ x : Int, x = wq_w (v218 + 1) := ⟨_, rfl⟩
          rw [← e223]
          have b224 : -2147483648 ≤ v222 ∧ v222 ≤ 2147483647 := by
            rw [e223]
            exact wI_w _
          have b225 : (-2147483648 ≤ v218 + 1 ∧ v218 + 1 ≤ 2147483647) → v222 = v218 + 1 := fun h => by rw [e223]; exact wq_w_id h
          refine wp_of e19 c19_40 (rw_i2l (pc' := 41) rfl ⟨by omega, by omega⟩ ?_)
          refine wp_of e19 c19_41 (rw_laddw (pc' := 42) rfl ?_)
          obtain ⟨v226, e227⟩ : ∃ x : Int, x = wl_w (v211 + v222) := ⟨_, rfl⟩
          rw [← e227]
          have b228 : -9223372036854775808 ≤ v226 ∧ v226 ≤ 9223372036854775807 := by
            rw [e227]
            exact wL_w _
          have b229 : (-9223372036854775808 ≤ v211 + v222 ∧ v211 + v222 ≤ 9223372036854775807) → v226 = v211 + v222 := fun h => by rw [e227]; exact wl_w_id h
          refine wp_of e19 c19_42 (rw_lstore_n (pc' := 43) (z := v226) (L' := [(2, vL v226), (4, vI v196), (0, .ref r0), (1, .ref s1)]) rfl rfl rfl ?_)
          refine wp_of e19 c19_43 (rw_iinc (pc' := 46) (z := v196) (L' := [(4, vI (v196 + 1)), (2, vL v226), (0, .ref r0), (1, .ref s1)]) rfl rfl rfl rfl ?_)
          refine wp_of e19 c19_46 (rw_goto (p1 := 15) (by decide) ?_)
          have : wkw t1 (v196 + 1).toNat = v226 := by
            subst_vars
            exact wkw_s (by omega)
          exact wp_lc (ks := [4, 2, 0, 1]) (wl_c rfl (wl_c rfl (wl_c rfl (wl_c rfl wl_n)))) rfl (by decide) (ih195 _ (by omega) (v196 + 1) v226 ⟨by omega, by omega⟩ ⟨by omega, by omega⟩ (by omega) (by omega) rfl)
    have : wkw t1 (0 : Int).toNat = 0 := rfl
    exact wp_lc (ks := [4, 2, 0, 1]) (wl_c rfl (wl_c rfl (wl_c rfl (wl_c rfl wl_n)))) rfl (by decide) (lp193 _ 0 0 ⟨by omega, by omega⟩ ⟨by omega, by omega⟩ (by omega) (by omega) rfl)
  · refine wp_of e19 c19_8 (rw_iconst (pc' := 9) rfl ?_)
    exact wp_zreturn e19 c19_9 rfl (by omega) ⟨rfl, rfl, 0, rfl, ⟨by omega, by omega⟩, (Or.inr ⟨by omega, by omega⟩)⟩
/-! StrikeAwake$Reader.fail(I)Z  -/
abbrev uq_20 (r0 : Nat) (a1 : Int) (tk : Nat) (T : wq_T) (H : wq_H) : Option Value → wq_T → wq_H → Prop := fun r T' H' => T = T' ∧ WT T H' ∧ wfr [(3, 3), (3, 4)] T H H' ∧ ∃ z : Int, some (vI z) = r ∧ (0 ≤ z ∧ z ≤ 1) ∧ (((z = 0) ∧ (H' r0 3 = a1) ∧ (H' r0 4 = H tk 4)))
set_option maxHeartbeats 4000000 in
theorem u_20 {kt : Nat → Option mc_E} {T : wq_T} {H : wq_H} {r0 : Nat} {a1 : Int} {tk : Nat} (hW : WT T H) (g0 : T.2.2.2 r0 = some 3) (i1 : (-2147483648) ≤ a1 ∧ a1 ≤ 2147483647) (qtk : H r0 0 = (tk : Int)) (gtk : T.2.2.2 tk = some 4) : wpc kt 1 20 [.ref r0, vI a1] T H (uq_20 r0 a1 tk T H) := by
  refine wp_enter e20 (Nat.le_of_ble_eq_true rfl) rfl ?_
  have f0 : wfr [(3, 3), (3, 4)] T H H := wfr.rf
  show wp _ _ 20 0 [(0, .ref r0), (1, vI a1)] [] _ H _
  refine wp_of e20 c20_0 (rw_aload_n (pc' := 1) (v := .ref r0) rfl rfl rfl ?_)
  refine wp_of e20 c20_1 (rw_iload_n (pc' := 2) (z := a1) rfl rfl ?_)
  refine wp_of e20 c20_2 (xp_I (pc' := 5) lf_1_18 hW g0 sh_3 (by decide) (by decide) ty_3_3 rfl rfl (by omega) (by omega) ⟨by omega, by omega⟩ rfl (fun H16 e17 w18 => ?_))
  have f19 := f0.put' e17 g0 rfl
  have k20 : H16 r0 3 = a1 := wq_u_s e17
  refine wp_of e20 c20_5 (rw_aload_n (pc' := 6) (v := .ref r0) rfl rfl rfl ?_)
  refine wp_of e20 c20_6 (rw_aload_n (pc' := 7) (v := .ref r0) rfl rfl rfl ?_)
  have k21 : H16 r0 0 = H r0 0 := (wq_u_j e17 rfl)
  have q22 : H16 r0 0 = (tk : Int) := k21.trans qtk
  refine wp_of e20 c20_7 (xg_K (pc' := 10) lf_1_12 w18 g0 sh_3 (by decide) (by decide) rfl q22 rfl ?_)
  have k23 : H16 tk 4 = H tk 4 := (wq_u_t e17 g0 gtk rfl 4)
  refine wp_of e20 c20_10 (xg_I (pc' := 13) lf_1_257 w18 gtk sh_4 (by decide) (by decide) ty_4_4 rfl rfl (fun b24 b25 => ?_))
  refine wp_of e20 c20_13 (xp_I (pc' := 16) lf_1_22 w18 g0 sh_3 (by decide) (by decide) ty_3_4 rfl rfl (by omega) (by omega) ⟨by omega, by omega⟩ rfl (fun H26 e27 w28 => ?_))
  have f29 := f19.put' e27 g0 rfl
  have k30 : H26 r0 4 = H16 tk 4 := wq_u_s e27
  refine wp_of e20 c20_16 (rw_iconst (pc' := 17) rfl ?_)
  have k31 : H26 r0 3 = H16 r0 3 := (wq_u_j e27 rfl)
  exact wp_zreturn e20 c20_17 rfl (by omega) ⟨rfl, w28, f29, 0, rfl, ⟨by omega, by omega⟩, ⟨by omega, by omega, by omega⟩⟩
/-! StrikeAwake$Reader.reserved()LStrikeAwake$Reserved;  -/
abbrev uq_18 (r0 : Nat) (tk : Nat) (rb : Nat) (B : Nat → Int) (n : Int) (q : Int) (T : wq_T) (H : wq_H) : Option Value → wq_T → wq_H → Prop := fun r T' H' => T = T' ∧ H = H' ∧ ((some .null = r ∧ (xre B n q ≥ 11)) ∨ ∃ b : Nat, some (.ref b) = r ∧ 16 ≤ b ∧ b < 27 ∧ (xre B n q = (b : Int) - 16))
set_option maxHeartbeats 4000000 in
theorem u_18 {kt : Nat → Option mc_E} {T : wq_T} {H : wq_H} {r0 : Nat} {tk : Nat} {rb : Nat} {B : Nat → Int} {n : Int} {q : Int} (hW : WT T H) (g0 : T.2.2.2 r0 = some 3) (qtk : H r0 0 = (tk : Int)) (gtk : T.2.2.2 tk = some 4) (qrb : H tk 0 = (rb : Int)) (grb : T.2.2.2 rb = some 2) (hTC_tk : TC T H tk B n q) : wpc kt 2 18 [.ref r0] T H (uq_18 r0 tk rb B n q T H) := by
  refine wp_enter e18 (Nat.le_of_ble_eq_true rfl) rfl ?_
  show wp _ _ 18 0 [(0, .ref r0)] [] _ H _
  have u1015 := TC_k hTC_tk
  have _x := @xre_b B n q
  have _i := TC_i hTC_tk
  refine wp_of e18 c18_0 (rw_iconst (pc' := 1) rfl ?_)
  refine wp_of e18 c18_1 (rw_istore_n (pc' := 2) (z := 0) (L' := [(1, vI 0), (0, .ref r0)]) rfl rfl rfl ?_)
  have lp1795 : ∀ (n1796 : Nat) (v1798 : Int), (0 ≤ v1798 ∧ v1798 ≤ 11) → (v1798 ≤ xre B n q) → (11 - v1798).toNat = n1796 → wp kt 1 18 2 [(1, vI v1798), (0, .ref r0)] [] T H (uq_18 r0 tk rb B n q T H) := by
    intro n1796
    induction n1796 using Nat.strongRecOn with
    | _ n1796 ih1797 =>
      intro v1798 b1801 x1802 m1803
      refine wp_of e18 c18_2 (rw_iload_n (pc' := 3) (z := v1798) rfl rfl ?_)
      refine wp_of e18 c18_3 (rw_gs (pc' := 6) (k := 1) rfl rfl rfl rfl ?_)
      refine wp_of e18 c18_6 (rw_alen (pc' := 7) (n := 11) (hW.sh hW.1.1 rfl) (by decide) rfl ?_)
      refine wp_of e18 c18_7 (rw_icmp_ge (p1 := 40) (p2 := 10) (by decide) rfl ⟨by omega, by omega⟩ ⟨by omega, by omega⟩ (fun c1804 => ?_) (fun c1804 => ?_))
      · refine wp_of e18 c18_40 (rw_null (pc' := 41) rfl ?_)
        exact wp_areturn e18 c18_41 rfl rfl ⟨rfl, rfl, Or.inl ⟨rfl, by omega⟩⟩
      · refine wp_of e18 c18_10 (rw_aload_n (pc' := 11) (v := .ref r0) rfl rfl rfl ?_)
        refine wp_of e18 c18_11 (xg_K (pc' := 14) lf_1_12 hW g0 sh_3 (by decide) (by decide) rfl qtk rfl ?_)
        refine wp_of e18 c18_14 (rw_gs (pc' := 17) (k := 1) rfl rfl rfl rfl ?_)
        refine wp_of e18 c18_17 (rw_iload_n (pc' := 18) (z := v1798) rfl rfl ?_)
        have c1806 : v1798 = 0 ∨ v1798 = 1 ∨ v1798 = 2 ∨ v1798 = 3 ∨ v1798 = 4 ∨ v1798 = 5 ∨ v1798 = 6 ∨ v1798 = 7 ∨ v1798 = 8 ∨ v1798 = 9 ∨ v1798 = 10 := by omega
        rcases c1806 with c1806 | c1806 | c1806 | c1806 | c1806 | c1806 | c1806 | c1806 | c1806 | c1806 | c1806
        · subst c1806
          have k1808 : H 1 (0 : Int).toNat = ((16 : Nat) : Int) := (hW.2 1 _ hW.1.1).2.2 0 (by decide) |> fun z => by have z1 : (16 : Int) ≤ H 1 0 ∧ H 1 0 ≤ 16 := z; exact Int.le_antisymm z1.2 z1.1
          refine wp_of e18 c18_18 (rw_aaload (pc' := 19) (n := 11) (b := 16) (hW.sh hW.1.1 rfl) (by decide) (by decide) (by decide) rfl k1808 rfl ?_)
          have k1809 : H 16 0 = ((32 : Nat) : Int) := (hW.2 16 _ (hW.1.2.2 0 (by decide))).2.2 0 (by decide) |> fun z => by have z1 : (32 : Int) ≤ H 16 0 ∧ H 16 0 ≤ 32 := z; omega
          refine wp_of e18 c18_19 (rw_getR (pc' := 22) (n := 2) (b := 32) (e := _) (lf_1_181).choose_spec.1 (lf_1_181).choose_spec.2.1 (hW.sh (hW.1.2.2 0 (by decide)) rfl) (by decide) rfl k1809 rfl ?_)
          refine wp_of e18 c18_22 (xc_V (pc' := 25) (r := tk) (as := [.ref 32]) (st := []) (lm_1_185) rfl rfl (Nat.le_of_ble_eq_true rfl) hW gtk sh_4 (by decide) rfl (by decide) (u_19 (kk := 12343) hW gtk rfl (by decide +kernel)) (fun R1810 T1811 H1812 p1813 => ?_))
          obtain ⟨e1814, e1816, z1817, e1815, b1818, p1819⟩ := p1813
          subst e1814
          subst e1815
          subst e1816
          rcases p1819 with ⟨a1820, a1821⟩ | ⟨a1822, a1823⟩
          · show wp _ _ 18 25 [(1, vI 0), (0, .ref r0)] [vI z1817] _ H _
            refine wp_of e18 c18_25 (rw_if_eq (p1 := 34) (p2 := 28) (by decide) rfl ⟨by omega, by omega⟩ (fun c1824 => ?_) (fun c1824 => ?_))
            · exfalso
              omega
            · have := @xre_le B n q 0 12343 rfl (by decide)
              refine wp_of e18 c18_28 (rw_gs (pc' := 31) (k := 1) rfl rfl rfl rfl ?_)
              refine wp_of e18 c18_31 (rw_iload_n (pc' := 32) (z := 0) rfl rfl ?_)
              have k1826 : H 1 (0 : Int).toNat = ((16 : Nat) : Int) := (hW.2 1 _ hW.1.1).2.2 0 (by decide) |> fun z => by have z1 : (16 : Int) ≤ H 1 0 ∧ H 1 0 ≤ 16 := z; exact Int.le_antisymm z1.2 z1.1
              refine wp_of e18 c18_32 (rw_aaload (pc' := 33) (n := 11) (b := 16) (hW.sh hW.1.1 rfl) (by decide) (by decide) (by decide) rfl k1826 rfl ?_)
              exact wp_areturn e18 c18_33 rfl rfl ⟨rfl, rfl, Or.inr ⟨16, rfl, by decide, by decide, by omega⟩⟩
          · show wp _ _ 18 25 [(1, vI 0), (0, .ref r0)] [vI z1817] _ H _
            refine wp_of e18 c18_25 (rw_if_eq (p1 := 34) (p2 := 28) (by decide) rfl ⟨by omega, by omega⟩ (fun c1827 => ?_) (fun c1827 => ?_))
            · have := @xre_at B n q 0 12343 rfl (by decide)
              refine wp_of e18 c18_34 (rw_iinc (pc' := 37) (z := 0) (L' := [(1, vI (0 + 1)), (0, .ref r0)]) rfl rfl rfl rfl ?_)
              refine wp_of e18 c18_37 (rw_goto (p1 := 2) (by decide) ?_)
              exact wp_lc (ks := [1, 0]) (wl_c rfl (wl_c rfl wl_n)) rfl (by decide) (ih1797 _ (by omega) (0 + 1) ⟨by omega, by omega⟩ (by omega) rfl)
            · exfalso
              omega
        · subst c1806
          have k1829 : H 1 (1 : Int).toNat = ((17 : Nat) : Int) := (hW.2 1 _ hW.1.1).2.2 1 (by decide) |> fun z => by have z1 : (17 : Int) ≤ H 1 1 ∧ H 1 1 ≤ 17 := z; exact Int.le_antisymm z1.2 z1.1
          refine wp_of e18 c18_18 (rw_aaload (pc' := 19) (n := 11) (b := 17) (hW.sh hW.1.1 rfl) (by decide) (by decide) (by decide) rfl k1829 rfl ?_)
          have k1830 : H 17 0 = ((33 : Nat) : Int) := (hW.2 17 _ (hW.1.2.2 1 (by decide))).2.2 0 (by decide) |> fun z => by have z1 : (33 : Int) ≤ H 17 0 ∧ H 17 0 ≤ 33 := z; omega
          refine wp_of e18 c18_19 (rw_getR (pc' := 22) (n := 2) (b := 33) (e := _) (lf_1_181).choose_spec.1 (lf_1_181).choose_spec.2.1 (hW.sh (hW.1.2.2 1 (by decide)) rfl) (by decide) rfl k1830 rfl ?_)
          refine wp_of e18 c18_22 (xc_V (pc' := 25) (r := tk) (as := [.ref 33]) (st := []) (lm_1_185) rfl rfl (Nat.le_of_ble_eq_true rfl) hW gtk sh_4 (by decide) rfl (by decide) (u_19 (kk := 542723566) hW gtk rfl (by decide +kernel)) (fun R1831 T1832 H1833 p1834 => ?_))
          obtain ⟨e1835, e1837, z1838, e1836, b1839, p1840⟩ := p1834
          subst e1835
          subst e1836
          subst e1837
          rcases p1840 with ⟨a1841, a1842⟩ | ⟨a1843, a1844⟩
          · show wp _ _ 18 25 [(1, vI 1), (0, .ref r0)] [vI z1838] _ H _
            refine wp_of e18 c18_25 (rw_if_eq (p1 := 34) (p2 := 28) (by decide) rfl ⟨by omega, by omega⟩ (fun c1845 => ?_) (fun c1845 => ?_))
            · exfalso
              omega
            · have := @xre_le B n q 1 542723566 rfl (by decide)
              refine wp_of e18 c18_28 (rw_gs (pc' := 31) (k := 1) rfl rfl rfl rfl ?_)
              refine wp_of e18 c18_31 (rw_iload_n (pc' := 32) (z := 1) rfl rfl ?_)
              have k1847 : H 1 (1 : Int).toNat = ((17 : Nat) : Int) := (hW.2 1 _ hW.1.1).2.2 1 (by decide) |> fun z => by have z1 : (17 : Int) ≤ H 1 1 ∧ H 1 1 ≤ 17 := z; exact Int.le_antisymm z1.2 z1.1
              refine wp_of e18 c18_32 (rw_aaload (pc' := 33) (n := 11) (b := 17) (hW.sh hW.1.1 rfl) (by decide) (by decide) (by decide) rfl k1847 rfl ?_)
              exact wp_areturn e18 c18_33 rfl rfl ⟨rfl, rfl, Or.inr ⟨17, rfl, by decide, by decide, by omega⟩⟩
          · show wp _ _ 18 25 [(1, vI 1), (0, .ref r0)] [vI z1838] _ H _
            refine wp_of e18 c18_25 (rw_if_eq (p1 := 34) (p2 := 28) (by decide) rfl ⟨by omega, by omega⟩ (fun c1848 => ?_) (fun c1848 => ?_))
            · have := @xre_at B n q 1 542723566 rfl (by decide)
              refine wp_of e18 c18_34 (rw_iinc (pc' := 37) (z := 1) (L' := [(1, vI (1 + 1)), (0, .ref r0)]) rfl rfl rfl rfl ?_)
              refine wp_of e18 c18_37 (rw_goto (p1 := 2) (by decide) ?_)
              exact wp_lc (ks := [1, 0]) (wl_c rfl (wl_c rfl wl_n)) rfl (by decide) (ih1797 _ (by omega) (1 + 1) ⟨by omega, by omega⟩ (by omega) rfl)
            · exfalso
              omega
        · subst c1806
          have k1850 : H 1 (2 : Int).toNat = ((18 : Nat) : Int) := (hW.2 1 _ hW.1.1).2.2 2 (by decide) |> fun z => by have z1 : (18 : Int) ≤ H 1 2 ∧ H 1 2 ≤ 18 := z; exact Int.le_antisymm z1.2 z1.1
          refine wp_of e18 c18_18 (rw_aaload (pc' := 19) (n := 11) (b := 18) (hW.sh hW.1.1 rfl) (by decide) (by decide) (by decide) rfl k1850 rfl ?_)
          have k1851 : H 18 0 = ((34 : Nat) : Int) := (hW.2 18 _ (hW.1.2.2 2 (by decide))).2.2 0 (by decide) |> fun z => by have z1 : (34 : Int) ≤ H 18 0 ∧ H 18 0 ≤ 34 := z; omega
          refine wp_of e18 c18_19 (rw_getR (pc' := 22) (n := 2) (b := 34) (e := _) (lf_1_181).choose_spec.1 (lf_1_181).choose_spec.2.1 (hW.sh (hW.1.2.2 2 (by decide)) rfl) (by decide) rfl k1851 rfl ?_)
          refine wp_of e18 c18_22 (xc_V (pc' := 25) (r := tk) (as := [.ref 34]) (st := []) (lm_1_185) rfl rfl (Nat.le_of_ble_eq_true rfl) hW gtk sh_4 (by decide) rfl (by decide) (u_19 (kk := 643584494) hW gtk rfl (by decide +kernel)) (fun R1852 T1853 H1854 p1855 => ?_))
          obtain ⟨e1856, e1858, z1859, e1857, b1860, p1861⟩ := p1855
          subst e1856
          subst e1857
          subst e1858
          rcases p1861 with ⟨a1862, a1863⟩ | ⟨a1864, a1865⟩
          · show wp _ _ 18 25 [(1, vI 2), (0, .ref r0)] [vI z1859] _ H _
            refine wp_of e18 c18_25 (rw_if_eq (p1 := 34) (p2 := 28) (by decide) rfl ⟨by omega, by omega⟩ (fun c1866 => ?_) (fun c1866 => ?_))
            · exfalso
              omega
            · have := @xre_le B n q 2 643584494 rfl (by decide)
              refine wp_of e18 c18_28 (rw_gs (pc' := 31) (k := 1) rfl rfl rfl rfl ?_)
              refine wp_of e18 c18_31 (rw_iload_n (pc' := 32) (z := 2) rfl rfl ?_)
              have k1868 : H 1 (2 : Int).toNat = ((18 : Nat) : Int) := (hW.2 1 _ hW.1.1).2.2 2 (by decide) |> fun z => by have z1 : (18 : Int) ≤ H 1 2 ∧ H 1 2 ≤ 18 := z; exact Int.le_antisymm z1.2 z1.1
              refine wp_of e18 c18_32 (rw_aaload (pc' := 33) (n := 11) (b := 18) (hW.sh hW.1.1 rfl) (by decide) (by decide) (by decide) rfl k1868 rfl ?_)
              exact wp_areturn e18 c18_33 rfl rfl ⟨rfl, rfl, Or.inr ⟨18, rfl, by decide, by decide, by omega⟩⟩
          · show wp _ _ 18 25 [(1, vI 2), (0, .ref r0)] [vI z1859] _ H _
            refine wp_of e18 c18_25 (rw_if_eq (p1 := 34) (p2 := 28) (by decide) rfl ⟨by omega, by omega⟩ (fun c1869 => ?_) (fun c1869 => ?_))
            · have := @xre_at B n q 2 643584494 rfl (by decide)
              refine wp_of e18 c18_34 (rw_iinc (pc' := 37) (z := 2) (L' := [(1, vI (2 + 1)), (0, .ref r0)]) rfl rfl rfl rfl ?_)
              refine wp_of e18 c18_37 (rw_goto (p1 := 2) (by decide) ?_)
              exact wp_lc (ks := [1, 0]) (wl_c rfl (wl_c rfl wl_n)) rfl (by decide) (ih1797 _ (by omega) (2 + 1) ⟨by omega, by omega⟩ (by omega) rfl)
            · exfalso
              omega
        · subst c1806
          have k1871 : H 1 (3 : Int).toNat = ((19 : Nat) : Int) := (hW.2 1 _ hW.1.1).2.2 3 (by decide) |> fun z => by have z1 : (19 : Int) ≤ H 1 3 ∧ H 1 3 ≤ 19 := z; exact Int.le_antisymm z1.2 z1.1
          refine wp_of e18 c18_18 (rw_aaload (pc' := 19) (n := 11) (b := 19) (hW.sh hW.1.1 rfl) (by decide) (by decide) (by decide) rfl k1871 rfl ?_)
          have k1872 : H 19 0 = ((35 : Nat) : Int) := (hW.2 19 _ (hW.1.2.2 3 (by decide))).2.2 0 (by decide) |> fun z => by have z1 : (35 : Int) ≤ H 19 0 ∧ H 19 0 ≤ 35 := z; omega
          refine wp_of e18 c18_19 (rw_getR (pc' := 22) (n := 2) (b := 35) (e := _) (lf_1_181).choose_spec.1 (lf_1_181).choose_spec.2.1 (hW.sh (hW.1.2.2 3 (by decide)) rfl) (by decide) rfl k1872 rfl ?_)
          refine wp_of e18 c18_22 (xc_V (pc' := 25) (r := tk) (as := [.ref 35]) (st := []) (lm_1_185) rfl rfl (Nat.le_of_ble_eq_true rfl) hW gtk sh_4 (by decide) rfl (by decide) (u_19 (kk := 1574484) hW gtk rfl (by decide +kernel)) (fun R1873 T1874 H1875 p1876 => ?_))
          obtain ⟨e1877, e1879, z1880, e1878, b1881, p1882⟩ := p1876
          subst e1877
          subst e1878
          subst e1879
          rcases p1882 with ⟨a1883, a1884⟩ | ⟨a1885, a1886⟩
          · show wp _ _ 18 25 [(1, vI 3), (0, .ref r0)] [vI z1880] _ H _
            refine wp_of e18 c18_25 (rw_if_eq (p1 := 34) (p2 := 28) (by decide) rfl ⟨by omega, by omega⟩ (fun c1887 => ?_) (fun c1887 => ?_))
            · exfalso
              omega
            · have := @xre_le B n q 3 1574484 rfl (by decide)
              refine wp_of e18 c18_28 (rw_gs (pc' := 31) (k := 1) rfl rfl rfl rfl ?_)
              refine wp_of e18 c18_31 (rw_iload_n (pc' := 32) (z := 3) rfl rfl ?_)
              have k1889 : H 1 (3 : Int).toNat = ((19 : Nat) : Int) := (hW.2 1 _ hW.1.1).2.2 3 (by decide) |> fun z => by have z1 : (19 : Int) ≤ H 1 3 ∧ H 1 3 ≤ 19 := z; exact Int.le_antisymm z1.2 z1.1
              refine wp_of e18 c18_32 (rw_aaload (pc' := 33) (n := 11) (b := 19) (hW.sh hW.1.1 rfl) (by decide) (by decide) (by decide) rfl k1889 rfl ?_)
              exact wp_areturn e18 c18_33 rfl rfl ⟨rfl, rfl, Or.inr ⟨19, rfl, by decide, by decide, by omega⟩⟩
          · show wp _ _ 18 25 [(1, vI 3), (0, .ref r0)] [vI z1880] _ H _
            refine wp_of e18 c18_25 (rw_if_eq (p1 := 34) (p2 := 28) (by decide) rfl ⟨by omega, by omega⟩ (fun c1890 => ?_) (fun c1890 => ?_))
            · have := @xre_at B n q 3 1574484 rfl (by decide)
              refine wp_of e18 c18_34 (rw_iinc (pc' := 37) (z := 3) (L' := [(1, vI (3 + 1)), (0, .ref r0)]) rfl rfl rfl rfl ?_)
              refine wp_of e18 c18_37 (rw_goto (p1 := 2) (by decide) ?_)
              exact wp_lc (ks := [1, 0]) (wl_c rfl (wl_c rfl wl_n)) rfl (by decide) (ih1797 _ (by omega) (3 + 1) ⟨by omega, by omega⟩ (by omega) rfl)
            · exfalso
              omega
        · subst c1806
          have k1892 : H 1 (4 : Int).toNat = ((20 : Nat) : Int) := (hW.2 1 _ hW.1.1).2.2 4 (by decide) |> fun z => by have z1 : (20 : Int) ≤ H 1 4 ∧ H 1 4 ≤ 20 := z; exact Int.le_antisymm z1.2 z1.1
          refine wp_of e18 c18_18 (rw_aaload (pc' := 19) (n := 11) (b := 20) (hW.sh hW.1.1 rfl) (by decide) (by decide) (by decide) rfl k1892 rfl ?_)
          have k1893 : H 20 0 = ((36 : Nat) : Int) := (hW.2 20 _ (hW.1.2.2 4 (by decide))).2.2 0 (by decide) |> fun z => by have z1 : (36 : Int) ≤ H 20 0 ∧ H 20 0 ≤ 36 := z; omega
          refine wp_of e18 c18_19 (rw_getR (pc' := 22) (n := 2) (b := 36) (e := _) (lf_1_181).choose_spec.1 (lf_1_181).choose_spec.2.1 (hW.sh (hW.1.2.2 4 (by decide)) rfl) (by decide) rfl k1893 rfl ?_)
          refine wp_of e18 c18_22 (xc_V (pc' := 25) (r := tk) (as := [.ref 36]) (st := []) (lm_1_185) rfl rfl (Nat.le_of_ble_eq_true rfl) hW gtk sh_4 (by decide) rfl (by decide) (u_19 (kk := 81486) hW gtk rfl (by decide +kernel)) (fun R1894 T1895 H1896 p1897 => ?_))
          obtain ⟨e1898, e1900, z1901, e1899, b1902, p1903⟩ := p1897
          subst e1898
          subst e1899
          subst e1900
          rcases p1903 with ⟨a1904, a1905⟩ | ⟨a1906, a1907⟩
          · show wp _ _ 18 25 [(1, vI 4), (0, .ref r0)] [vI z1901] _ H _
            refine wp_of e18 c18_25 (rw_if_eq (p1 := 34) (p2 := 28) (by decide) rfl ⟨by omega, by omega⟩ (fun c1908 => ?_) (fun c1908 => ?_))
            · exfalso
              omega
            · have := @xre_le B n q 4 81486 rfl (by decide)
              refine wp_of e18 c18_28 (rw_gs (pc' := 31) (k := 1) rfl rfl rfl rfl ?_)
              refine wp_of e18 c18_31 (rw_iload_n (pc' := 32) (z := 4) rfl rfl ?_)
              have k1910 : H 1 (4 : Int).toNat = ((20 : Nat) : Int) := (hW.2 1 _ hW.1.1).2.2 4 (by decide) |> fun z => by have z1 : (20 : Int) ≤ H 1 4 ∧ H 1 4 ≤ 20 := z; exact Int.le_antisymm z1.2 z1.1
              refine wp_of e18 c18_32 (rw_aaload (pc' := 33) (n := 11) (b := 20) (hW.sh hW.1.1 rfl) (by decide) (by decide) (by decide) rfl k1910 rfl ?_)
              exact wp_areturn e18 c18_33 rfl rfl ⟨rfl, rfl, Or.inr ⟨20, rfl, by decide, by decide, by omega⟩⟩
          · show wp _ _ 18 25 [(1, vI 4), (0, .ref r0)] [vI z1901] _ H _
            refine wp_of e18 c18_25 (rw_if_eq (p1 := 34) (p2 := 28) (by decide) rfl ⟨by omega, by omega⟩ (fun c1911 => ?_) (fun c1911 => ?_))
            · have := @xre_at B n q 4 81486 rfl (by decide)
              refine wp_of e18 c18_34 (rw_iinc (pc' := 37) (z := 4) (L' := [(1, vI (4 + 1)), (0, .ref r0)]) rfl rfl rfl rfl ?_)
              refine wp_of e18 c18_37 (rw_goto (p1 := 2) (by decide) ?_)
              exact wp_lc (ks := [1, 0]) (wl_c rfl (wl_c rfl wl_n)) rfl (by decide) (ih1797 _ (by omega) (4 + 1) ⟨by omega, by omega⟩ (by omega) rfl)
            · exfalso
              omega
        · subst c1806
          have k1913 : H 1 (5 : Int).toNat = ((21 : Nat) : Int) := (hW.2 1 _ hW.1.1).2.2 5 (by decide) |> fun z => by have z1 : (21 : Int) ≤ H 1 5 ∧ H 1 5 ≤ 21 := z; exact Int.le_antisymm z1.2 z1.1
          refine wp_of e18 c18_18 (rw_aaload (pc' := 19) (n := 11) (b := 21) (hW.sh hW.1.1 rfl) (by decide) (by decide) (by decide) rfl k1913 rfl ?_)
          have k1914 : H 21 0 = ((37 : Nat) : Int) := (hW.2 21 _ (hW.1.2.2 5 (by decide))).2.2 0 (by decide) |> fun z => by have z1 : (37 : Int) ≤ H 21 0 ∧ H 21 0 ≤ 37 := z; omega
          refine wp_of e18 c18_19 (rw_getR (pc' := 22) (n := 2) (b := 37) (e := _) (lf_1_181).choose_spec.1 (lf_1_181).choose_spec.2.1 (hW.sh (hW.1.2.2 5 (by decide)) rfl) (by decide) rfl k1914 rfl ?_)
          refine wp_of e18 c18_22 (xc_V (pc' := 25) (r := tk) (as := [.ref 37]) (st := []) (lm_1_185) rfl rfl (Nat.le_of_ble_eq_true rfl) hW gtk sh_4 (by decide) rfl (by decide) (u_19 (kk := 659117163) hW gtk rfl (by decide +kernel)) (fun R1915 T1916 H1917 p1918 => ?_))
          obtain ⟨e1919, e1921, z1922, e1920, b1923, p1924⟩ := p1918
          subst e1919
          subst e1920
          subst e1921
          rcases p1924 with ⟨a1925, a1926⟩ | ⟨a1927, a1928⟩
          · show wp _ _ 18 25 [(1, vI 5), (0, .ref r0)] [vI z1922] _ H _
            refine wp_of e18 c18_25 (rw_if_eq (p1 := 34) (p2 := 28) (by decide) rfl ⟨by omega, by omega⟩ (fun c1929 => ?_) (fun c1929 => ?_))
            · exfalso
              omega
            · have := @xre_le B n q 5 659117163 rfl (by decide)
              refine wp_of e18 c18_28 (rw_gs (pc' := 31) (k := 1) rfl rfl rfl rfl ?_)
              refine wp_of e18 c18_31 (rw_iload_n (pc' := 32) (z := 5) rfl rfl ?_)
              have k1931 : H 1 (5 : Int).toNat = ((21 : Nat) : Int) := (hW.2 1 _ hW.1.1).2.2 5 (by decide) |> fun z => by have z1 : (21 : Int) ≤ H 1 5 ∧ H 1 5 ≤ 21 := z; exact Int.le_antisymm z1.2 z1.1
              refine wp_of e18 c18_32 (rw_aaload (pc' := 33) (n := 11) (b := 21) (hW.sh hW.1.1 rfl) (by decide) (by decide) (by decide) rfl k1931 rfl ?_)
              exact wp_areturn e18 c18_33 rfl rfl ⟨rfl, rfl, Or.inr ⟨21, rfl, by decide, by decide, by omega⟩⟩
          · show wp _ _ 18 25 [(1, vI 5), (0, .ref r0)] [vI z1922] _ H _
            refine wp_of e18 c18_25 (rw_if_eq (p1 := 34) (p2 := 28) (by decide) rfl ⟨by omega, by omega⟩ (fun c1932 => ?_) (fun c1932 => ?_))
            · have := @xre_at B n q 5 659117163 rfl (by decide)
              refine wp_of e18 c18_34 (rw_iinc (pc' := 37) (z := 5) (L' := [(1, vI (5 + 1)), (0, .ref r0)]) rfl rfl rfl rfl ?_)
              refine wp_of e18 c18_37 (rw_goto (p1 := 2) (by decide) ?_)
              exact wp_lc (ks := [1, 0]) (wl_c rfl (wl_c rfl wl_n)) rfl (by decide) (ih1797 _ (by omega) (5 + 1) ⟨by omega, by omega⟩ (by omega) rfl)
            · exfalso
              omega
        · subst c1806
          have k1934 : H 1 (6 : Int).toNat = ((22 : Nat) : Int) := (hW.2 1 _ hW.1.1).2.2 6 (by decide) |> fun z => by have z1 : (22 : Int) ≤ H 1 6 ∧ H 1 6 ≤ 22 := z; exact Int.le_antisymm z1.2 z1.1
          refine wp_of e18 c18_18 (rw_aaload (pc' := 19) (n := 11) (b := 22) (hW.sh hW.1.1 rfl) (by decide) (by decide) (by decide) rfl k1934 rfl ?_)
          have k1935 : H 22 0 = ((38 : Nat) : Int) := (hW.2 22 _ (hW.1.2.2 6 (by decide))).2.2 0 (by decide) |> fun z => by have z1 : (38 : Int) ≤ H 22 0 ∧ H 22 0 ≤ 38 := z; omega
          refine wp_of e18 c18_19 (rw_getR (pc' := 22) (n := 2) (b := 38) (e := _) (lf_1_181).choose_spec.1 (lf_1_181).choose_spec.2.1 (hW.sh (hW.1.2.2 6 (by decide)) rfl) (by decide) rfl k1935 rfl ?_)
          refine wp_of e18 c18_22 (xc_V (pc' := 25) (r := tk) (as := [.ref 38]) (st := []) (lm_1_185) rfl rfl (Nat.le_of_ble_eq_true rfl) hW gtk sh_4 (by decide) rfl (by decide) (u_19 (kk := 671108) hW gtk rfl (by decide +kernel)) (fun R1936 T1937 H1938 p1939 => ?_))
          obtain ⟨e1940, e1942, z1943, e1941, b1944, p1945⟩ := p1939
          subst e1940
          subst e1941
          subst e1942
          rcases p1945 with ⟨a1946, a1947⟩ | ⟨a1948, a1949⟩
          · show wp _ _ 18 25 [(1, vI 6), (0, .ref r0)] [vI z1943] _ H _
            refine wp_of e18 c18_25 (rw_if_eq (p1 := 34) (p2 := 28) (by decide) rfl ⟨by omega, by omega⟩ (fun c1950 => ?_) (fun c1950 => ?_))
            · exfalso
              omega
            · have := @xre_le B n q 6 671108 rfl (by decide)
              refine wp_of e18 c18_28 (rw_gs (pc' := 31) (k := 1) rfl rfl rfl rfl ?_)
              refine wp_of e18 c18_31 (rw_iload_n (pc' := 32) (z := 6) rfl rfl ?_)
              have k1952 : H 1 (6 : Int).toNat = ((22 : Nat) : Int) := (hW.2 1 _ hW.1.1).2.2 6 (by decide) |> fun z => by have z1 : (22 : Int) ≤ H 1 6 ∧ H 1 6 ≤ 22 := z; exact Int.le_antisymm z1.2 z1.1
              refine wp_of e18 c18_32 (rw_aaload (pc' := 33) (n := 11) (b := 22) (hW.sh hW.1.1 rfl) (by decide) (by decide) (by decide) rfl k1952 rfl ?_)
              exact wp_areturn e18 c18_33 rfl rfl ⟨rfl, rfl, Or.inr ⟨22, rfl, by decide, by decide, by omega⟩⟩
          · show wp _ _ 18 25 [(1, vI 6), (0, .ref r0)] [vI z1943] _ H _
            refine wp_of e18 c18_25 (rw_if_eq (p1 := 34) (p2 := 28) (by decide) rfl ⟨by omega, by omega⟩ (fun c1953 => ?_) (fun c1953 => ?_))
            · have := @xre_at B n q 6 671108 rfl (by decide)
              refine wp_of e18 c18_34 (rw_iinc (pc' := 37) (z := 6) (L' := [(1, vI (6 + 1)), (0, .ref r0)]) rfl rfl rfl rfl ?_)
              refine wp_of e18 c18_37 (rw_goto (p1 := 2) (by decide) ?_)
              exact wp_lc (ks := [1, 0]) (wl_c rfl (wl_c rfl wl_n)) rfl (by decide) (ih1797 _ (by omega) (6 + 1) ⟨by omega, by omega⟩ (by omega) rfl)
            · exfalso
              omega
        · subst c1806
          have k1955 : H 1 (7 : Int).toNat = ((23 : Nat) : Int) := (hW.2 1 _ hW.1.1).2.2 7 (by decide) |> fun z => by have z1 : (23 : Int) ≤ H 1 7 ∧ H 1 7 ≤ 23 := z; exact Int.le_antisymm z1.2 z1.1
          refine wp_of e18 c18_18 (rw_aaload (pc' := 19) (n := 11) (b := 23) (hW.sh hW.1.1 rfl) (by decide) (by decide) (by decide) rfl k1955 rfl ?_)
          have k1956 : H 23 0 = ((39 : Nat) : Int) := (hW.2 23 _ (hW.1.2.2 7 (by decide))).2.2 0 (by decide) |> fun z => by have z1 : (39 : Int) ≤ H 23 0 ∧ H 23 0 ≤ 39 := z; omega
          refine wp_of e18 c18_19 (rw_getR (pc' := 22) (n := 2) (b := 39) (e := _) (lf_1_181).choose_spec.1 (lf_1_181).choose_spec.2.1 (hW.sh (hW.1.2.2 7 (by decide)) rfl) (by decide) rfl k1956 rfl ?_)
          refine wp_of e18 c18_22 (xc_V (pc' := 25) (r := tk) (as := [.ref 39]) (st := []) (lm_1_185) rfl rfl (Nat.le_of_ble_eq_true rfl) hW gtk sh_4 (by decide) rfl (by decide) (u_19 (kk := 15931570) hW gtk rfl (by decide +kernel)) (fun R1957 T1958 H1959 p1960 => ?_))
          obtain ⟨e1961, e1963, z1964, e1962, b1965, p1966⟩ := p1960
          subst e1961
          subst e1962
          subst e1963
          rcases p1966 with ⟨a1967, a1968⟩ | ⟨a1969, a1970⟩
          · show wp _ _ 18 25 [(1, vI 7), (0, .ref r0)] [vI z1964] _ H _
            refine wp_of e18 c18_25 (rw_if_eq (p1 := 34) (p2 := 28) (by decide) rfl ⟨by omega, by omega⟩ (fun c1971 => ?_) (fun c1971 => ?_))
            · exfalso
              omega
            · have := @xre_le B n q 7 15931570 rfl (by decide)
              refine wp_of e18 c18_28 (rw_gs (pc' := 31) (k := 1) rfl rfl rfl rfl ?_)
              refine wp_of e18 c18_31 (rw_iload_n (pc' := 32) (z := 7) rfl rfl ?_)
              have k1973 : H 1 (7 : Int).toNat = ((23 : Nat) : Int) := (hW.2 1 _ hW.1.1).2.2 7 (by decide) |> fun z => by have z1 : (23 : Int) ≤ H 1 7 ∧ H 1 7 ≤ 23 := z; exact Int.le_antisymm z1.2 z1.1
              refine wp_of e18 c18_32 (rw_aaload (pc' := 33) (n := 11) (b := 23) (hW.sh hW.1.1 rfl) (by decide) (by decide) (by decide) rfl k1973 rfl ?_)
              exact wp_areturn e18 c18_33 rfl rfl ⟨rfl, rfl, Or.inr ⟨23, rfl, by decide, by decide, by omega⟩⟩
          · show wp _ _ 18 25 [(1, vI 7), (0, .ref r0)] [vI z1964] _ H _
            refine wp_of e18 c18_25 (rw_if_eq (p1 := 34) (p2 := 28) (by decide) rfl ⟨by omega, by omega⟩ (fun c1974 => ?_) (fun c1974 => ?_))
            · have := @xre_at B n q 7 15931570 rfl (by decide)
              refine wp_of e18 c18_34 (rw_iinc (pc' := 37) (z := 7) (L' := [(1, vI (7 + 1)), (0, .ref r0)]) rfl rfl rfl rfl ?_)
              refine wp_of e18 c18_37 (rw_goto (p1 := 2) (by decide) ?_)
              exact wp_lc (ks := [1, 0]) (wl_c rfl (wl_c rfl wl_n)) rfl (by decide) (ih1797 _ (by omega) (7 + 1) ⟨by omega, by omega⟩ (by omega) rfl)
            · exfalso
              omega
        · subst c1806
          have k1976 : H 1 (8 : Int).toNat = ((24 : Nat) : Int) := (hW.2 1 _ hW.1.1).2.2 8 (by decide) |> fun z => by have z1 : (24 : Int) ≤ H 1 8 ∧ H 1 8 ≤ 24 := z; exact Int.le_antisymm z1.2 z1.1
          refine wp_of e18 c18_18 (rw_aaload (pc' := 19) (n := 11) (b := 24) (hW.sh hW.1.1 rfl) (by decide) (by decide) (by decide) rfl k1976 rfl ?_)
          have k1977 : H 24 0 = ((40 : Nat) : Int) := (hW.2 24 _ (hW.1.2.2 8 (by decide))).2.2 0 (by decide) |> fun z => by have z1 : (40 : Int) ≤ H 24 0 ∧ H 24 0 ≤ 40 := z; omega
          refine wp_of e18 c18_19 (rw_getR (pc' := 22) (n := 2) (b := 40) (e := _) (lf_1_181).choose_spec.1 (lf_1_181).choose_spec.2.1 (hW.sh (hW.1.2.2 8 (by decide)) rfl) (by decide) rfl k1977 rfl ?_)
          refine wp_of e18 c18_22 (xc_V (pc' := 25) (r := tk) (as := [.ref 40]) (st := []) (lm_1_185) rfl rfl (Nat.le_of_ble_eq_true rfl) hW gtk sh_4 (by decide) rfl (by decide) (u_19 (kk := 8423732) hW gtk rfl (by decide +kernel)) (fun R1978 T1979 H1980 p1981 => ?_))
          obtain ⟨e1982, e1984, z1985, e1983, b1986, p1987⟩ := p1981
          subst e1982
          subst e1983
          subst e1984
          rcases p1987 with ⟨a1988, a1989⟩ | ⟨a1990, a1991⟩
          · show wp _ _ 18 25 [(1, vI 8), (0, .ref r0)] [vI z1985] _ H _
            refine wp_of e18 c18_25 (rw_if_eq (p1 := 34) (p2 := 28) (by decide) rfl ⟨by omega, by omega⟩ (fun c1992 => ?_) (fun c1992 => ?_))
            · exfalso
              omega
            · have := @xre_le B n q 8 8423732 rfl (by decide)
              refine wp_of e18 c18_28 (rw_gs (pc' := 31) (k := 1) rfl rfl rfl rfl ?_)
              refine wp_of e18 c18_31 (rw_iload_n (pc' := 32) (z := 8) rfl rfl ?_)
              have k1994 : H 1 (8 : Int).toNat = ((24 : Nat) : Int) := (hW.2 1 _ hW.1.1).2.2 8 (by decide) |> fun z => by have z1 : (24 : Int) ≤ H 1 8 ∧ H 1 8 ≤ 24 := z; exact Int.le_antisymm z1.2 z1.1
              refine wp_of e18 c18_32 (rw_aaload (pc' := 33) (n := 11) (b := 24) (hW.sh hW.1.1 rfl) (by decide) (by decide) (by decide) rfl k1994 rfl ?_)
              exact wp_areturn e18 c18_33 rfl rfl ⟨rfl, rfl, Or.inr ⟨24, rfl, by decide, by decide, by omega⟩⟩
          · show wp _ _ 18 25 [(1, vI 8), (0, .ref r0)] [vI z1985] _ H _
            refine wp_of e18 c18_25 (rw_if_eq (p1 := 34) (p2 := 28) (by decide) rfl ⟨by omega, by omega⟩ (fun c1995 => ?_) (fun c1995 => ?_))
            · have := @xre_at B n q 8 8423732 rfl (by decide)
              refine wp_of e18 c18_34 (rw_iinc (pc' := 37) (z := 8) (L' := [(1, vI (8 + 1)), (0, .ref r0)]) rfl rfl rfl rfl ?_)
              refine wp_of e18 c18_37 (rw_goto (p1 := 2) (by decide) ?_)
              exact wp_lc (ks := [1, 0]) (wl_c rfl (wl_c rfl wl_n)) rfl (by decide) (ih1797 _ (by omega) (8 + 1) ⟨by omega, by omega⟩ (by omega) rfl)
            · exfalso
              omega
        · subst c1806
          have k1997 : H 1 (9 : Int).toNat = ((25 : Nat) : Int) := (hW.2 1 _ hW.1.1).2.2 9 (by decide) |> fun z => by have z1 : (25 : Int) ≤ H 1 9 ∧ H 1 9 ≤ 25 := z; exact Int.le_antisymm z1.2 z1.1
          refine wp_of e18 c18_18 (rw_aaload (pc' := 19) (n := 11) (b := 25) (hW.sh hW.1.1 rfl) (by decide) (by decide) (by decide) rfl k1997 rfl ?_)
          have k1998 : H 25 0 = ((41 : Nat) : Int) := (hW.2 25 _ (hW.1.2.2 9 (by decide))).2.2 0 (by decide) |> fun z => by have z1 : (41 : Int) ≤ H 25 0 ∧ H 25 0 ≤ 41 := z; omega
          refine wp_of e18 c18_19 (rw_getR (pc' := 22) (n := 2) (b := 41) (e := _) (lf_1_181).choose_spec.1 (lf_1_181).choose_spec.2.1 (hW.sh (hW.1.2.2 9 (by decide)) rfl) (by decide) rfl k1998 rfl ?_)
          refine wp_of e18 c18_22 (xc_V (pc' := 25) (r := tk) (as := [.ref 41]) (st := []) (lm_1_185) rfl rfl (Nat.le_of_ble_eq_true rfl) hW gtk sh_4 (by decide) rfl (by decide) (u_19 (kk := 14384) hW gtk rfl (by decide +kernel)) (fun R1999 T2000 H2001 p2002 => ?_))
          obtain ⟨e2003, e2005, z2006, e2004, b2007, p2008⟩ := p2002
          subst e2003
          subst e2004
          subst e2005
          rcases p2008 with ⟨a2009, a2010⟩ | ⟨a2011, a2012⟩
          · show wp _ _ 18 25 [(1, vI 9), (0, .ref r0)] [vI z2006] _ H _
            refine wp_of e18 c18_25 (rw_if_eq (p1 := 34) (p2 := 28) (by decide) rfl ⟨by omega, by omega⟩ (fun c2013 => ?_) (fun c2013 => ?_))
            · exfalso
              omega
            · have := @xre_le B n q 9 14384 rfl (by decide)
              refine wp_of e18 c18_28 (rw_gs (pc' := 31) (k := 1) rfl rfl rfl rfl ?_)
              refine wp_of e18 c18_31 (rw_iload_n (pc' := 32) (z := 9) rfl rfl ?_)
              have k2015 : H 1 (9 : Int).toNat = ((25 : Nat) : Int) := (hW.2 1 _ hW.1.1).2.2 9 (by decide) |> fun z => by have z1 : (25 : Int) ≤ H 1 9 ∧ H 1 9 ≤ 25 := z; exact Int.le_antisymm z1.2 z1.1
              refine wp_of e18 c18_32 (rw_aaload (pc' := 33) (n := 11) (b := 25) (hW.sh hW.1.1 rfl) (by decide) (by decide) (by decide) rfl k2015 rfl ?_)
              exact wp_areturn e18 c18_33 rfl rfl ⟨rfl, rfl, Or.inr ⟨25, rfl, by decide, by decide, by omega⟩⟩
          · show wp _ _ 18 25 [(1, vI 9), (0, .ref r0)] [vI z2006] _ H _
            refine wp_of e18 c18_25 (rw_if_eq (p1 := 34) (p2 := 28) (by decide) rfl ⟨by omega, by omega⟩ (fun c2016 => ?_) (fun c2016 => ?_))
            · have := @xre_at B n q 9 14384 rfl (by decide)
              refine wp_of e18 c18_34 (rw_iinc (pc' := 37) (z := 9) (L' := [(1, vI (9 + 1)), (0, .ref r0)]) rfl rfl rfl rfl ?_)
              refine wp_of e18 c18_37 (rw_goto (p1 := 2) (by decide) ?_)
              exact wp_lc (ks := [1, 0]) (wl_c rfl (wl_c rfl wl_n)) rfl (by decide) (ih1797 _ (by omega) (9 + 1) ⟨by omega, by omega⟩ (by omega) rfl)
            · exfalso
              omega
        · subst c1806
          have k2018 : H 1 (10 : Int).toNat = ((26 : Nat) : Int) := (hW.2 1 _ hW.1.1).2.2 10 (by decide) |> fun z => by have z1 : (26 : Int) ≤ H 1 10 ∧ H 1 10 ≤ 26 := z; exact Int.le_antisymm z1.2 z1.1
          refine wp_of e18 c18_18 (rw_aaload (pc' := 19) (n := 11) (b := 26) (hW.sh hW.1.1 rfl) (by decide) (by decide) (by decide) rfl k2018 rfl ?_)
          have k2019 : H 26 0 = ((42 : Nat) : Int) := (hW.2 26 _ (hW.1.2.2 10 (by decide))).2.2 0 (by decide) |> fun z => by have z1 : (42 : Int) ≤ H 26 0 ∧ H 26 0 ≤ 42 := z; omega
          refine wp_of e18 c18_19 (rw_getR (pc' := 22) (n := 2) (b := 42) (e := _) (lf_1_181).choose_spec.1 (lf_1_181).choose_spec.2.1 (hW.sh (hW.1.2.2 10 (by decide)) rfl) (by decide) rfl k2019 rfl ?_)
          refine wp_of e18 c18_22 (xc_V (pc' := 25) (r := tk) (as := [.ref 42]) (st := []) (lm_1_185) rfl rfl (Nat.le_of_ble_eq_true rfl) hW gtk sh_4 (by decide) rfl (by decide) (u_19 (kk := 56377) hW gtk rfl (by decide +kernel)) (fun R2020 T2021 H2022 p2023 => ?_))
          obtain ⟨e2024, e2026, z2027, e2025, b2028, p2029⟩ := p2023
          subst e2024
          subst e2025
          subst e2026
          rcases p2029 with ⟨a2030, a2031⟩ | ⟨a2032, a2033⟩
          · show wp _ _ 18 25 [(1, vI 10), (0, .ref r0)] [vI z2027] _ H _
            refine wp_of e18 c18_25 (rw_if_eq (p1 := 34) (p2 := 28) (by decide) rfl ⟨by omega, by omega⟩ (fun c2034 => ?_) (fun c2034 => ?_))
            · exfalso
              omega
            · have := @xre_le B n q 10 56377 rfl (by decide)
              refine wp_of e18 c18_28 (rw_gs (pc' := 31) (k := 1) rfl rfl rfl rfl ?_)
              refine wp_of e18 c18_31 (rw_iload_n (pc' := 32) (z := 10) rfl rfl ?_)
              have k2036 : H 1 (10 : Int).toNat = ((26 : Nat) : Int) := (hW.2 1 _ hW.1.1).2.2 10 (by decide) |> fun z => by have z1 : (26 : Int) ≤ H 1 10 ∧ H 1 10 ≤ 26 := z; exact Int.le_antisymm z1.2 z1.1
              refine wp_of e18 c18_32 (rw_aaload (pc' := 33) (n := 11) (b := 26) (hW.sh hW.1.1 rfl) (by decide) (by decide) (by decide) rfl k2036 rfl ?_)
              exact wp_areturn e18 c18_33 rfl rfl ⟨rfl, rfl, Or.inr ⟨26, rfl, by decide, by decide, by omega⟩⟩
          · show wp _ _ 18 25 [(1, vI 10), (0, .ref r0)] [vI z2027] _ H _
            refine wp_of e18 c18_25 (rw_if_eq (p1 := 34) (p2 := 28) (by decide) rfl ⟨by omega, by omega⟩ (fun c2037 => ?_) (fun c2037 => ?_))
            · have := @xre_at B n q 10 56377 rfl (by decide)
              refine wp_of e18 c18_34 (rw_iinc (pc' := 37) (z := 10) (L' := [(1, vI (10 + 1)), (0, .ref r0)]) rfl rfl rfl rfl ?_)
              refine wp_of e18 c18_37 (rw_goto (p1 := 2) (by decide) ?_)
              exact wp_lc (ks := [1, 0]) (wl_c rfl (wl_c rfl wl_n)) rfl (by decide) (ih1797 _ (by omega) (10 + 1) ⟨by omega, by omega⟩ (by omega) rfl)
            · exfalso
              omega
  exact wp_lc (ks := [1, 0]) (wl_c rfl (wl_c rfl wl_n)) rfl (by decide) (lp1795 _ 0 ⟨by omega, by omega⟩ (by omega) rfl)
/-! StrikeAwake$Reader.isName()Z  -/
abbrev uq_26 (r0 : Nat) (tk : Nat) (rb : Nat) (B : Nat → Int) (n : Int) (q : Int) (T : wq_T) (H : wq_H) : Option Value → wq_T → wq_H → Prop := fun r T' H' => T = T' ∧ H = H' ∧ ∃ z : Int, some (vI z) = r ∧ (0 ≤ z ∧ z ≤ 1) ∧ (((z = 1) ∧ (xre B n q = 11)) ∨ ((z = 0) ∧ (xre B n q ≠ 11)))
set_option maxHeartbeats 4000000 in
theorem u_26 {kt : Nat → Option mc_E} {T : wq_T} {H : wq_H} {r0 : Nat} {tk : Nat} {rb : Nat} {B : Nat → Int} {n : Int} {q : Int} (hW : WT T H) (g0 : T.2.2.2 r0 = some 3) (qtk : H r0 0 = (tk : Int)) (gtk : T.2.2.2 tk = some 4) (qrb : H tk 0 = (rb : Int)) (grb : T.2.2.2 rb = some 2) (hTC_tk : TC T H tk B n q) : wpc kt 3 26 [.ref r0] T H (uq_26 r0 tk rb B n q T H) := by
  refine wp_enter e26 (Nat.le_of_ble_eq_true rfl) rfl ?_
  show wp _ _ 26 0 [(0, .ref r0)] [] _ H _
  have u16 := TC_k hTC_tk
  have _x := @xre_b B n q
  refine wp_of e26 c26_0 (rw_aload_n (pc' := 1) (v := .ref r0) rfl rfl rfl ?_)
  refine wp_of e26 c26_1 (xg_K (pc' := 4) lf_1_12 hW g0 sh_3 (by decide) (by decide) rfl qtk rfl ?_)
  refine wp_of e26 c26_4 (xg_I (pc' := 7) lf_1_38 hW gtk sh_4 (by decide) (by decide) ty_4_3 rfl rfl (fun b17 b18 => ?_))
  refine wp_of e26 c26_7 (rw_iconst (pc' := 8) rfl ?_)
  refine wp_of e26 c26_8 (rw_icmp_ne (p1 := 22) (p2 := 11) (by decide) rfl ⟨by omega, by omega⟩ ⟨by omega, by omega⟩ (fun c19 => ?_) (fun c19 => ?_))
  · refine wp_of e26 c26_22 (rw_iconst (pc' := 23) rfl ?_)
    exact wp_zreturn e26 c26_23 rfl (by omega) ⟨rfl, rfl, 0, rfl, ⟨by omega, by omega⟩, (Or.inr ⟨by omega, by omega⟩)⟩
  · refine wp_of e26 c26_11 (rw_aload_n (pc' := 12) (v := .ref r0) rfl rfl rfl ?_)
    refine wp_of e26 c26_12 (xc_V (pc' := 15) (r := r0) (as := []) (st := []) (lm_1_54) rfl rfl (Nat.le_of_ble_eq_true rfl) hW g0 sh_3 (by decide) rfl (by decide) (u_18 (B := B) (n := n) (q := q) hW g0 qtk gtk qrb grb hTC_tk) (fun R20 T21 H22 p23 => ?_))
    obtain ⟨e24, e26, e25⟩ := p23
    subst e24
    subst e26
    rcases e25 with ⟨e25, b30⟩ | ⟨r27, e25, b28, b29, b30⟩
    · subst e25
      show wp _ _ 26 15 [(0, .ref r0)] [.null] _ H _
      refine wp_of e26 c26_15 (rw_ifnonnull_n (p1 := 22) (p2 := 18) (by decide) rfl ?_)
      refine wp_of e26 c26_18 (rw_iconst (pc' := 19) rfl ?_)
      refine wp_of e26 c26_19 (rw_goto (p1 := 23) (by decide) ?_)
      exact wp_zreturn e26 c26_23 rfl (by omega) ⟨rfl, rfl, 1, rfl, ⟨by omega, by omega⟩, (Or.inl ⟨by omega, by omega⟩)⟩
    · subst e25
      have c31 : r27 = 16 ∨ r27 = 17 ∨ r27 = 18 ∨ r27 = 19 ∨ r27 = 20 ∨ r27 = 21 ∨ r27 = 22 ∨ r27 = 23 ∨ r27 = 24 ∨ r27 = 25 ∨ r27 = 26 := by omega
      rcases c31 with c31 | c31 | c31 | c31 | c31 | c31 | c31 | c31 | c31 | c31 | c31
      · subst c31
        show wp _ _ 26 15 [(0, .ref r0)] [.ref 16] _ H _
        refine wp_of e26 c26_15 (rw_ifnonnull_r (p1 := 22) (p2 := 18) (by decide) rfl ?_)
        refine wp_of e26 c26_22 (rw_iconst (pc' := 23) rfl ?_)
        exact wp_zreturn e26 c26_23 rfl (by omega) ⟨rfl, rfl, 0, rfl, ⟨by omega, by omega⟩, (Or.inr ⟨by omega, by omega⟩)⟩
      · subst c31
        show wp _ _ 26 15 [(0, .ref r0)] [.ref 17] _ H _
        refine wp_of e26 c26_15 (rw_ifnonnull_r (p1 := 22) (p2 := 18) (by decide) rfl ?_)
        refine wp_of e26 c26_22 (rw_iconst (pc' := 23) rfl ?_)
        exact wp_zreturn e26 c26_23 rfl (by omega) ⟨rfl, rfl, 0, rfl, ⟨by omega, by omega⟩, (Or.inr ⟨by omega, by omega⟩)⟩
      · subst c31
        show wp _ _ 26 15 [(0, .ref r0)] [.ref 18] _ H _
        refine wp_of e26 c26_15 (rw_ifnonnull_r (p1 := 22) (p2 := 18) (by decide) rfl ?_)
        refine wp_of e26 c26_22 (rw_iconst (pc' := 23) rfl ?_)
        exact wp_zreturn e26 c26_23 rfl (by omega) ⟨rfl, rfl, 0, rfl, ⟨by omega, by omega⟩, (Or.inr ⟨by omega, by omega⟩)⟩
      · subst c31
        show wp _ _ 26 15 [(0, .ref r0)] [.ref 19] _ H _
        refine wp_of e26 c26_15 (rw_ifnonnull_r (p1 := 22) (p2 := 18) (by decide) rfl ?_)
        refine wp_of e26 c26_22 (rw_iconst (pc' := 23) rfl ?_)
        exact wp_zreturn e26 c26_23 rfl (by omega) ⟨rfl, rfl, 0, rfl, ⟨by omega, by omega⟩, (Or.inr ⟨by omega, by omega⟩)⟩
      · subst c31
        show wp _ _ 26 15 [(0, .ref r0)] [.ref 20] _ H _
        refine wp_of e26 c26_15 (rw_ifnonnull_r (p1 := 22) (p2 := 18) (by decide) rfl ?_)
        refine wp_of e26 c26_22 (rw_iconst (pc' := 23) rfl ?_)
        exact wp_zreturn e26 c26_23 rfl (by omega) ⟨rfl, rfl, 0, rfl, ⟨by omega, by omega⟩, (Or.inr ⟨by omega, by omega⟩)⟩
      · subst c31
        show wp _ _ 26 15 [(0, .ref r0)] [.ref 21] _ H _
        refine wp_of e26 c26_15 (rw_ifnonnull_r (p1 := 22) (p2 := 18) (by decide) rfl ?_)
        refine wp_of e26 c26_22 (rw_iconst (pc' := 23) rfl ?_)
        exact wp_zreturn e26 c26_23 rfl (by omega) ⟨rfl, rfl, 0, rfl, ⟨by omega, by omega⟩, (Or.inr ⟨by omega, by omega⟩)⟩
      · subst c31
        show wp _ _ 26 15 [(0, .ref r0)] [.ref 22] _ H _
        refine wp_of e26 c26_15 (rw_ifnonnull_r (p1 := 22) (p2 := 18) (by decide) rfl ?_)
        refine wp_of e26 c26_22 (rw_iconst (pc' := 23) rfl ?_)
        exact wp_zreturn e26 c26_23 rfl (by omega) ⟨rfl, rfl, 0, rfl, ⟨by omega, by omega⟩, (Or.inr ⟨by omega, by omega⟩)⟩
      · subst c31
        show wp _ _ 26 15 [(0, .ref r0)] [.ref 23] _ H _
        refine wp_of e26 c26_15 (rw_ifnonnull_r (p1 := 22) (p2 := 18) (by decide) rfl ?_)
        refine wp_of e26 c26_22 (rw_iconst (pc' := 23) rfl ?_)
        exact wp_zreturn e26 c26_23 rfl (by omega) ⟨rfl, rfl, 0, rfl, ⟨by omega, by omega⟩, (Or.inr ⟨by omega, by omega⟩)⟩
      · subst c31
        show wp _ _ 26 15 [(0, .ref r0)] [.ref 24] _ H _
        refine wp_of e26 c26_15 (rw_ifnonnull_r (p1 := 22) (p2 := 18) (by decide) rfl ?_)
        refine wp_of e26 c26_22 (rw_iconst (pc' := 23) rfl ?_)
        exact wp_zreturn e26 c26_23 rfl (by omega) ⟨rfl, rfl, 0, rfl, ⟨by omega, by omega⟩, (Or.inr ⟨by omega, by omega⟩)⟩
      · subst c31
        show wp _ _ 26 15 [(0, .ref r0)] [.ref 25] _ H _
        refine wp_of e26 c26_15 (rw_ifnonnull_r (p1 := 22) (p2 := 18) (by decide) rfl ?_)
        refine wp_of e26 c26_22 (rw_iconst (pc' := 23) rfl ?_)
        exact wp_zreturn e26 c26_23 rfl (by omega) ⟨rfl, rfl, 0, rfl, ⟨by omega, by omega⟩, (Or.inr ⟨by omega, by omega⟩)⟩
      · subst c31
        show wp _ _ 26 15 [(0, .ref r0)] [.ref 26] _ H _
        refine wp_of e26 c26_15 (rw_ifnonnull_r (p1 := 22) (p2 := 18) (by decide) rfl ?_)
        refine wp_of e26 c26_22 (rw_iconst (pc' := 23) rfl ?_)
        exact wp_zreturn e26 c26_23 rfl (by omega) ⟨rfl, rfl, 0, rfl, ⟨by omega, by omega⟩, (Or.inr ⟨by omega, by omega⟩)⟩
/-! StrikeAwake$Reader.takes(I)Z  -/
abbrev uq_35 (r0 : Nat) (a1 : Int) (tk : Nat) (rb : Nat) (B : Nat → Int) (n : Int) (q : Int) (T : wq_T) (H : wq_H) : Option Value → wq_T → wq_H → Prop := fun r T' H' => T = T' ∧ WT T H' ∧ wfr [(3, 3), (3, 4), (4, 2), (4, 3), (4, 4), (4, 5), (4, 6)] T H H' ∧ ∃ z : Int, some (vI z) = r ∧ (0 ≤ z ∧ z ≤ 1) ∧ (((z = 1) ∧ (xk B n q a1 = 0) ∧ (xK B n q = a1) ∧ (H' r0 3 = H r0 3) ∧ TC T H' tk B n (xN B n q)) ∨ ((z = 0) ∧ (xk B n q a1 = 1) ∧ (xK B n q ≠ a1) ∧ (H' r0 3 = 1) ∧ (H' r0 4 = q)))
set_option maxHeartbeats 4000000 in
theorem u_35 {kt : Nat → Option mc_E} {T : wq_T} {H : wq_H} {r0 : Nat} {a1 : Int} {tk : Nat} {rb : Nat} {B : Nat → Int} {n : Int} {q : Int} (hW : WT T H) (g0 : T.2.2.2 r0 = some 3) (i1 : (-2147483648) ≤ a1 ∧ a1 ≤ 2147483647) (qtk : H r0 0 = (tk : Int)) (gtk : T.2.2.2 tk = some 4) (qrb : H tk 0 = (rb : Int)) (grb : T.2.2.2 rb = some 2) (hTC_tk : TC T H tk B n q) : wpc kt 2 35 [.ref r0, vI a1] T H (uq_35 r0 a1 tk rb B n q T H) := by
  refine wp_enter e35 (Nat.le_of_ble_eq_true rfl) rfl ?_
  have f0 : wfr [(3, 3), (3, 4), (4, 2), (4, 3), (4, 4), (4, 5), (4, 6)] T H H := wfr.rf
  show wp _ _ 35 0 [(0, .ref r0), (1, vI a1)] [] _ H _
  have u30 := TC_k hTC_tk
  refine wp_of e35 c35_0 (rw_aload_n (pc' := 1) (v := .ref r0) rfl rfl rfl ?_)
  refine wp_of e35 c35_1 (xg_K (pc' := 4) lf_1_12 hW g0 sh_3 (by decide) (by decide) rfl qtk rfl ?_)
  refine wp_of e35 c35_4 (xg_I (pc' := 7) lf_1_38 hW gtk sh_4 (by decide) (by decide) ty_4_3 rfl rfl (fun b31 b32 => ?_))
  refine wp_of e35 c35_7 (rw_iload_n (pc' := 8) (z := a1) rfl rfl ?_)
  refine wp_of e35 c35_8 (rw_icmp_eq (p1 := 17) (p2 := 11) (by decide) rfl ⟨by omega, by omega⟩ ⟨by omega, by omega⟩ (fun c33 => ?_) (fun c33 => ?_))
  · refine wp_of e35 c35_17 (rw_aload_n (pc' := 18) (v := .ref r0) rfl rfl rfl ?_)
    refine wp_of e35 c35_18 (xg_K (pc' := 21) lf_1_12 hW g0 sh_3 (by decide) (by decide) rfl qtk rfl ?_)
    have h34 : TP T H rb B := TC_tp hTC_tk qrb
    refine wp_of e35 c35_21 (xc_V (pc' := 24) (r := tk) (as := []) (st := []) (lm_1_74) rfl rfl (Nat.le_of_ble_eq_true rfl) hW gtk sh_4 (by decide) rfl (by decide) (u_16 (B := B) (n := n) (a := (xE B n q)) (q := (xN B n q)) hW gtk qrb grb (by omega) (by omega) (by omega) (rfl) h34) (fun R35 T36 H37 p38 => ?_))
    obtain ⟨e39, w41, f42, e40, p43⟩ := p38
    subst e39
    subst e40
    have f45 := f0.tr f42 rfl
    show wp _ _ 35 24 [(0, .ref r0), (1, vI a1)] [] _ H37 _
    have u46 := TC_k p43
    refine wp_of e35 c35_24 (rw_iconst (pc' := 25) rfl ?_)
    have k47 : H37 r0 3 = H r0 3 := (f42 r0 3 _ g0 rfl)
    have := @xk_b B n q a1
    exact wp_zreturn e35 c35_25 rfl (by omega) ⟨rfl, w41, f45, 1, rfl, ⟨by omega, by omega⟩, (Or.inl ⟨by omega, by omega, by omega, by omega, p43⟩)⟩
  · refine wp_of e35 c35_11 (rw_aload_n (pc' := 12) (v := .ref r0) rfl rfl rfl ?_)
    refine wp_of e35 c35_12 (rw_iconst (pc' := 13) rfl ?_)
    refine wp_of e35 c35_13 (xc_V (pc' := 16) (r := r0) (as := [vI 1]) (st := []) (lm_1_47) rfl rfl (Nat.le_of_ble_eq_true rfl) hW g0 sh_3 (by decide) rfl (by decide) (u_20  hW g0 ⟨by omega, by omega⟩ qtk gtk) (fun R48 T49 H50 p51 => ?_))
    obtain ⟨e52, w54, f55, z56, e53, b57, p58⟩ := p51
    subst e52
    subst e53
    obtain ⟨a59, a60, a61⟩ := p58
    have f62 := f0.tr f55 rfl
    show wp _ _ 35 16 [(0, .ref r0), (1, vI a1)] [vI z56] _ H50 _
    have := @xk_b B n q a1
    exact wp_zreturn e35 c35_16 rfl (by omega) ⟨rfl, w54, f62, z56, rfl, ⟨by omega, by omega⟩, (Or.inr ⟨by omega, by omega, by omega, by omega, by omega⟩)⟩
/-! StrikeAwake$Reader.takesWord(Ljava/lang/String;)Z  -/
abbrev uq_23 (r0 : Nat) (s1 : Nat) (tk : Nat) (rb : Nat) (B : Nat → Int) (n : Int) (q : Int) (kk : Int) (T : wq_T) (H : wq_H) : Option Value → wq_T → wq_H → Prop := fun r T' H' => T = T' ∧ WT T H' ∧ wfr [(3, 3), (3, 4), (4, 2), (4, 3), (4, 4), (4, 5), (4, 6)] T H H' ∧ ∃ z : Int, some (vI z) = r ∧ (0 ≤ z ∧ z ≤ 1) ∧ (((z = 1) ∧ (xw B n q kk = 0) ∧ (H' r0 3 = H r0 3) ∧ TC T H' tk B n (xN B n q)) ∨ ((z = 0) ∧ (xw B n q kk = 1) ∧ (H' r0 3 = 1) ∧ (H' r0 4 = q)))
set_option maxHeartbeats 4000000 in
theorem u_23 {kt : Nat → Option mc_E} {T : wq_T} {H : wq_H} {r0 : Nat} {s1 : Nat} {t1 : List Int32} {tk : Nat} {rb : Nat} {B : Nat → Int} {n : Int} {q : Int} {kk : Int} (hW : WT T H) (g0 : T.2.2.2 r0 = some 3) (h1 : mc_find mc_sb s1 = some t1) (qtk : H r0 0 = (tk : Int)) (gtk : T.2.2.2 tk = some 4) (qrb : H tk 0 = (rb : Int)) (grb : T.2.2.2 rb = some 2) (p0 : wkw t1 t1.length = kk) (hTC_tk : TC T H tk B n q) : wpc kt 2 23 [.ref r0, .ref s1] T H (uq_23 r0 s1 tk rb B n q kk T H) := by
  refine wp_enter e23 (Nat.le_of_ble_eq_true rfl) rfl ?_
  have f0 : wfr [(3, 3), (3, 4), (4, 2), (4, 3), (4, 4), (4, 5), (4, 6)] T H H := wfr.rf
  show wp _ _ 23 0 [(0, .ref r0), (1, .ref s1)] [] _ H _
  have u43 := TC_k hTC_tk
  have _i := TC_i hTC_tk
  refine wp_of e23 c23_0 (rw_aload_n (pc' := 1) (v := .ref r0) rfl rfl rfl ?_)
  refine wp_of e23 c23_1 (xg_K (pc' := 4) lf_1_12 hW g0 sh_3 (by decide) (by decide) rfl qtk rfl ?_)
  refine wp_of e23 c23_4 (rw_aload_n (pc' := 5) (v := .ref s1) rfl rfl rfl ?_)
  refine wp_of e23 c23_5 (xc_V (pc' := 8) (r := tk) (as := [.ref s1]) (st := []) (lm_1_185) rfl rfl (Nat.le_of_ble_eq_true rfl) hW gtk sh_4 (by decide) rfl (by decide) (u_19 (kk := kk) hW gtk h1 (by assumption)) (fun R44 T45 H46 p47 => ?_))
  obtain ⟨e48, e50, z51, e49, b52, p53⟩ := p47
  subst e48
  subst e49
  subst e50
  rcases p53 with ⟨a54, a55⟩ | ⟨a56, a57⟩
  · show wp _ _ 23 8 [(0, .ref r0), (1, .ref s1)] [vI z51] _ H _
    refine wp_of e23 c23_8 (rw_if_ne (p1 := 17) (p2 := 11) (by decide) rfl ⟨by omega, by omega⟩ (fun c58 => ?_) (fun c58 => ?_))
    · refine wp_of e23 c23_17 (rw_aload_n (pc' := 18) (v := .ref r0) rfl rfl rfl ?_)
      refine wp_of e23 c23_18 (xg_K (pc' := 21) lf_1_12 hW g0 sh_3 (by decide) (by decide) rfl qtk rfl ?_)
      have h59 : TP T H rb B := TC_tp hTC_tk qrb
      refine wp_of e23 c23_21 (xc_V (pc' := 24) (r := tk) (as := []) (st := []) (lm_1_74) rfl rfl (Nat.le_of_ble_eq_true rfl) hW gtk sh_4 (by decide) rfl (by decide) (u_16 (B := B) (n := n) (a := (xE B n q)) (q := (xN B n q)) hW gtk qrb grb (by omega) (by omega) (by omega) (rfl) h59) (fun R60 T61 H62 p63 => ?_))
      obtain ⟨e64, w66, f67, e65, p68⟩ := p63
      subst e64
      subst e65
      have f70 := f0.tr f67 rfl
      show wp _ _ 23 24 [(0, .ref r0), (1, .ref s1)] [] _ H62 _
      have u71 := TC_k p68
      refine wp_of e23 c23_24 (rw_iconst (pc' := 25) rfl ?_)
      have k72 : H62 r0 3 = H r0 3 := (f67 r0 3 _ g0 rfl)
      have := @xw_b B n q kk
      exact wp_zreturn e23 c23_25 rfl (by omega) ⟨rfl, w66, f70, 1, rfl, ⟨by omega, by omega⟩, (Or.inl ⟨by omega, by omega, by omega, p68⟩)⟩
    · exfalso
      omega
  · show wp _ _ 23 8 [(0, .ref r0), (1, .ref s1)] [vI z51] _ H _
    refine wp_of e23 c23_8 (rw_if_ne (p1 := 17) (p2 := 11) (by decide) rfl ⟨by omega, by omega⟩ (fun c73 => ?_) (fun c73 => ?_))
    · exfalso
      omega
    · refine wp_of e23 c23_11 (rw_aload_n (pc' := 12) (v := .ref r0) rfl rfl rfl ?_)
      refine wp_of e23 c23_12 (rw_iconst (pc' := 13) rfl ?_)
      refine wp_of e23 c23_13 (xc_V (pc' := 16) (r := r0) (as := [vI 1]) (st := []) (lm_1_47) rfl rfl (Nat.le_of_ble_eq_true rfl) hW g0 sh_3 (by decide) rfl (by decide) (u_20  hW g0 ⟨by omega, by omega⟩ qtk gtk) (fun R74 T75 H76 p77 => ?_))
      obtain ⟨e78, w80, f81, z82, e79, b83, p84⟩ := p77
      subst e78
      subst e79
      obtain ⟨a85, a86, a87⟩ := p84
      have f88 := f0.tr f81 rfl
      show wp _ _ 23 16 [(0, .ref r0), (1, .ref s1)] [vI z82] _ H76 _
      have := @xw_b B n q kk
      exact wp_zreturn e23 c23_16 rfl (by omega) ⟨rfl, w80, f88, z82, rfl, ⟨by omega, by omega⟩, (Or.inr ⟨by omega, by omega, by omega, by omega⟩)⟩
/-! StrikeAwake$Reader.whole(II)I  -/
abbrev uq_24 (r0 : Nat) (a1 : Int) (a2 : Int) (tk : Nat) (rb : Nat) (B : Nat → Int) (n : Int) (q : Int) (lo : Int) (hi : Int) (T : wq_T) (H : wq_H) : Option Value → wq_T → wq_H → Prop := fun r T' H' => T = T' ∧ WT T H' ∧ wfr [(3, 3), (3, 4), (4, 2), (4, 3), (4, 4), (4, 5), (4, 6)] T H H' ∧ ∃ z : Int, some (vI z) = r ∧ ((-1) ≤ z ∧ z ≤ 100) ∧ (((xh B n q lo hi = 0) ∧ (z = xV B n q) ∧ (lo ≤ z ∧ z ≤ hi) ∧ (H' r0 3 = H r0 3) ∧ TC T H' tk B n (xN B n q)) ∨ ((z = -1) ∧ (xh B n q lo hi ≠ 0) ∧ (H' r0 3 = xh B n q lo hi) ∧ (H' r0 4 = q)))
set_option maxHeartbeats 4000000 in
theorem u_24 {kt : Nat → Option mc_E} {T : wq_T} {H : wq_H} {r0 : Nat} {a1 : Int} {a2 : Int} {tk : Nat} {rb : Nat} {B : Nat → Int} {n : Int} {q : Int} {lo : Int} {hi : Int} (hW : WT T H) (g0 : T.2.2.2 r0 = some 3) (i1 : 0 ≤ a1 ∧ a1 ≤ 100) (i2 : 0 ≤ a2 ∧ a2 ≤ 100) (qtk : H r0 0 = (tk : Int)) (gtk : T.2.2.2 tk = some 4) (qrb : H tk 0 = (rb : Int)) (grb : T.2.2.2 rb = some 2) (p0 : a1 = lo) (p1 : a2 = hi) (hTC_tk : TC T H tk B n q) : wpc kt 2 24 [.ref r0, vI a1, vI a2] T H (uq_24 r0 a1 a2 tk rb B n q lo hi T H) := by
  refine wp_enter e24 (Nat.le_of_ble_eq_true rfl) rfl ?_
  have f0 : wfr [(3, 3), (3, 4), (4, 2), (4, 3), (4, 4), (4, 5), (4, 6)] T H H := wfr.rf
  show wp _ _ 24 0 [(0, .ref r0), (1, vI a1), (2, vI a2)] [] _ H _
  have u64 := TC_k hTC_tk
  have _i := TC_i hTC_tk
  refine wp_of e24 c24_0 (rw_aload_n (pc' := 1) (v := .ref r0) rfl rfl rfl ?_)
  refine wp_of e24 c24_1 (xg_K (pc' := 4) lf_1_12 hW g0 sh_3 (by decide) (by decide) rfl qtk rfl ?_)
  refine wp_of e24 c24_4 (xg_I (pc' := 7) lf_1_38 hW gtk sh_4 (by decide) (by decide) ty_4_3 rfl rfl (fun b65 b66 => ?_))
  refine wp_of e24 c24_7 (rw_iconst (pc' := 8) rfl ?_)
  refine wp_of e24 c24_8 (rw_icmp_eq (p1 := 19) (p2 := 11) (by decide) rfl ⟨by omega, by omega⟩ ⟨by omega, by omega⟩ (fun c67 => ?_) (fun c67 => ?_))
  · refine wp_of e24 c24_19 (rw_aload_n (pc' := 20) (v := .ref r0) rfl rfl rfl ?_)
    refine wp_of e24 c24_20 (xg_K (pc' := 23) lf_1_12 hW g0 sh_3 (by decide) (by decide) rfl qtk rfl ?_)
    refine wp_of e24 c24_23 (xg_I (pc' := 26) lf_1_230 hW gtk sh_4 (by decide) (by decide) ty_4_5 rfl rfl (fun b68 b69 => ?_))
    refine wp_of e24 c24_26 (rw_istore_n (pc' := 27) (z := H tk 5) (L' := [(3, vI (H tk 5)), (0, .ref r0), (1, vI a1), (2, vI a2)]) rfl rfl rfl ?_)
    refine wp_of e24 c24_27 (rw_iload_n (pc' := 28) (z := H tk 5) rfl rfl ?_)
    refine wp_of e24 c24_28 (rw_iload_n (pc' := 29) (z := a1) rfl rfl ?_)
    refine wp_of e24 c24_29 (rw_icmp_lt (p1 := 37) (p2 := 32) (by decide) rfl ⟨by omega, by omega⟩ ⟨by omega, by omega⟩ (fun c70 => ?_) (fun c70 => ?_))
    · refine wp_of e24 c24_37 (rw_aload_n (pc' := 38) (v := .ref r0) rfl rfl rfl ?_)
      refine wp_of e24 c24_38 (rw_iconst (pc' := 39) rfl ?_)
      refine wp_of e24 c24_39 (xc_V (pc' := 42) (r := r0) (as := [vI 4]) (st := []) (lm_1_47) rfl rfl (Nat.le_of_ble_eq_true rfl) hW g0 sh_3 (by decide) rfl (by decide) (u_20  hW g0 ⟨by omega, by omega⟩ qtk gtk) (fun R71 T72 H73 p74 => ?_))
      obtain ⟨e75, w77, f78, z79, e76, b80, p81⟩ := p74
      subst e75
      subst e76
      obtain ⟨a82, a83, a84⟩ := p81
      have f85 := f0.tr f78 rfl
      show wp _ _ 24 42 [(3, vI (H tk 5)), (0, .ref r0), (1, vI a1), (2, vI a2)] [vI z79] _ H73 _
      refine wp_of e24 c24_42 (rw_pop (pc' := 43) rfl rfl ?_)
      refine wp_of e24 c24_43 (rw_iconst (pc' := 44) rfl ?_)
      have := @xh_b B n q lo hi
      exact wp_ireturn e24 c24_44 rfl ⟨rfl, w77, f85, -1, rfl, ⟨by omega, by omega⟩, (Or.inr ⟨by omega, by omega, by omega, by omega⟩)⟩
    · refine wp_of e24 c24_32 (rw_iload_n (pc' := 33) (z := H tk 5) rfl rfl ?_)
      refine wp_of e24 c24_33 (rw_iload_n (pc' := 34) (z := a2) rfl rfl ?_)
      refine wp_of e24 c24_34 (rw_icmp_le (p1 := 45) (p2 := 37) (by decide) rfl ⟨by omega, by omega⟩ ⟨by omega, by omega⟩ (fun c86 => ?_) (fun c86 => ?_))
      · refine wp_of e24 c24_45 (rw_aload_n (pc' := 46) (v := .ref r0) rfl rfl rfl ?_)
        refine wp_of e24 c24_46 (xg_K (pc' := 49) lf_1_12 hW g0 sh_3 (by decide) (by decide) rfl qtk rfl ?_)
        have h87 : TP T H rb B := TC_tp hTC_tk qrb
        refine wp_of e24 c24_49 (xc_V (pc' := 52) (r := tk) (as := []) (st := []) (lm_1_74) rfl rfl (Nat.le_of_ble_eq_true rfl) hW gtk sh_4 (by decide) rfl (by decide) (u_16 (B := B) (n := n) (a := (xE B n q)) (q := (xN B n q)) hW gtk qrb grb (by omega) (by omega) (by omega) (rfl) h87) (fun R88 T89 H90 p91 => ?_))
        obtain ⟨e92, w94, f95, e93, p96⟩ := p91
        subst e92
        subst e93
        have f98 := f0.tr f95 rfl
        show wp _ _ 24 52 [(3, vI (H tk 5)), (0, .ref r0), (1, vI a1), (2, vI a2)] [] _ H90 _
        have u99 := TC_k p96
        refine wp_of e24 c24_52 (rw_iload_n (pc' := 53) (z := H tk 5) rfl rfl ?_)
        have k100 : H90 r0 3 = H r0 3 := (f95 r0 3 _ g0 rfl)
        have := @xh_b B n q lo hi
        exact wp_ireturn e24 c24_53 rfl ⟨rfl, w94, f98, H tk 5, rfl, ⟨by omega, by omega⟩, (Or.inl ⟨by omega, by omega, by omega, by omega, p96⟩)⟩
      · refine wp_of e24 c24_37 (rw_aload_n (pc' := 38) (v := .ref r0) rfl rfl rfl ?_)
        refine wp_of e24 c24_38 (rw_iconst (pc' := 39) rfl ?_)
        refine wp_of e24 c24_39 (xc_V (pc' := 42) (r := r0) (as := [vI 4]) (st := []) (lm_1_47) rfl rfl (Nat.le_of_ble_eq_true rfl) hW g0 sh_3 (by decide) rfl (by decide) (u_20  hW g0 ⟨by omega, by omega⟩ qtk gtk) (fun R101 T102 H103 p104 => ?_))
        obtain ⟨e105, w107, f108, z109, e106, b110, p111⟩ := p104
        subst e105
        subst e106
        obtain ⟨a112, a113, a114⟩ := p111
        have f115 := f0.tr f108 rfl
        show wp _ _ 24 42 [(3, vI (H tk 5)), (0, .ref r0), (1, vI a1), (2, vI a2)] [vI z109] _ H103 _
        refine wp_of e24 c24_42 (rw_pop (pc' := 43) rfl rfl ?_)
        refine wp_of e24 c24_43 (rw_iconst (pc' := 44) rfl ?_)
        have := @xh_b B n q lo hi
        exact wp_ireturn e24 c24_44 rfl ⟨rfl, w107, f115, -1, rfl, ⟨by omega, by omega⟩, (Or.inr ⟨by omega, by omega, by omega, by omega⟩)⟩
  · refine wp_of e24 c24_11 (rw_aload_n (pc' := 12) (v := .ref r0) rfl rfl rfl ?_)
    refine wp_of e24 c24_12 (rw_iconst (pc' := 13) rfl ?_)
    refine wp_of e24 c24_13 (xc_V (pc' := 16) (r := r0) (as := [vI 1]) (st := []) (lm_1_47) rfl rfl (Nat.le_of_ble_eq_true rfl) hW g0 sh_3 (by decide) rfl (by decide) (u_20  hW g0 ⟨by omega, by omega⟩ qtk gtk) (fun R116 T117 H118 p119 => ?_))
    obtain ⟨e120, w122, f123, z124, e121, b125, p126⟩ := p119
    subst e120
    subst e121
    obtain ⟨a127, a128, a129⟩ := p126
    have f130 := f0.tr f123 rfl
    show wp _ _ 24 16 [(0, .ref r0), (1, vI a1), (2, vI a2)] [vI z124] _ H118 _
    refine wp_of e24 c24_16 (rw_pop (pc' := 17) rfl rfl ?_)
    refine wp_of e24 c24_17 (rw_iconst (pc' := 18) rfl ?_)
    have := @xh_b B n q lo hi
    exact wp_ireturn e24 c24_18 rfl ⟨rfl, w122, f130, -1, rfl, ⟨by omega, by omega⟩, (Or.inr ⟨by omega, by omega, by omega, by omega⟩)⟩
/-! StrikeAwake$Reader.takesRange(IIII)Z  -/
abbrev uq_29 (r0 : Nat) (a1 : Int) (a2 : Int) (a3 : Int) (a4 : Int) (tk : Nat) (rb : Nat) (B : Nat → Int) (n : Int) (q : Int) (T : wq_T) (H : wq_H) : Option Value → wq_T → wq_H → Prop := fun r T' H' => T = T' ∧ WT T H' ∧ wfr [(3, 1), (3, 2), (3, 3), (3, 4), (4, 2), (4, 3), (4, 4), (4, 5), (4, 6)] T H H' ∧ ∃ z : Int, some (vI z) = r ∧ (0 ≤ z ∧ z ≤ 1) ∧ (((z = 1) ∧ ((xrg B n q a1 a2 a3 a4).1 = 0) ∧ (q ≤ (xN B n (xN B n (xN B n q)))) ∧ (H' r0 1 = xV B n q) ∧ (H' r0 2 = xV B n (xN B n (xN B n q))) ∧ (0 ≤ xV B n q ∧ xV B n q ≤ a1) ∧ (xV B n q + a2 ≤ xV B n (xN B n (xN B n q)) ∧ xV B n (xN B n (xN B n q)) ≤ xV B n q + a3 ∧ xV B n (xN B n (xN B n q)) ≤ a4) ∧ (H' r0 3 = H r0 3) ∧ TC T H' tk B n (xN B n (xN B n (xN B n q)))) ∨ ((z = 0) ∧ ((xrg B n q a1 a2 a3 a4).1 ≠ 0) ∧ ((xrg B n q a1 a2 a3 a4).2.2 = (xrg B n q a1 a2 a3 a4).2.1) ∧ (H' r0 3 = (xrg B n q a1 a2 a3 a4).1) ∧ (H' r0 4 = (xrg B n q a1 a2 a3 a4).2.1)))
set_option maxHeartbeats 4000000 in
theorem u_29 {kt : Nat → Option mc_E} {T : wq_T} {H : wq_H} {r0 : Nat} {a1 : Int} {a2 : Int} {a3 : Int} {a4 : Int} {tk : Nat} {rb : Nat} {B : Nat → Int} {n : Int} {q : Int} (hW : WT T H) (g0 : T.2.2.2 r0 = some 3) (i1 : 0 ≤ a1 ∧ a1 ≤ 23) (i2 : 0 ≤ a2 ∧ a2 ≤ 1) (i3 : 0 ≤ a3 ∧ a3 ≤ 24) (i4 : 0 ≤ a4 ∧ a4 ≤ 24) (qtk : H r0 0 = (tk : Int)) (gtk : T.2.2.2 tk = some 4) (qrb : H tk 0 = (rb : Int)) (grb : T.2.2.2 rb = some 2) (hTC_tk : TC T H tk B n q) : wpc kt 3 29 [.ref r0, vI a1, vI a2, vI a3, vI a4] T H (uq_29 r0 a1 a2 a3 a4 tk rb B n q T H) := by
  refine wp_enter e29 (Nat.le_of_ble_eq_true rfl) rfl ?_
  have f0 : wfr [(3, 1), (3, 2), (3, 3), (3, 4), (4, 2), (4, 3), (4, 4), (4, 5), (4, 6)] T H H := wfr.rf
  show wp _ _ 29 0 [(0, .ref r0), (1, vI a1), (2, vI a2), (3, vI a3), (4, vI a4)] [] _ H _
  have u116 := TC_k hTC_tk
  refine wp_of e29 c29_0 (rw_aload_n (pc' := 1) (v := .ref r0) rfl rfl rfl ?_)
  refine wp_of e29 c29_1 (rw_aload_n (pc' := 2) (v := .ref r0) rfl rfl rfl ?_)
  refine wp_of e29 c29_2 (rw_iconst (pc' := 3) rfl ?_)
  refine wp_of e29 c29_3 (rw_iload_n (pc' := 4) (z := a1) rfl rfl ?_)
  refine wp_of e29 c29_4 (xc_V (pc' := 7) (r := r0) (as := [vI 0, vI a1]) (st := [.ref r0]) (lm_1_119) rfl rfl (Nat.le_of_ble_eq_true rfl) hW g0 sh_3 (by decide) rfl (by decide) (u_24 (B := B) (n := n) (q := q) (lo := 0) (hi := a1) hW g0 ⟨by omega, by omega⟩ ⟨by omega, by omega⟩ qtk gtk qrb grb (by omega) (by omega) hTC_tk) (fun R117 T118 H119 p120 => ?_))
  obtain ⟨e121, w123, f124, z125, e122, b126, p127⟩ := p120
  subst e121
  subst e122
  rcases p127 with ⟨a128, a129, a130, a131, a132⟩ | ⟨a133, a134, a135, a136⟩
  · have f137 := f0.tr f124 rfl
    show wp _ _ 29 7 [(0, .ref r0), (1, vI a1), (2, vI a2), (3, vI a3), (4, vI a4)] [vI z125, .ref r0] _ H119 _
    have u138 := TC_k a132
    refine wp_of e29 c29_7 (xp_I (pc' := 10) lf_1_158 w123 g0 sh_3 (by decide) (by decide) ty_3_1 rfl rfl (by omega) (by omega) ⟨by omega, by omega⟩ rfl (fun H139 e140 w141 => ?_))
    have f142 := f137.put' e140 g0 rfl
    have k143 : H139 r0 1 = z125 := wq_u_s e140
    refine wp_of e29 c29_10 (rw_aload_n (pc' := 11) (v := .ref r0) rfl rfl rfl ?_)
    refine wp_of e29 c29_11 (xg_I (pc' := 14) lf_1_158 w141 g0 sh_3 (by decide) (by decide) ty_3_1 rfl rfl (fun b144 b145 => ?_))
    refine wp_of e29 c29_14 (rw_if_lt (p1 := 27) (p2 := 17) (by decide) rfl ⟨by omega, by omega⟩ (fun c146 => ?_) (fun c146 => ?_))
    · exfalso
      omega
    · refine wp_of e29 c29_17 (rw_aload_n (pc' := 18) (v := .ref r0) rfl rfl rfl ?_)
      refine wp_of e29 c29_18 (rw_ldc_wS (pc' := 21) (k := 68) rfl rfl rfl rfl ?_)
      have k147 : H139 r0 0 = H r0 0 := ((wq_u_j e140 rfl).trans (f124 r0 0 _ g0 rfl))
      have q148 : H139 r0 0 = (tk : Int) := k147.trans qtk
      have k149 : H139 tk 0 = H tk 0 := ((wq_u_t e140 g0 gtk rfl 0).trans (f124 tk 0 _ gtk rfl))
      have q150 : H139 tk 0 = (rb : Int) := k149.trans qrb
      have k151 : H139 r0 3 = H119 r0 3 := (wq_u_j e140 rfl)
      have h152 : TC T H139 tk B n (xN B n q) := (TC_fr w123 gtk ((wfr.rf (l := [(3, 1)])).put' e140 g0 rfl) rfl a132)
      refine wp_of e29 c29_21 (xc_V (pc' := 24) (r := r0) (as := [.ref 68]) (st := []) (lm_1_115) rfl rfl (Nat.le_of_ble_eq_true rfl) w141 g0 sh_3 (by decide) rfl (by decide) (u_23 (B := B) (n := n) (q := ((xN B n q))) (kk := 655) w141 g0 rfl q148 gtk q150 grb (by decide +kernel) h152) (fun R153 T154 H155 p156 => ?_))
      obtain ⟨e157, w159, f160, z161, e158, b162, p163⟩ := p156
      subst e157
      subst e158
      rcases p163 with ⟨a164, a165, a166, a167⟩ | ⟨a168, a169, a170, a171⟩
      · have f172 := f142.tr f160 rfl
        show wp _ _ 29 24 [(0, .ref r0), (1, vI a1), (2, vI a2), (3, vI a3), (4, vI a4)] [vI z161] _ H155 _
        have u173 := TC_k a167
        refine wp_of e29 c29_24 (rw_if_ne (p1 := 29) (p2 := 27) (by decide) rfl ⟨by omega, by omega⟩ (fun c174 => ?_) (fun c174 => ?_))
        · refine wp_of e29 c29_29 (rw_aload_n (pc' := 30) (v := .ref r0) rfl rfl rfl ?_)
          refine wp_of e29 c29_30 (rw_aload_n (pc' := 31) (v := .ref r0) rfl rfl rfl ?_)
          refine wp_of e29 c29_31 (rw_aload_n (pc' := 32) (v := .ref r0) rfl rfl rfl ?_)
          have k175 : H155 r0 1 = H139 r0 1 := (f160 r0 1 _ g0 rfl)
          refine wp_of e29 c29_32 (xg_I (pc' := 35) lf_1_158 w159 g0 sh_3 (by decide) (by decide) ty_3_1 rfl rfl (fun b176 b177 => ?_))
          refine wp_of e29 c29_35 (rw_iload_n (pc' := 36) (z := a2) rfl rfl ?_)
          refine wp_of e29 c29_36 (rw_iadd (pc' := 37) rfl ?_)
          refine wp_of e29 c29_37 (rw_aload_n (pc' := 38) (v := .ref r0) rfl rfl rfl ?_)
          refine wp_of e29 c29_38 (xg_I (pc' := 41) lf_1_158 w159 g0 sh_3 (by decide) (by decide) ty_3_1 rfl rfl (fun b178 b179 => ?_))
          refine wp_of e29 c29_41 (rw_iload_n (pc' := 42) (z := a3) rfl rfl ?_)
          refine wp_of e29 c29_42 (rw_iadd (pc' := 43) rfl ?_)
          refine wp_of e29 c29_43 (rw_iload (pc' := 45) (z := a4) rfl rfl ?_)
          refine wp_of e29 c29_45 (rw_math2 (pc' := 48) (z := min ((H155 r0 1) + a3) a4) rfl rfl ⟨by omega, by omega⟩ ⟨by omega, by omega⟩ (Or.inl ⟨rfl, rfl⟩) (Nat.le_of_ble_eq_true rfl) rfl ?_)
          obtain ⟨v180, e181⟩ : ∃ x : Int, x = min ((H155 r0 1) + a3) a4 := ⟨_, rfl⟩
          rw [← e181]
          have b182 : v180 = ((H155 r0 1) + a3) ∨ v180 = a4 := by
            rw [e181]
            omega
          have b183 : v180 ≤ ((H155 r0 1) + a3) ∧ v180 ≤ a4 := by
            rw [e181]
            omega
          have k184 : H155 r0 0 = H139 r0 0 := (f160 r0 0 _ g0 rfl)
          have q185 : H155 r0 0 = (tk : Int) := k184.trans q148
          have k186 : H155 tk 0 = H139 tk 0 := (f160 tk 0 _ gtk rfl)
          have q187 : H155 tk 0 = (rb : Int) := k186.trans q150
          refine wp_of e29 c29_48 (xc_V (pc' := 51) (r := r0) (as := [vI ((H155 r0 1) + a2), vI v180]) (st := [.ref r0]) (lm_1_119) rfl rfl (Nat.le_of_ble_eq_true rfl) w159 g0 sh_3 (by decide) rfl (by decide) (u_24 (B := B) (n := n) (q := ((xN B n ((xN B n q))))) (lo := (xV B n q + a2)) (hi := (min (xV B n q + a3) a4)) w159 g0 ⟨by omega, by omega⟩ ⟨by omega, by omega⟩ q185 gtk q187 grb (by omega) (by omega) a167) (fun R188 T189 H190 p191 => ?_))
          obtain ⟨e192, w194, f195, z196, e193, b197, p198⟩ := p191
          subst e192
          subst e193
          rcases p198 with ⟨a199, a200, a201, a202, a203⟩ | ⟨a204, a205, a206, a207⟩
          · have f208 := f172.tr f195 rfl
            show wp _ _ 29 51 [(0, .ref r0), (1, vI a1), (2, vI a2), (3, vI a3), (4, vI a4)] [vI z196, .ref r0] _ H190 _
            have u209 := TC_k a203
            refine wp_of e29 c29_51 (xp_I (pc' := 54) lf_1_164 w194 g0 sh_3 (by decide) (by decide) ty_3_2 rfl rfl (by omega) (by omega) ⟨by omega, by omega⟩ rfl (fun H210 e211 w212 => ?_))
            have f213 := f208.put' e211 g0 rfl
            have k214 : H210 r0 2 = z196 := wq_u_s e211
            refine wp_of e29 c29_54 (rw_aload_n (pc' := 55) (v := .ref r0) rfl rfl rfl ?_)
            refine wp_of e29 c29_55 (xg_I (pc' := 58) lf_1_164 w212 g0 sh_3 (by decide) (by decide) ty_3_2 rfl rfl (fun b215 b216 => ?_))
            refine wp_of e29 c29_58 (rw_if_lt (p1 := 65) (p2 := 61) (by decide) rfl ⟨by omega, by omega⟩ (fun c217 => ?_) (fun c217 => ?_))
            · exfalso
              omega
            · refine wp_of e29 c29_61 (rw_iconst (pc' := 62) rfl ?_)
              refine wp_of e29 c29_62 (rw_goto (p1 := 66) (by decide) ?_)
              have k218 : H210 r0 1 = H155 r0 1 := ((wq_u_j e211 rfl).trans (f195 r0 1 _ g0 rfl))
              have k219 : H210 r0 3 = H190 r0 3 := (wq_u_j e211 rfl)
              have o220 : (xrg B n q a1 a2 a3 a4) = (0, q, (xN B n ((xN B n ((xN B n q)))))) := by
                unfold xrg
                repeat first | rw [xs_0 (by omega)] | rw [xs_1 (by omega)] | rw [if_pos (by omega)] | rw [if_neg (by omega)]
                first | done | rfl | assumption | (exfalso; omega) | (refine Prod.ext ?_ (Prod.ext ?_ ?_) <;> (try dsimp only) <;> omega)
              have o220a : ((xrg B n q a1 a2 a3 a4)).1 = 0 := by rw [o220]
              have o220b : ((xrg B n q a1 a2 a3 a4)).2.1 = q := by rw [o220]
              have o220c : ((xrg B n q a1 a2 a3 a4)).2.2 = (xN B n ((xN B n ((xN B n q))))) := by rw [o220]
              have h221 : TC T H210 tk B n (xN B n ((xN B n ((xN B n q))))) := (TC_fr w194 gtk ((wfr.rf (l := [(3, 2)])).put' e211 g0 rfl) rfl a203)
              exact wp_zreturn e29 c29_66 rfl (by omega) ⟨rfl, w212, f213, 1, rfl, ⟨by omega, by omega⟩, (Or.inl ⟨by omega, by omega, by omega, by omega, by omega, by omega, by omega, by omega, h221⟩)⟩
          · have f222 := f172.tr f195 rfl
            show wp _ _ 29 51 [(0, .ref r0), (1, vI a1), (2, vI a2), (3, vI a3), (4, vI a4)] [vI z196, .ref r0] _ H190 _
            refine wp_of e29 c29_51 (xp_I (pc' := 54) lf_1_164 w194 g0 sh_3 (by decide) (by decide) ty_3_2 rfl rfl (by omega) (by omega) ⟨by omega, by omega⟩ rfl (fun H223 e224 w225 => ?_))
            have f226 := f222.put' e224 g0 rfl
            have k227 : H223 r0 2 = z196 := wq_u_s e224
            refine wp_of e29 c29_54 (rw_aload_n (pc' := 55) (v := .ref r0) rfl rfl rfl ?_)
            refine wp_of e29 c29_55 (xg_I (pc' := 58) lf_1_164 w225 g0 sh_3 (by decide) (by decide) ty_3_2 rfl rfl (fun b228 b229 => ?_))
            refine wp_of e29 c29_58 (rw_if_lt (p1 := 65) (p2 := 61) (by decide) rfl ⟨by omega, by omega⟩ (fun c230 => ?_) (fun c230 => ?_))
            · refine wp_of e29 c29_65 (rw_iconst (pc' := 66) rfl ?_)
              have k231 : H223 r0 1 = H155 r0 1 := ((wq_u_j e224 rfl).trans (f195 r0 1 _ g0 rfl))
              have k232 : H223 r0 3 = H190 r0 3 := (wq_u_j e224 rfl)
              have k233 : H223 r0 4 = H190 r0 4 := (wq_u_j e224 rfl)
              have o234 : (xrg B n q a1 a2 a3 a4) = (xh B n ((xN B n ((xN B n q)))) (xV B n q + a2) (min (xV B n q + a3) a4), ((xN B n ((xN B n q)))), ((xN B n ((xN B n q))))) := by
                unfold xrg
                repeat first | rw [xs_0 (by omega)] | rw [xs_1 (by omega)] | rw [if_pos (by omega)] | rw [if_neg (by omega)]
                first | done | rfl | assumption | (exfalso; omega) | (refine Prod.ext ?_ (Prod.ext ?_ ?_) <;> (try dsimp only) <;> omega)
              have o234a : ((xrg B n q a1 a2 a3 a4)).1 = xh B n ((xN B n ((xN B n q)))) (xV B n q + a2) (min (xV B n q + a3) a4) := by rw [o234]
              have o234b : ((xrg B n q a1 a2 a3 a4)).2.1 = ((xN B n ((xN B n q)))) := by rw [o234]
              have o234c : ((xrg B n q a1 a2 a3 a4)).2.2 = ((xN B n ((xN B n q)))) := by rw [o234]
              exact wp_zreturn e29 c29_66 rfl (by omega) ⟨rfl, w225, f226, 0, rfl, ⟨by omega, by omega⟩, (Or.inr ⟨by omega, by omega, by omega, by omega, by omega⟩)⟩
            · exfalso
              omega
        · exfalso
          omega
      · have f235 := f142.tr f160 rfl
        show wp _ _ 29 24 [(0, .ref r0), (1, vI a1), (2, vI a2), (3, vI a3), (4, vI a4)] [vI z161] _ H155 _
        refine wp_of e29 c29_24 (rw_if_ne (p1 := 29) (p2 := 27) (by decide) rfl ⟨by omega, by omega⟩ (fun c236 => ?_) (fun c236 => ?_))
        · exfalso
          omega
        · refine wp_of e29 c29_27 (rw_iconst (pc' := 28) rfl ?_)
          have k237 : H155 r0 1 = H139 r0 1 := (f160 r0 1 _ g0 rfl)
          have o238 : (xrg B n q a1 a2 a3 a4) = (xw B n ((xN B n q)) 655, ((xN B n q)), ((xN B n q))) := by
            unfold xrg
            repeat first | rw [xs_0 (by omega)] | rw [xs_1 (by omega)] | rw [if_pos (by omega)] | rw [if_neg (by omega)]
            first | done | rfl | assumption | (exfalso; omega) | (refine Prod.ext ?_ (Prod.ext ?_ ?_) <;> (try dsimp only) <;> omega)
          have o238a : ((xrg B n q a1 a2 a3 a4)).1 = xw B n ((xN B n q)) 655 := by rw [o238]
          have o238b : ((xrg B n q a1 a2 a3 a4)).2.1 = ((xN B n q)) := by rw [o238]
          have o238c : ((xrg B n q a1 a2 a3 a4)).2.2 = ((xN B n q)) := by rw [o238]
          exact wp_zreturn e29 c29_28 rfl (by omega) ⟨rfl, w159, f235, 0, rfl, ⟨by omega, by omega⟩, (Or.inr ⟨by omega, by omega, by omega, by omega, by omega⟩)⟩
  · have f239 := f0.tr f124 rfl
    show wp _ _ 29 7 [(0, .ref r0), (1, vI a1), (2, vI a2), (3, vI a3), (4, vI a4)] [vI z125, .ref r0] _ H119 _
    refine wp_of e29 c29_7 (xp_I (pc' := 10) lf_1_158 w123 g0 sh_3 (by decide) (by decide) ty_3_1 rfl rfl (by omega) (by omega) ⟨by omega, by omega⟩ rfl (fun H240 e241 w242 => ?_))
    have f243 := f239.put' e241 g0 rfl
    have k244 : H240 r0 1 = z125 := wq_u_s e241
    refine wp_of e29 c29_10 (rw_aload_n (pc' := 11) (v := .ref r0) rfl rfl rfl ?_)
    refine wp_of e29 c29_11 (xg_I (pc' := 14) lf_1_158 w242 g0 sh_3 (by decide) (by decide) ty_3_1 rfl rfl (fun b245 b246 => ?_))
    refine wp_of e29 c29_14 (rw_if_lt (p1 := 27) (p2 := 17) (by decide) rfl ⟨by omega, by omega⟩ (fun c247 => ?_) (fun c247 => ?_))
    · refine wp_of e29 c29_27 (rw_iconst (pc' := 28) rfl ?_)
      have k248 : H240 r0 3 = H119 r0 3 := (wq_u_j e241 rfl)
      have k249 : H240 r0 4 = H119 r0 4 := (wq_u_j e241 rfl)
      have o250 : (xrg B n q a1 a2 a3 a4) = (xh B n q 0 a1, q, q) := by
        unfold xrg
        repeat first | rw [xs_0 (by omega)] | rw [xs_1 (by omega)] | rw [if_pos (by omega)] | rw [if_neg (by omega)]
        first | done | rfl | assumption | (exfalso; omega) | (refine Prod.ext ?_ (Prod.ext ?_ ?_) <;> (try dsimp only) <;> omega)
      have o250a : ((xrg B n q a1 a2 a3 a4)).1 = xh B n q 0 a1 := by rw [o250]
      have o250b : ((xrg B n q a1 a2 a3 a4)).2.1 = q := by rw [o250]
      have o250c : ((xrg B n q a1 a2 a3 a4)).2.2 = q := by rw [o250]
      exact wp_zreturn e29 c29_28 rfl (by omega) ⟨rfl, w242, f243, 0, rfl, ⟨by omega, by omega⟩, (Or.inr ⟨by omega, by omega, by omega, by omega, by omega⟩)⟩
    · exfalso
      omega
/-! StrikeAwake$Parish.personNamed(J)I  -/
abbrev uq_27 (r0 : Nat) (a1 : Int) (d : xD) (y : Int) (T : wq_T) (H : wq_H) : Option Value → wq_T → wq_H → Prop := fun r T' H' => T = T' ∧ H = H' ∧ ∃ z : Int, some (vI z) = r ∧ ((-2147483648) ≤ z ∧ z ≤ 2147483647) ∧ (((-1 ≤ z ∧ z ≤ 5) ∧ (z = xfi (d 1) (d 0 3) y)))
set_option maxHeartbeats 4000000 in
theorem u_27 {kt : Nat → Option mc_E} {T : wq_T} {H : wq_H} {r0 : Nat} {a1 : Int} {d : xD} {y : Int} (hW : WT T H) (g0 : T.2.2.2 r0 = some 27) (i1 : (-9223372036854775808) ≤ a1 ∧ a1 ≤ 9223372036854775807) (p0 : a1 = y) (hDC_r0 : DC T H r0 d) : wpc kt 1 27 [.ref r0, vL a1] T H (uq_27 r0 a1 d y T H) := by
  refine wp_enter e27 (Nat.le_of_ble_eq_true rfl) rfl ?_
  show wp _ _ 27 0 [(0, .ref r0), (1, vL a1)] [] _ H _
  have u113 := DC_k hDC_r0
  refine wp_of e27 c27_0 (rw_iconst (pc' := 1) rfl ?_)
  refine wp_of e27 c27_1 (rw_istore_n (pc' := 2) (z := 0) (L' := [(3, vI 0), (0, .ref r0), (1, vL a1)]) rfl rfl rfl ?_)
  have lp212 : ∀ (n213 : Nat) (v215 : Int), (0 ≤ v215 ∧ v215 ≤ 6) → (xfr (d 1) (d 0 3) y v215 = xfi (d 1) (d 0 3) y) → (6 - v215).toNat = n213 → wp kt 0 27 2 [(3, vI v215), (0, .ref r0), (1, vL a1)] [] T H (uq_27 r0 a1 d y T H) := by
    intro n213
    induction n213 using Nat.strongRecOn with
    | _ n213 ih214 =>
      intro v215 b218 x219 m220
      refine wp_of e27 c27_2 (rw_iload_n (pc' := 3) (z := v215) rfl rfl ?_)
      refine wp_of e27 c27_3 (rw_aload_n (pc' := 4) (v := .ref r0) rfl rfl rfl ?_)
      refine wp_of e27 c27_4 (xg_I (pc' := 7) lf_7_50 hW g0 sh_27 (by decide) (by decide) ty_27_10 rfl rfl (fun b221 b222 => ?_))
      refine wp_of e27 c27_7 (rw_icmp_ge (p1 := 32) (p2 := 10) (by decide) rfl ⟨by omega, by omega⟩ ⟨by omega, by omega⟩ (fun c223 => ?_) (fun c223 => ?_))
      · have := @xfr_n (d 1) (d 0 3) y v215 (by omega)
        refine wp_of e27 c27_32 (rw_iconst (pc' := 33) rfl ?_)
        exact wp_ireturn e27 c27_33 rfl ⟨rfl, rfl, -1, rfl, ⟨by omega, by omega⟩, ⟨by omega, by omega⟩⟩
      · refine wp_of e27 c27_10 (rw_aload_n (pc' := 11) (v := .ref r0) rfl rfl rfl ?_)
        refine wp_of e27 c27_11 (xg_R (pc' := 14) lf_7_11 hW g0 sh_27 (by decide) (by decide) ty_27_0 rfl rfl (fun r224 q225 g226 => ?_))
        refine wp_of e27 c27_14 (rw_iload_n (pc' := 15) (z := v215) rfl rfl ?_)
        refine wp_of e27 c27_15 (xa_R (pc' := 16) (by decide) hW g226 sh_28 (by decide) (ty_28 _) (by omega) (by omega) rfl (fun r227 q228 g229 => ?_))
        have := DC_nm hDC_r0 q225 q228 (by omega)
        refine wp_of e27 c27_16 (xg_L (pc' := 19) lf_7_86 hW g229 sh_35 (by decide) (by decide) ty_35_6 rfl rfl (fun b230 b231 => ?_))
        refine wp_of e27 c27_19 (rw_lload_n (pc' := 20) (z := a1) rfl rfl ?_)
        refine wp_of e27 c27_20 (rw_lcmp (pc' := 21) rfl ⟨by omega, by omega⟩ ⟨by omega, by omega⟩ ?_)
        have b232 := wq_cmp_b (H r227 6) a1
        refine wp_of e27 c27_21 (rw_if_ne (p1 := 26) (p2 := 24) (by decide) rfl ⟨by omega, by omega⟩ (fun c233 => ?_) (fun c233 => ?_))
        · have := @xfr_s (d 1) (d 0 3) y v215 (by omega) (by omega)
          refine wp_of e27 c27_26 (rw_iinc (pc' := 29) (z := v215) (L' := [(3, vI (v215 + 1)), (0, .ref r0), (1, vL a1)]) rfl rfl rfl rfl ?_)
          refine wp_of e27 c27_29 (rw_goto (p1 := 2) (by decide) ?_)
          exact wp_lc (ks := [3, 0, 1]) (wl_c rfl (wl_c rfl (wl_c rfl wl_n))) rfl (by decide) (ih214 _ (by omega) (v215 + 1) ⟨by omega, by omega⟩ (by omega) rfl)
        · have := @xfr_e (d 1) (d 0 3) y v215 (by omega) (by omega)
          refine wp_of e27 c27_24 (rw_iload_n (pc' := 25) (z := v215) rfl rfl ?_)
          exact wp_ireturn e27 c27_25 rfl ⟨rfl, rfl, v215, rfl, ⟨by omega, by omega⟩, ⟨by omega, by omega⟩⟩
  have : xfr (d 1) (d 0 3) y 0 = xfi (d 1) (d 0 3) y := rfl
  exact wp_lc (ks := [3, 0, 1]) (wl_c rfl (wl_c rfl (wl_c rfl wl_n))) rfl (by decide) (lp212 _ 0 ⟨by omega, by omega⟩ (by omega) rfl)
/-! StrikeAwake$Reader.knownPerson(LStrikeAwake$Parish;)I  -/
abbrev uq_33 (r0 : Nat) (r1 : Nat) (tk : Nat) (rb : Nat) (B : Nat → Int) (n : Int) (q : Int) (d : xD) (T : wq_T) (H : wq_H) : Option Value → wq_T → wq_H → Prop := fun r T' H' => T = T' ∧ WT T H' ∧ wfr [(3, 3), (3, 4)] T H H' ∧ ∃ z : Int, some (vI z) = r ∧ ((-2147483648) ≤ z ∧ z ≤ 2147483647) ∧ (((0 ≤ z ∧ z ≤ 5) ∧ (xkn B n q d = 0) ∧ (z = xwho B n q d) ∧ (z < d 0 3) ∧ (H' r0 3 = H r0 3)) ∨ ((z = -1) ∧ (xkn B n q d ≠ 0) ∧ (H' r0 3 = (xkn B n q d)) ∧ (H' r0 4 = q)))
set_option maxHeartbeats 4000000 in
theorem u_33 {kt : Nat → Option mc_E} {T : wq_T} {H : wq_H} {r0 : Nat} {r1 : Nat} {tk : Nat} {rb : Nat} {B : Nat → Int} {n : Int} {q : Int} {d : xD} (hW : WT T H) (g0 : T.2.2.2 r0 = some 3) (g1 : T.2.2.2 r1 = some 27) (qtk : H r0 0 = (tk : Int)) (gtk : T.2.2.2 tk = some 4) (qrb : H tk 0 = (rb : Int)) (grb : T.2.2.2 rb = some 2) (hTC_tk : TC T H tk B n q) (hDC_r1 : DC T H r1 d) : wpc kt 4 33 [.ref r0, .ref r1] T H (uq_33 r0 r1 tk rb B n q d T H) := by
  refine wp_enter e33 (Nat.le_of_ble_eq_true rfl) rfl ?_
  have f0 : wfr [(3, 3), (3, 4)] T H H := wfr.rf
  show wp _ _ 33 0 [(0, .ref r0), (1, .ref r1)] [] _ H _
  have u62 := TC_k hTC_tk
  have u63 := DC_k hDC_r1
  have _x1 := @xkn_b d B n q
  have _x2 := @xwho_e d B n q
  have _x3 := @xre_b B n q
  have _i := TC_i hTC_tk
  refine wp_of e33 c33_0 (rw_aload_n (pc' := 1) (v := .ref r0) rfl rfl rfl ?_)
  refine wp_of e33 c33_1 (xc_V (pc' := 4) (r := r0) (as := []) (st := []) (lm_1_131) rfl rfl (Nat.le_of_ble_eq_true rfl) hW g0 sh_3 (by decide) rfl (by decide) (u_26 (B := B) (n := n) (q := q) hW g0 qtk gtk qrb grb hTC_tk) (fun R64 T65 H66 p67 => ?_))
  obtain ⟨e68, e70, z71, e69, b72, p73⟩ := p67
  subst e68
  subst e69
  subst e70
  rcases p73 with ⟨a74, a75⟩ | ⟨a76, a77⟩
  · show wp _ _ 33 4 [(0, .ref r0), (1, .ref r1)] [vI z71] _ H _
    refine wp_of e33 c33_4 (rw_if_ne (p1 := 15) (p2 := 7) (by decide) rfl ⟨by omega, by omega⟩ (fun c78 => ?_) (fun c78 => ?_))
    · refine wp_of e33 c33_15 (rw_aload_n (pc' := 16) (v := .ref r1) rfl rfl rfl ?_)
      refine wp_of e33 c33_16 (rw_aload_n (pc' := 17) (v := .ref r0) rfl rfl rfl ?_)
      refine wp_of e33 c33_17 (xg_K (pc' := 20) lf_1_12 hW g0 sh_3 (by decide) (by decide) rfl qtk rfl ?_)
      refine wp_of e33 c33_20 (xg_L (pc' := 23) lf_1_135 hW gtk sh_4 (by decide) (by decide) ty_4_6 rfl rfl (fun b79 b80 => ?_))
      refine wp_of e33 c33_23 (xc_V (pc' := 26) (r := r1) (as := [vL (H tk 6)]) (st := []) (lm_1_139) rfl rfl (Nat.le_of_ble_eq_true rfl) hW g1 sh_27 (by decide) rfl (by decide) (u_27 (d := d) (y := (xY B n q)) hW g1 ⟨by omega, by omega⟩ (by omega) hDC_r1) (fun R81 T82 H83 p84 => ?_))
      obtain ⟨e85, e87, z88, e86, b89, p90⟩ := p84
      subst e85
      subst e86
      subst e87
      obtain ⟨a91, a92⟩ := p90
      show wp _ _ 33 26 [(0, .ref r0), (1, .ref r1)] [vI z88] _ H _
      refine wp_of e33 c33_26 (rw_istore_n (pc' := 27) (z := z88) (L' := [(2, vI z88), (0, .ref r0), (1, .ref r1)]) rfl rfl rfl ?_)
      refine wp_of e33 c33_27 (rw_iload_n (pc' := 28) (z := z88) rfl rfl ?_)
      refine wp_of e33 c33_28 (rw_if_ge (p1 := 37) (p2 := 31) (by decide) rfl ⟨by omega, by omega⟩ (fun c93 => ?_) (fun c93 => ?_))
      · refine wp_of e33 c33_37 (rw_iload_n (pc' := 38) (z := z88) rfl rfl ?_)
        exact wp_ireturn e33 c33_38 rfl ⟨rfl, hW, f0, z88, rfl, ⟨by omega, by omega⟩, (Or.inl ⟨by omega, by omega, by omega, by omega, by omega⟩)⟩
      · refine wp_of e33 c33_31 (rw_aload_n (pc' := 32) (v := .ref r0) rfl rfl rfl ?_)
        refine wp_of e33 c33_32 (rw_iconst (pc' := 33) rfl ?_)
        refine wp_of e33 c33_33 (xc_V (pc' := 36) (r := r0) (as := [vI 2]) (st := []) (lm_1_47) rfl rfl (Nat.le_of_ble_eq_true rfl) hW g0 sh_3 (by decide) rfl (by decide) (u_20  hW g0 ⟨by omega, by omega⟩ qtk gtk) (fun R94 T95 H96 p97 => ?_))
        obtain ⟨e98, w100, f101, z102, e99, b103, p104⟩ := p97
        subst e98
        subst e99
        obtain ⟨a105, a106, a107⟩ := p104
        have f108 := f0.tr f101 rfl
        show wp _ _ 33 36 [(2, vI z88), (0, .ref r0), (1, .ref r1)] [vI z102] _ H96 _
        refine wp_of e33 c33_36 (rw_pop (pc' := 37) rfl rfl ?_)
        refine wp_of e33 c33_37 (rw_iload_n (pc' := 38) (z := z88) rfl rfl ?_)
        exact wp_ireturn e33 c33_38 rfl ⟨rfl, w100, f108, z88, rfl, ⟨by omega, by omega⟩, (Or.inr ⟨by omega, by omega, by omega, by omega⟩)⟩
    · exfalso
      omega
  · show wp _ _ 33 4 [(0, .ref r0), (1, .ref r1)] [vI z71] _ H _
    refine wp_of e33 c33_4 (rw_if_ne (p1 := 15) (p2 := 7) (by decide) rfl ⟨by omega, by omega⟩ (fun c109 => ?_) (fun c109 => ?_))
    · exfalso
      omega
    · refine wp_of e33 c33_7 (rw_aload_n (pc' := 8) (v := .ref r0) rfl rfl rfl ?_)
      refine wp_of e33 c33_8 (rw_iconst (pc' := 9) rfl ?_)
      refine wp_of e33 c33_9 (xc_V (pc' := 12) (r := r0) (as := [vI 1]) (st := []) (lm_1_47) rfl rfl (Nat.le_of_ble_eq_true rfl) hW g0 sh_3 (by decide) rfl (by decide) (u_20  hW g0 ⟨by omega, by omega⟩ qtk gtk) (fun R110 T111 H112 p113 => ?_))
      obtain ⟨e114, w116, f117, z118, e115, b119, p120⟩ := p113
      subst e114
      subst e115
      obtain ⟨a121, a122, a123⟩ := p120
      have f124 := f0.tr f117 rfl
      show wp _ _ 33 12 [(0, .ref r0), (1, .ref r1)] [vI z118] _ H112 _
      refine wp_of e33 c33_12 (rw_pop (pc' := 13) rfl rfl ?_)
      refine wp_of e33 c33_13 (rw_iconst (pc' := 14) rfl ?_)
      exact wp_ireturn e33 c33_14 rfl ⟨rfl, w116, f124, -1, rfl, ⟨by omega, by omega⟩, (Or.inr ⟨by omega, by omega, by omega, by omega⟩)⟩
