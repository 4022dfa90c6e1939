/-! what methods do (own work, written by wip/gen3/sx3.py) -/
/-! StrikeAwake$Tokens.advance()V  -/
abbrev uq_16 (r0 : Nat) (rb : Nat) (B : Nat → Int) (n : Int) (a : Int) (q : Int) (T : wq_T) (H : wq_H) : Option Value → wq_T → wq_H → Prop := fun r T' H' => T = T' ∧ WT T H' ∧ wfr [(4, 2), (4, 3), (4, 4), (4, 5), (4, 6)] T H H' ∧ none = r ∧ ((TC T H' r0 B n q))
set_option maxHeartbeats 4000000 in
theorem u_16 {kt : Nat → Option mc_E} {T : wq_T} {H : wq_H} {r0 : Nat} {rb : Nat} {B : Nat → Int} {n : Int} {a : Int} {q : Int} (hW : WT T H) (g0 : T.2.2.2 r0 = some 4) (qrb : H r0 0 = (rb : Int)) (grb : T.2.2.2 rb = some 2) (p0 : H r0 1 = n) (p1 : H r0 2 = a) (p2 : a ≤ n) (p3 : q = xG 32 32 B n a) (hTP_rb : TP T H rb B) : wpc kt 1 16 [.ref r0] T H (uq_16 r0 rb B n a q T H) := by
  refine wp_enter e16 (Nat.le_of_ble_eq_true rfl) rfl ?_
  have f0 : wfr [(4, 2), (4, 3), (4, 4), (4, 5), (4, 6)] T H H := wfr.rf
  show wp _ _ 16 0 [(0, .ref r0)] [] _ H _
  have b227372 : 0 ≤ H r0 1 ∧ H r0 1 ≤ 900 := hW.box g0 (n := 7) rfl (by decide) rfl
  have b227373 : 0 ≤ H r0 2 ∧ H r0 2 ≤ 900 := hW.box g0 (n := 7) rfl (by decide) rfl
  have _x0 := @xG_b 32 32 B n a
  have _x1 := @xG_b 97 122 B n q
  have _x2 := @xG_b 48 57 B n q
  have _x3 := @xG_or 97 122 B n q
  have _x4 := @xG_or 48 57 B n q
  have _x5 := @xG_at 97 122 B n q
  have _x6 := @xG_at 48 57 B n q
  refine wp_of e16 c16_0 (rw_aload_n (pc' := 1) (v := .ref r0) rfl rfl rfl ?_)
  refine wp_of e16 c16_1 (xg_I (pc' := 4) lf_2_23 hW g0 sh_4 (by decide) (by decide) ty_4_2 rfl rfl (fun b227374 b227375 => ?_))
  have jn227393 : ∀ (v227392 : Int), (0 ≤ v227392 ∧ v227392 ≤ 900) → (v227392 = q) → wp kt 0 16 30 [(1, vI v227392), (0, .ref r0)] [] T H (uq_16 r0 rb B n a q T H) := by
    intro v227392 b227396 x227397
    refine wp_of e16 c16_30 (rw_aload_n (pc' := 31) (v := .ref r0) rfl rfl rfl ?_)
    refine wp_of e16 c16_31 (rw_iload_n (pc' := 32) (z := v227392) rfl rfl ?_)
    refine wp_of e16 c16_32 (xp_I (pc' := 35) lf_2_29 hW g0 sh_4 (by decide) (by decide) ty_4_4 rfl rfl (by omega) (by omega) ⟨by omega, by omega⟩ rfl (fun H227398 e227399 w227400 => ?_))
    have f227401 := f0.put' e227399 g0 rfl
    have k227402 : H227398 r0 4 = v227392 := wq_u_s e227399
    have jn227483 : ∀ (v227481 : Int) (H227482 : wq_H), WT T H227482 → wfr [(4, 6)] T H227398 H227482 → (0 ≤ v227481 ∧ v227481 ≤ 900) → (v227481 = xG 97 122 B n q) → (8 < v227481 - q ∨ H227482 r0 6 = xY B n q) → wp kt 0 16 101 [(1, vI v227481), (0, .ref r0)] [] T H227482 (uq_16 r0 rb B n a q T H) := by
      intro v227481 H227482 w227484 f227485 b227486 x227487 x227488
      have f227489 := f227401.tr f227485 rfl
      have k227490 : H227482 r0 4 = H227398 r0 4 := (f227485 r0 4 _ g0 rfl)
      refine wp_of e16 c16_101 (rw_iload_n (pc' := 102) (z := v227481) rfl rfl ?_)
      refine wp_of e16 c16_102 (rw_aload_n (pc' := 103) (v := .ref r0) rfl rfl rfl ?_)
      refine wp_of e16 c16_103 (xg_I (pc' := 106) lf_2_29 w227484 g0 sh_4 (by decide) (by decide) ty_4_4 rfl rfl (fun b227491 b227492 => ?_))
      refine wp_of e16 c16_106 (rw_isub (pc' := 107) rfl ?_)
      refine wp_of e16 c16_107 (rw_istore_n (pc' := 108) (z := v227481 - (H227482 r0 4)) (L' := [(2, vI (v227481 - (H227482 r0 4))), (1, vI v227481), (0, .ref r0)]) rfl rfl rfl ?_)
      refine wp_of e16 c16_108 (rw_aload_n (pc' := 109) (v := .ref r0) rfl rfl rfl ?_)
      refine wp_of e16 c16_109 (rw_iconst (pc' := 110) rfl ?_)
      have jn227576 : ∀ (v227574 : Int) (H227575 : wq_H), WT T H227575 → wfr [(4, 5)] T H227482 H227575 → (0 ≤ v227574 ∧ v227574 ≤ 900) → (((v227481 - (H227482 r0 4)) ≠ 0 ∧ v227574 = q + (v227481 - (H227482 r0 4))) ∨ ((v227481 - (H227482 r0 4)) = 0 ∧ v227574 = xG 48 57 B n q ∧ (3 < v227574 - q ∨ H227575 r0 5 = xV B n q))) → wp kt 0 16 174 [(1, vI v227574), (0, .ref r0), (2, vI (v227481 - (H227482 r0 4)))] [] T H227575 (uq_16 r0 rb B n a q T H) := by
        intro v227574 H227575 w227577 f227578 b227579 x227580
        have f227581 := f227489.tr f227578 rfl
        refine wp_of e16 c16_174 (rw_iload_n (pc' := 175) (z := v227574) rfl rfl ?_)
        refine wp_of e16 c16_175 (rw_aload_n (pc' := 176) (v := .ref r0) rfl rfl rfl ?_)
        have k227582 : H227575 r0 4 = H227482 r0 4 := (f227578 r0 4 _ g0 rfl)
        refine wp_of e16 c16_176 (xg_I (pc' := 179) lf_2_29 w227577 g0 sh_4 (by decide) (by decide) ty_4_4 rfl rfl (fun b227583 b227584 => ?_))
        refine wp_of e16 c16_179 (rw_isub (pc' := 180) rfl ?_)
        refine wp_of e16 c16_180 (rw_iload_n (pc' := 181) (z := v227481 - (H227482 r0 4)) rfl rfl ?_)
        refine wp_of e16 c16_181 (rw_isub (pc' := 182) rfl ?_)
        refine wp_of e16 c16_182 (rw_istore_n (pc' := 183) (z := (v227574 - (H227575 r0 4)) - (v227481 - (H227482 r0 4))) (L' := [(3, vI ((v227574 - (H227575 r0 4)) - (v227481 - (H227482 r0 4)))), (1, vI v227574), (0, .ref r0), (2, vI (v227481 - (H227482 r0 4)))]) rfl rfl rfl ?_)
        refine wp_of e16 c16_183 (rw_iload_n (pc' := 184) (z := v227481 - (H227482 r0 4)) rfl rfl ?_)
        refine wp_of e16 c16_184 (rw_if_le (p1 := 205) (p2 := 187) (by decide) rfl ⟨by omega, by omega⟩ (fun c227585 => ?_) (fun c227585 => ?_))
        · refine wp_of e16 c16_205 (rw_iload_n (pc' := 206) (z := (v227574 - (H227575 r0 4)) - (v227481 - (H227482 r0 4))) rfl rfl ?_)
          refine wp_of e16 c16_206 (rw_if_le (p1 := 226) (p2 := 209) (by decide) rfl ⟨by omega, by omega⟩ (fun c227586 => ?_) (fun c227586 => ?_))
          · have := @xB_q B q v227574
            refine wp_of e16 c16_226 (rw_iload_n (pc' := 227) (z := v227574) rfl rfl ?_)
            refine wp_of e16 c16_227 (rw_aload_n (pc' := 228) (v := .ref r0) rfl rfl rfl ?_)
            have k227587 : H227575 r0 1 = H r0 1 := ((f227578 r0 1 _ g0 rfl).trans ((f227485 r0 1 _ g0 rfl).trans (wq_u_j e227399 rfl)))
            refine wp_of e16 c16_228 (xg_I (pc' := 231) lf_2_19 w227577 g0 sh_4 (by decide) (by decide) ty_4_1 rfl rfl (fun b227588 b227589 => ?_))
            refine wp_of e16 c16_231 (rw_icmp_ge (p1 := 275) (p2 := 234) (by decide) rfl ⟨by omega, by omega⟩ ⟨by omega, by omega⟩ (fun c227590 => ?_) (fun c227590 => ?_))
            · refine wp_of e16 c16_275 (rw_aload_n (pc' := 276) (v := .ref r0) rfl rfl rfl ?_)
              refine wp_of e16 c16_276 (rw_iconst (pc' := 277) rfl ?_)
              refine wp_of e16 c16_277 (xp_I (pc' := 280) lf_2_41 w227577 g0 sh_4 (by decide) (by decide) ty_4_3 rfl rfl (by omega) (by omega) ⟨by omega, by omega⟩ rfl (fun H227591 e227592 w227593 => ?_))
              have f227594 := f227581.put' e227592 g0 rfl
              have k227595 : H227591 r0 3 = 0 := wq_u_s e227592
              refine wp_of e16 c16_280 (rw_aload_n (pc' := 281) (v := .ref r0) rfl rfl rfl ?_)
              refine wp_of e16 c16_281 (rw_iload_n (pc' := 282) (z := v227574) rfl rfl ?_)
              refine wp_of e16 c16_282 (xp_I (pc' := 285) lf_2_23 w227593 g0 sh_4 (by decide) (by decide) ty_4_2 rfl rfl (by omega) (by omega) ⟨by omega, by omega⟩ rfl (fun H227596 e227597 w227598 => ?_))
              have f227599 := f227594.put' e227597 g0 rfl
              have k227600 : H227596 r0 2 = v227574 := wq_u_s e227597
              have k227601 : H227596 r0 3 = H227591 r0 3 := (wq_u_j e227597 rfl)
              have k227602 : H227596 r0 4 = H227575 r0 4 := ((wq_u_j e227597 rfl).trans (wq_u_j e227592 rfl))
              have k227603 : H227596 r0 5 = H227575 r0 5 := ((wq_u_j e227597 rfl).trans (wq_u_j e227592 rfl))
              have k227604 : H227596 r0 6 = H227482 r0 6 := ((wq_u_j e227597 rfl).trans ((wq_u_j e227592 rfl).trans (f227578 r0 6 _ g0 rfl)))
              have k227605 : H227596 r0 1 = H227575 r0 1 := ((wq_u_j e227597 rfl).trans (wq_u_j e227592 rfl))
              have ek : xK B n q = H227596 r0 3 := by
                unfold xK
                repeat first | rw [if_pos (by omega)] | rw [if_neg (by omega)]
                omega
              have ee : xE B n q = H227596 r0 2 := by
                unfold xE
                repeat first | rw [if_pos (by omega)] | rw [if_neg (by omega)]
                omega
              have k227606 : H227596 r0 0 = H r0 0 := ((wq_u_j e227597 rfl).trans ((wq_u_j e227592 rfl).trans ((f227578 r0 0 _ g0 rfl).trans ((f227485 r0 0 _ g0 rfl).trans (wq_u_j e227399 rfl)))))
              have q227607 : H227596 r0 0 = (rb : Int) := k227606.trans qrb
              have h227608 : TP T H227596 rb B := (TP_fr w227593 grb ((wfr.rf (l := [(4, 2)])).put' e227597 g0 rfl) rfl (TP_fr w227577 grb ((wfr.rf (l := [(4, 3)])).put' e227592 g0 rfl) rfl (TP_fr w227484 grb f227578 rfl (TP_fr w227400 grb f227485 rfl (TP_fr hW grb ((wfr.rf (l := [(4, 4)])).put' e227399 g0 rfl) rfl hTP_rb)))))
              exact wp_return e16 c16_285 rfl ⟨rfl, w227598, f227599, rfl, (TC_mk q227607 grb h227608 (by omega) (fun h => by omega) (fun h => by omega))⟩
            · refine wp_of e16 c16_234 (rw_aload_n (pc' := 235) (v := .ref r0) rfl rfl rfl ?_)
              refine wp_of e16 c16_235 (rw_aload_n (pc' := 236) (v := .ref r0) rfl rfl rfl ?_)
              have k227609 : H227575 r0 0 = H r0 0 := ((f227578 r0 0 _ g0 rfl).trans ((f227485 r0 0 _ g0 rfl).trans (wq_u_j e227399 rfl)))
              have q227610 : H227575 r0 0 = (rb : Int) := k227609.trans qrb
              refine wp_of e16 c16_236 (xg_K (pc' := 239) lf_2_7 w227577 g0 sh_4 (by decide) (by decide) rfl q227610 rfl ?_)
              refine wp_of e16 c16_239 (rw_iload_n (pc' := 240) (z := v227574) rfl rfl ?_)
              refine wp_of e16 c16_240 (xa_B (by decide) (pc' := 241) w227577 grb sh_2 (by decide) (ty_2 _) (by omega) (by omega) rfl (fun b227611 b227612 => ?_))
              have h227613 : TP T H227575 rb B := (TP_fr w227484 grb f227578 rfl (TP_fr w227400 grb f227485 rfl (TP_fr hW grb ((wfr.rf (l := [(4, 4)])).put' e227399 g0 rfl) rfl hTP_rb)))
              have := h227613 (v227574.toNat) (by omega)
              refine wp_of e16 c16_241 (rw_bipush (pc' := 243) (z := 59) rfl (by decide) ?_)
              refine wp_of e16 c16_243 (rw_icmp_ne (p1 := 250) (p2 := 246) (by decide) rfl ⟨by omega, by omega⟩ ⟨by omega, by omega⟩ (fun c227614 => ?_) (fun c227614 => ?_))
              · refine wp_of e16 c16_250 (rw_aload_n (pc' := 251) (v := .ref r0) rfl rfl rfl ?_)
                refine wp_of e16 c16_251 (xg_K (pc' := 254) lf_2_7 w227577 g0 sh_4 (by decide) (by decide) rfl q227610 rfl ?_)
                refine wp_of e16 c16_254 (rw_iload_n (pc' := 255) (z := v227574) rfl rfl ?_)
                refine wp_of e16 c16_255 (xa_B (by decide) (pc' := 256) w227577 grb sh_2 (by decide) (ty_2 _) (by omega) (by omega) rfl (fun b227615 b227616 => ?_))
                have := h227613 (v227574.toNat) (by omega)
                refine wp_of e16 c16_256 (rw_bipush (pc' := 258) (z := 44) rfl (by decide) ?_)
                refine wp_of e16 c16_258 (rw_icmp_ne (p1 := 265) (p2 := 261) (by decide) rfl ⟨by omega, by omega⟩ ⟨by omega, by omega⟩ (fun c227617 => ?_) (fun c227617 => ?_))
                · refine wp_of e16 c16_265 (rw_iconst (pc' := 266) rfl ?_)
                  refine wp_of e16 c16_266 (xp_I (pc' := 269) lf_2_41 w227577 g0 sh_4 (by decide) (by decide) ty_4_3 rfl rfl (by omega) (by omega) ⟨by omega, by omega⟩ rfl (fun H227618 e227619 w227620 => ?_))
                  have f227621 := f227581.put' e227619 g0 rfl
                  have k227622 : H227618 r0 3 = 5 := wq_u_s e227619
                  refine wp_of e16 c16_269 (rw_iinc (pc' := 272) (z := v227574) (L' := [(1, vI (v227574 + 1)), (3, vI ((v227574 - (H227575 r0 4)) - (v227481 - (H227482 r0 4)))), (0, .ref r0), (2, vI (v227481 - (H227482 r0 4)))]) rfl rfl rfl rfl ?_)
                  refine wp_of e16 c16_272 (rw_goto (p1 := 280) (by decide) ?_)
                  refine wp_of e16 c16_280 (rw_aload_n (pc' := 281) (v := .ref r0) rfl rfl rfl ?_)
                  refine wp_of e16 c16_281 (rw_iload_n (pc' := 282) (z := v227574 + 1) rfl rfl ?_)
                  refine wp_of e16 c16_282 (xp_I (pc' := 285) lf_2_23 w227620 g0 sh_4 (by decide) (by decide) ty_4_2 rfl rfl (by omega) (by omega) ⟨by omega, by omega⟩ rfl (fun H227623 e227624 w227625 => ?_))
                  have f227626 := f227621.put' e227624 g0 rfl
                  have k227627 : H227623 r0 2 = v227574 + 1 := wq_u_s e227624
                  have k227628 : H227623 r0 3 = H227618 r0 3 := (wq_u_j e227624 rfl)
                  have k227629 : H227623 r0 4 = H227575 r0 4 := ((wq_u_j e227624 rfl).trans (wq_u_j e227619 rfl))
                  have k227630 : H227623 r0 5 = H227575 r0 5 := ((wq_u_j e227624 rfl).trans (wq_u_j e227619 rfl))
                  have k227631 : H227623 r0 6 = H227482 r0 6 := ((wq_u_j e227624 rfl).trans ((wq_u_j e227619 rfl).trans (f227578 r0 6 _ g0 rfl)))
                  have k227632 : H227623 r0 1 = H227575 r0 1 := ((wq_u_j e227624 rfl).trans (wq_u_j e227619 rfl))
                  have ek : xK B n q = H227623 r0 3 := by
                    unfold xK
                    repeat first | rw [if_pos (by omega)] | rw [if_neg (by omega)]
                    omega
                  have ee : xE B n q = H227623 r0 2 := by
                    unfold xE
                    repeat first | rw [if_pos (by omega)] | rw [if_neg (by omega)]
                    omega
                  have k227633 : H227623 r0 0 = H227575 r0 0 := ((wq_u_j e227624 rfl).trans (wq_u_j e227619 rfl))
                  have q227634 : H227623 r0 0 = (rb : Int) := k227633.trans q227610
                  have h227635 : TP T H227623 rb B := (TP_fr w227620 grb ((wfr.rf (l := [(4, 2)])).put' e227624 g0 rfl) rfl (TP_fr w227577 grb ((wfr.rf (l := [(4, 3)])).put' e227619 g0 rfl) rfl h227613))
                  exact wp_return e16 c16_285 rfl ⟨rfl, w227625, f227626, rfl, (TC_mk q227634 grb h227635 (by omega) (fun h => by omega) (fun h => by omega))⟩
                · refine wp_of e16 c16_261 (rw_iconst (pc' := 262) rfl ?_)
                  refine wp_of e16 c16_262 (rw_goto (p1 := 266) (by decide) ?_)
                  refine wp_of e16 c16_266 (xp_I (pc' := 269) lf_2_41 w227577 g0 sh_4 (by decide) (by decide) ty_4_3 rfl rfl (by omega) (by omega) ⟨by omega, by omega⟩ rfl (fun H227636 e227637 w227638 => ?_))
                  have f227639 := f227581.put' e227637 g0 rfl
                  have k227640 : H227636 r0 3 = 4 := wq_u_s e227637
                  refine wp_of e16 c16_269 (rw_iinc (pc' := 272) (z := v227574) (L' := [(1, vI (v227574 + 1)), (3, vI ((v227574 - (H227575 r0 4)) - (v227481 - (H227482 r0 4)))), (0, .ref r0), (2, vI (v227481 - (H227482 r0 4)))]) rfl rfl rfl rfl ?_)
                  refine wp_of e16 c16_272 (rw_goto (p1 := 280) (by decide) ?_)
                  refine wp_of e16 c16_280 (rw_aload_n (pc' := 281) (v := .ref r0) rfl rfl rfl ?_)
                  refine wp_of e16 c16_281 (rw_iload_n (pc' := 282) (z := v227574 + 1) rfl rfl ?_)
                  refine wp_of e16 c16_282 (xp_I (pc' := 285) lf_2_23 w227638 g0 sh_4 (by decide) (by decide) ty_4_2 rfl rfl (by omega) (by omega) ⟨by omega, by omega⟩ rfl (fun H227641 e227642 w227643 => ?_))
                  have f227644 := f227639.put' e227642 g0 rfl
                  have k227645 : H227641 r0 2 = v227574 + 1 := wq_u_s e227642
                  have k227646 : H227641 r0 3 = H227636 r0 3 := (wq_u_j e227642 rfl)
                  have k227647 : H227641 r0 4 = H227575 r0 4 := ((wq_u_j e227642 rfl).trans (wq_u_j e227637 rfl))
                  have k227648 : H227641 r0 5 = H227575 r0 5 := ((wq_u_j e227642 rfl).trans (wq_u_j e227637 rfl))
                  have k227649 : H227641 r0 6 = H227482 r0 6 := ((wq_u_j e227642 rfl).trans ((wq_u_j e227637 rfl).trans (f227578 r0 6 _ g0 rfl)))
                  have k227650 : H227641 r0 1 = H227575 r0 1 := ((wq_u_j e227642 rfl).trans (wq_u_j e227637 rfl))
                  have ek : xK B n q = H227641 r0 3 := by
                    unfold xK
                    repeat first | rw [if_pos (by omega)] | rw [if_neg (by omega)]
                    omega
                  have ee : xE B n q = H227641 r0 2 := by
                    unfold xE
                    repeat first | rw [if_pos (by omega)] | rw [if_neg (by omega)]
                    omega
                  have k227651 : H227641 r0 0 = H227575 r0 0 := ((wq_u_j e227642 rfl).trans (wq_u_j e227637 rfl))
                  have q227652 : H227641 r0 0 = (rb : Int) := k227651.trans q227610
                  have h227653 : TP T H227641 rb B := (TP_fr w227638 grb ((wfr.rf (l := [(4, 2)])).put' e227642 g0 rfl) rfl (TP_fr w227577 grb ((wfr.rf (l := [(4, 3)])).put' e227637 g0 rfl) rfl h227613))
                  exact wp_return e16 c16_285 rfl ⟨rfl, w227643, f227644, rfl, (TC_mk q227652 grb h227653 (by omega) (fun h => by omega) (fun h => by omega))⟩
              · refine wp_of e16 c16_246 (rw_iconst (pc' := 247) rfl ?_)
                refine wp_of e16 c16_247 (rw_goto (p1 := 266) (by decide) ?_)
                refine wp_of e16 c16_266 (xp_I (pc' := 269) lf_2_41 w227577 g0 sh_4 (by decide) (by decide) ty_4_3 rfl rfl (by omega) (by omega) ⟨by omega, by omega⟩ rfl (fun H227654 e227655 w227656 => ?_))
                have f227657 := f227581.put' e227655 g0 rfl
                have k227658 : H227654 r0 3 = 3 := wq_u_s e227655
                refine wp_of e16 c16_269 (rw_iinc (pc' := 272) (z := v227574) (L' := [(1, vI (v227574 + 1)), (3, vI ((v227574 - (H227575 r0 4)) - (v227481 - (H227482 r0 4)))), (0, .ref r0), (2, vI (v227481 - (H227482 r0 4)))]) rfl rfl rfl rfl ?_)
                refine wp_of e16 c16_272 (rw_goto (p1 := 280) (by decide) ?_)
                refine wp_of e16 c16_280 (rw_aload_n (pc' := 281) (v := .ref r0) rfl rfl rfl ?_)
                refine wp_of e16 c16_281 (rw_iload_n (pc' := 282) (z := v227574 + 1) rfl rfl ?_)
                refine wp_of e16 c16_282 (xp_I (pc' := 285) lf_2_23 w227656 g0 sh_4 (by decide) (by decide) ty_4_2 rfl rfl (by omega) (by omega) ⟨by omega, by omega⟩ rfl (fun H227659 e227660 w227661 => ?_))
                have f227662 := f227657.put' e227660 g0 rfl
                have k227663 : H227659 r0 2 = v227574 + 1 := wq_u_s e227660
                have k227664 : H227659 r0 3 = H227654 r0 3 := (wq_u_j e227660 rfl)
                have k227665 : H227659 r0 4 = H227575 r0 4 := ((wq_u_j e227660 rfl).trans (wq_u_j e227655 rfl))
                have k227666 : H227659 r0 5 = H227575 r0 5 := ((wq_u_j e227660 rfl).trans (wq_u_j e227655 rfl))
                have k227667 : H227659 r0 6 = H227482 r0 6 := ((wq_u_j e227660 rfl).trans ((wq_u_j e227655 rfl).trans (f227578 r0 6 _ g0 rfl)))
                have k227668 : H227659 r0 1 = H227575 r0 1 := ((wq_u_j e227660 rfl).trans (wq_u_j e227655 rfl))
                have ek : xK B n q = H227659 r0 3 := by
                  unfold xK
                  repeat first | rw [if_pos (by omega)] | rw [if_neg (by omega)]
                  omega
                have ee : xE B n q = H227659 r0 2 := by
                  unfold xE
                  repeat first | rw [if_pos (by omega)] | rw [if_neg (by omega)]
                  omega
                have k227669 : H227659 r0 0 = H227575 r0 0 := ((wq_u_j e227660 rfl).trans (wq_u_j e227655 rfl))
                have q227670 : H227659 r0 0 = (rb : Int) := k227669.trans q227610
                have h227671 : TP T H227659 rb B := (TP_fr w227656 grb ((wfr.rf (l := [(4, 2)])).put' e227660 g0 rfl) rfl (TP_fr w227577 grb ((wfr.rf (l := [(4, 3)])).put' e227655 g0 rfl) rfl h227613))
                exact wp_return e16 c16_285 rfl ⟨rfl, w227661, f227662, rfl, (TC_mk q227670 grb h227671 (by omega) (fun h => by omega) (fun h => by omega))⟩
          · refine wp_of e16 c16_209 (rw_aload_n (pc' := 210) (v := .ref r0) rfl rfl rfl ?_)
            refine wp_of e16 c16_210 (rw_iload_n (pc' := 211) (z := (v227574 - (H227575 r0 4)) - (v227481 - (H227482 r0 4))) rfl rfl ?_)
            refine wp_of e16 c16_211 (rw_iconst (pc' := 212) rfl ?_)
            refine wp_of e16 c16_212 (rw_icmp_gt (p1 := 219) (p2 := 215) (by decide) rfl ⟨by omega, by omega⟩ ⟨by omega, by omega⟩ (fun c227672 => ?_) (fun c227672 => ?_))
            · refine wp_of e16 c16_219 (rw_iconst (pc' := 220) rfl ?_)
              refine wp_of e16 c16_220 (xp_I (pc' := 223) lf_2_41 w227577 g0 sh_4 (by decide) (by decide) ty_4_3 rfl rfl (by omega) (by omega) ⟨by omega, by omega⟩ rfl (fun H227673 e227674 w227675 => ?_))
              have f227676 := f227581.put' e227674 g0 rfl
              have k227677 : H227673 r0 3 = 5 := wq_u_s e227674
              refine wp_of e16 c16_223 (rw_goto (p1 := 280) (by decide) ?_)
              refine wp_of e16 c16_280 (rw_aload_n (pc' := 281) (v := .ref r0) rfl rfl rfl ?_)
              refine wp_of e16 c16_281 (rw_iload_n (pc' := 282) (z := v227574) rfl rfl ?_)
              refine wp_of e16 c16_282 (xp_I (pc' := 285) lf_2_23 w227675 g0 sh_4 (by decide) (by decide) ty_4_2 rfl rfl (by omega) (by omega) ⟨by omega, by omega⟩ rfl (fun H227678 e227679 w227680 => ?_))
              have f227681 := f227676.put' e227679 g0 rfl
              have k227682 : H227678 r0 2 = v227574 := wq_u_s e227679
              have k227683 : H227678 r0 3 = H227673 r0 3 := (wq_u_j e227679 rfl)
              have k227684 : H227678 r0 4 = H227575 r0 4 := ((wq_u_j e227679 rfl).trans (wq_u_j e227674 rfl))
              have k227685 : H227678 r0 5 = H227575 r0 5 := ((wq_u_j e227679 rfl).trans (wq_u_j e227674 rfl))
              have k227686 : H227678 r0 6 = H227482 r0 6 := ((wq_u_j e227679 rfl).trans ((wq_u_j e227674 rfl).trans (f227578 r0 6 _ g0 rfl)))
              have k227687 : H227678 r0 1 = H r0 1 := ((wq_u_j e227679 rfl).trans ((wq_u_j e227674 rfl).trans ((f227578 r0 1 _ g0 rfl).trans ((f227485 r0 1 _ g0 rfl).trans (wq_u_j e227399 rfl)))))
              have ek : xK B n q = H227678 r0 3 := by
                unfold xK
                repeat first | rw [if_pos (by omega)] | rw [if_neg (by omega)]
                omega
              have ee : xE B n q = H227678 r0 2 := by
                unfold xE
                repeat first | rw [if_pos (by omega)] | rw [if_neg (by omega)]
                omega
              have k227688 : H227678 r0 0 = H r0 0 := ((wq_u_j e227679 rfl).trans ((wq_u_j e227674 rfl).trans ((f227578 r0 0 _ g0 rfl).trans ((f227485 r0 0 _ g0 rfl).trans (wq_u_j e227399 rfl)))))
              have q227689 : H227678 r0 0 = (rb : Int) := k227688.trans qrb
              have h227690 : TP T H227678 rb B := (TP_fr w227675 grb ((wfr.rf (l := [(4, 2)])).put' e227679 g0 rfl) rfl (TP_fr w227577 grb ((wfr.rf (l := [(4, 3)])).put' e227674 g0 rfl) rfl (TP_fr w227484 grb f227578 rfl (TP_fr w227400 grb f227485 rfl (TP_fr hW grb ((wfr.rf (l := [(4, 4)])).put' e227399 g0 rfl) rfl hTP_rb)))))
              exact wp_return e16 c16_285 rfl ⟨rfl, w227680, f227681, rfl, (TC_mk q227689 grb h227690 (by omega) (fun h => by omega) (fun h => by omega))⟩
            · refine wp_of e16 c16_215 (rw_iconst (pc' := 216) rfl ?_)
              refine wp_of e16 c16_216 (rw_goto (p1 := 220) (by decide) ?_)
              refine wp_of e16 c16_220 (xp_I (pc' := 223) lf_2_41 w227577 g0 sh_4 (by decide) (by decide) ty_4_3 rfl rfl (by omega) (by omega) ⟨by omega, by omega⟩ rfl (fun H227691 e227692 w227693 => ?_))
              have f227694 := f227581.put' e227692 g0 rfl
              have k227695 : H227691 r0 3 = 2 := wq_u_s e227692
              refine wp_of e16 c16_223 (rw_goto (p1 := 280) (by decide) ?_)
              refine wp_of e16 c16_280 (rw_aload_n (pc' := 281) (v := .ref r0) rfl rfl rfl ?_)
              refine wp_of e16 c16_281 (rw_iload_n (pc' := 282) (z := v227574) rfl rfl ?_)
              refine wp_of e16 c16_282 (xp_I (pc' := 285) lf_2_23 w227693 g0 sh_4 (by decide) (by decide) ty_4_2 rfl rfl (by omega) (by omega) ⟨by omega, by omega⟩ rfl (fun H227696 e227697 w227698 => ?_))
              have f227699 := f227694.put' e227697 g0 rfl
              have k227700 : H227696 r0 2 = v227574 := wq_u_s e227697
              have k227701 : H227696 r0 3 = H227691 r0 3 := (wq_u_j e227697 rfl)
              have k227702 : H227696 r0 4 = H227575 r0 4 := ((wq_u_j e227697 rfl).trans (wq_u_j e227692 rfl))
              have k227703 : H227696 r0 5 = H227575 r0 5 := ((wq_u_j e227697 rfl).trans (wq_u_j e227692 rfl))
              have k227704 : H227696 r0 6 = H227482 r0 6 := ((wq_u_j e227697 rfl).trans ((wq_u_j e227692 rfl).trans (f227578 r0 6 _ g0 rfl)))
              have k227705 : H227696 r0 1 = H r0 1 := ((wq_u_j e227697 rfl).trans ((wq_u_j e227692 rfl).trans ((f227578 r0 1 _ g0 rfl).trans ((f227485 r0 1 _ g0 rfl).trans (wq_u_j e227399 rfl)))))
              have ek : xK B n q = H227696 r0 3 := by
                unfold xK
                repeat first | rw [if_pos (by omega)] | rw [if_neg (by omega)]
                omega
              have ee : xE B n q = H227696 r0 2 := by
                unfold xE
                repeat first | rw [if_pos (by omega)] | rw [if_neg (by omega)]
                omega
              have k227706 : H227696 r0 0 = H r0 0 := ((wq_u_j e227697 rfl).trans ((wq_u_j e227692 rfl).trans ((f227578 r0 0 _ g0 rfl).trans ((f227485 r0 0 _ g0 rfl).trans (wq_u_j e227399 rfl)))))
              have q227707 : H227696 r0 0 = (rb : Int) := k227706.trans qrb
              have h227708 : TP T H227696 rb B := (TP_fr w227693 grb ((wfr.rf (l := [(4, 2)])).put' e227697 g0 rfl) rfl (TP_fr w227577 grb ((wfr.rf (l := [(4, 3)])).put' e227692 g0 rfl) rfl (TP_fr w227484 grb f227578 rfl (TP_fr w227400 grb f227485 rfl (TP_fr hW grb ((wfr.rf (l := [(4, 4)])).put' e227399 g0 rfl) rfl hTP_rb)))))
              exact wp_return e16 c16_285 rfl ⟨rfl, w227698, f227699, rfl, (TC_mk q227707 grb h227708 (by omega) (fun h => by omega) (fun h => by omega))⟩
        · refine wp_of e16 c16_187 (rw_aload_n (pc' := 188) (v := .ref r0) rfl rfl rfl ?_)
          refine wp_of e16 c16_188 (rw_iload_n (pc' := 189) (z := v227481 - (H227482 r0 4)) rfl rfl ?_)
          refine wp_of e16 c16_189 (rw_bipush (pc' := 191) (z := 8) rfl (by decide) ?_)
          refine wp_of e16 c16_191 (rw_icmp_gt (p1 := 198) (p2 := 194) (by decide) rfl ⟨by omega, by omega⟩ ⟨by omega, by omega⟩ (fun c227709 => ?_) (fun c227709 => ?_))
          · refine wp_of e16 c16_198 (rw_iconst (pc' := 199) rfl ?_)
            refine wp_of e16 c16_199 (xp_I (pc' := 202) lf_2_41 w227577 g0 sh_4 (by decide) (by decide) ty_4_3 rfl rfl (by omega) (by omega) ⟨by omega, by omega⟩ rfl (fun H227710 e227711 w227712 => ?_))
            have f227713 := f227581.put' e227711 g0 rfl
            have k227714 : H227710 r0 3 = 5 := wq_u_s e227711
            refine wp_of e16 c16_202 (rw_goto (p1 := 280) (by decide) ?_)
            refine wp_of e16 c16_280 (rw_aload_n (pc' := 281) (v := .ref r0) rfl rfl rfl ?_)
            refine wp_of e16 c16_281 (rw_iload_n (pc' := 282) (z := v227574) rfl rfl ?_)
            refine wp_of e16 c16_282 (xp_I (pc' := 285) lf_2_23 w227712 g0 sh_4 (by decide) (by decide) ty_4_2 rfl rfl (by omega) (by omega) ⟨by omega, by omega⟩ rfl (fun H227715 e227716 w227717 => ?_))
            have f227718 := f227713.put' e227716 g0 rfl
            have k227719 : H227715 r0 2 = v227574 := wq_u_s e227716
            have k227720 : H227715 r0 3 = H227710 r0 3 := (wq_u_j e227716 rfl)
            have k227721 : H227715 r0 4 = H227575 r0 4 := ((wq_u_j e227716 rfl).trans (wq_u_j e227711 rfl))
            have k227722 : H227715 r0 5 = H227575 r0 5 := ((wq_u_j e227716 rfl).trans (wq_u_j e227711 rfl))
            have k227723 : H227715 r0 6 = H227482 r0 6 := ((wq_u_j e227716 rfl).trans ((wq_u_j e227711 rfl).trans (f227578 r0 6 _ g0 rfl)))
            have k227724 : H227715 r0 1 = H r0 1 := ((wq_u_j e227716 rfl).trans ((wq_u_j e227711 rfl).trans ((f227578 r0 1 _ g0 rfl).trans ((f227485 r0 1 _ g0 rfl).trans (wq_u_j e227399 rfl)))))
            have ek : xK B n q = H227715 r0 3 := by
              unfold xK
              repeat first | rw [if_pos (by omega)] | rw [if_neg (by omega)]
              omega
            have ee : xE B n q = H227715 r0 2 := by
              unfold xE
              repeat first | rw [if_pos (by omega)] | rw [if_neg (by omega)]
              omega
            have k227725 : H227715 r0 0 = H r0 0 := ((wq_u_j e227716 rfl).trans ((wq_u_j e227711 rfl).trans ((f227578 r0 0 _ g0 rfl).trans ((f227485 r0 0 _ g0 rfl).trans (wq_u_j e227399 rfl)))))
            have q227726 : H227715 r0 0 = (rb : Int) := k227725.trans qrb
            have h227727 : TP T H227715 rb B := (TP_fr w227712 grb ((wfr.rf (l := [(4, 2)])).put' e227716 g0 rfl) rfl (TP_fr w227577 grb ((wfr.rf (l := [(4, 3)])).put' e227711 g0 rfl) rfl (TP_fr w227484 grb f227578 rfl (TP_fr w227400 grb f227485 rfl (TP_fr hW grb ((wfr.rf (l := [(4, 4)])).put' e227399 g0 rfl) rfl hTP_rb)))))
            exact wp_return e16 c16_285 rfl ⟨rfl, w227717, f227718, rfl, (TC_mk q227726 grb h227727 (by omega) (fun h => by omega) (fun h => by omega))⟩
          · refine wp_of e16 c16_194 (rw_iconst (pc' := 195) rfl ?_)
            refine wp_of e16 c16_195 (rw_goto (p1 := 199) (by decide) ?_)
            refine wp_of e16 c16_199 (xp_I (pc' := 202) lf_2_41 w227577 g0 sh_4 (by decide) (by decide) ty_4_3 rfl rfl (by omega) (by omega) ⟨by omega, by omega⟩ rfl (fun H227728 e227729 w227730 => ?_))
            have f227731 := f227581.put' e227729 g0 rfl
            have k227732 : H227728 r0 3 = 1 := wq_u_s e227729
            refine wp_of e16 c16_202 (rw_goto (p1 := 280) (by decide) ?_)
            refine wp_of e16 c16_280 (rw_aload_n (pc' := 281) (v := .ref r0) rfl rfl rfl ?_)
            refine wp_of e16 c16_281 (rw_iload_n (pc' := 282) (z := v227574) rfl rfl ?_)
            refine wp_of e16 c16_282 (xp_I (pc' := 285) lf_2_23 w227730 g0 sh_4 (by decide) (by decide) ty_4_2 rfl rfl (by omega) (by omega) ⟨by omega, by omega⟩ rfl (fun H227733 e227734 w227735 => ?_))
            have f227736 := f227731.put' e227734 g0 rfl
            have k227737 : H227733 r0 2 = v227574 := wq_u_s e227734
            have k227738 : H227733 r0 3 = H227728 r0 3 := (wq_u_j e227734 rfl)
            have k227739 : H227733 r0 4 = H227575 r0 4 := ((wq_u_j e227734 rfl).trans (wq_u_j e227729 rfl))
            have k227740 : H227733 r0 5 = H227575 r0 5 := ((wq_u_j e227734 rfl).trans (wq_u_j e227729 rfl))
            have k227741 : H227733 r0 6 = H227482 r0 6 := ((wq_u_j e227734 rfl).trans ((wq_u_j e227729 rfl).trans (f227578 r0 6 _ g0 rfl)))
            have k227742 : H227733 r0 1 = H r0 1 := ((wq_u_j e227734 rfl).trans ((wq_u_j e227729 rfl).trans ((f227578 r0 1 _ g0 rfl).trans ((f227485 r0 1 _ g0 rfl).trans (wq_u_j e227399 rfl)))))
            have ek : xK B n q = H227733 r0 3 := by
              unfold xK
              repeat first | rw [if_pos (by omega)] | rw [if_neg (by omega)]
              omega
            have ee : xE B n q = H227733 r0 2 := by
              unfold xE
              repeat first | rw [if_pos (by omega)] | rw [if_neg (by omega)]
              omega
            have k227743 : H227733 r0 0 = H r0 0 := ((wq_u_j e227734 rfl).trans ((wq_u_j e227729 rfl).trans ((f227578 r0 0 _ g0 rfl).trans ((f227485 r0 0 _ g0 rfl).trans (wq_u_j e227399 rfl)))))
            have q227744 : H227733 r0 0 = (rb : Int) := k227743.trans qrb
            have h227745 : TP T H227733 rb B := (TP_fr w227730 grb ((wfr.rf (l := [(4, 2)])).put' e227734 g0 rfl) rfl (TP_fr w227577 grb ((wfr.rf (l := [(4, 3)])).put' e227729 g0 rfl) rfl (TP_fr w227484 grb f227578 rfl (TP_fr w227400 grb f227485 rfl (TP_fr hW grb ((wfr.rf (l := [(4, 4)])).put' e227399 g0 rfl) rfl hTP_rb)))))
            exact wp_return e16 c16_285 rfl ⟨rfl, w227735, f227736, rfl, (TC_mk q227744 grb h227745 (by omega) (fun h => by omega) (fun h => by omega))⟩
      have f227746 : wfr [(4, 5)] T H227482 H227482 := wfr.rf
      refine wp_of e16 c16_110 (xp_I (pc' := 113) lf_2_38 w227484 g0 sh_4 (by decide) (by decide) ty_4_5 rfl rfl (by omega) (by omega) ⟨by omega, by omega⟩ rfl (fun H227747 e227748 w227749 => ?_))
      have f227750 := f227489.put' e227748 g0 rfl
      have f227751 := f227746.put' e227748 g0 rfl
      have k227752 : H227747 r0 5 = 0 := wq_u_s e227748
      have lp227804 : ∀ (n227805 : Nat) (v227807 : Int) (H227808 : wq_H), WT T H227808 → wfr [(4, 5)] T H227747 H227808 → (0 ≤ v227807 ∧ v227807 ≤ 900) → (((v227481 - (H227482 r0 4)) ≠ 0 ∧ v227807 = q + (v227481 - (H227482 r0 4)) ∧ v227807 = xG 97 122 B n q) ∨ ((v227481 - (H227482 r0 4)) = 0 ∧ xG 48 57 B n v227807 = xG 48 57 B n q)) → (q ≤ v227807) → (v227807 ≤ n) → ((v227481 - (H227482 r0 4)) ≠ 0 ∨ 3 < v227807 - q ∨ H227808 r0 5 = xkf 10 48 B q (v227807 - q).toNat) → (900 - v227807).toNat = n227805 → wp kt 0 16 113 [(1, vI v227807), (2, vI (v227481 - (H227482 r0 4))), (0, .ref r0)] [] T H227808 (uq_16 r0 rb B n a q T H) := by
        intro n227805
        induction n227805 using Nat.strongRecOn with
        | _ n227805 ih227806 =>
          intro v227807 H227808 w227809 f227810 b227811 x227812 x227813 x227814 x227815 m227816
          have f227817 := f227750.tr f227810 rfl
          have f227818 := f227751.tr f227810 rfl
          have := @xG_b 48 57 B n v227807
          have := @xkf_V2 B n q v227807 (by omega)
          refine wp_of e16 c16_113 (rw_iload_n (pc' := 114) (z := v227807) rfl rfl ?_)
          refine wp_of e16 c16_114 (rw_aload_n (pc' := 115) (v := .ref r0) rfl rfl rfl ?_)
          have k227819 : H227808 r0 1 = H r0 1 := ((f227810 r0 1 _ g0 rfl).trans ((wq_u_j e227748 rfl).trans ((f227485 r0 1 _ g0 rfl).trans (wq_u_j e227399 rfl))))
          refine wp_of e16 c16_115 (xg_I (pc' := 118) lf_2_19 w227809 g0 sh_4 (by decide) (by decide) ty_4_1 rfl rfl (fun b227820 b227821 => ?_))
          refine wp_of e16 c16_118 (rw_icmp_ge (p1 := 174) (p2 := 121) (by decide) rfl ⟨by omega, by omega⟩ ⟨by omega, by omega⟩ (fun c227822 => ?_) (fun c227822 => ?_))
          · have := @xG_ez 48 57 B n v227807
            have := @xV_of B n q v227807
            exact wp_lc (ks := [1, 2, 0]) (wl_c rfl (wl_c rfl (wl_c rfl wl_n))) rfl (by decide) (jn227576 v227807 H227808 w227809 f227818 ⟨by omega, by omega⟩ (by omega))
          · refine wp_of e16 c16_121 (rw_iload_n (pc' := 122) (z := v227481 - (H227482 r0 4)) rfl rfl ?_)
            refine wp_of e16 c16_122 (rw_if_ne (p1 := 174) (p2 := 125) (by decide) rfl ⟨by omega, by omega⟩ (fun c227823 => ?_) (fun c227823 => ?_))
            · have := @xG_ez 48 57 B n v227807
              have := @xV_of B n q v227807
              exact wp_lc (ks := [1, 2, 0]) (wl_c rfl (wl_c rfl (wl_c rfl wl_n))) rfl (by decide) (jn227576 v227807 H227808 w227809 f227818 ⟨by omega, by omega⟩ (by omega))
            · refine wp_of e16 c16_125 (rw_aload_n (pc' := 126) (v := .ref r0) rfl rfl rfl ?_)
              have k227824 : H227808 r0 0 = H r0 0 := ((f227810 r0 0 _ g0 rfl).trans ((wq_u_j e227748 rfl).trans ((f227485 r0 0 _ g0 rfl).trans (wq_u_j e227399 rfl))))
              have q227825 : H227808 r0 0 = (rb : Int) := k227824.trans qrb
              refine wp_of e16 c16_126 (xg_K (pc' := 129) lf_2_7 w227809 g0 sh_4 (by decide) (by decide) rfl q227825 rfl ?_)
              refine wp_of e16 c16_129 (rw_iload_n (pc' := 130) (z := v227807) rfl rfl ?_)
              refine wp_of e16 c16_130 (xa_B (by decide) (pc' := 131) w227809 grb sh_2 (by decide) (ty_2 _) (by omega) (by omega) rfl (fun b227826 b227827 => ?_))
              have h227828 : TP T H227808 rb B := (TP_fr w227749 grb f227810 rfl (TP_fr w227484 grb ((wfr.rf (l := [(4, 5)])).put' e227748 g0 rfl) rfl (TP_fr w227400 grb f227485 rfl (TP_fr hW grb ((wfr.rf (l := [(4, 4)])).put' e227399 g0 rfl) rfl hTP_rb))))
              have := h227828 (v227807.toNat) (by omega)
              refine wp_of e16 c16_131 (rw_bipush (pc' := 133) (z := 48) rfl (by decide) ?_)
              refine wp_of e16 c16_133 (rw_icmp_lt (p1 := 174) (p2 := 136) (by decide) rfl ⟨by omega, by omega⟩ ⟨by omega, by omega⟩ (fun c227829 => ?_) (fun c227829 => ?_))
              · have := @xG_ez 48 57 B n v227807
                have := @xV_of B n q v227807
                exact wp_lc (ks := [1, 2, 0]) (wl_c rfl (wl_c rfl (wl_c rfl wl_n))) rfl (by decide) (jn227576 v227807 H227808 w227809 f227818 ⟨by omega, by omega⟩ (by omega))
              · refine wp_of e16 c16_136 (rw_aload_n (pc' := 137) (v := .ref r0) rfl rfl rfl ?_)
                refine wp_of e16 c16_137 (xg_K (pc' := 140) lf_2_7 w227809 g0 sh_4 (by decide) (by decide) rfl q227825 rfl ?_)
                refine wp_of e16 c16_140 (rw_iload_n (pc' := 141) (z := v227807) rfl rfl ?_)
                refine wp_of e16 c16_141 (xa_B (by decide) (pc' := 142) w227809 grb sh_2 (by decide) (ty_2 _) (by omega) (by omega) rfl (fun b227830 b227831 => ?_))
                have := h227828 (v227807.toNat) (by omega)
                refine wp_of e16 c16_142 (rw_bipush (pc' := 144) (z := 57) rfl (by decide) ?_)
                refine wp_of e16 c16_144 (rw_icmp_gt (p1 := 174) (p2 := 147) (by decide) rfl ⟨by omega, by omega⟩ ⟨by omega, by omega⟩ (fun c227832 => ?_) (fun c227832 => ?_))
                · have := @xG_ez 48 57 B n v227807
                  have := @xV_of B n q v227807
                  exact wp_lc (ks := [1, 2, 0]) (wl_c rfl (wl_c rfl (wl_c rfl wl_n))) rfl (by decide) (jn227576 v227807 H227808 w227809 f227818 ⟨by omega, by omega⟩ (by omega))
                · refine wp_of e16 c16_147 (rw_aload_n (pc' := 148) (v := .ref r0) rfl rfl rfl ?_)
                  refine wp_of e16 c16_148 (rw_aload_n (pc' := 149) (v := .ref r0) rfl rfl rfl ?_)
                  refine wp_of e16 c16_149 (xg_I (pc' := 152) lf_2_38 w227809 g0 sh_4 (by decide) (by decide) ty_4_5 rfl rfl (fun b227833 b227834 => ?_))
                  refine wp_of e16 c16_152 (rw_bipush (pc' := 154) (z := 10) rfl (by decide) ?_)
                  refine wp_of e16 c16_154 (rw_imulw (pc' := 155) rfl ?_)
                  obtain ⟨v227835, e227836⟩ : ∃ x : Int, x = wq_w ((H227808 r0 5) * 10) := ⟨_, rfl⟩
                  rw [← e227836]
                  have b227837 : -2147483648 ≤ v227835 ∧ v227835 ≤ 2147483647 := by
                    rw [e227836]
                    exact wI_w _
                  have b227838 : (-2147483648 ≤ (H227808 r0 5) * 10 ∧ (H227808 r0 5) * 10 ≤ 2147483647) → v227835 = (H227808 r0 5) * 10 := fun h => by rw [e227836]; exact wq_w_id h
                  refine wp_of e16 c16_155 (rw_aload_n (pc' := 156) (v := .ref r0) rfl rfl rfl ?_)
                  refine wp_of e16 c16_156 (xg_K (pc' := 159) lf_2_7 w227809 g0 sh_4 (by decide) (by decide) rfl q227825 rfl ?_)
                  refine wp_of e16 c16_159 (rw_iload_n (pc' := 160) (z := v227807) rfl rfl ?_)
                  refine wp_of e16 c16_160 (xa_B (by decide) (pc' := 161) w227809 grb sh_2 (by decide) (ty_2 _) (by omega) (by omega) rfl (fun b227839 b227840 => ?_))
                  have := h227828 (v227807.toNat) (by omega)
                  refine wp_of e16 c16_161 (rw_bipush (pc' := 163) (z := 48) rfl (by decide) ?_)
                  refine wp_of e16 c16_163 (rw_isub (pc' := 164) rfl ?_)
                  refine wp_of e16 c16_164 (rw_iaddw (pc' := 165) rfl ?_)
                  obtain ⟨v227841, e227842⟩ : ∃ x : Int, x = wq_w (v227835 + ((H227808 rb (v227807.toNat)) - 48)) := ⟨_, rfl⟩
                  rw [← e227842]
                  have b227843 : -2147483648 ≤ v227841 ∧ v227841 ≤ 2147483647 := by
                    rw [e227842]
                    exact wI_w _
                  have b227844 : (-2147483648 ≤ v227835 + ((H227808 rb (v227807.toNat)) - 48) ∧ v227835 + ((H227808 rb (v227807.toNat)) - 48) ≤ 2147483647) → v227841 = v227835 + ((H227808 rb (v227807.toNat)) - 48) := fun h => by rw [e227842]; exact wq_w_id h
                  refine wp_of e16 c16_165 (xp_I (pc' := 168) lf_2_38 w227809 g0 sh_4 (by decide) (by decide) ty_4_5 rfl rfl (by omega) (by omega) ⟨by omega, by omega⟩ rfl (fun H227845 e227846 w227847 => ?_))
                  have f227848 := f227817.put' e227846 g0 rfl
                  have f227849 := f227818.put' e227846 g0 rfl
                  have f227850 := f227810.put' e227846 g0 rfl
                  have k227851 : H227845 r0 5 = v227841 := wq_u_s e227846
                  refine wp_of e16 c16_168 (rw_iinc (pc' := 171) (z := v227807) (L' := [(1, vI (v227807 + 1)), (2, vI (v227481 - (H227482 r0 4))), (0, .ref r0)]) rfl rfl rfl rfl ?_)
                  refine wp_of e16 c16_171 (rw_goto (p1 := 113) (by decide) ?_)
                  have := @xG_s 48 57 B n v227807 (by omega) (by omega) (by omega)
                  have := @xkf_s B q 10 48 v227807 (by omega)
                  exact wp_lc (ks := [1, 2, 0]) (wl_c rfl (wl_c rfl (wl_c rfl wl_n))) rfl (by decide) (ih227806 _ (by omega) (v227807 + 1) H227845 w227847 f227850 ⟨by omega, by omega⟩ (by omega) (by omega) (by omega) (by omega) rfl)
      have := @xkf_q B q v227481 10 48
      have := @xG_q 48 57 B n q v227481
      exact wp_lc (ks := [2, 1, 0]) (wl_c rfl (wl_c rfl (wl_c rfl wl_n))) rfl (by decide) (lp227804 _ v227481 H227747 w227749 wfr.rf ⟨by omega, by omega⟩ (by omega) (by omega) (by omega) (by omega) rfl)
    have f227852 : wfr [(4, 6)] T H227398 H227398 := wfr.rf
    refine wp_of e16 c16_35 (rw_aload_n (pc' := 36) (v := .ref r0) rfl rfl rfl ?_)
    refine wp_of e16 c16_36 (rw_lconst (pc' := 37) (z := 0) rfl rfl ?_)
    refine wp_of e16 c16_37 (xp_L (pc' := 40) lf_2_32 w227400 g0 sh_4 (by decide) (by decide) ty_4_6 rfl rfl (by omega) (by omega) ⟨by omega, by omega⟩ rfl (fun H227853 e227854 w227855 => ?_))
    have f227856 := f227401.put' e227854 g0 rfl
    have f227857 := f227852.put' e227854 g0 rfl
    have k227858 : H227853 r0 6 = 0 := wq_u_s e227854
    have lp227908 : ∀ (n227909 : Nat) (v227911 : Int) (H227912 : wq_H), WT T H227912 → wfr [(4, 6)] T H227853 H227912 → (0 ≤ v227911 ∧ v227911 ≤ 900) → (xG 97 122 B n v227911 = xG 97 122 B n q) → (q ≤ v227911) → (v227911 ≤ n) → (8 < v227911 - q ∨ H227912 r0 6 = xkf 32 96 B q (v227911 - q).toNat) → (900 - v227911).toNat = n227909 → wp kt 0 16 40 [(1, vI v227911), (0, .ref r0)] [] T H227912 (uq_16 r0 rb B n a q T H) := by
      intro n227909
      induction n227909 using Nat.strongRecOn with
      | _ n227909 ih227910 =>
        intro v227911 H227912 w227913 f227914 b227915 x227916 x227917 x227918 x227919 m227920
        have f227921 := f227856.tr f227914 rfl
        have f227922 := f227857.tr f227914 rfl
        have := @xG_b 97 122 B n v227911
        have := @xkf_Y2 B n q v227911 (by omega) (by omega)
        refine wp_of e16 c16_40 (rw_iload_n (pc' := 41) (z := v227911) rfl rfl ?_)
        refine wp_of e16 c16_41 (rw_aload_n (pc' := 42) (v := .ref r0) rfl rfl rfl ?_)
        have k227923 : H227912 r0 1 = H r0 1 := ((f227914 r0 1 _ g0 rfl).trans ((wq_u_j e227854 rfl).trans (wq_u_j e227399 rfl)))
        refine wp_of e16 c16_42 (xg_I (pc' := 45) lf_2_19 w227913 g0 sh_4 (by decide) (by decide) ty_4_1 rfl rfl (fun b227924 b227925 => ?_))
        refine wp_of e16 c16_45 (rw_icmp_ge (p1 := 101) (p2 := 48) (by decide) rfl ⟨by omega, by omega⟩ ⟨by omega, by omega⟩ (fun c227926 => ?_) (fun c227926 => ?_))
        · have k227927 : H227912 r0 4 = H227398 r0 4 := ((f227914 r0 4 _ g0 rfl).trans (wq_u_j e227854 rfl))
          have := @xG_e 97 122 B n v227911 (by omega)
          have := @xY_of B n q v227911
          exact wp_lc (ks := [1, 0]) (wl_c rfl (wl_c rfl wl_n)) rfl (by decide) (jn227483 v227911 H227912 w227913 f227922 ⟨by omega, by omega⟩ (by omega) (by omega))
        · refine wp_of e16 c16_48 (rw_aload_n (pc' := 49) (v := .ref r0) rfl rfl rfl ?_)
          have k227928 : H227912 r0 0 = H r0 0 := ((f227914 r0 0 _ g0 rfl).trans ((wq_u_j e227854 rfl).trans (wq_u_j e227399 rfl)))
          have q227929 : H227912 r0 0 = (rb : Int) := k227928.trans qrb
          refine wp_of e16 c16_49 (xg_K (pc' := 52) lf_2_7 w227913 g0 sh_4 (by decide) (by decide) rfl q227929 rfl ?_)
          refine wp_of e16 c16_52 (rw_iload_n (pc' := 53) (z := v227911) rfl rfl ?_)
          refine wp_of e16 c16_53 (xa_B (by decide) (pc' := 54) w227913 grb sh_2 (by decide) (ty_2 _) (by omega) (by omega) rfl (fun b227930 b227931 => ?_))
          have h227932 : TP T H227912 rb B := (TP_fr w227855 grb f227914 rfl (TP_fr w227400 grb ((wfr.rf (l := [(4, 6)])).put' e227854 g0 rfl) rfl (TP_fr hW grb ((wfr.rf (l := [(4, 4)])).put' e227399 g0 rfl) rfl hTP_rb)))
          have := h227932 (v227911.toNat) (by omega)
          refine wp_of e16 c16_54 (rw_bipush (pc' := 56) (z := 97) rfl (by decide) ?_)
          refine wp_of e16 c16_56 (rw_icmp_lt (p1 := 101) (p2 := 59) (by decide) rfl ⟨by omega, by omega⟩ ⟨by omega, by omega⟩ (fun c227933 => ?_) (fun c227933 => ?_))
          · have k227934 : H227912 r0 4 = H227398 r0 4 := ((f227914 r0 4 _ g0 rfl).trans (wq_u_j e227854 rfl))
            have := @xG_e 97 122 B n v227911 (by omega)
            have := @xY_of B n q v227911
            exact wp_lc (ks := [1, 0]) (wl_c rfl (wl_c rfl wl_n)) rfl (by decide) (jn227483 v227911 H227912 w227913 f227922 ⟨by omega, by omega⟩ (by omega) (by omega))
          · refine wp_of e16 c16_59 (rw_aload_n (pc' := 60) (v := .ref r0) rfl rfl rfl ?_)
            refine wp_of e16 c16_60 (xg_K (pc' := 63) lf_2_7 w227913 g0 sh_4 (by decide) (by decide) rfl q227929 rfl ?_)
            refine wp_of e16 c16_63 (rw_iload_n (pc' := 64) (z := v227911) rfl rfl ?_)
            refine wp_of e16 c16_64 (xa_B (by decide) (pc' := 65) w227913 grb sh_2 (by decide) (ty_2 _) (by omega) (by omega) rfl (fun b227935 b227936 => ?_))
            have := h227932 (v227911.toNat) (by omega)
            refine wp_of e16 c16_65 (rw_bipush (pc' := 67) (z := 122) rfl (by decide) ?_)
            refine wp_of e16 c16_67 (rw_icmp_gt (p1 := 101) (p2 := 70) (by decide) rfl ⟨by omega, by omega⟩ ⟨by omega, by omega⟩ (fun c227937 => ?_) (fun c227937 => ?_))
            · have k227938 : H227912 r0 4 = H227398 r0 4 := ((f227914 r0 4 _ g0 rfl).trans (wq_u_j e227854 rfl))
              have := @xG_e 97 122 B n v227911 (by omega)
              have := @xY_of B n q v227911
              exact wp_lc (ks := [1, 0]) (wl_c rfl (wl_c rfl wl_n)) rfl (by decide) (jn227483 v227911 H227912 w227913 f227922 ⟨by omega, by omega⟩ (by omega) (by omega))
            · refine wp_of e16 c16_70 (rw_aload_n (pc' := 71) (v := .ref r0) rfl rfl rfl ?_)
              refine wp_of e16 c16_71 (rw_aload_n (pc' := 72) (v := .ref r0) rfl rfl rfl ?_)
              refine wp_of e16 c16_72 (xg_L (pc' := 75) lf_2_32 w227913 g0 sh_4 (by decide) (by decide) ty_4_6 rfl rfl (fun b227939 b227940 => ?_))
              refine wp_of e16 c16_75 (rw_ldc2 (pc' := 78) (z := 32) rfl rfl rfl ?_)
              refine wp_of e16 c16_78 (rw_lmulw (pc' := 79) rfl ?_)
              obtain ⟨v227941, e227942⟩ : ∃ x : Int, x = wl_w ((H227912 r0 6) * 32) := ⟨_, rfl⟩
              rw [← e227942]
              have b227943 : -9223372036854775808 ≤ v227941 ∧ v227941 ≤ 9223372036854775807 := by
                rw [e227942]
                exact wL_w _
              have b227944 : (-9223372036854775808 ≤ (H227912 r0 6) * 32 ∧ (H227912 r0 6) * 32 ≤ 9223372036854775807) → v227941 = (H227912 r0 6) * 32 := fun h => by rw [e227942]; exact wl_w_id h
              refine wp_of e16 c16_79 (rw_aload_n (pc' := 80) (v := .ref r0) rfl rfl rfl ?_)
              refine wp_of e16 c16_80 (xg_K (pc' := 83) lf_2_7 w227913 g0 sh_4 (by decide) (by decide) rfl q227929 rfl ?_)
              refine wp_of e16 c16_83 (rw_iload_n (pc' := 84) (z := v227911) rfl rfl ?_)
              refine wp_of e16 c16_84 (xa_B (by decide) (pc' := 85) w227913 grb sh_2 (by decide) (ty_2 _) (by omega) (by omega) rfl (fun b227945 b227946 => ?_))
              have := h227932 (v227911.toNat) (by omega)
              refine wp_of e16 c16_85 (rw_bipush (pc' := 87) (z := 97) rfl (by decide) ?_)
              refine wp_of e16 c16_87 (rw_isub (pc' := 88) rfl ?_)
              refine wp_of e16 c16_88 (rw_iconst (pc' := 89) rfl ?_)
              refine wp_of e16 c16_89 (rw_iadd (pc' := 90) rfl ?_)
              refine wp_of e16 c16_90 (rw_i2l (pc' := 91) rfl ⟨by omega, by omega⟩ ?_)
              refine wp_of e16 c16_91 (rw_laddw (pc' := 92) rfl ?_)
              obtain ⟨v227947, e227948⟩ : ∃ x : Int, x = wl_w (v227941 + (((H227912 rb (v227911.toNat)) - 97) + 1)) := ⟨_, rfl⟩
              rw [← e227948]
              have b227949 : -9223372036854775808 ≤ v227947 ∧ v227947 ≤ 9223372036854775807 := by
                rw [e227948]
                exact wL_w _
              have b227950 : (-9223372036854775808 ≤ v227941 + (((H227912 rb (v227911.toNat)) - 97) + 1) ∧ v227941 + (((H227912 rb (v227911.toNat)) - 97) + 1) ≤ 9223372036854775807) → v227947 = v227941 + (((H227912 rb (v227911.toNat)) - 97) + 1) := fun h => by rw [e227948]; exact wl_w_id h
              refine wp_of e16 c16_92 (xp_L (pc' := 95) lf_2_32 w227913 g0 sh_4 (by decide) (by decide) ty_4_6 rfl rfl (by omega) (by omega) ⟨by omega, by omega⟩ rfl (fun H227951 e227952 w227953 => ?_))
              have f227954 := f227921.put' e227952 g0 rfl
              have f227955 := f227922.put' e227952 g0 rfl
              have f227956 := f227914.put' e227952 g0 rfl
              have k227957 : H227951 r0 6 = v227947 := wq_u_s e227952
              refine wp_of e16 c16_95 (rw_iinc (pc' := 98) (z := v227911) (L' := [(1, vI (v227911 + 1)), (0, .ref r0)]) rfl rfl rfl rfl ?_)
              refine wp_of e16 c16_98 (rw_goto (p1 := 40) (by decide) ?_)
              have := @xG_s 97 122 B n v227911 (by omega) (by omega) (by omega)
              have := @xkf_s B q 32 96 v227911 (by omega)
              exact wp_lc (ks := [1, 0]) (wl_c rfl (wl_c rfl wl_n)) rfl (by decide) (ih227910 _ (by omega) (v227911 + 1) H227951 w227953 f227956 ⟨by omega, by omega⟩ (by omega) (by omega) (by omega) (by omega) rfl)
    have := @xkf_q B q v227392 32 96
    have := @xG_q 97 122 B n q v227392
    exact wp_lc (ks := [1, 0]) (wl_c rfl (wl_c rfl wl_n)) rfl (by decide) (lp227908 _ v227392 H227853 w227855 wfr.rf ⟨by omega, by omega⟩ (by omega) (by omega) (by omega) (by omega) rfl)
  refine wp_of e16 c16_4 (rw_istore_n (pc' := 5) (z := H r0 2) (L' := [(1, vI (H r0 2)), (0, .ref r0)]) rfl rfl rfl ?_)
  have lp227967 : ∀ (n227968 : Nat) (v227970 : Int), (0 ≤ v227970 ∧ v227970 ≤ 900) → (xG 32 32 B n v227970 = q) → (v227970 ≤ n) → (900 - v227970).toNat = n227968 → wp kt 0 16 5 [(1, vI v227970), (0, .ref r0)] [] T H (uq_16 r0 rb B n a q T H) := by
    intro n227968
    induction n227968 using Nat.strongRecOn with
    | _ n227968 ih227969 =>
      intro v227970 b227973 x227974 x227975 m227976
      refine wp_of e16 c16_5 (rw_iload_n (pc' := 6) (z := v227970) rfl rfl ?_)
      refine wp_of e16 c16_6 (rw_aload_n (pc' := 7) (v := .ref r0) rfl rfl rfl ?_)
      refine wp_of e16 c16_7 (xg_I (pc' := 10) lf_2_19 hW g0 sh_4 (by decide) (by decide) ty_4_1 rfl rfl (fun b227977 b227978 => ?_))
      refine wp_of e16 c16_10 (rw_icmp_ge (p1 := 30) (p2 := 13) (by decide) rfl ⟨by omega, by omega⟩ ⟨by omega, by omega⟩ (fun c227979 => ?_) (fun c227979 => ?_))
      · have := @xG_e 32 32 B n v227970 (by omega)
        exact wp_lc (ks := [1, 0]) (wl_c rfl (wl_c rfl wl_n)) rfl (by decide) (jn227393 v227970 ⟨by omega, by omega⟩ (by omega))
      · refine wp_of e16 c16_13 (rw_aload_n (pc' := 14) (v := .ref r0) rfl rfl rfl ?_)
        refine wp_of e16 c16_14 (xg_K (pc' := 17) lf_2_7 hW g0 sh_4 (by decide) (by decide) rfl qrb rfl ?_)
        refine wp_of e16 c16_17 (rw_iload_n (pc' := 18) (z := v227970) rfl rfl ?_)
        refine wp_of e16 c16_18 (xa_B (by decide) (pc' := 19) hW grb sh_2 (by decide) (ty_2 _) (by omega) (by omega) rfl (fun b227980 b227981 => ?_))
        have := hTP_rb (v227970.toNat) (by omega)
        refine wp_of e16 c16_19 (rw_bipush (pc' := 21) (z := 32) rfl (by decide) ?_)
        refine wp_of e16 c16_21 (rw_icmp_ne (p1 := 30) (p2 := 24) (by decide) rfl ⟨by omega, by omega⟩ ⟨by omega, by omega⟩ (fun c227982 => ?_) (fun c227982 => ?_))
        · have := @xG_e 32 32 B n v227970 (by omega)
          exact wp_lc (ks := [1, 0]) (wl_c rfl (wl_c rfl wl_n)) rfl (by decide) (jn227393 v227970 ⟨by omega, by omega⟩ (by omega))
        · refine wp_of e16 c16_24 (rw_iinc (pc' := 27) (z := v227970) (L' := [(1, vI (v227970 + 1)), (0, .ref r0)]) rfl rfl rfl rfl ?_)
          refine wp_of e16 c16_27 (rw_goto (p1 := 5) (by decide) ?_)
          have := @xG_s 32 32 B n v227970 (by omega) (by omega) (by omega)
          exact wp_lc (ks := [1, 0]) (wl_c rfl (wl_c rfl wl_n)) rfl (by decide) (ih227969 _ (by omega) (v227970 + 1) ⟨by omega, by omega⟩ (by omega) (by omega) rfl)
  have := @xG_q 32 32 B n a (H r0 2)
  exact wp_lc (ks := [1, 0]) (wl_c rfl (wl_c rfl wl_n)) rfl (by decide) (lp227967 _ (H r0 2) ⟨by omega, by omega⟩ (by omega) (by omega) rfl)
/-! StrikeAwake$Tokens.begin([BI)V  -/
abbrev uq_15 (r0 : Nat) (r1 : Nat) (a2 : Int) (B : Nat → Int) (T : wq_T) (H : wq_H) : Option Value → wq_T → wq_H → Prop := fun r T' H' => T = T' ∧ WT T H' ∧ wfr [(4, 0), (4, 1), (4, 2), (4, 3), (4, 4), (4, 5), (4, 6)] T H H' ∧ none = r ∧ (((H' r0 0 = (r1 : Int)) ∧ TC T H' r0 B a2 (xG 32 32 B a2 0)))
set_option maxHeartbeats 4000000 in
theorem u_15 {kt : Nat → Option mc_E} {T : wq_T} {H : wq_H} {r0 : Nat} {r1 : Nat} {a2 : Int} {B : Nat → Int} (hW : WT T H) (g0 : T.2.2.2 r0 = some 4) (g1 : T.2.2.2 r1 = some 2) (i2 : 0 ≤ a2 ∧ a2 ≤ 900) (hTP_r1 : TP T H r1 B) : wpc kt 2 15 [.ref r0, .ref r1, vI a2] T H (uq_15 r0 r1 a2 B T H) := by
  refine wp_enter e15 (Nat.le_of_ble_eq_true rfl) rfl ?_
  have f0 : wfr [(4, 0), (4, 1), (4, 2), (4, 3), (4, 4), (4, 5), (4, 6)] T H H := wfr.rf
  show wp _ _ 15 0 [(0, .ref r0), (1, .ref r1), (2, vI a2)] [] _ H _
  refine wp_of e15 c15_0 (rw_aload_n (pc' := 1) (v := .ref r0) rfl rfl rfl ?_)
  refine wp_of e15 c15_1 (rw_aload_n (pc' := 2) (v := .ref r1) rfl rfl rfl ?_)
  refine wp_of e15 c15_2 (xp_R (pc' := 5) lf_2_7 hW g0 sh_4 (by decide) (by decide) rfl rfl (wok_4 ty_4_0 g1) rfl (fun H228014 e228015 w228016 => ?_))
  have f228017 := f0.put' e228015 g0 rfl
  have q228018 : H228014 r0 0 = (r1 : Int) := wq_u_s e228015
  refine wp_of e15 c15_5 (rw_aload_n (pc' := 6) (v := .ref r0) rfl rfl rfl ?_)
  refine wp_of e15 c15_6 (rw_iload_n (pc' := 7) (z := a2) rfl rfl ?_)
  refine wp_of e15 c15_7 (rw_aload_n (pc' := 8) (v := .ref r1) rfl rfl rfl ?_)
  refine wp_of e15 c15_8 (xa_N (pc' := 9) (n := 900) w228016 g1 sh_2 (by decide) rfl ?_)
  refine wp_of e15 c15_9 (rw_math2 (pc' := 12) (z := min a2 900) rfl rfl ⟨by omega, by omega⟩ ⟨by omega, by omega⟩ (Or.inl ⟨rfl, rfl⟩) (Nat.le_of_ble_eq_true rfl) rfl ?_)
  obtain ⟨v228019, e228020⟩ : ∃ x : Int, x = min a2 900 := ⟨_, rfl⟩
  rw [← e228020]
  have b228021 : v228019 = a2 ∨ v228019 = 900 := by
    rw [e228020]
    omega
  have b228022 : v228019 ≤ a2 ∧ v228019 ≤ 900 := by
    rw [e228020]
    omega
  refine wp_of e15 c15_12 (xp_I (pc' := 15) lf_2_19 w228016 g0 sh_4 (by decide) (by decide) ty_4_1 rfl rfl (by omega) (by omega) ⟨by omega, by omega⟩ rfl (fun H228023 e228024 w228025 => ?_))
  have f228026 := f228017.put' e228024 g0 rfl
  have k228027 : H228023 r0 1 = v228019 := wq_u_s e228024
  refine wp_of e15 c15_15 (rw_aload_n (pc' := 16) (v := .ref r0) rfl rfl rfl ?_)
  refine wp_of e15 c15_16 (rw_iconst (pc' := 17) rfl ?_)
  refine wp_of e15 c15_17 (xp_I (pc' := 20) lf_2_23 w228025 g0 sh_4 (by decide) (by decide) ty_4_2 rfl rfl (by omega) (by omega) ⟨by omega, by omega⟩ rfl (fun H228028 e228029 w228030 => ?_))
  have f228031 := f228026.put' e228029 g0 rfl
  have k228032 : H228028 r0 2 = 0 := wq_u_s e228029
  refine wp_of e15 c15_20 (rw_aload_n (pc' := 21) (v := .ref r0) rfl rfl rfl ?_)
  have k228033 : H228028 r0 0 = H228014 r0 0 := ((wq_u_j e228029 rfl).trans (wq_u_j e228024 rfl))
  have q228034 : H228028 r0 0 = (r1 : Int) := k228033.trans q228018
  have k228035 : H228028 r0 1 = H228023 r0 1 := (wq_u_j e228029 rfl)
  have h228036 : TP T H228028 r1 B := (TP_fr w228025 g1 ((wfr.rf (l := [(4, 2)])).put' e228029 g0 rfl) rfl (TP_fr w228016 g1 ((wfr.rf (l := [(4, 1)])).put' e228024 g0 rfl) rfl (TP_fr hW g1 ((wfr.rf (l := [(4, 0)])).put' e228015 g0 rfl) rfl hTP_r1)))
  refine wp_of e15 c15_21 (xc_V (pc' := 24) (r := r0) (as := []) (st := []) (lm_2_26) rfl rfl (Nat.le_of_ble_eq_true rfl) w228030 g0 sh_4 (by decide) rfl (by decide) (u_16 (B := B) (n := a2) (a := 0) (q := (xG 32 32 B a2 0)) w228030 g0 q228034 g1 (by omega) (by omega) (by omega) (rfl) h228036) (fun R228037 T228038 H228039 p228040 => ?_))
  obtain ⟨e228041, w228043, f228044, e228042, p228045⟩ := p228040
  subst e228041
  subst e228042
  have f228047 := f228031.tr f228044 rfl
  show wp _ _ 15 24 [(0, .ref r0), (1, .ref r1), (2, vI a2)] [] _ H228039 _
  have u228048 := TC_k p228045
  have k228049 : H228039 r0 0 = H228028 r0 0 := (f228044 r0 0 _ g0 rfl)
  have q228050 : H228039 r0 0 = (r1 : Int) := k228049.trans q228034
  exact wp_return e15 c15_24 rfl ⟨rfl, w228043, f228047, rfl, ⟨q228050, p228045⟩⟩
/-! StrikeAwake$Tokens.isWord(Ljava/lang/String;)Z  -/
abbrev uq_19 (r0 : Nat) (s1 : Nat) (kk : Int) (T : wq_T) (H : wq_H) : Option Value → wq_T → wq_H → Prop := fun r T' H' => T = T' ∧ H = H' ∧ ∃ z : Int, some (vI z) = r ∧ (0 ≤ z ∧ z ≤ 1) ∧ (((z = 1) ∧ (H r0 3 = 1 ∧ H r0 6 = kk)) ∨ ((z = 0) ∧ (H r0 3 ≠ 1 ∨ H r0 6 ≠ kk)))
set_option maxHeartbeats 4000000 in
theorem u_19 {kt : Nat → Option mc_E} {T : wq_T} {H : wq_H} {r0 : Nat} {s1 : Nat} {t1 : List Int32} {kk : Int} (hW : WT T H) (g0 : T.2.2.2 r0 = some 4) (h1 : mc_find mc_sb s1 = some t1) (p0 : wkw t1 t1.length = kk) : wpc kt 1 19 [.ref r0, .ref s1] T H (uq_19 r0 s1 kk T H) := by
  refine wp_enter e19 (Nat.le_of_ble_eq_true rfl) rfl ?_
  show wp _ _ 19 0 [(0, .ref r0), (1, .ref s1)] [] _ H _
  refine wp_of e19 c19_0 (rw_aload_n (pc' := 1) (v := .ref r0) rfl rfl rfl ?_)
  refine wp_of e19 c19_1 (xg_I (pc' := 4) lf_2_41 hW g0 sh_4 (by decide) (by decide) ty_4_3 rfl rfl (fun b228155 b228156 => ?_))
  refine wp_of e19 c19_4 (rw_iconst (pc' := 5) rfl ?_)
  refine wp_of e19 c19_5 (rw_icmp_eq (p1 := 10) (p2 := 8) (by decide) rfl ⟨by omega, by omega⟩ ⟨by omega, by omega⟩ (fun c228157 => ?_) (fun c228157 => ?_))
  · refine wp_of e19 c19_10 (rw_lconst (pc' := 11) (z := 0) rfl rfl ?_)
    refine wp_of e19 c19_11 (rw_lstore_n (pc' := 12) (z := 0) (L' := [(2, vL 0), (0, .ref r0), (1, .ref s1)]) rfl rfl rfl ?_)
    refine wp_of e19 c19_12 (rw_iconst (pc' := 13) rfl ?_)
    refine wp_of e19 c19_13 (rw_istore (pc' := 15) (z := 0) (L' := [(4, vI 0), (2, vL 0), (0, .ref r0), (1, .ref s1)]) rfl rfl rfl ?_)
    have lp228242 : ∀ (n228243 : Nat) (v228245 : Int) (v228246 : Int), (0 ≤ v228245 ∧ v228245 ≤ 63) → ((-9223372036854775808) ≤ v228246 ∧ v228246 ≤ 9223372036854775807) → (v228246 = wkw t1 (v228245).toNat) → (v228245 ≤ (t1.length : Int)) → (63 - v228245).toNat = n228243 → wp kt 0 19 15 [(4, vI v228245), (2, vL v228246), (0, .ref r0), (1, .ref s1)] [] T H (uq_19 r0 s1 kk T H) := by
      intro n228243
      induction n228243 using Nat.strongRecOn with
      | _ n228243 ih228244 =>
        intro v228245 v228246 b228249 b228250 x228251 x228252 m228253
        refine wp_of e19 c19_15 (rw_iload (pc' := 17) (z := v228245) rfl rfl ?_)
        refine wp_of e19 c19_17 (rw_aload_n (pc' := 18) (v := .ref s1) rfl rfl rfl ?_)
        refine wp_of e19 c19_18 (rw_slen (pc' := 21) rfl rfl rfl h1 (Nat.le_of_ble_eq_true rfl) rfl ?_)
        have k228254 := (mc_sb_k h1).2.1
        show wp _ _ 19 21 [(4, vI v228245), (2, vL v228246), (0, .ref r0), (1, .ref s1)] [vI ((t1.length : Int)), vI v228245] _ H _
        refine wp_of e19 c19_21 (rw_icmp_ge (p1 := 49) (p2 := 24) (by decide) rfl ⟨by omega, by omega⟩ ⟨by omega, by omega⟩ (fun c228255 => ?_) (fun c228255 => ?_))
        · have : wkw t1 (v228245).toNat = kk := by
            rw [show (v228245).toNat = t1.length by omega]
            exact p0
          refine wp_of e19 c19_49 (rw_lload_n (pc' := 50) (z := v228246) rfl rfl ?_)
          refine wp_of e19 c19_50 (rw_aload_n (pc' := 51) (v := .ref r0) rfl rfl rfl ?_)
          refine wp_of e19 c19_51 (xg_L (pc' := 54) lf_2_32 hW g0 sh_4 (by decide) (by decide) ty_4_6 rfl rfl (fun b228256 b228257 => ?_))
          refine wp_of e19 c19_54 (rw_lcmp (pc' := 55) rfl ⟨by omega, by omega⟩ ⟨by omega, by omega⟩ ?_)
          have b228258 := wq_cmp_b v228246 (H r0 6)
          refine wp_of e19 c19_55 (rw_if_ne (p1 := 62) (p2 := 58) (by decide) rfl ⟨by omega, by omega⟩ (fun c228259 => ?_) (fun c228259 => ?_))
          · refine wp_of e19 c19_62 (rw_iconst (pc' := 63) rfl ?_)
            exact wp_zreturn e19 c19_63 rfl (by omega) ⟨rfl, rfl, 0, rfl, ⟨by omega, by omega⟩, (Or.inr ⟨by omega, by omega⟩)⟩
          · refine wp_of e19 c19_58 (rw_iconst (pc' := 59) rfl ?_)
            refine wp_of e19 c19_59 (rw_goto (p1 := 63) (by decide) ?_)
            exact wp_zreturn e19 c19_63 rfl (by omega) ⟨rfl, rfl, 1, rfl, ⟨by omega, by omega⟩, (Or.inl ⟨by omega, by omega⟩)⟩
        · refine wp_of e19 c19_24 (rw_lload_n (pc' := 25) (z := v228246) rfl rfl ?_)
          refine wp_of e19 c19_25 (rw_ldc2 (pc' := 28) (z := 32) rfl rfl rfl ?_)
          refine wp_of e19 c19_28 (rw_lmulw (pc' := 29) rfl ?_)
          obtain ⟨v228260, e228261⟩ : ∃ x : Int, x = wl_w (v228246 * 32) := ⟨_, rfl⟩
          rw [← e228261]
          have b228262 : -9223372036854775808 ≤ v228260 ∧ v228260 ≤ 9223372036854775807 := by
            rw [e228261]
            exact wL_w _
          have b228263 : (-9223372036854775808 ≤ v228246 * 32 ∧ v228246 * 32 ≤ 9223372036854775807) → v228260 = v228246 * 32 := fun h => by rw [e228261]; exact wl_w_id h
          refine wp_of e19 c19_29 (rw_aload_n (pc' := 30) (v := .ref s1) rfl rfl rfl ?_)
          refine wp_of e19 c19_30 (rw_iload (pc' := 32) (z := v228245) rfl rfl ?_)
          refine wp_of e19 c19_32 (rw_schr (pc' := 35) rfl rfl rfl h1 (by omega) (by omega) (Nat.le_of_ble_eq_true rfl) rfl ?_)
          obtain ⟨v228264, e228265⟩ : ∃ x : Int, x = (t1.getD (v228245).toNat 0).toInt := ⟨_, rfl⟩
          rw [← e228265]
          have b228266 : -2147483648 ≤ v228264 ∧ v228264 ≤ 2147483647 := by
            rw [e228265]
            exact wI_of _
          refine wp_of e19 c19_35 (rw_bipush (pc' := 37) (z := 97) rfl (by decide) ?_)
          refine wp_of e19 c19_37 (rw_isubw (pc' := 38) rfl ?_)
          obtain ⟨v228267, e228268⟩ : ∃ x : Int, x = wq_w (v228264 - 97) := ⟨_, rfl⟩
          rw [← e228268]
          have b228269 : -2147483648 ≤ v228267 ∧ v228267 ≤ 2147483647 := by
            rw [e228268]
            exact wI_w _
          have b228270 : (-2147483648 ≤ v228264 - 97 ∧ v228264 - 97 ≤ 2147483647) → v228267 = v228264 - 97 := fun h => by rw [e228268]; exact wq_w_id h
          refine wp_of e19 c19_38 (rw_iconst (pc' := 39) rfl ?_)
          refine wp_of e19 c19_39 (rw_iaddw (pc' := 40) rfl ?_)
          obtain ⟨v228271, e228272⟩ : ∃ x : Int, x = wq_w (v228267 + 1) := ⟨_, rfl⟩
          rw [← e228272]
          have b228273 : -2147483648 ≤ v228271 ∧ v228271 ≤ 2147483647 := by
            rw [e228272]
            exact wI_w _
          have b228274 : (-2147483648 ≤ v228267 + 1 ∧ v228267 + 1 ≤ 2147483647) → v228271 = v228267 + 1 := fun h => by rw [e228272]; exact wq_w_id h
          refine wp_of e19 c19_40 (rw_i2l (pc' := 41) rfl ⟨by omega, by omega⟩ ?_)
          refine wp_of e19 c19_41 (rw_laddw (pc' := 42) rfl ?_)
          obtain ⟨v228275, e228276⟩ : ∃ x : Int, x = wl_w (v228260 + v228271) := ⟨_, rfl⟩
          rw [← e228276]
          have b228277 : -9223372036854775808 ≤ v228275 ∧ v228275 ≤ 9223372036854775807 := by
            rw [e228276]
            exact wL_w _
          have b228278 : (-9223372036854775808 ≤ v228260 + v228271 ∧ v228260 + v228271 ≤ 9223372036854775807) → v228275 = v228260 + v228271 := fun h => by rw [e228276]; exact wl_w_id h
          refine wp_of e19 c19_42 (rw_lstore_n (pc' := 43) (z := v228275) (L' := [(2, vL v228275), (4, vI v228245), (0, .ref r0), (1, .ref s1)]) rfl rfl rfl ?_)
          refine wp_of e19 c19_43 (rw_iinc (pc' := 46) (z := v228245) (L' := [(4, vI (v228245 + 1)), (2, vL v228275), (0, .ref r0), (1, .ref s1)]) rfl rfl rfl rfl ?_)
          refine wp_of e19 c19_46 (rw_goto (p1 := 15) (by decide) ?_)
          have : wkw t1 (v228245 + 1).toNat = v228275 := by
            subst_vars
            exact wkw_s (by omega)
          exact wp_lc (ks := [4, 2, 0, 1]) (wl_c rfl (wl_c rfl (wl_c rfl (wl_c rfl wl_n)))) rfl (by decide) (ih228244 _ (by omega) (v228245 + 1) v228275 ⟨by omega, by omega⟩ ⟨by omega, by omega⟩ (by omega) (by omega) rfl)
    have : wkw t1 (0 : Int).toNat = 0 := rfl
    exact wp_lc (ks := [4, 2, 0, 1]) (wl_c rfl (wl_c rfl (wl_c rfl (wl_c rfl wl_n)))) rfl (by decide) (lp228242 _ 0 0 ⟨by omega, by omega⟩ ⟨by omega, by omega⟩ (by omega) (by omega) rfl)
  · refine wp_of e19 c19_8 (rw_iconst (pc' := 9) rfl ?_)
    exact wp_zreturn e19 c19_9 rfl (by omega) ⟨rfl, rfl, 0, rfl, ⟨by omega, by omega⟩, (Or.inr ⟨by omega, by omega⟩)⟩
/-! StrikeAwake$Tokens.isWord(Ljava/lang/String;)Z t -/
abbrev uq_19_t (r0 : Nat) (s1 : Nat) (B : Nat → Int) (n : Int) (q : Int) (kk : Int) (T : wq_T) (H : wq_H) : Option Value → wq_T → wq_H → Prop := fun r T' H' => T = T' ∧ H = H' ∧ ∃ z : Int, some (vI z) = r ∧ (0 ≤ z ∧ z ≤ 1) ∧ (((z = 1) ∧ (xw B n q kk = 0)) ∨ ((z = 0) ∧ (xw B n q kk = 1)))
set_option maxHeartbeats 4000000 in
theorem u_19_t {kt : Nat → Option mc_E} {T : wq_T} {H : wq_H} {r0 : Nat} {s1 : Nat} {t1 : List Int32} {B : Nat → Int} {n : Int} {q : Int} {kk : Int} (hW : WT T H) (g0 : T.2.2.2 r0 = some 4) (h1 : mc_find mc_sb s1 = some t1) (p0 : wkw t1 t1.length = kk) (hTC_r0 : TC T H r0 B n q) : wpc kt 1 19 [.ref r0, .ref s1] T H (uq_19_t r0 s1 B n q kk T H) := by
  refine wp_enter e19 (Nat.le_of_ble_eq_true rfl) rfl ?_
  show wp _ _ 19 0 [(0, .ref r0), (1, .ref s1)] [] _ H _
  have u228383 := TC_k hTC_r0
  have _i := TC_i hTC_r0
  have _w := @xw_b B n q kk
  refine wp_of e19 c19_0 (rw_aload_n (pc' := 1) (v := .ref r0) rfl rfl rfl ?_)
  refine wp_of e19 c19_1 (xg_I (pc' := 4) lf_2_41 hW g0 sh_4 (by decide) (by decide) ty_4_3 rfl rfl (fun b228384 b228385 => ?_))
  refine wp_of e19 c19_4 (rw_iconst (pc' := 5) rfl ?_)
  refine wp_of e19 c19_5 (rw_icmp_eq (p1 := 10) (p2 := 8) (by decide) rfl ⟨by omega, by omega⟩ ⟨by omega, by omega⟩ (fun c228386 => ?_) (fun c228386 => ?_))
  · refine wp_of e19 c19_10 (rw_lconst (pc' := 11) (z := 0) rfl rfl ?_)
    refine wp_of e19 c19_11 (rw_lstore_n (pc' := 12) (z := 0) (L' := [(2, vL 0), (0, .ref r0), (1, .ref s1)]) rfl rfl rfl ?_)
    refine wp_of e19 c19_12 (rw_iconst (pc' := 13) rfl ?_)
    refine wp_of e19 c19_13 (rw_istore (pc' := 15) (z := 0) (L' := [(4, vI 0), (2, vL 0), (0, .ref r0), (1, .ref s1)]) rfl rfl rfl ?_)
    have lp228471 : ∀ (n228472 : Nat) (v228474 : Int) (v228475 : Int), (0 ≤ v228474 ∧ v228474 ≤ 63) → ((-9223372036854775808) ≤ v228475 ∧ v228475 ≤ 9223372036854775807) → (v228475 = wkw t1 (v228474).toNat) → (v228474 ≤ (t1.length : Int)) → (63 - v228474).toNat = n228472 → wp kt 0 19 15 [(4, vI v228474), (2, vL v228475), (0, .ref r0), (1, .ref s1)] [] T H (uq_19_t r0 s1 B n q kk T H) := by
      intro n228472
      induction n228472 using Nat.strongRecOn with
      | _ n228472 ih228473 =>
        intro v228474 v228475 b228478 b228479 x228480 x228481 m228482
        refine wp_of e19 c19_15 (rw_iload (pc' := 17) (z := v228474) rfl rfl ?_)
        refine wp_of e19 c19_17 (rw_aload_n (pc' := 18) (v := .ref s1) rfl rfl rfl ?_)
        refine wp_of e19 c19_18 (rw_slen (pc' := 21) rfl rfl rfl h1 (Nat.le_of_ble_eq_true rfl) rfl ?_)
        have k228483 := (mc_sb_k h1).2.1
        show wp _ _ 19 21 [(4, vI v228474), (2, vL v228475), (0, .ref r0), (1, .ref s1)] [vI ((t1.length : Int)), vI v228474] _ H _
        refine wp_of e19 c19_21 (rw_icmp_ge (p1 := 49) (p2 := 24) (by decide) rfl ⟨by omega, by omega⟩ ⟨by omega, by omega⟩ (fun c228484 => ?_) (fun c228484 => ?_))
        · have : wkw t1 (v228474).toNat = kk := by
            rw [show (v228474).toNat = t1.length by omega]
            exact p0
          refine wp_of e19 c19_49 (rw_lload_n (pc' := 50) (z := v228475) rfl rfl ?_)
          refine wp_of e19 c19_50 (rw_aload_n (pc' := 51) (v := .ref r0) rfl rfl rfl ?_)
          refine wp_of e19 c19_51 (xg_L (pc' := 54) lf_2_32 hW g0 sh_4 (by decide) (by decide) ty_4_6 rfl rfl (fun b228485 b228486 => ?_))
          refine wp_of e19 c19_54 (rw_lcmp (pc' := 55) rfl ⟨by omega, by omega⟩ ⟨by omega, by omega⟩ ?_)
          have b228487 := wq_cmp_b v228475 (H r0 6)
          refine wp_of e19 c19_55 (rw_if_ne (p1 := 62) (p2 := 58) (by decide) rfl ⟨by omega, by omega⟩ (fun c228488 => ?_) (fun c228488 => ?_))
          · refine wp_of e19 c19_62 (rw_iconst (pc' := 63) rfl ?_)
            exact wp_zreturn e19 c19_63 rfl (by omega) ⟨rfl, rfl, 0, rfl, ⟨by omega, by omega⟩, (Or.inr ⟨by omega, by omega⟩)⟩
          · refine wp_of e19 c19_58 (rw_iconst (pc' := 59) rfl ?_)
            refine wp_of e19 c19_59 (rw_goto (p1 := 63) (by decide) ?_)
            exact wp_zreturn e19 c19_63 rfl (by omega) ⟨rfl, rfl, 1, rfl, ⟨by omega, by omega⟩, (Or.inl ⟨by omega, by omega⟩)⟩
        · refine wp_of e19 c19_24 (rw_lload_n (pc' := 25) (z := v228475) rfl rfl ?_)
          refine wp_of e19 c19_25 (rw_ldc2 (pc' := 28) (z := 32) rfl rfl rfl ?_)
          refine wp_of e19 c19_28 (rw_lmulw (pc' := 29) rfl ?_)
          obtain ⟨v228489, e228490⟩ : ∃ x : Int, x = wl_w (v228475 * 32) := ⟨_, rfl⟩
          rw [← e228490]
          have b228491 : -9223372036854775808 ≤ v228489 ∧ v228489 ≤ 9223372036854775807 := by
            rw [e228490]
            exact wL_w _
          have b228492 : (-9223372036854775808 ≤ v228475 * 32 ∧ v228475 * 32 ≤ 9223372036854775807) → v228489 = v228475 * 32 := fun h => by rw [e228490]; exact wl_w_id h
          refine wp_of e19 c19_29 (rw_aload_n (pc' := 30) (v := .ref s1) rfl rfl rfl ?_)
          refine wp_of e19 c19_30 (rw_iload (pc' := 32) (z := v228474) rfl rfl ?_)
          refine wp_of e19 c19_32 (rw_schr (pc' := 35) rfl rfl rfl h1 (by omega) (by omega) (Nat.le_of_ble_eq_true rfl) rfl ?_)
          obtain ⟨v228493, e228494⟩ : ∃ x : Int, x = (t1.getD (v228474).toNat 0).toInt := ⟨_, rfl⟩
          rw [← e228494]
          have b228495 : -2147483648 ≤ v228493 ∧ v228493 ≤ 2147483647 := by
            rw [e228494]
            exact wI_of _
          refine wp_of e19 c19_35 (rw_bipush (pc' := 37) (z := 97) rfl (by decide) ?_)
          refine wp_of e19 c19_37 (rw_isubw (pc' := 38) rfl ?_)
          obtain ⟨v228496, e228497⟩ : ∃ x : Int, x = wq_w (v228493 - 97) := ⟨_, rfl⟩
          rw [← e228497]
          have b228498 : -2147483648 ≤ v228496 ∧ v228496 ≤ 2147483647 := by
            rw [e228497]
            exact wI_w _
          have b228499 : (-2147483648 ≤ v228493 - 97 ∧ v228493 - 97 ≤ 2147483647) → v228496 = v228493 - 97 := fun h => by rw [e228497]; exact wq_w_id h
          refine wp_of e19 c19_38 (rw_iconst (pc' := 39) rfl ?_)
          refine wp_of e19 c19_39 (rw_iaddw (pc' := 40) rfl ?_)
          obtain ⟨v228500, e228501⟩ : ∃ x : Int, x = wq_w (v228496 + 1) := ⟨_, rfl⟩
          rw [← e228501]
          have b228502 : -2147483648 ≤ v228500 ∧ v228500 ≤ 2147483647 := by
            rw [e228501]
            exact wI_w _
          have b228503 : (-2147483648 ≤ v228496 + 1 ∧ v228496 + 1 ≤ 2147483647) → v228500 = v228496 + 1 := fun h => by rw [e228501]; exact wq_w_id h
          refine wp_of e19 c19_40 (rw_i2l (pc' := 41) rfl ⟨by omega, by omega⟩ ?_)
          refine wp_of e19 c19_41 (rw_laddw (pc' := 42) rfl ?_)
          obtain ⟨v228504, e228505⟩ : ∃ x : Int, x = wl_w (v228489 + v228500) := ⟨_, rfl⟩
          rw [← e228505]
          have b228506 : -9223372036854775808 ≤ v228504 ∧ v228504 ≤ 9223372036854775807 := by
            rw [e228505]
            exact wL_w _
          have b228507 : (-9223372036854775808 ≤ v228489 + v228500 ∧ v228489 + v228500 ≤ 9223372036854775807) → v228504 = v228489 + v228500 := fun h => by rw [e228505]; exact wl_w_id h
          refine wp_of e19 c19_42 (rw_lstore_n (pc' := 43) (z := v228504) (L' := [(2, vL v228504), (4, vI v228474), (0, .ref r0), (1, .ref s1)]) rfl rfl rfl ?_)
          refine wp_of e19 c19_43 (rw_iinc (pc' := 46) (z := v228474) (L' := [(4, vI (v228474 + 1)), (2, vL v228504), (0, .ref r0), (1, .ref s1)]) rfl rfl rfl rfl ?_)
          refine wp_of e19 c19_46 (rw_goto (p1 := 15) (by decide) ?_)
          have : wkw t1 (v228474 + 1).toNat = v228504 := by
            subst_vars
            exact wkw_s (by omega)
          exact wp_lc (ks := [4, 2, 0, 1]) (wl_c rfl (wl_c rfl (wl_c rfl (wl_c rfl wl_n)))) rfl (by decide) (ih228473 _ (by omega) (v228474 + 1) v228504 ⟨by omega, by omega⟩ ⟨by omega, by omega⟩ (by omega) (by omega) rfl)
    have : wkw t1 (0 : Int).toNat = 0 := rfl
    exact wp_lc (ks := [4, 2, 0, 1]) (wl_c rfl (wl_c rfl (wl_c rfl (wl_c rfl wl_n)))) rfl (by decide) (lp228471 _ 0 0 ⟨by omega, by omega⟩ ⟨by omega, by omega⟩ (by omega) (by omega) rfl)
  · refine wp_of e19 c19_8 (rw_iconst (pc' := 9) rfl ?_)
    exact wp_zreturn e19 c19_9 rfl (by omega) ⟨rfl, rfl, 0, rfl, ⟨by omega, by omega⟩, (Or.inr ⟨by omega, by omega⟩)⟩
/-! StrikeAwake$Reader.fail(I)Z  -/
abbrev uq_20 (r0 : Nat) (a1 : Int) (tk : Nat) (T : wq_T) (H : wq_H) : Option Value → wq_T → wq_H → Prop := fun r T' H' => T = T' ∧ WT T H' ∧ wfr [(3, 3), (3, 4)] T H H' ∧ ∃ z : Int, some (vI z) = r ∧ (0 ≤ z ∧ z ≤ 1) ∧ (((z = 0) ∧ (H' r0 3 = a1) ∧ (H' r0 4 = H tk 4)))
set_option maxHeartbeats 4000000 in
theorem u_20 {kt : Nat → Option mc_E} {T : wq_T} {H : wq_H} {r0 : Nat} {a1 : Int} {tk : Nat} (hW : WT T H) (g0 : T.2.2.2 r0 = some 3) (i1 : (-2147483648) ≤ a1 ∧ a1 ≤ 2147483647) (qtk : H r0 0 = (tk : Int)) (gtk : T.2.2.2 tk = some 4) : wpc kt 1 20 [.ref r0, vI a1] T H (uq_20 r0 a1 tk T H) := by
  refine wp_enter e20 (Nat.le_of_ble_eq_true rfl) rfl ?_
  have f0 : wfr [(3, 3), (3, 4)] T H H := wfr.rf
  show wp _ _ 20 0 [(0, .ref r0), (1, vI a1)] [] _ H _
  refine wp_of e20 c20_0 (rw_aload_n (pc' := 1) (v := .ref r0) rfl rfl rfl ?_)
  refine wp_of e20 c20_1 (rw_iload_n (pc' := 2) (z := a1) rfl rfl ?_)
  refine wp_of e20 c20_2 (xp_I (pc' := 5) lf_1_18 hW g0 sh_3 (by decide) (by decide) ty_3_3 rfl rfl (by omega) (by omega) ⟨by omega, by omega⟩ rfl (fun H228523 e228524 w228525 => ?_))
  have f228526 := f0.put' e228524 g0 rfl
  have k228527 : H228523 r0 3 = a1 := wq_u_s e228524
  refine wp_of e20 c20_5 (rw_aload_n (pc' := 6) (v := .ref r0) rfl rfl rfl ?_)
  refine wp_of e20 c20_6 (rw_aload_n (pc' := 7) (v := .ref r0) rfl rfl rfl ?_)
  have k228528 : H228523 r0 0 = H r0 0 := (wq_u_j e228524 rfl)
  have q228529 : H228523 r0 0 = (tk : Int) := k228528.trans qtk
  refine wp_of e20 c20_7 (xg_K (pc' := 10) lf_1_12 w228525 g0 sh_3 (by decide) (by decide) rfl q228529 rfl ?_)
  have k228530 : H228523 tk 4 = H tk 4 := (wq_u_t e228524 g0 gtk rfl 4)
  refine wp_of e20 c20_10 (xg_I (pc' := 13) lf_1_257 w228525 gtk sh_4 (by decide) (by decide) ty_4_4 rfl rfl (fun b228531 b228532 => ?_))
  refine wp_of e20 c20_13 (xp_I (pc' := 16) lf_1_22 w228525 g0 sh_3 (by decide) (by decide) ty_3_4 rfl rfl (by omega) (by omega) ⟨by omega, by omega⟩ rfl (fun H228533 e228534 w228535 => ?_))
  have f228536 := f228526.put' e228534 g0 rfl
  have k228537 : H228533 r0 4 = H228523 tk 4 := wq_u_s e228534
  refine wp_of e20 c20_16 (rw_iconst (pc' := 17) rfl ?_)
  have k228538 : H228533 r0 3 = H228523 r0 3 := (wq_u_j e228534 rfl)
  exact wp_zreturn e20 c20_17 rfl (by omega) ⟨rfl, w228535, f228536, 0, rfl, ⟨by omega, by omega⟩, ⟨by omega, by omega, by omega⟩⟩
/-! StrikeAwake$Reader.reserved()LStrikeAwake$Reserved;  -/
abbrev uq_18 (r0 : Nat) (tk : Nat) (rb : Nat) (B : Nat → Int) (n : Int) (q : Int) (T : wq_T) (H : wq_H) : Option Value → wq_T → wq_H → Prop := fun r T' H' => T = T' ∧ H = H' ∧ ((some .null = r ∧ (xre B n q ≥ 11)) ∨ ∃ b : Nat, some (.ref b) = r ∧ 16 ≤ b ∧ b < 27 ∧ (xre B n q = (b : Int) - 16))
set_option maxHeartbeats 4000000 in
theorem u_18 {kt : Nat → Option mc_E} {T : wq_T} {H : wq_H} {r0 : Nat} {tk : Nat} {rb : Nat} {B : Nat → Int} {n : Int} {q : Int} (hW : WT T H) (g0 : T.2.2.2 r0 = some 3) (qtk : H r0 0 = (tk : Int)) (gtk : T.2.2.2 tk = some 4) (qrb : H tk 0 = (rb : Int)) (grb : T.2.2.2 rb = some 2) (hTC_tk : TC T H tk B n q) : wpc kt 2 18 [.ref r0] T H (uq_18 r0 tk rb B n q T H) := by
  refine wp_enter e18 (Nat.le_of_ble_eq_true rfl) rfl ?_
  show wp _ _ 18 0 [(0, .ref r0)] [] _ H _
  have u229553 := TC_k hTC_tk
  have _x := @xre_b B n q
  have _i := TC_i hTC_tk
  refine wp_of e18 c18_0 (rw_iconst (pc' := 1) rfl ?_)
  refine wp_of e18 c18_1 (rw_istore_n (pc' := 2) (z := 0) (L' := [(1, vI 0), (0, .ref r0)]) rfl rfl rfl ?_)
  have lp230333 : ∀ (n230334 : Nat) (v230336 : Int), (0 ≤ v230336 ∧ v230336 ≤ 11) → (v230336 ≤ xre B n q) → (11 - v230336).toNat = n230334 → wp kt 1 18 2 [(1, vI v230336), (0, .ref r0)] [] T H (uq_18 r0 tk rb B n q T H) := by
    intro n230334
    induction n230334 using Nat.strongRecOn with
    | _ n230334 ih230335 =>
      intro v230336 b230339 x230340 m230341
      refine wp_of e18 c18_2 (rw_iload_n (pc' := 3) (z := v230336) rfl rfl ?_)
      refine wp_of e18 c18_3 (rw_gs (pc' := 6) (k := 1) rfl rfl rfl rfl ?_)
      refine wp_of e18 c18_6 (rw_alen (pc' := 7) (n := 11) (hW.sh hW.1.1 rfl) (by decide) rfl ?_)
      refine wp_of e18 c18_7 (rw_icmp_ge (p1 := 40) (p2 := 10) (by decide) rfl ⟨by omega, by omega⟩ ⟨by omega, by omega⟩ (fun c230342 => ?_) (fun c230342 => ?_))
      · refine wp_of e18 c18_40 (rw_null (pc' := 41) rfl ?_)
        exact wp_areturn e18 c18_41 rfl rfl ⟨rfl, rfl, Or.inl ⟨rfl, by omega⟩⟩
      · refine wp_of e18 c18_10 (rw_aload_n (pc' := 11) (v := .ref r0) rfl rfl rfl ?_)
        refine wp_of e18 c18_11 (xg_K (pc' := 14) lf_1_12 hW g0 sh_3 (by decide) (by decide) rfl qtk rfl ?_)
        refine wp_of e18 c18_14 (rw_gs (pc' := 17) (k := 1) rfl rfl rfl rfl ?_)
        refine wp_of e18 c18_17 (rw_iload_n (pc' := 18) (z := v230336) rfl rfl ?_)
        have c230344 : v230336 = 0 ∨ v230336 = 1 ∨ v230336 = 2 ∨ v230336 = 3 ∨ v230336 = 4 ∨ v230336 = 5 ∨ v230336 = 6 ∨ v230336 = 7 ∨ v230336 = 8 ∨ v230336 = 9 ∨ v230336 = 10 := by omega
        rcases c230344 with c230344 | c230344 | c230344 | c230344 | c230344 | c230344 | c230344 | c230344 | c230344 | c230344 | c230344
        · subst c230344
          have k230346 : H 1 (0 : Int).toNat = ((16 : Nat) : Int) := (hW.2 1 _ hW.1.1).2.2 0 (by decide) |> fun z => by have z1 : (16 : Int) ≤ H 1 0 ∧ H 1 0 ≤ 16 := z; exact Int.le_antisymm z1.2 z1.1
          refine wp_of e18 c18_18 (rw_aaload (pc' := 19) (n := 11) (b := 16) (hW.sh hW.1.1 rfl) (by decide) (by decide) (by decide) rfl k230346 rfl ?_)
          have k230347 : H 16 0 = ((32 : Nat) : Int) := (hW.2 16 _ (hW.1.2.2 0 (by decide))).2.2 0 (by decide) |> fun z => by have z1 : (32 : Int) ≤ H 16 0 ∧ H 16 0 ≤ 32 := z; omega
          refine wp_of e18 c18_19 (rw_getR (pc' := 22) (n := 2) (b := 32) (e := _) (lf_1_181).choose_spec.1 (lf_1_181).choose_spec.2.1 (hW.sh (hW.1.2.2 0 (by decide)) rfl) (by decide) rfl k230347 rfl ?_)
          refine wp_of e18 c18_22 (xc_V (pc' := 25) (r := tk) (as := [.ref 32]) (st := []) (lm_1_185) rfl rfl (Nat.le_of_ble_eq_true rfl) hW gtk sh_4 (by decide) rfl (by decide) (u_19 (kk := 12343) hW gtk rfl (by decide +kernel)) (fun R230348 T230349 H230350 p230351 => ?_))
          obtain ⟨e230352, e230354, z230355, e230353, b230356, p230357⟩ := p230351
          subst e230352
          subst e230353
          subst e230354
          rcases p230357 with ⟨a230358, a230359⟩ | ⟨a230360, a230361⟩
          · show wp _ _ 18 25 [(1, vI 0), (0, .ref r0)] [vI z230355] _ H _
            refine wp_of e18 c18_25 (rw_if_eq (p1 := 34) (p2 := 28) (by decide) rfl ⟨by omega, by omega⟩ (fun c230362 => ?_) (fun c230362 => ?_))
            · exfalso
              omega
            · have := @xre_le B n q 0 12343 rfl (by decide)
              refine wp_of e18 c18_28 (rw_gs (pc' := 31) (k := 1) rfl rfl rfl rfl ?_)
              refine wp_of e18 c18_31 (rw_iload_n (pc' := 32) (z := 0) rfl rfl ?_)
              have k230364 : H 1 (0 : Int).toNat = ((16 : Nat) : Int) := (hW.2 1 _ hW.1.1).2.2 0 (by decide) |> fun z => by have z1 : (16 : Int) ≤ H 1 0 ∧ H 1 0 ≤ 16 := z; exact Int.le_antisymm z1.2 z1.1
              refine wp_of e18 c18_32 (rw_aaload (pc' := 33) (n := 11) (b := 16) (hW.sh hW.1.1 rfl) (by decide) (by decide) (by decide) rfl k230364 rfl ?_)
              exact wp_areturn e18 c18_33 rfl rfl ⟨rfl, rfl, Or.inr ⟨16, rfl, by decide, by decide, by omega⟩⟩
          · show wp _ _ 18 25 [(1, vI 0), (0, .ref r0)] [vI z230355] _ H _
            refine wp_of e18 c18_25 (rw_if_eq (p1 := 34) (p2 := 28) (by decide) rfl ⟨by omega, by omega⟩ (fun c230365 => ?_) (fun c230365 => ?_))
            · have := @xre_at B n q 0 12343 rfl (by decide)
              refine wp_of e18 c18_34 (rw_iinc (pc' := 37) (z := 0) (L' := [(1, vI (0 + 1)), (0, .ref r0)]) rfl rfl rfl rfl ?_)
              refine wp_of e18 c18_37 (rw_goto (p1 := 2) (by decide) ?_)
              exact wp_lc (ks := [1, 0]) (wl_c rfl (wl_c rfl wl_n)) rfl (by decide) (ih230335 _ (by omega) (0 + 1) ⟨by omega, by omega⟩ (by omega) rfl)
            · exfalso
              omega
        · subst c230344
          have k230367 : H 1 (1 : Int).toNat = ((17 : Nat) : Int) := (hW.2 1 _ hW.1.1).2.2 1 (by decide) |> fun z => by have z1 : (17 : Int) ≤ H 1 1 ∧ H 1 1 ≤ 17 := z; exact Int.le_antisymm z1.2 z1.1
          refine wp_of e18 c18_18 (rw_aaload (pc' := 19) (n := 11) (b := 17) (hW.sh hW.1.1 rfl) (by decide) (by decide) (by decide) rfl k230367 rfl ?_)
          have k230368 : H 17 0 = ((33 : Nat) : Int) := (hW.2 17 _ (hW.1.2.2 1 (by decide))).2.2 0 (by decide) |> fun z => by have z1 : (33 : Int) ≤ H 17 0 ∧ H 17 0 ≤ 33 := z; omega
          refine wp_of e18 c18_19 (rw_getR (pc' := 22) (n := 2) (b := 33) (e := _) (lf_1_181).choose_spec.1 (lf_1_181).choose_spec.2.1 (hW.sh (hW.1.2.2 1 (by decide)) rfl) (by decide) rfl k230368 rfl ?_)
          refine wp_of e18 c18_22 (xc_V (pc' := 25) (r := tk) (as := [.ref 33]) (st := []) (lm_1_185) rfl rfl (Nat.le_of_ble_eq_true rfl) hW gtk sh_4 (by decide) rfl (by decide) (u_19 (kk := 542723566) hW gtk rfl (by decide +kernel)) (fun R230369 T230370 H230371 p230372 => ?_))
          obtain ⟨e230373, e230375, z230376, e230374, b230377, p230378⟩ := p230372
          subst e230373
          subst e230374
          subst e230375
          rcases p230378 with ⟨a230379, a230380⟩ | ⟨a230381, a230382⟩
          · show wp _ _ 18 25 [(1, vI 1), (0, .ref r0)] [vI z230376] _ H _
            refine wp_of e18 c18_25 (rw_if_eq (p1 := 34) (p2 := 28) (by decide) rfl ⟨by omega, by omega⟩ (fun c230383 => ?_) (fun c230383 => ?_))
            · exfalso
              omega
            · have := @xre_le B n q 1 542723566 rfl (by decide)
              refine wp_of e18 c18_28 (rw_gs (pc' := 31) (k := 1) rfl rfl rfl rfl ?_)
              refine wp_of e18 c18_31 (rw_iload_n (pc' := 32) (z := 1) rfl rfl ?_)
              have k230385 : H 1 (1 : Int).toNat = ((17 : Nat) : Int) := (hW.2 1 _ hW.1.1).2.2 1 (by decide) |> fun z => by have z1 : (17 : Int) ≤ H 1 1 ∧ H 1 1 ≤ 17 := z; exact Int.le_antisymm z1.2 z1.1
              refine wp_of e18 c18_32 (rw_aaload (pc' := 33) (n := 11) (b := 17) (hW.sh hW.1.1 rfl) (by decide) (by decide) (by decide) rfl k230385 rfl ?_)
              exact wp_areturn e18 c18_33 rfl rfl ⟨rfl, rfl, Or.inr ⟨17, rfl, by decide, by decide, by omega⟩⟩
          · show wp _ _ 18 25 [(1, vI 1), (0, .ref r0)] [vI z230376] _ H _
            refine wp_of e18 c18_25 (rw_if_eq (p1 := 34) (p2 := 28) (by decide) rfl ⟨by omega, by omega⟩ (fun c230386 => ?_) (fun c230386 => ?_))
            · have := @xre_at B n q 1 542723566 rfl (by decide)
              refine wp_of e18 c18_34 (rw_iinc (pc' := 37) (z := 1) (L' := [(1, vI (1 + 1)), (0, .ref r0)]) rfl rfl rfl rfl ?_)
              refine wp_of e18 c18_37 (rw_goto (p1 := 2) (by decide) ?_)
              exact wp_lc (ks := [1, 0]) (wl_c rfl (wl_c rfl wl_n)) rfl (by decide) (ih230335 _ (by omega) (1 + 1) ⟨by omega, by omega⟩ (by omega) rfl)
            · exfalso
              omega
        · subst c230344
          have k230388 : H 1 (2 : Int).toNat = ((18 : Nat) : Int) := (hW.2 1 _ hW.1.1).2.2 2 (by decide) |> fun z => by have z1 : (18 : Int) ≤ H 1 2 ∧ H 1 2 ≤ 18 := z; exact Int.le_antisymm z1.2 z1.1
          refine wp_of e18 c18_18 (rw_aaload (pc' := 19) (n := 11) (b := 18) (hW.sh hW.1.1 rfl) (by decide) (by decide) (by decide) rfl k230388 rfl ?_)
          have k230389 : H 18 0 = ((34 : Nat) : Int) := (hW.2 18 _ (hW.1.2.2 2 (by decide))).2.2 0 (by decide) |> fun z => by have z1 : (34 : Int) ≤ H 18 0 ∧ H 18 0 ≤ 34 := z; omega
          refine wp_of e18 c18_19 (rw_getR (pc' := 22) (n := 2) (b := 34) (e := _) (lf_1_181).choose_spec.1 (lf_1_181).choose_spec.2.1 (hW.sh (hW.1.2.2 2 (by decide)) rfl) (by decide) rfl k230389 rfl ?_)
          refine wp_of e18 c18_22 (xc_V (pc' := 25) (r := tk) (as := [.ref 34]) (st := []) (lm_1_185) rfl rfl (Nat.le_of_ble_eq_true rfl) hW gtk sh_4 (by decide) rfl (by decide) (u_19 (kk := 643584494) hW gtk rfl (by decide +kernel)) (fun R230390 T230391 H230392 p230393 => ?_))
          obtain ⟨e230394, e230396, z230397, e230395, b230398, p230399⟩ := p230393
          subst e230394
          subst e230395
          subst e230396
          rcases p230399 with ⟨a230400, a230401⟩ | ⟨a230402, a230403⟩
          · show wp _ _ 18 25 [(1, vI 2), (0, .ref r0)] [vI z230397] _ H _
            refine wp_of e18 c18_25 (rw_if_eq (p1 := 34) (p2 := 28) (by decide) rfl ⟨by omega, by omega⟩ (fun c230404 => ?_) (fun c230404 => ?_))
            · exfalso
              omega
            · have := @xre_le B n q 2 643584494 rfl (by decide)
              refine wp_of e18 c18_28 (rw_gs (pc' := 31) (k := 1) rfl rfl rfl rfl ?_)
              refine wp_of e18 c18_31 (rw_iload_n (pc' := 32) (z := 2) rfl rfl ?_)
              have k230406 : H 1 (2 : Int).toNat = ((18 : Nat) : Int) := (hW.2 1 _ hW.1.1).2.2 2 (by decide) |> fun z => by have z1 : (18 : Int) ≤ H 1 2 ∧ H 1 2 ≤ 18 := z; exact Int.le_antisymm z1.2 z1.1
              refine wp_of e18 c18_32 (rw_aaload (pc' := 33) (n := 11) (b := 18) (hW.sh hW.1.1 rfl) (by decide) (by decide) (by decide) rfl k230406 rfl ?_)
              exact wp_areturn e18 c18_33 rfl rfl ⟨rfl, rfl, Or.inr ⟨18, rfl, by decide, by decide, by omega⟩⟩
          · show wp _ _ 18 25 [(1, vI 2), (0, .ref r0)] [vI z230397] _ H _
            refine wp_of e18 c18_25 (rw_if_eq (p1 := 34) (p2 := 28) (by decide) rfl ⟨by omega, by omega⟩ (fun c230407 => ?_) (fun c230407 => ?_))
            · have := @xre_at B n q 2 643584494 rfl (by decide)
              refine wp_of e18 c18_34 (rw_iinc (pc' := 37) (z := 2) (L' := [(1, vI (2 + 1)), (0, .ref r0)]) rfl rfl rfl rfl ?_)
              refine wp_of e18 c18_37 (rw_goto (p1 := 2) (by decide) ?_)
              exact wp_lc (ks := [1, 0]) (wl_c rfl (wl_c rfl wl_n)) rfl (by decide) (ih230335 _ (by omega) (2 + 1) ⟨by omega, by omega⟩ (by omega) rfl)
            · exfalso
              omega
        · subst c230344
          have k230409 : H 1 (3 : Int).toNat = ((19 : Nat) : Int) := (hW.2 1 _ hW.1.1).2.2 3 (by decide) |> fun z => by have z1 : (19 : Int) ≤ H 1 3 ∧ H 1 3 ≤ 19 := z; exact Int.le_antisymm z1.2 z1.1
          refine wp_of e18 c18_18 (rw_aaload (pc' := 19) (n := 11) (b := 19) (hW.sh hW.1.1 rfl) (by decide) (by decide) (by decide) rfl k230409 rfl ?_)
          have k230410 : H 19 0 = ((35 : Nat) : Int) := (hW.2 19 _ (hW.1.2.2 3 (by decide))).2.2 0 (by decide) |> fun z => by have z1 : (35 : Int) ≤ H 19 0 ∧ H 19 0 ≤ 35 := z; omega
          refine wp_of e18 c18_19 (rw_getR (pc' := 22) (n := 2) (b := 35) (e := _) (lf_1_181).choose_spec.1 (lf_1_181).choose_spec.2.1 (hW.sh (hW.1.2.2 3 (by decide)) rfl) (by decide) rfl k230410 rfl ?_)
          refine wp_of e18 c18_22 (xc_V (pc' := 25) (r := tk) (as := [.ref 35]) (st := []) (lm_1_185) rfl rfl (Nat.le_of_ble_eq_true rfl) hW gtk sh_4 (by decide) rfl (by decide) (u_19 (kk := 1574484) hW gtk rfl (by decide +kernel)) (fun R230411 T230412 H230413 p230414 => ?_))
          obtain ⟨e230415, e230417, z230418, e230416, b230419, p230420⟩ := p230414
          subst e230415
          subst e230416
          subst e230417
          rcases p230420 with ⟨a230421, a230422⟩ | ⟨a230423, a230424⟩
          · show wp _ _ 18 25 [(1, vI 3), (0, .ref r0)] [vI z230418] _ H _
            refine wp_of e18 c18_25 (rw_if_eq (p1 := 34) (p2 := 28) (by decide) rfl ⟨by omega, by omega⟩ (fun c230425 => ?_) (fun c230425 => ?_))
            · exfalso
              omega
            · have := @xre_le B n q 3 1574484 rfl (by decide)
              refine wp_of e18 c18_28 (rw_gs (pc' := 31) (k := 1) rfl rfl rfl rfl ?_)
              refine wp_of e18 c18_31 (rw_iload_n (pc' := 32) (z := 3) rfl rfl ?_)
              have k230427 : H 1 (3 : Int).toNat = ((19 : Nat) : Int) := (hW.2 1 _ hW.1.1).2.2 3 (by decide) |> fun z => by have z1 : (19 : Int) ≤ H 1 3 ∧ H 1 3 ≤ 19 := z; exact Int.le_antisymm z1.2 z1.1
              refine wp_of e18 c18_32 (rw_aaload (pc' := 33) (n := 11) (b := 19) (hW.sh hW.1.1 rfl) (by decide) (by decide) (by decide) rfl k230427 rfl ?_)
              exact wp_areturn e18 c18_33 rfl rfl ⟨rfl, rfl, Or.inr ⟨19, rfl, by decide, by decide, by omega⟩⟩
          · show wp _ _ 18 25 [(1, vI 3), (0, .ref r0)] [vI z230418] _ H _
            refine wp_of e18 c18_25 (rw_if_eq (p1 := 34) (p2 := 28) (by decide) rfl ⟨by omega, by omega⟩ (fun c230428 => ?_) (fun c230428 => ?_))
            · have := @xre_at B n q 3 1574484 rfl (by decide)
              refine wp_of e18 c18_34 (rw_iinc (pc' := 37) (z := 3) (L' := [(1, vI (3 + 1)), (0, .ref r0)]) rfl rfl rfl rfl ?_)
              refine wp_of e18 c18_37 (rw_goto (p1 := 2) (by decide) ?_)
              exact wp_lc (ks := [1, 0]) (wl_c rfl (wl_c rfl wl_n)) rfl (by decide) (ih230335 _ (by omega) (3 + 1) ⟨by omega, by omega⟩ (by omega) rfl)
            · exfalso
              omega
        · subst c230344
          have k230430 : H 1 (4 : Int).toNat = ((20 : Nat) : Int) := (hW.2 1 _ hW.1.1).2.2 4 (by decide) |> fun z => by have z1 : (20 : Int) ≤ H 1 4 ∧ H 1 4 ≤ 20 := z; exact Int.le_antisymm z1.2 z1.1
          refine wp_of e18 c18_18 (rw_aaload (pc' := 19) (n := 11) (b := 20) (hW.sh hW.1.1 rfl) (by decide) (by decide) (by decide) rfl k230430 rfl ?_)
          have k230431 : H 20 0 = ((36 : Nat) : Int) := (hW.2 20 _ (hW.1.2.2 4 (by decide))).2.2 0 (by decide) |> fun z => by have z1 : (36 : Int) ≤ H 20 0 ∧ H 20 0 ≤ 36 := z; omega
          refine wp_of e18 c18_19 (rw_getR (pc' := 22) (n := 2) (b := 36) (e := _) (lf_1_181).choose_spec.1 (lf_1_181).choose_spec.2.1 (hW.sh (hW.1.2.2 4 (by decide)) rfl) (by decide) rfl k230431 rfl ?_)
          refine wp_of e18 c18_22 (xc_V (pc' := 25) (r := tk) (as := [.ref 36]) (st := []) (lm_1_185) rfl rfl (Nat.le_of_ble_eq_true rfl) hW gtk sh_4 (by decide) rfl (by decide) (u_19 (kk := 81486) hW gtk rfl (by decide +kernel)) (fun R230432 T230433 H230434 p230435 => ?_))
          obtain ⟨e230436, e230438, z230439, e230437, b230440, p230441⟩ := p230435
          subst e230436
          subst e230437
          subst e230438
          rcases p230441 with ⟨a230442, a230443⟩ | ⟨a230444, a230445⟩
          · show wp _ _ 18 25 [(1, vI 4), (0, .ref r0)] [vI z230439] _ H _
            refine wp_of e18 c18_25 (rw_if_eq (p1 := 34) (p2 := 28) (by decide) rfl ⟨by omega, by omega⟩ (fun c230446 => ?_) (fun c230446 => ?_))
            · exfalso
              omega
            · have := @xre_le B n q 4 81486 rfl (by decide)
              refine wp_of e18 c18_28 (rw_gs (pc' := 31) (k := 1) rfl rfl rfl rfl ?_)
              refine wp_of e18 c18_31 (rw_iload_n (pc' := 32) (z := 4) rfl rfl ?_)
              have k230448 : H 1 (4 : Int).toNat = ((20 : Nat) : Int) := (hW.2 1 _ hW.1.1).2.2 4 (by decide) |> fun z => by have z1 : (20 : Int) ≤ H 1 4 ∧ H 1 4 ≤ 20 := z; exact Int.le_antisymm z1.2 z1.1
              refine wp_of e18 c18_32 (rw_aaload (pc' := 33) (n := 11) (b := 20) (hW.sh hW.1.1 rfl) (by decide) (by decide) (by decide) rfl k230448 rfl ?_)
              exact wp_areturn e18 c18_33 rfl rfl ⟨rfl, rfl, Or.inr ⟨20, rfl, by decide, by decide, by omega⟩⟩
          · show wp _ _ 18 25 [(1, vI 4), (0, .ref r0)] [vI z230439] _ H _
            refine wp_of e18 c18_25 (rw_if_eq (p1 := 34) (p2 := 28) (by decide) rfl ⟨by omega, by omega⟩ (fun c230449 => ?_) (fun c230449 => ?_))
            · have := @xre_at B n q 4 81486 rfl (by decide)
              refine wp_of e18 c18_34 (rw_iinc (pc' := 37) (z := 4) (L' := [(1, vI (4 + 1)), (0, .ref r0)]) rfl rfl rfl rfl ?_)
              refine wp_of e18 c18_37 (rw_goto (p1 := 2) (by decide) ?_)
              exact wp_lc (ks := [1, 0]) (wl_c rfl (wl_c rfl wl_n)) rfl (by decide) (ih230335 _ (by omega) (4 + 1) ⟨by omega, by omega⟩ (by omega) rfl)
            · exfalso
              omega
        · subst c230344
          have k230451 : H 1 (5 : Int).toNat = ((21 : Nat) : Int) := (hW.2 1 _ hW.1.1).2.2 5 (by decide) |> fun z => by have z1 : (21 : Int) ≤ H 1 5 ∧ H 1 5 ≤ 21 := z; exact Int.le_antisymm z1.2 z1.1
          refine wp_of e18 c18_18 (rw_aaload (pc' := 19) (n := 11) (b := 21) (hW.sh hW.1.1 rfl) (by decide) (by decide) (by decide) rfl k230451 rfl ?_)
          have k230452 : H 21 0 = ((37 : Nat) : Int) := (hW.2 21 _ (hW.1.2.2 5 (by decide))).2.2 0 (by decide) |> fun z => by have z1 : (37 : Int) ≤ H 21 0 ∧ H 21 0 ≤ 37 := z; omega
          refine wp_of e18 c18_19 (rw_getR (pc' := 22) (n := 2) (b := 37) (e := _) (lf_1_181).choose_spec.1 (lf_1_181).choose_spec.2.1 (hW.sh (hW.1.2.2 5 (by decide)) rfl) (by decide) rfl k230452 rfl ?_)
          refine wp_of e18 c18_22 (xc_V (pc' := 25) (r := tk) (as := [.ref 37]) (st := []) (lm_1_185) rfl rfl (Nat.le_of_ble_eq_true rfl) hW gtk sh_4 (by decide) rfl (by decide) (u_19 (kk := 659117163) hW gtk rfl (by decide +kernel)) (fun R230453 T230454 H230455 p230456 => ?_))
          obtain ⟨e230457, e230459, z230460, e230458, b230461, p230462⟩ := p230456
          subst e230457
          subst e230458
          subst e230459
          rcases p230462 with ⟨a230463, a230464⟩ | ⟨a230465, a230466⟩
          · show wp _ _ 18 25 [(1, vI 5), (0, .ref r0)] [vI z230460] _ H _
            refine wp_of e18 c18_25 (rw_if_eq (p1 := 34) (p2 := 28) (by decide) rfl ⟨by omega, by omega⟩ (fun c230467 => ?_) (fun c230467 => ?_))
            · exfalso
              omega
            · have := @xre_le B n q 5 659117163 rfl (by decide)
              refine wp_of e18 c18_28 (rw_gs (pc' := 31) (k := 1) rfl rfl rfl rfl ?_)
              refine wp_of e18 c18_31 (rw_iload_n (pc' := 32) (z := 5) rfl rfl ?_)
              have k230469 : H 1 (5 : Int).toNat = ((21 : Nat) : Int) := (hW.2 1 _ hW.1.1).2.2 5 (by decide) |> fun z => by have z1 : (21 : Int) ≤ H 1 5 ∧ H 1 5 ≤ 21 := z; exact Int.le_antisymm z1.2 z1.1
              refine wp_of e18 c18_32 (rw_aaload (pc' := 33) (n := 11) (b := 21) (hW.sh hW.1.1 rfl) (by decide) (by decide) (by decide) rfl k230469 rfl ?_)
              exact wp_areturn e18 c18_33 rfl rfl ⟨rfl, rfl, Or.inr ⟨21, rfl, by decide, by decide, by omega⟩⟩
          · show wp _ _ 18 25 [(1, vI 5), (0, .ref r0)] [vI z230460] _ H _
            refine wp_of e18 c18_25 (rw_if_eq (p1 := 34) (p2 := 28) (by decide) rfl ⟨by omega, by omega⟩ (fun c230470 => ?_) (fun c230470 => ?_))
            · have := @xre_at B n q 5 659117163 rfl (by decide)
              refine wp_of e18 c18_34 (rw_iinc (pc' := 37) (z := 5) (L' := [(1, vI (5 + 1)), (0, .ref r0)]) rfl rfl rfl rfl ?_)
              refine wp_of e18 c18_37 (rw_goto (p1 := 2) (by decide) ?_)
              exact wp_lc (ks := [1, 0]) (wl_c rfl (wl_c rfl wl_n)) rfl (by decide) (ih230335 _ (by omega) (5 + 1) ⟨by omega, by omega⟩ (by omega) rfl)
            · exfalso
              omega
        · subst c230344
          have k230472 : H 1 (6 : Int).toNat = ((22 : Nat) : Int) := (hW.2 1 _ hW.1.1).2.2 6 (by decide) |> fun z => by have z1 : (22 : Int) ≤ H 1 6 ∧ H 1 6 ≤ 22 := z; exact Int.le_antisymm z1.2 z1.1
          refine wp_of e18 c18_18 (rw_aaload (pc' := 19) (n := 11) (b := 22) (hW.sh hW.1.1 rfl) (by decide) (by decide) (by decide) rfl k230472 rfl ?_)
          have k230473 : H 22 0 = ((38 : Nat) : Int) := (hW.2 22 _ (hW.1.2.2 6 (by decide))).2.2 0 (by decide) |> fun z => by have z1 : (38 : Int) ≤ H 22 0 ∧ H 22 0 ≤ 38 := z; omega
          refine wp_of e18 c18_19 (rw_getR (pc' := 22) (n := 2) (b := 38) (e := _) (lf_1_181).choose_spec.1 (lf_1_181).choose_spec.2.1 (hW.sh (hW.1.2.2 6 (by decide)) rfl) (by decide) rfl k230473 rfl ?_)
          refine wp_of e18 c18_22 (xc_V (pc' := 25) (r := tk) (as := [.ref 38]) (st := []) (lm_1_185) rfl rfl (Nat.le_of_ble_eq_true rfl) hW gtk sh_4 (by decide) rfl (by decide) (u_19 (kk := 671108) hW gtk rfl (by decide +kernel)) (fun R230474 T230475 H230476 p230477 => ?_))
          obtain ⟨e230478, e230480, z230481, e230479, b230482, p230483⟩ := p230477
          subst e230478
          subst e230479
          subst e230480
          rcases p230483 with ⟨a230484, a230485⟩ | ⟨a230486, a230487⟩
          · show wp _ _ 18 25 [(1, vI 6), (0, .ref r0)] [vI z230481] _ H _
            refine wp_of e18 c18_25 (rw_if_eq (p1 := 34) (p2 := 28) (by decide) rfl ⟨by omega, by omega⟩ (fun c230488 => ?_) (fun c230488 => ?_))
            · exfalso
              omega
            · have := @xre_le B n q 6 671108 rfl (by decide)
              refine wp_of e18 c18_28 (rw_gs (pc' := 31) (k := 1) rfl rfl rfl rfl ?_)
              refine wp_of e18 c18_31 (rw_iload_n (pc' := 32) (z := 6) rfl rfl ?_)
              have k230490 : H 1 (6 : Int).toNat = ((22 : Nat) : Int) := (hW.2 1 _ hW.1.1).2.2 6 (by decide) |> fun z => by have z1 : (22 : Int) ≤ H 1 6 ∧ H 1 6 ≤ 22 := z; exact Int.le_antisymm z1.2 z1.1
              refine wp_of e18 c18_32 (rw_aaload (pc' := 33) (n := 11) (b := 22) (hW.sh hW.1.1 rfl) (by decide) (by decide) (by decide) rfl k230490 rfl ?_)
              exact wp_areturn e18 c18_33 rfl rfl ⟨rfl, rfl, Or.inr ⟨22, rfl, by decide, by decide, by omega⟩⟩
          · show wp _ _ 18 25 [(1, vI 6), (0, .ref r0)] [vI z230481] _ H _
            refine wp_of e18 c18_25 (rw_if_eq (p1 := 34) (p2 := 28) (by decide) rfl ⟨by omega, by omega⟩ (fun c230491 => ?_) (fun c230491 => ?_))
            · have := @xre_at B n q 6 671108 rfl (by decide)
              refine wp_of e18 c18_34 (rw_iinc (pc' := 37) (z := 6) (L' := [(1, vI (6 + 1)), (0, .ref r0)]) rfl rfl rfl rfl ?_)
              refine wp_of e18 c18_37 (rw_goto (p1 := 2) (by decide) ?_)
              exact wp_lc (ks := [1, 0]) (wl_c rfl (wl_c rfl wl_n)) rfl (by decide) (ih230335 _ (by omega) (6 + 1) ⟨by omega, by omega⟩ (by omega) rfl)
            · exfalso
              omega
        · subst c230344
          have k230493 : H 1 (7 : Int).toNat = ((23 : Nat) : Int) := (hW.2 1 _ hW.1.1).2.2 7 (by decide) |> fun z => by have z1 : (23 : Int) ≤ H 1 7 ∧ H 1 7 ≤ 23 := z; exact Int.le_antisymm z1.2 z1.1
          refine wp_of e18 c18_18 (rw_aaload (pc' := 19) (n := 11) (b := 23) (hW.sh hW.1.1 rfl) (by decide) (by decide) (by decide) rfl k230493 rfl ?_)
          have k230494 : H 23 0 = ((39 : Nat) : Int) := (hW.2 23 _ (hW.1.2.2 7 (by decide))).2.2 0 (by decide) |> fun z => by have z1 : (39 : Int) ≤ H 23 0 ∧ H 23 0 ≤ 39 := z; omega
          refine wp_of e18 c18_19 (rw_getR (pc' := 22) (n := 2) (b := 39) (e := _) (lf_1_181).choose_spec.1 (lf_1_181).choose_spec.2.1 (hW.sh (hW.1.2.2 7 (by decide)) rfl) (by decide) rfl k230494 rfl ?_)
          refine wp_of e18 c18_22 (xc_V (pc' := 25) (r := tk) (as := [.ref 39]) (st := []) (lm_1_185) rfl rfl (Nat.le_of_ble_eq_true rfl) hW gtk sh_4 (by decide) rfl (by decide) (u_19 (kk := 15931570) hW gtk rfl (by decide +kernel)) (fun R230495 T230496 H230497 p230498 => ?_))
          obtain ⟨e230499, e230501, z230502, e230500, b230503, p230504⟩ := p230498
          subst e230499
          subst e230500
          subst e230501
          rcases p230504 with ⟨a230505, a230506⟩ | ⟨a230507, a230508⟩
          · show wp _ _ 18 25 [(1, vI 7), (0, .ref r0)] [vI z230502] _ H _
            refine wp_of e18 c18_25 (rw_if_eq (p1 := 34) (p2 := 28) (by decide) rfl ⟨by omega, by omega⟩ (fun c230509 => ?_) (fun c230509 => ?_))
            · exfalso
              omega
            · have := @xre_le B n q 7 15931570 rfl (by decide)
              refine wp_of e18 c18_28 (rw_gs (pc' := 31) (k := 1) rfl rfl rfl rfl ?_)
              refine wp_of e18 c18_31 (rw_iload_n (pc' := 32) (z := 7) rfl rfl ?_)
              have k230511 : H 1 (7 : Int).toNat = ((23 : Nat) : Int) := (hW.2 1 _ hW.1.1).2.2 7 (by decide) |> fun z => by have z1 : (23 : Int) ≤ H 1 7 ∧ H 1 7 ≤ 23 := z; exact Int.le_antisymm z1.2 z1.1
              refine wp_of e18 c18_32 (rw_aaload (pc' := 33) (n := 11) (b := 23) (hW.sh hW.1.1 rfl) (by decide) (by decide) (by decide) rfl k230511 rfl ?_)
              exact wp_areturn e18 c18_33 rfl rfl ⟨rfl, rfl, Or.inr ⟨23, rfl, by decide, by decide, by omega⟩⟩
          · show wp _ _ 18 25 [(1, vI 7), (0, .ref r0)] [vI z230502] _ H _
            refine wp_of e18 c18_25 (rw_if_eq (p1 := 34) (p2 := 28) (by decide) rfl ⟨by omega, by omega⟩ (fun c230512 => ?_) (fun c230512 => ?_))
            · have := @xre_at B n q 7 15931570 rfl (by decide)
              refine wp_of e18 c18_34 (rw_iinc (pc' := 37) (z := 7) (L' := [(1, vI (7 + 1)), (0, .ref r0)]) rfl rfl rfl rfl ?_)
              refine wp_of e18 c18_37 (rw_goto (p1 := 2) (by decide) ?_)
              exact wp_lc (ks := [1, 0]) (wl_c rfl (wl_c rfl wl_n)) rfl (by decide) (ih230335 _ (by omega) (7 + 1) ⟨by omega, by omega⟩ (by omega) rfl)
            · exfalso
              omega
        · subst c230344
          have k230514 : H 1 (8 : Int).toNat = ((24 : Nat) : Int) := (hW.2 1 _ hW.1.1).2.2 8 (by decide) |> fun z => by have z1 : (24 : Int) ≤ H 1 8 ∧ H 1 8 ≤ 24 := z; exact Int.le_antisymm z1.2 z1.1
          refine wp_of e18 c18_18 (rw_aaload (pc' := 19) (n := 11) (b := 24) (hW.sh hW.1.1 rfl) (by decide) (by decide) (by decide) rfl k230514 rfl ?_)
          have k230515 : H 24 0 = ((40 : Nat) : Int) := (hW.2 24 _ (hW.1.2.2 8 (by decide))).2.2 0 (by decide) |> fun z => by have z1 : (40 : Int) ≤ H 24 0 ∧ H 24 0 ≤ 40 := z; omega
          refine wp_of e18 c18_19 (rw_getR (pc' := 22) (n := 2) (b := 40) (e := _) (lf_1_181).choose_spec.1 (lf_1_181).choose_spec.2.1 (hW.sh (hW.1.2.2 8 (by decide)) rfl) (by decide) rfl k230515 rfl ?_)
          refine wp_of e18 c18_22 (xc_V (pc' := 25) (r := tk) (as := [.ref 40]) (st := []) (lm_1_185) rfl rfl (Nat.le_of_ble_eq_true rfl) hW gtk sh_4 (by decide) rfl (by decide) (u_19 (kk := 8423732) hW gtk rfl (by decide +kernel)) (fun R230516 T230517 H230518 p230519 => ?_))
          obtain ⟨e230520, e230522, z230523, e230521, b230524, p230525⟩ := p230519
          subst e230520
          subst e230521
          subst e230522
          rcases p230525 with ⟨a230526, a230527⟩ | ⟨a230528, a230529⟩
          · show wp _ _ 18 25 [(1, vI 8), (0, .ref r0)] [vI z230523] _ H _
            refine wp_of e18 c18_25 (rw_if_eq (p1 := 34) (p2 := 28) (by decide) rfl ⟨by omega, by omega⟩ (fun c230530 => ?_) (fun c230530 => ?_))
            · exfalso
              omega
            · have := @xre_le B n q 8 8423732 rfl (by decide)
              refine wp_of e18 c18_28 (rw_gs (pc' := 31) (k := 1) rfl rfl rfl rfl ?_)
              refine wp_of e18 c18_31 (rw_iload_n (pc' := 32) (z := 8) rfl rfl ?_)
              have k230532 : H 1 (8 : Int).toNat = ((24 : Nat) : Int) := (hW.2 1 _ hW.1.1).2.2 8 (by decide) |> fun z => by have z1 : (24 : Int) ≤ H 1 8 ∧ H 1 8 ≤ 24 := z; exact Int.le_antisymm z1.2 z1.1
              refine wp_of e18 c18_32 (rw_aaload (pc' := 33) (n := 11) (b := 24) (hW.sh hW.1.1 rfl) (by decide) (by decide) (by decide) rfl k230532 rfl ?_)
              exact wp_areturn e18 c18_33 rfl rfl ⟨rfl, rfl, Or.inr ⟨24, rfl, by decide, by decide, by omega⟩⟩
          · show wp _ _ 18 25 [(1, vI 8), (0, .ref r0)] [vI z230523] _ H _
            refine wp_of e18 c18_25 (rw_if_eq (p1 := 34) (p2 := 28) (by decide) rfl ⟨by omega, by omega⟩ (fun c230533 => ?_) (fun c230533 => ?_))
            · have := @xre_at B n q 8 8423732 rfl (by decide)
              refine wp_of e18 c18_34 (rw_iinc (pc' := 37) (z := 8) (L' := [(1, vI (8 + 1)), (0, .ref r0)]) rfl rfl rfl rfl ?_)
              refine wp_of e18 c18_37 (rw_goto (p1 := 2) (by decide) ?_)
              exact wp_lc (ks := [1, 0]) (wl_c rfl (wl_c rfl wl_n)) rfl (by decide) (ih230335 _ (by omega) (8 + 1) ⟨by omega, by omega⟩ (by omega) rfl)
            · exfalso
              omega
        · subst c230344
          have k230535 : H 1 (9 : Int).toNat = ((25 : Nat) : Int) := (hW.2 1 _ hW.1.1).2.2 9 (by decide) |> fun z => by have z1 : (25 : Int) ≤ H 1 9 ∧ H 1 9 ≤ 25 := z; exact Int.le_antisymm z1.2 z1.1
          refine wp_of e18 c18_18 (rw_aaload (pc' := 19) (n := 11) (b := 25) (hW.sh hW.1.1 rfl) (by decide) (by decide) (by decide) rfl k230535 rfl ?_)
          have k230536 : H 25 0 = ((41 : Nat) : Int) := (hW.2 25 _ (hW.1.2.2 9 (by decide))).2.2 0 (by decide) |> fun z => by have z1 : (41 : Int) ≤ H 25 0 ∧ H 25 0 ≤ 41 := z; omega
          refine wp_of e18 c18_19 (rw_getR (pc' := 22) (n := 2) (b := 41) (e := _) (lf_1_181).choose_spec.1 (lf_1_181).choose_spec.2.1 (hW.sh (hW.1.2.2 9 (by decide)) rfl) (by decide) rfl k230536 rfl ?_)
          refine wp_of e18 c18_22 (xc_V (pc' := 25) (r := tk) (as := [.ref 41]) (st := []) (lm_1_185) rfl rfl (Nat.le_of_ble_eq_true rfl) hW gtk sh_4 (by decide) rfl (by decide) (u_19 (kk := 14384) hW gtk rfl (by decide +kernel)) (fun R230537 T230538 H230539 p230540 => ?_))
          obtain ⟨e230541, e230543, z230544, e230542, b230545, p230546⟩ := p230540
          subst e230541
          subst e230542
          subst e230543
          rcases p230546 with ⟨a230547, a230548⟩ | ⟨a230549, a230550⟩
          · show wp _ _ 18 25 [(1, vI 9), (0, .ref r0)] [vI z230544] _ H _
            refine wp_of e18 c18_25 (rw_if_eq (p1 := 34) (p2 := 28) (by decide) rfl ⟨by omega, by omega⟩ (fun c230551 => ?_) (fun c230551 => ?_))
            · exfalso
              omega
            · have := @xre_le B n q 9 14384 rfl (by decide)
              refine wp_of e18 c18_28 (rw_gs (pc' := 31) (k := 1) rfl rfl rfl rfl ?_)
              refine wp_of e18 c18_31 (rw_iload_n (pc' := 32) (z := 9) rfl rfl ?_)
              have k230553 : H 1 (9 : Int).toNat = ((25 : Nat) : Int) := (hW.2 1 _ hW.1.1).2.2 9 (by decide) |> fun z => by have z1 : (25 : Int) ≤ H 1 9 ∧ H 1 9 ≤ 25 := z; exact Int.le_antisymm z1.2 z1.1
              refine wp_of e18 c18_32 (rw_aaload (pc' := 33) (n := 11) (b := 25) (hW.sh hW.1.1 rfl) (by decide) (by decide) (by decide) rfl k230553 rfl ?_)
              exact wp_areturn e18 c18_33 rfl rfl ⟨rfl, rfl, Or.inr ⟨25, rfl, by decide, by decide, by omega⟩⟩
          · show wp _ _ 18 25 [(1, vI 9), (0, .ref r0)] [vI z230544] _ H _
            refine wp_of e18 c18_25 (rw_if_eq (p1 := 34) (p2 := 28) (by decide) rfl ⟨by omega, by omega⟩ (fun c230554 => ?_) (fun c230554 => ?_))
            · have := @xre_at B n q 9 14384 rfl (by decide)
              refine wp_of e18 c18_34 (rw_iinc (pc' := 37) (z := 9) (L' := [(1, vI (9 + 1)), (0, .ref r0)]) rfl rfl rfl rfl ?_)
              refine wp_of e18 c18_37 (rw_goto (p1 := 2) (by decide) ?_)
              exact wp_lc (ks := [1, 0]) (wl_c rfl (wl_c rfl wl_n)) rfl (by decide) (ih230335 _ (by omega) (9 + 1) ⟨by omega, by omega⟩ (by omega) rfl)
            · exfalso
              omega
        · subst c230344
          have k230556 : H 1 (10 : Int).toNat = ((26 : Nat) : Int) := (hW.2 1 _ hW.1.1).2.2 10 (by decide) |> fun z => by have z1 : (26 : Int) ≤ H 1 10 ∧ H 1 10 ≤ 26 := z; exact Int.le_antisymm z1.2 z1.1
          refine wp_of e18 c18_18 (rw_aaload (pc' := 19) (n := 11) (b := 26) (hW.sh hW.1.1 rfl) (by decide) (by decide) (by decide) rfl k230556 rfl ?_)
          have k230557 : H 26 0 = ((42 : Nat) : Int) := (hW.2 26 _ (hW.1.2.2 10 (by decide))).2.2 0 (by decide) |> fun z => by have z1 : (42 : Int) ≤ H 26 0 ∧ H 26 0 ≤ 42 := z; omega
          refine wp_of e18 c18_19 (rw_getR (pc' := 22) (n := 2) (b := 42) (e := _) (lf_1_181).choose_spec.1 (lf_1_181).choose_spec.2.1 (hW.sh (hW.1.2.2 10 (by decide)) rfl) (by decide) rfl k230557 rfl ?_)
          refine wp_of e18 c18_22 (xc_V (pc' := 25) (r := tk) (as := [.ref 42]) (st := []) (lm_1_185) rfl rfl (Nat.le_of_ble_eq_true rfl) hW gtk sh_4 (by decide) rfl (by decide) (u_19 (kk := 56377) hW gtk rfl (by decide +kernel)) (fun R230558 T230559 H230560 p230561 => ?_))
          obtain ⟨e230562, e230564, z230565, e230563, b230566, p230567⟩ := p230561
          subst e230562
          subst e230563
          subst e230564
          rcases p230567 with ⟨a230568, a230569⟩ | ⟨a230570, a230571⟩
          · show wp _ _ 18 25 [(1, vI 10), (0, .ref r0)] [vI z230565] _ H _
            refine wp_of e18 c18_25 (rw_if_eq (p1 := 34) (p2 := 28) (by decide) rfl ⟨by omega, by omega⟩ (fun c230572 => ?_) (fun c230572 => ?_))
            · exfalso
              omega
            · have := @xre_le B n q 10 56377 rfl (by decide)
              refine wp_of e18 c18_28 (rw_gs (pc' := 31) (k := 1) rfl rfl rfl rfl ?_)
              refine wp_of e18 c18_31 (rw_iload_n (pc' := 32) (z := 10) rfl rfl ?_)
              have k230574 : H 1 (10 : Int).toNat = ((26 : Nat) : Int) := (hW.2 1 _ hW.1.1).2.2 10 (by decide) |> fun z => by have z1 : (26 : Int) ≤ H 1 10 ∧ H 1 10 ≤ 26 := z; exact Int.le_antisymm z1.2 z1.1
              refine wp_of e18 c18_32 (rw_aaload (pc' := 33) (n := 11) (b := 26) (hW.sh hW.1.1 rfl) (by decide) (by decide) (by decide) rfl k230574 rfl ?_)
              exact wp_areturn e18 c18_33 rfl rfl ⟨rfl, rfl, Or.inr ⟨26, rfl, by decide, by decide, by omega⟩⟩
          · show wp _ _ 18 25 [(1, vI 10), (0, .ref r0)] [vI z230565] _ H _
            refine wp_of e18 c18_25 (rw_if_eq (p1 := 34) (p2 := 28) (by decide) rfl ⟨by omega, by omega⟩ (fun c230575 => ?_) (fun c230575 => ?_))
            · have := @xre_at B n q 10 56377 rfl (by decide)
              refine wp_of e18 c18_34 (rw_iinc (pc' := 37) (z := 10) (L' := [(1, vI (10 + 1)), (0, .ref r0)]) rfl rfl rfl rfl ?_)
              refine wp_of e18 c18_37 (rw_goto (p1 := 2) (by decide) ?_)
              exact wp_lc (ks := [1, 0]) (wl_c rfl (wl_c rfl wl_n)) rfl (by decide) (ih230335 _ (by omega) (10 + 1) ⟨by omega, by omega⟩ (by omega) rfl)
            · exfalso
              omega
  exact wp_lc (ks := [1, 0]) (wl_c rfl (wl_c rfl wl_n)) rfl (by decide) (lp230333 _ 0 ⟨by omega, by omega⟩ (by omega) rfl)
/-! StrikeAwake$Reader.isName()Z  -/
abbrev uq_26 (r0 : Nat) (tk : Nat) (rb : Nat) (B : Nat → Int) (n : Int) (q : Int) (T : wq_T) (H : wq_H) : Option Value → wq_T → wq_H → Prop := fun r T' H' => T = T' ∧ H = H' ∧ ∃ z : Int, some (vI z) = r ∧ (0 ≤ z ∧ z ≤ 1) ∧ (((z = 1) ∧ (xre B n q = 11)) ∨ ((z = 0) ∧ (xre B n q ≠ 11)))
set_option maxHeartbeats 4000000 in
theorem u_26 {kt : Nat → Option mc_E} {T : wq_T} {H : wq_H} {r0 : Nat} {tk : Nat} {rb : Nat} {B : Nat → Int} {n : Int} {q : Int} (hW : WT T H) (g0 : T.2.2.2 r0 = some 3) (qtk : H r0 0 = (tk : Int)) (gtk : T.2.2.2 tk = some 4) (qrb : H tk 0 = (rb : Int)) (grb : T.2.2.2 rb = some 2) (hTC_tk : TC T H tk B n q) : wpc kt 3 26 [.ref r0] T H (uq_26 r0 tk rb B n q T H) := by
  refine wp_enter e26 (Nat.le_of_ble_eq_true rfl) rfl ?_
  show wp _ _ 26 0 [(0, .ref r0)] [] _ H _
  have u230591 := TC_k hTC_tk
  have _x := @xre_b B n q
  refine wp_of e26 c26_0 (rw_aload_n (pc' := 1) (v := .ref r0) rfl rfl rfl ?_)
  refine wp_of e26 c26_1 (xg_K (pc' := 4) lf_1_12 hW g0 sh_3 (by decide) (by decide) rfl qtk rfl ?_)
  refine wp_of e26 c26_4 (xg_I (pc' := 7) lf_1_38 hW gtk sh_4 (by decide) (by decide) ty_4_3 rfl rfl (fun b230592 b230593 => ?_))
  refine wp_of e26 c26_7 (rw_iconst (pc' := 8) rfl ?_)
  refine wp_of e26 c26_8 (rw_icmp_ne (p1 := 22) (p2 := 11) (by decide) rfl ⟨by omega, by omega⟩ ⟨by omega, by omega⟩ (fun c230594 => ?_) (fun c230594 => ?_))
  · refine wp_of e26 c26_22 (rw_iconst (pc' := 23) rfl ?_)
    exact wp_zreturn e26 c26_23 rfl (by omega) ⟨rfl, rfl, 0, rfl, ⟨by omega, by omega⟩, (Or.inr ⟨by omega, by omega⟩)⟩
  · refine wp_of e26 c26_11 (rw_aload_n (pc' := 12) (v := .ref r0) rfl rfl rfl ?_)
    refine wp_of e26 c26_12 (xc_V (pc' := 15) (r := r0) (as := []) (st := []) (lm_1_54) rfl rfl (Nat.le_of_ble_eq_true rfl) hW g0 sh_3 (by decide) rfl (by decide) (u_18 (B := B) (n := n) (q := q) hW g0 qtk gtk qrb grb hTC_tk) (fun R230595 T230596 H230597 p230598 => ?_))
    obtain ⟨e230599, e230601, e230600⟩ := p230598
    subst e230599
    subst e230601
    rcases e230600 with ⟨e230600, b230605⟩ | ⟨r230602, e230600, b230603, b230604, b230605⟩
    · subst e230600
      show wp _ _ 26 15 [(0, .ref r0)] [.null] _ H _
      refine wp_of e26 c26_15 (rw_ifnonnull_n (p1 := 22) (p2 := 18) (by decide) rfl ?_)
      refine wp_of e26 c26_18 (rw_iconst (pc' := 19) rfl ?_)
      refine wp_of e26 c26_19 (rw_goto (p1 := 23) (by decide) ?_)
      exact wp_zreturn e26 c26_23 rfl (by omega) ⟨rfl, rfl, 1, rfl, ⟨by omega, by omega⟩, (Or.inl ⟨by omega, by omega⟩)⟩
    · subst e230600
      have c230606 : r230602 = 16 ∨ r230602 = 17 ∨ r230602 = 18 ∨ r230602 = 19 ∨ r230602 = 20 ∨ r230602 = 21 ∨ r230602 = 22 ∨ r230602 = 23 ∨ r230602 = 24 ∨ r230602 = 25 ∨ r230602 = 26 := by omega
      rcases c230606 with c230606 | c230606 | c230606 | c230606 | c230606 | c230606 | c230606 | c230606 | c230606 | c230606 | c230606
      · subst c230606
        show wp _ _ 26 15 [(0, .ref r0)] [.ref 16] _ H _
        refine wp_of e26 c26_15 (rw_ifnonnull_r (p1 := 22) (p2 := 18) (by decide) rfl ?_)
        refine wp_of e26 c26_22 (rw_iconst (pc' := 23) rfl ?_)
        exact wp_zreturn e26 c26_23 rfl (by omega) ⟨rfl, rfl, 0, rfl, ⟨by omega, by omega⟩, (Or.inr ⟨by omega, by omega⟩)⟩
      · subst c230606
        show wp _ _ 26 15 [(0, .ref r0)] [.ref 17] _ H _
        refine wp_of e26 c26_15 (rw_ifnonnull_r (p1 := 22) (p2 := 18) (by decide) rfl ?_)
        refine wp_of e26 c26_22 (rw_iconst (pc' := 23) rfl ?_)
        exact wp_zreturn e26 c26_23 rfl (by omega) ⟨rfl, rfl, 0, rfl, ⟨by omega, by omega⟩, (Or.inr ⟨by omega, by omega⟩)⟩
      · subst c230606
        show wp _ _ 26 15 [(0, .ref r0)] [.ref 18] _ H _
        refine wp_of e26 c26_15 (rw_ifnonnull_r (p1 := 22) (p2 := 18) (by decide) rfl ?_)
        refine wp_of e26 c26_22 (rw_iconst (pc' := 23) rfl ?_)
        exact wp_zreturn e26 c26_23 rfl (by omega) ⟨rfl, rfl, 0, rfl, ⟨by omega, by omega⟩, (Or.inr ⟨by omega, by omega⟩)⟩
      · subst c230606
        show wp _ _ 26 15 [(0, .ref r0)] [.ref 19] _ H _
        refine wp_of e26 c26_15 (rw_ifnonnull_r (p1 := 22) (p2 := 18) (by decide) rfl ?_)
        refine wp_of e26 c26_22 (rw_iconst (pc' := 23) rfl ?_)
        exact wp_zreturn e26 c26_23 rfl (by omega) ⟨rfl, rfl, 0, rfl, ⟨by omega, by omega⟩, (Or.inr ⟨by omega, by omega⟩)⟩
      · subst c230606
        show wp _ _ 26 15 [(0, .ref r0)] [.ref 20] _ H _
        refine wp_of e26 c26_15 (rw_ifnonnull_r (p1 := 22) (p2 := 18) (by decide) rfl ?_)
        refine wp_of e26 c26_22 (rw_iconst (pc' := 23) rfl ?_)
        exact wp_zreturn e26 c26_23 rfl (by omega) ⟨rfl, rfl, 0, rfl, ⟨by omega, by omega⟩, (Or.inr ⟨by omega, by omega⟩)⟩
      · subst c230606
        show wp _ _ 26 15 [(0, .ref r0)] [.ref 21] _ H _
        refine wp_of e26 c26_15 (rw_ifnonnull_r (p1 := 22) (p2 := 18) (by decide) rfl ?_)
        refine wp_of e26 c26_22 (rw_iconst (pc' := 23) rfl ?_)
        exact wp_zreturn e26 c26_23 rfl (by omega) ⟨rfl, rfl, 0, rfl, ⟨by omega, by omega⟩, (Or.inr ⟨by omega, by omega⟩)⟩
      · subst c230606
        show wp _ _ 26 15 [(0, .ref r0)] [.ref 22] _ H _
        refine wp_of e26 c26_15 (rw_ifnonnull_r (p1 := 22) (p2 := 18) (by decide) rfl ?_)
        refine wp_of e26 c26_22 (rw_iconst (pc' := 23) rfl ?_)
        exact wp_zreturn e26 c26_23 rfl (by omega) ⟨rfl, rfl, 0, rfl, ⟨by omega, by omega⟩, (Or.inr ⟨by omega, by omega⟩)⟩
      · subst c230606
        show wp _ _ 26 15 [(0, .ref r0)] [.ref 23] _ H _
        refine wp_of e26 c26_15 (rw_ifnonnull_r (p1 := 22) (p2 := 18) (by decide) rfl ?_)
        refine wp_of e26 c26_22 (rw_iconst (pc' := 23) rfl ?_)
        exact wp_zreturn e26 c26_23 rfl (by omega) ⟨rfl, rfl, 0, rfl, ⟨by omega, by omega⟩, (Or.inr ⟨by omega, by omega⟩)⟩
      · subst c230606
        show wp _ _ 26 15 [(0, .ref r0)] [.ref 24] _ H _
        refine wp_of e26 c26_15 (rw_ifnonnull_r (p1 := 22) (p2 := 18) (by decide) rfl ?_)
        refine wp_of e26 c26_22 (rw_iconst (pc' := 23) rfl ?_)
        exact wp_zreturn e26 c26_23 rfl (by omega) ⟨rfl, rfl, 0, rfl, ⟨by omega, by omega⟩, (Or.inr ⟨by omega, by omega⟩)⟩
      · subst c230606
        show wp _ _ 26 15 [(0, .ref r0)] [.ref 25] _ H _
        refine wp_of e26 c26_15 (rw_ifnonnull_r (p1 := 22) (p2 := 18) (by decide) rfl ?_)
        refine wp_of e26 c26_22 (rw_iconst (pc' := 23) rfl ?_)
        exact wp_zreturn e26 c26_23 rfl (by omega) ⟨rfl, rfl, 0, rfl, ⟨by omega, by omega⟩, (Or.inr ⟨by omega, by omega⟩)⟩
      · subst c230606
        show wp _ _ 26 15 [(0, .ref r0)] [.ref 26] _ H _
        refine wp_of e26 c26_15 (rw_ifnonnull_r (p1 := 22) (p2 := 18) (by decide) rfl ?_)
        refine wp_of e26 c26_22 (rw_iconst (pc' := 23) rfl ?_)
        exact wp_zreturn e26 c26_23 rfl (by omega) ⟨rfl, rfl, 0, rfl, ⟨by omega, by omega⟩, (Or.inr ⟨by omega, by omega⟩)⟩
/-! StrikeAwake$Reader.takes(I)Z  -/
abbrev uq_35 (r0 : Nat) (a1 : Int) (tk : Nat) (rb : Nat) (B : Nat → Int) (n : Int) (q : Int) (T : wq_T) (H : wq_H) : Option Value → wq_T → wq_H → Prop := fun r T' H' => T = T' ∧ WT T H' ∧ wfr [(3, 3), (3, 4), (4, 2), (4, 3), (4, 4), (4, 5), (4, 6)] T H H' ∧ ∃ z : Int, some (vI z) = r ∧ (0 ≤ z ∧ z ≤ 1) ∧ (((z = 1) ∧ (xk B n q a1 = 0) ∧ (xK B n q = a1) ∧ TC T H' tk B n (xN B n q)) ∨ ((z = 0) ∧ (xk B n q a1 = 1) ∧ (xK B n q ≠ a1) ∧ (H' r0 3 = 1) ∧ (H' r0 4 = q)))
set_option maxHeartbeats 4000000 in
theorem u_35 {kt : Nat → Option mc_E} {T : wq_T} {H : wq_H} {r0 : Nat} {a1 : Int} {tk : Nat} {rb : Nat} {B : Nat → Int} {n : Int} {q : Int} (hW : WT T H) (g0 : T.2.2.2 r0 = some 3) (i1 : (-2147483648) ≤ a1 ∧ a1 ≤ 2147483647) (qtk : H r0 0 = (tk : Int)) (gtk : T.2.2.2 tk = some 4) (qrb : H tk 0 = (rb : Int)) (grb : T.2.2.2 rb = some 2) (hTC_tk : TC T H tk B n q) : wpc kt 2 35 [.ref r0, vI a1] T H (uq_35 r0 a1 tk rb B n q T H) := by
  refine wp_enter e35 (Nat.le_of_ble_eq_true rfl) rfl ?_
  have f0 : wfr [(3, 3), (3, 4), (4, 2), (4, 3), (4, 4), (4, 5), (4, 6)] T H H := wfr.rf
  show wp _ _ 35 0 [(0, .ref r0), (1, vI a1)] [] _ H _
  have u230636 := TC_k hTC_tk
  refine wp_of e35 c35_0 (rw_aload_n (pc' := 1) (v := .ref r0) rfl rfl rfl ?_)
  refine wp_of e35 c35_1 (xg_K (pc' := 4) lf_1_12 hW g0 sh_3 (by decide) (by decide) rfl qtk rfl ?_)
  refine wp_of e35 c35_4 (xg_I (pc' := 7) lf_1_38 hW gtk sh_4 (by decide) (by decide) ty_4_3 rfl rfl (fun b230637 b230638 => ?_))
  refine wp_of e35 c35_7 (rw_iload_n (pc' := 8) (z := a1) rfl rfl ?_)
  refine wp_of e35 c35_8 (rw_icmp_eq (p1 := 17) (p2 := 11) (by decide) rfl ⟨by omega, by omega⟩ ⟨by omega, by omega⟩ (fun c230639 => ?_) (fun c230639 => ?_))
  · refine wp_of e35 c35_17 (rw_aload_n (pc' := 18) (v := .ref r0) rfl rfl rfl ?_)
    refine wp_of e35 c35_18 (xg_K (pc' := 21) lf_1_12 hW g0 sh_3 (by decide) (by decide) rfl qtk rfl ?_)
    have h230640 : TP T H rb B := TC_tp hTC_tk qrb
    refine wp_of e35 c35_21 (xc_V (pc' := 24) (r := tk) (as := []) (st := []) (lm_1_74) rfl rfl (Nat.le_of_ble_eq_true rfl) hW gtk sh_4 (by decide) rfl (by decide) (u_16 (B := B) (n := n) (a := (xE B n q)) (q := (xN B n q)) hW gtk qrb grb (by omega) (by omega) (by omega) (rfl) h230640) (fun R230641 T230642 H230643 p230644 => ?_))
    obtain ⟨e230645, w230647, f230648, e230646, p230649⟩ := p230644
    subst e230645
    subst e230646
    have f230651 := f0.tr f230648 rfl
    show wp _ _ 35 24 [(0, .ref r0), (1, vI a1)] [] _ H230643 _
    have u230652 := TC_k p230649
    refine wp_of e35 c35_24 (rw_iconst (pc' := 25) rfl ?_)
    have := @xk_b B n q a1
    exact wp_zreturn e35 c35_25 rfl (by omega) ⟨rfl, w230647, f230651, 1, rfl, ⟨by omega, by omega⟩, (Or.inl ⟨by omega, by omega, by omega, p230649⟩)⟩
  · refine wp_of e35 c35_11 (rw_aload_n (pc' := 12) (v := .ref r0) rfl rfl rfl ?_)
    refine wp_of e35 c35_12 (rw_iconst (pc' := 13) rfl ?_)
    refine wp_of e35 c35_13 (xc_V (pc' := 16) (r := r0) (as := [vI 1]) (st := []) (lm_1_47) rfl rfl (Nat.le_of_ble_eq_true rfl) hW g0 sh_3 (by decide) rfl (by decide) (u_20  hW g0 ⟨by omega, by omega⟩ qtk gtk) (fun R230653 T230654 H230655 p230656 => ?_))
    obtain ⟨e230657, w230659, f230660, z230661, e230658, b230662, p230663⟩ := p230656
    subst e230657
    subst e230658
    obtain ⟨a230664, a230665, a230666⟩ := p230663
    have f230667 := f0.tr f230660 rfl
    show wp _ _ 35 16 [(0, .ref r0), (1, vI a1)] [vI z230661] _ H230655 _
    have := @xk_b B n q a1
    exact wp_zreturn e35 c35_16 rfl (by omega) ⟨rfl, w230659, f230667, z230661, rfl, ⟨by omega, by omega⟩, (Or.inr ⟨by omega, by omega, by omega, by omega, by omega⟩)⟩
/-! StrikeAwake$Reader.takesWord(Ljava/lang/String;)Z  -/
abbrev uq_23 (r0 : Nat) (s1 : Nat) (tk : Nat) (rb : Nat) (B : Nat → Int) (n : Int) (q : Int) (kk : Int) (T : wq_T) (H : wq_H) : Option Value → wq_T → wq_H → Prop := fun r T' H' => T = T' ∧ WT T H' ∧ wfr [(3, 3), (3, 4), (4, 2), (4, 3), (4, 4), (4, 5), (4, 6)] T H H' ∧ ∃ z : Int, some (vI z) = r ∧ (0 ≤ z ∧ z ≤ 1) ∧ (((z = 1) ∧ (xw B n q kk = 0) ∧ TC T H' tk B n (xN B n q)) ∨ ((z = 0) ∧ (xw B n q kk = 1) ∧ (H' r0 3 = 1) ∧ (H' r0 4 = q)))
set_option maxHeartbeats 4000000 in
theorem u_23 {kt : Nat → Option mc_E} {T : wq_T} {H : wq_H} {r0 : Nat} {s1 : Nat} {t1 : List Int32} {tk : Nat} {rb : Nat} {B : Nat → Int} {n : Int} {q : Int} {kk : Int} (hW : WT T H) (g0 : T.2.2.2 r0 = some 3) (h1 : mc_find mc_sb s1 = some t1) (qtk : H r0 0 = (tk : Int)) (gtk : T.2.2.2 tk = some 4) (qrb : H tk 0 = (rb : Int)) (grb : T.2.2.2 rb = some 2) (p0 : wkw t1 t1.length = kk) (hTC_tk : TC T H tk B n q) : wpc kt 2 23 [.ref r0, .ref s1] T H (uq_23 r0 s1 tk rb B n q kk T H) := by
  refine wp_enter e23 (Nat.le_of_ble_eq_true rfl) rfl ?_
  have f0 : wfr [(3, 3), (3, 4), (4, 2), (4, 3), (4, 4), (4, 5), (4, 6)] T H H := wfr.rf
  show wp _ _ 23 0 [(0, .ref r0), (1, .ref s1)] [] _ H _
  have u230710 := TC_k hTC_tk
  have _i := TC_i hTC_tk
  refine wp_of e23 c23_0 (rw_aload_n (pc' := 1) (v := .ref r0) rfl rfl rfl ?_)
  refine wp_of e23 c23_1 (xg_K (pc' := 4) lf_1_12 hW g0 sh_3 (by decide) (by decide) rfl qtk rfl ?_)
  refine wp_of e23 c23_4 (rw_aload_n (pc' := 5) (v := .ref s1) rfl rfl rfl ?_)
  refine wp_of e23 c23_5 (xc_V (pc' := 8) (r := tk) (as := [.ref s1]) (st := []) (lm_1_185) rfl rfl (Nat.le_of_ble_eq_true rfl) hW gtk sh_4 (by decide) rfl (by decide) (u_19 (kk := kk) hW gtk h1 (by assumption)) (fun R230711 T230712 H230713 p230714 => ?_))
  obtain ⟨e230715, e230717, z230718, e230716, b230719, p230720⟩ := p230714
  subst e230715
  subst e230716
  subst e230717
  rcases p230720 with ⟨a230721, a230722⟩ | ⟨a230723, a230724⟩
  · show wp _ _ 23 8 [(0, .ref r0), (1, .ref s1)] [vI z230718] _ H _
    refine wp_of e23 c23_8 (rw_if_ne (p1 := 17) (p2 := 11) (by decide) rfl ⟨by omega, by omega⟩ (fun c230725 => ?_) (fun c230725 => ?_))
    · refine wp_of e23 c23_17 (rw_aload_n (pc' := 18) (v := .ref r0) rfl rfl rfl ?_)
      refine wp_of e23 c23_18 (xg_K (pc' := 21) lf_1_12 hW g0 sh_3 (by decide) (by decide) rfl qtk rfl ?_)
      have h230726 : TP T H rb B := TC_tp hTC_tk qrb
      refine wp_of e23 c23_21 (xc_V (pc' := 24) (r := tk) (as := []) (st := []) (lm_1_74) rfl rfl (Nat.le_of_ble_eq_true rfl) hW gtk sh_4 (by decide) rfl (by decide) (u_16 (B := B) (n := n) (a := (xE B n q)) (q := (xN B n q)) hW gtk qrb grb (by omega) (by omega) (by omega) (rfl) h230726) (fun R230727 T230728 H230729 p230730 => ?_))
      obtain ⟨e230731, w230733, f230734, e230732, p230735⟩ := p230730
      subst e230731
      subst e230732
      have f230737 := f0.tr f230734 rfl
      show wp _ _ 23 24 [(0, .ref r0), (1, .ref s1)] [] _ H230729 _
      have u230738 := TC_k p230735
      refine wp_of e23 c23_24 (rw_iconst (pc' := 25) rfl ?_)
      have := @xw_b B n q kk
      exact wp_zreturn e23 c23_25 rfl (by omega) ⟨rfl, w230733, f230737, 1, rfl, ⟨by omega, by omega⟩, (Or.inl ⟨by omega, by omega, p230735⟩)⟩
    · exfalso
      omega
  · show wp _ _ 23 8 [(0, .ref r0), (1, .ref s1)] [vI z230718] _ H _
    refine wp_of e23 c23_8 (rw_if_ne (p1 := 17) (p2 := 11) (by decide) rfl ⟨by omega, by omega⟩ (fun c230739 => ?_) (fun c230739 => ?_))
    · exfalso
      omega
    · refine wp_of e23 c23_11 (rw_aload_n (pc' := 12) (v := .ref r0) rfl rfl rfl ?_)
      refine wp_of e23 c23_12 (rw_iconst (pc' := 13) rfl ?_)
      refine wp_of e23 c23_13 (xc_V (pc' := 16) (r := r0) (as := [vI 1]) (st := []) (lm_1_47) rfl rfl (Nat.le_of_ble_eq_true rfl) hW g0 sh_3 (by decide) rfl (by decide) (u_20  hW g0 ⟨by omega, by omega⟩ qtk gtk) (fun R230740 T230741 H230742 p230743 => ?_))
      obtain ⟨e230744, w230746, f230747, z230748, e230745, b230749, p230750⟩ := p230743
      subst e230744
      subst e230745
      obtain ⟨a230751, a230752, a230753⟩ := p230750
      have f230754 := f0.tr f230747 rfl
      show wp _ _ 23 16 [(0, .ref r0), (1, .ref s1)] [vI z230748] _ H230742 _
      have := @xw_b B n q kk
      exact wp_zreturn e23 c23_16 rfl (by omega) ⟨rfl, w230746, f230754, z230748, rfl, ⟨by omega, by omega⟩, (Or.inr ⟨by omega, by omega, by omega, by omega⟩)⟩
/-! StrikeAwake$Reader.whole(II)I  -/
abbrev uq_24 (r0 : Nat) (a1 : Int) (a2 : Int) (tk : Nat) (rb : Nat) (B : Nat → Int) (n : Int) (q : Int) (lo : Int) (hi : Int) (T : wq_T) (H : wq_H) : Option Value → wq_T → wq_H → Prop := fun r T' H' => T = T' ∧ WT T H' ∧ wfr [(3, 3), (3, 4), (4, 2), (4, 3), (4, 4), (4, 5), (4, 6)] T H H' ∧ ∃ z : Int, some (vI z) = r ∧ ((-1) ≤ z ∧ z ≤ 100) ∧ (((xh B n q lo hi = 0) ∧ (z = xV B n q) ∧ (lo ≤ z ∧ z ≤ hi) ∧ TC T H' tk B n (xN B n q)) ∨ ((z = -1) ∧ (xh B n q lo hi ≠ 0) ∧ (H' r0 3 = xh B n q lo hi) ∧ (H' r0 4 = q)))
set_option maxHeartbeats 4000000 in
theorem u_24 {kt : Nat → Option mc_E} {T : wq_T} {H : wq_H} {r0 : Nat} {a1 : Int} {a2 : Int} {tk : Nat} {rb : Nat} {B : Nat → Int} {n : Int} {q : Int} {lo : Int} {hi : Int} (hW : WT T H) (g0 : T.2.2.2 r0 = some 3) (i1 : 0 ≤ a1 ∧ a1 ≤ 100) (i2 : 0 ≤ a2 ∧ a2 ≤ 100) (qtk : H r0 0 = (tk : Int)) (gtk : T.2.2.2 tk = some 4) (qrb : H tk 0 = (rb : Int)) (grb : T.2.2.2 rb = some 2) (p0 : a1 = lo) (p1 : a2 = hi) (hTC_tk : TC T H tk B n q) : wpc kt 2 24 [.ref r0, vI a1, vI a2] T H (uq_24 r0 a1 a2 tk rb B n q lo hi T H) := by
  refine wp_enter e24 (Nat.le_of_ble_eq_true rfl) rfl ?_
  have f0 : wfr [(3, 3), (3, 4), (4, 2), (4, 3), (4, 4), (4, 5), (4, 6)] T H H := wfr.rf
  show wp _ _ 24 0 [(0, .ref r0), (1, vI a1), (2, vI a2)] [] _ H _
  have u230818 := TC_k hTC_tk
  have _i := TC_i hTC_tk
  refine wp_of e24 c24_0 (rw_aload_n (pc' := 1) (v := .ref r0) rfl rfl rfl ?_)
  refine wp_of e24 c24_1 (xg_K (pc' := 4) lf_1_12 hW g0 sh_3 (by decide) (by decide) rfl qtk rfl ?_)
  refine wp_of e24 c24_4 (xg_I (pc' := 7) lf_1_38 hW gtk sh_4 (by decide) (by decide) ty_4_3 rfl rfl (fun b230819 b230820 => ?_))
  refine wp_of e24 c24_7 (rw_iconst (pc' := 8) rfl ?_)
  refine wp_of e24 c24_8 (rw_icmp_eq (p1 := 19) (p2 := 11) (by decide) rfl ⟨by omega, by omega⟩ ⟨by omega, by omega⟩ (fun c230821 => ?_) (fun c230821 => ?_))
  · refine wp_of e24 c24_19 (rw_aload_n (pc' := 20) (v := .ref r0) rfl rfl rfl ?_)
    refine wp_of e24 c24_20 (xg_K (pc' := 23) lf_1_12 hW g0 sh_3 (by decide) (by decide) rfl qtk rfl ?_)
    refine wp_of e24 c24_23 (xg_I (pc' := 26) lf_1_230 hW gtk sh_4 (by decide) (by decide) ty_4_5 rfl rfl (fun b230822 b230823 => ?_))
    refine wp_of e24 c24_26 (rw_istore_n (pc' := 27) (z := H tk 5) (L' := [(3, vI (H tk 5)), (0, .ref r0), (1, vI a1), (2, vI a2)]) rfl rfl rfl ?_)
    refine wp_of e24 c24_27 (rw_iload_n (pc' := 28) (z := H tk 5) rfl rfl ?_)
    refine wp_of e24 c24_28 (rw_iload_n (pc' := 29) (z := a1) rfl rfl ?_)
    refine wp_of e24 c24_29 (rw_icmp_lt (p1 := 37) (p2 := 32) (by decide) rfl ⟨by omega, by omega⟩ ⟨by omega, by omega⟩ (fun c230824 => ?_) (fun c230824 => ?_))
    · refine wp_of e24 c24_37 (rw_aload_n (pc' := 38) (v := .ref r0) rfl rfl rfl ?_)
      refine wp_of e24 c24_38 (rw_iconst (pc' := 39) rfl ?_)
      refine wp_of e24 c24_39 (xc_V (pc' := 42) (r := r0) (as := [vI 4]) (st := []) (lm_1_47) rfl rfl (Nat.le_of_ble_eq_true rfl) hW g0 sh_3 (by decide) rfl (by decide) (u_20  hW g0 ⟨by omega, by omega⟩ qtk gtk) (fun R230825 T230826 H230827 p230828 => ?_))
      obtain ⟨e230829, w230831, f230832, z230833, e230830, b230834, p230835⟩ := p230828
      subst e230829
      subst e230830
      obtain ⟨a230836, a230837, a230838⟩ := p230835
      have f230839 := f0.tr f230832 rfl
      show wp _ _ 24 42 [(3, vI (H tk 5)), (0, .ref r0), (1, vI a1), (2, vI a2)] [vI z230833] _ H230827 _
      refine wp_of e24 c24_42 (rw_pop (pc' := 43) rfl rfl ?_)
      refine wp_of e24 c24_43 (rw_iconst (pc' := 44) rfl ?_)
      have := @xh_b B n q lo hi
      exact wp_ireturn e24 c24_44 rfl ⟨rfl, w230831, f230839, -1, rfl, ⟨by omega, by omega⟩, (Or.inr ⟨by omega, by omega, by omega, by omega⟩)⟩
    · refine wp_of e24 c24_32 (rw_iload_n (pc' := 33) (z := H tk 5) rfl rfl ?_)
      refine wp_of e24 c24_33 (rw_iload_n (pc' := 34) (z := a2) rfl rfl ?_)
      refine wp_of e24 c24_34 (rw_icmp_le (p1 := 45) (p2 := 37) (by decide) rfl ⟨by omega, by omega⟩ ⟨by omega, by omega⟩ (fun c230840 => ?_) (fun c230840 => ?_))
      · refine wp_of e24 c24_45 (rw_aload_n (pc' := 46) (v := .ref r0) rfl rfl rfl ?_)
        refine wp_of e24 c24_46 (xg_K (pc' := 49) lf_1_12 hW g0 sh_3 (by decide) (by decide) rfl qtk rfl ?_)
        have h230841 : TP T H rb B := TC_tp hTC_tk qrb
        refine wp_of e24 c24_49 (xc_V (pc' := 52) (r := tk) (as := []) (st := []) (lm_1_74) rfl rfl (Nat.le_of_ble_eq_true rfl) hW gtk sh_4 (by decide) rfl (by decide) (u_16 (B := B) (n := n) (a := (xE B n q)) (q := (xN B n q)) hW gtk qrb grb (by omega) (by omega) (by omega) (rfl) h230841) (fun R230842 T230843 H230844 p230845 => ?_))
        obtain ⟨e230846, w230848, f230849, e230847, p230850⟩ := p230845
        subst e230846
        subst e230847
        have f230852 := f0.tr f230849 rfl
        show wp _ _ 24 52 [(3, vI (H tk 5)), (0, .ref r0), (1, vI a1), (2, vI a2)] [] _ H230844 _
        have u230853 := TC_k p230850
        refine wp_of e24 c24_52 (rw_iload_n (pc' := 53) (z := H tk 5) rfl rfl ?_)
        have := @xh_b B n q lo hi
        exact wp_ireturn e24 c24_53 rfl ⟨rfl, w230848, f230852, H tk 5, rfl, ⟨by omega, by omega⟩, (Or.inl ⟨by omega, by omega, by omega, p230850⟩)⟩
      · refine wp_of e24 c24_37 (rw_aload_n (pc' := 38) (v := .ref r0) rfl rfl rfl ?_)
        refine wp_of e24 c24_38 (rw_iconst (pc' := 39) rfl ?_)
        refine wp_of e24 c24_39 (xc_V (pc' := 42) (r := r0) (as := [vI 4]) (st := []) (lm_1_47) rfl rfl (Nat.le_of_ble_eq_true rfl) hW g0 sh_3 (by decide) rfl (by decide) (u_20  hW g0 ⟨by omega, by omega⟩ qtk gtk) (fun R230854 T230855 H230856 p230857 => ?_))
        obtain ⟨e230858, w230860, f230861, z230862, e230859, b230863, p230864⟩ := p230857
        subst e230858
        subst e230859
        obtain ⟨a230865, a230866, a230867⟩ := p230864
        have f230868 := f0.tr f230861 rfl
        show wp _ _ 24 42 [(3, vI (H tk 5)), (0, .ref r0), (1, vI a1), (2, vI a2)] [vI z230862] _ H230856 _
        refine wp_of e24 c24_42 (rw_pop (pc' := 43) rfl rfl ?_)
        refine wp_of e24 c24_43 (rw_iconst (pc' := 44) rfl ?_)
        have := @xh_b B n q lo hi
        exact wp_ireturn e24 c24_44 rfl ⟨rfl, w230860, f230868, -1, rfl, ⟨by omega, by omega⟩, (Or.inr ⟨by omega, by omega, by omega, by omega⟩)⟩
  · refine wp_of e24 c24_11 (rw_aload_n (pc' := 12) (v := .ref r0) rfl rfl rfl ?_)
    refine wp_of e24 c24_12 (rw_iconst (pc' := 13) rfl ?_)
    refine wp_of e24 c24_13 (xc_V (pc' := 16) (r := r0) (as := [vI 1]) (st := []) (lm_1_47) rfl rfl (Nat.le_of_ble_eq_true rfl) hW g0 sh_3 (by decide) rfl (by decide) (u_20  hW g0 ⟨by omega, by omega⟩ qtk gtk) (fun R230869 T230870 H230871 p230872 => ?_))
    obtain ⟨e230873, w230875, f230876, z230877, e230874, b230878, p230879⟩ := p230872
    subst e230873
    subst e230874
    obtain ⟨a230880, a230881, a230882⟩ := p230879
    have f230883 := f0.tr f230876 rfl
    show wp _ _ 24 16 [(0, .ref r0), (1, vI a1), (2, vI a2)] [vI z230877] _ H230871 _
    refine wp_of e24 c24_16 (rw_pop (pc' := 17) rfl rfl ?_)
    refine wp_of e24 c24_17 (rw_iconst (pc' := 18) rfl ?_)
    have := @xh_b B n q lo hi
    exact wp_ireturn e24 c24_18 rfl ⟨rfl, w230875, f230883, -1, rfl, ⟨by omega, by omega⟩, (Or.inr ⟨by omega, by omega, by omega, by omega⟩)⟩
/-! StrikeAwake$Reader.takesRange(IIII)Z  -/
abbrev uq_29 (r0 : Nat) (a1 : Int) (a2 : Int) (a3 : Int) (a4 : Int) (tk : Nat) (rb : Nat) (B : Nat → Int) (n : Int) (q : Int) (T : wq_T) (H : wq_H) : Option Value → wq_T → wq_H → Prop := fun r T' H' => T = T' ∧ WT T H' ∧ wfr [(3, 1), (3, 2), (3, 3), (3, 4), (4, 2), (4, 3), (4, 4), (4, 5), (4, 6)] T H H' ∧ ∃ z : Int, some (vI z) = r ∧ (0 ≤ z ∧ z ≤ 1) ∧ (((z = 1) ∧ ((xrg B n q a1 a2 a3 a4).1 = 0) ∧ (q ≤ (xN B n (xN B n (xN B n q)))) ∧ (H' r0 1 = xV B n q) ∧ (H' r0 2 = xV B n (xN B n (xN B n q))) ∧ (0 ≤ xV B n q ∧ xV B n q ≤ a1) ∧ (xV B n q + a2 ≤ xV B n (xN B n (xN B n q)) ∧ xV B n (xN B n (xN B n q)) ≤ xV B n q + a3 ∧ xV B n (xN B n (xN B n q)) ≤ a4) ∧ TC T H' tk B n (xN B n (xN B n (xN B n q)))) ∨ ((z = 0) ∧ ((xrg B n q a1 a2 a3 a4).1 ≠ 0) ∧ ((xrg B n q a1 a2 a3 a4).2.2 = (xrg B n q a1 a2 a3 a4).2.1) ∧ (H' r0 3 = (xrg B n q a1 a2 a3 a4).1) ∧ (H' r0 4 = (xrg B n q a1 a2 a3 a4).2.1)))
set_option maxHeartbeats 4000000 in
theorem u_29 {kt : Nat → Option mc_E} {T : wq_T} {H : wq_H} {r0 : Nat} {a1 : Int} {a2 : Int} {a3 : Int} {a4 : Int} {tk : Nat} {rb : Nat} {B : Nat → Int} {n : Int} {q : Int} (hW : WT T H) (g0 : T.2.2.2 r0 = some 3) (i1 : 0 ≤ a1 ∧ a1 ≤ 23) (i2 : 0 ≤ a2 ∧ a2 ≤ 1) (i3 : 0 ≤ a3 ∧ a3 ≤ 24) (i4 : 0 ≤ a4 ∧ a4 ≤ 24) (qtk : H r0 0 = (tk : Int)) (gtk : T.2.2.2 tk = some 4) (qrb : H tk 0 = (rb : Int)) (grb : T.2.2.2 rb = some 2) (hTC_tk : TC T H tk B n q) : wpc kt 3 29 [.ref r0, vI a1, vI a2, vI a3, vI a4] T H (uq_29 r0 a1 a2 a3 a4 tk rb B n q T H) := by
  refine wp_enter e29 (Nat.le_of_ble_eq_true rfl) rfl ?_
  have f0 : wfr [(3, 1), (3, 2), (3, 3), (3, 4), (4, 2), (4, 3), (4, 4), (4, 5), (4, 6)] T H H := wfr.rf
  show wp _ _ 29 0 [(0, .ref r0), (1, vI a1), (2, vI a2), (3, vI a3), (4, vI a4)] [] _ H _
  have u230995 := TC_k hTC_tk
  refine wp_of e29 c29_0 (rw_aload_n (pc' := 1) (v := .ref r0) rfl rfl rfl ?_)
  refine wp_of e29 c29_1 (rw_aload_n (pc' := 2) (v := .ref r0) rfl rfl rfl ?_)
  refine wp_of e29 c29_2 (rw_iconst (pc' := 3) rfl ?_)
  refine wp_of e29 c29_3 (rw_iload_n (pc' := 4) (z := a1) rfl rfl ?_)
  refine wp_of e29 c29_4 (xc_V (pc' := 7) (r := r0) (as := [vI 0, vI a1]) (st := [.ref r0]) (lm_1_119) rfl rfl (Nat.le_of_ble_eq_true rfl) hW g0 sh_3 (by decide) rfl (by decide) (u_24 (B := B) (n := n) (q := q) (lo := 0) (hi := a1) hW g0 ⟨by omega, by omega⟩ ⟨by omega, by omega⟩ qtk gtk qrb grb (by omega) (by omega) hTC_tk) (fun R230996 T230997 H230998 p230999 => ?_))
  obtain ⟨e231000, w231002, f231003, z231004, e231001, b231005, p231006⟩ := p230999
  subst e231000
  subst e231001
  rcases p231006 with ⟨a231007, a231008, a231009, a231010⟩ | ⟨a231011, a231012, a231013, a231014⟩
  · have f231015 := f0.tr f231003 rfl
    show wp _ _ 29 7 [(0, .ref r0), (1, vI a1), (2, vI a2), (3, vI a3), (4, vI a4)] [vI z231004, .ref r0] _ H230998 _
    have u231016 := TC_k a231010
    refine wp_of e29 c29_7 (xp_I (pc' := 10) lf_1_158 w231002 g0 sh_3 (by decide) (by decide) ty_3_1 rfl rfl (by omega) (by omega) ⟨by omega, by omega⟩ rfl (fun H231017 e231018 w231019 => ?_))
    have f231020 := f231015.put' e231018 g0 rfl
    have k231021 : H231017 r0 1 = z231004 := wq_u_s e231018
    refine wp_of e29 c29_10 (rw_aload_n (pc' := 11) (v := .ref r0) rfl rfl rfl ?_)
    refine wp_of e29 c29_11 (xg_I (pc' := 14) lf_1_158 w231019 g0 sh_3 (by decide) (by decide) ty_3_1 rfl rfl (fun b231022 b231023 => ?_))
    refine wp_of e29 c29_14 (rw_if_lt (p1 := 27) (p2 := 17) (by decide) rfl ⟨by omega, by omega⟩ (fun c231024 => ?_) (fun c231024 => ?_))
    · exfalso
      omega
    · refine wp_of e29 c29_17 (rw_aload_n (pc' := 18) (v := .ref r0) rfl rfl rfl ?_)
      refine wp_of e29 c29_18 (rw_ldc_wS (pc' := 21) (k := 68) rfl rfl rfl rfl ?_)
      have k231025 : H231017 r0 0 = H r0 0 := ((wq_u_j e231018 rfl).trans (f231003 r0 0 _ g0 rfl))
      have q231026 : H231017 r0 0 = (tk : Int) := k231025.trans qtk
      have k231027 : H231017 tk 0 = H tk 0 := ((wq_u_t e231018 g0 gtk rfl 0).trans (f231003 tk 0 _ gtk rfl))
      have q231028 : H231017 tk 0 = (rb : Int) := k231027.trans qrb
      have h231029 : TC T H231017 tk B n (xN B n q) := (TC_fr w231002 gtk ((wfr.rf (l := [(3, 1)])).put' e231018 g0 rfl) rfl a231010)
      refine wp_of e29 c29_21 (xc_V (pc' := 24) (r := r0) (as := [.ref 68]) (st := []) (lm_1_115) rfl rfl (Nat.le_of_ble_eq_true rfl) w231019 g0 sh_3 (by decide) rfl (by decide) (u_23 (B := B) (n := n) (q := ((xN B n q))) (kk := 655) w231019 g0 rfl q231026 gtk q231028 grb (by decide +kernel) h231029) (fun R231030 T231031 H231032 p231033 => ?_))
      obtain ⟨e231034, w231036, f231037, z231038, e231035, b231039, p231040⟩ := p231033
      subst e231034
      subst e231035
      rcases p231040 with ⟨a231041, a231042, a231043⟩ | ⟨a231044, a231045, a231046, a231047⟩
      · have f231048 := f231020.tr f231037 rfl
        show wp _ _ 29 24 [(0, .ref r0), (1, vI a1), (2, vI a2), (3, vI a3), (4, vI a4)] [vI z231038] _ H231032 _
        have u231049 := TC_k a231043
        refine wp_of e29 c29_24 (rw_if_ne (p1 := 29) (p2 := 27) (by decide) rfl ⟨by omega, by omega⟩ (fun c231050 => ?_) (fun c231050 => ?_))
        · refine wp_of e29 c29_29 (rw_aload_n (pc' := 30) (v := .ref r0) rfl rfl rfl ?_)
          refine wp_of e29 c29_30 (rw_aload_n (pc' := 31) (v := .ref r0) rfl rfl rfl ?_)
          refine wp_of e29 c29_31 (rw_aload_n (pc' := 32) (v := .ref r0) rfl rfl rfl ?_)
          have k231051 : H231032 r0 1 = H231017 r0 1 := (f231037 r0 1 _ g0 rfl)
          refine wp_of e29 c29_32 (xg_I (pc' := 35) lf_1_158 w231036 g0 sh_3 (by decide) (by decide) ty_3_1 rfl rfl (fun b231052 b231053 => ?_))
          refine wp_of e29 c29_35 (rw_iload_n (pc' := 36) (z := a2) rfl rfl ?_)
          refine wp_of e29 c29_36 (rw_iadd (pc' := 37) rfl ?_)
          refine wp_of e29 c29_37 (rw_aload_n (pc' := 38) (v := .ref r0) rfl rfl rfl ?_)
          refine wp_of e29 c29_38 (xg_I (pc' := 41) lf_1_158 w231036 g0 sh_3 (by decide) (by decide) ty_3_1 rfl rfl (fun b231054 b231055 => ?_))
          refine wp_of e29 c29_41 (rw_iload_n (pc' := 42) (z := a3) rfl rfl ?_)
          refine wp_of e29 c29_42 (rw_iadd (pc' := 43) rfl ?_)
          refine wp_of e29 c29_43 (rw_iload (pc' := 45) (z := a4) rfl rfl ?_)
          refine wp_of e29 c29_45 (rw_math2 (pc' := 48) (z := min ((H231032 r0 1) + a3) a4) rfl rfl ⟨by omega, by omega⟩ ⟨by omega, by omega⟩ (Or.inl ⟨rfl, rfl⟩) (Nat.le_of_ble_eq_true rfl) rfl ?_)
          obtain ⟨v231056, e231057⟩ : ∃ x : Int, x = min ((H231032 r0 1) + a3) a4 := ⟨_, rfl⟩
          rw [← e231057]
          have b231058 : v231056 = ((H231032 r0 1) + a3) ∨ v231056 = a4 := by
            rw [e231057]
            omega
          have b231059 : v231056 ≤ ((H231032 r0 1) + a3) ∧ v231056 ≤ a4 := by
            rw [e231057]
            omega
          have k231060 : H231032 r0 0 = H231017 r0 0 := (f231037 r0 0 _ g0 rfl)
          have q231061 : H231032 r0 0 = (tk : Int) := k231060.trans q231026
          have k231062 : H231032 tk 0 = H231017 tk 0 := (f231037 tk 0 _ gtk rfl)
          have q231063 : H231032 tk 0 = (rb : Int) := k231062.trans q231028
          refine wp_of e29 c29_48 (xc_V (pc' := 51) (r := r0) (as := [vI ((H231032 r0 1) + a2), vI v231056]) (st := [.ref r0]) (lm_1_119) rfl rfl (Nat.le_of_ble_eq_true rfl) w231036 g0 sh_3 (by decide) rfl (by decide) (u_24 (B := B) (n := n) (q := ((xN B n ((xN B n q))))) (lo := (xV B n q + a2)) (hi := (min (xV B n q + a3) a4)) w231036 g0 ⟨by omega, by omega⟩ ⟨by omega, by omega⟩ q231061 gtk q231063 grb (by omega) (by omega) a231043) (fun R231064 T231065 H231066 p231067 => ?_))
          obtain ⟨e231068, w231070, f231071, z231072, e231069, b231073, p231074⟩ := p231067
          subst e231068
          subst e231069
          rcases p231074 with ⟨a231075, a231076, a231077, a231078⟩ | ⟨a231079, a231080, a231081, a231082⟩
          · have f231083 := f231048.tr f231071 rfl
            show wp _ _ 29 51 [(0, .ref r0), (1, vI a1), (2, vI a2), (3, vI a3), (4, vI a4)] [vI z231072, .ref r0] _ H231066 _
            have u231084 := TC_k a231078
            refine wp_of e29 c29_51 (xp_I (pc' := 54) lf_1_164 w231070 g0 sh_3 (by decide) (by decide) ty_3_2 rfl rfl (by omega) (by omega) ⟨by omega, by omega⟩ rfl (fun H231085 e231086 w231087 => ?_))
            have f231088 := f231083.put' e231086 g0 rfl
            have k231089 : H231085 r0 2 = z231072 := wq_u_s e231086
            refine wp_of e29 c29_54 (rw_aload_n (pc' := 55) (v := .ref r0) rfl rfl rfl ?_)
            refine wp_of e29 c29_55 (xg_I (pc' := 58) lf_1_164 w231087 g0 sh_3 (by decide) (by decide) ty_3_2 rfl rfl (fun b231090 b231091 => ?_))
            refine wp_of e29 c29_58 (rw_if_lt (p1 := 65) (p2 := 61) (by decide) rfl ⟨by omega, by omega⟩ (fun c231092 => ?_) (fun c231092 => ?_))
            · exfalso
              omega
            · refine wp_of e29 c29_61 (rw_iconst (pc' := 62) rfl ?_)
              refine wp_of e29 c29_62 (rw_goto (p1 := 66) (by decide) ?_)
              have k231093 : H231085 r0 1 = H231032 r0 1 := ((wq_u_j e231086 rfl).trans (f231071 r0 1 _ g0 rfl))
              have o231094 : (xrg B n q a1 a2 a3 a4) = (0, q, (xN B n ((xN B n ((xN B n q)))))) := by
                unfold xrg
                repeat first | rw [xs_0 (by omega)] | rw [xs_1 (by omega)] | rw [if_pos (by omega)] | rw [if_neg (by omega)]
                first | done | rfl | assumption | (exfalso; omega) | (refine Prod.ext ?_ (Prod.ext ?_ ?_) <;> (try dsimp only) <;> omega)
              have o231094a : ((xrg B n q a1 a2 a3 a4)).1 = 0 := by rw [o231094]
              have o231094b : ((xrg B n q a1 a2 a3 a4)).2.1 = q := by rw [o231094]
              have o231094c : ((xrg B n q a1 a2 a3 a4)).2.2 = (xN B n ((xN B n ((xN B n q))))) := by rw [o231094]
              have h231095 : TC T H231085 tk B n (xN B n ((xN B n ((xN B n q))))) := (TC_fr w231070 gtk ((wfr.rf (l := [(3, 2)])).put' e231086 g0 rfl) rfl a231078)
              exact wp_zreturn e29 c29_66 rfl (by omega) ⟨rfl, w231087, f231088, 1, rfl, ⟨by omega, by omega⟩, (Or.inl ⟨by omega, by omega, by omega, by omega, by omega, by omega, by omega, h231095⟩)⟩
          · have f231096 := f231048.tr f231071 rfl
            show wp _ _ 29 51 [(0, .ref r0), (1, vI a1), (2, vI a2), (3, vI a3), (4, vI a4)] [vI z231072, .ref r0] _ H231066 _
            refine wp_of e29 c29_51 (xp_I (pc' := 54) lf_1_164 w231070 g0 sh_3 (by decide) (by decide) ty_3_2 rfl rfl (by omega) (by omega) ⟨by omega, by omega⟩ rfl (fun H231097 e231098 w231099 => ?_))
            have f231100 := f231096.put' e231098 g0 rfl
            have k231101 : H231097 r0 2 = z231072 := wq_u_s e231098
            refine wp_of e29 c29_54 (rw_aload_n (pc' := 55) (v := .ref r0) rfl rfl rfl ?_)
            refine wp_of e29 c29_55 (xg_I (pc' := 58) lf_1_164 w231099 g0 sh_3 (by decide) (by decide) ty_3_2 rfl rfl (fun b231102 b231103 => ?_))
            refine wp_of e29 c29_58 (rw_if_lt (p1 := 65) (p2 := 61) (by decide) rfl ⟨by omega, by omega⟩ (fun c231104 => ?_) (fun c231104 => ?_))
            · refine wp_of e29 c29_65 (rw_iconst (pc' := 66) rfl ?_)
              have k231105 : H231097 r0 1 = H231032 r0 1 := ((wq_u_j e231098 rfl).trans (f231071 r0 1 _ g0 rfl))
              have k231106 : H231097 r0 3 = H231066 r0 3 := (wq_u_j e231098 rfl)
              have k231107 : H231097 r0 4 = H231066 r0 4 := (wq_u_j e231098 rfl)
              have o231108 : (xrg B n q a1 a2 a3 a4) = (xh B n ((xN B n ((xN B n q)))) (xV B n q + a2) (min (xV B n q + a3) a4), ((xN B n ((xN B n q)))), ((xN B n ((xN B n q))))) := by
                unfold xrg
                repeat first | rw [xs_0 (by omega)] | rw [xs_1 (by omega)] | rw [if_pos (by omega)] | rw [if_neg (by omega)]
                first | done | rfl | assumption | (exfalso; omega) | (refine Prod.ext ?_ (Prod.ext ?_ ?_) <;> (try dsimp only) <;> omega)
              have o231108a : ((xrg B n q a1 a2 a3 a4)).1 = xh B n ((xN B n ((xN B n q)))) (xV B n q + a2) (min (xV B n q + a3) a4) := by rw [o231108]
              have o231108b : ((xrg B n q a1 a2 a3 a4)).2.1 = ((xN B n ((xN B n q)))) := by rw [o231108]
              have o231108c : ((xrg B n q a1 a2 a3 a4)).2.2 = ((xN B n ((xN B n q)))) := by rw [o231108]
              exact wp_zreturn e29 c29_66 rfl (by omega) ⟨rfl, w231099, f231100, 0, rfl, ⟨by omega, by omega⟩, (Or.inr ⟨by omega, by omega, by omega, by omega, by omega⟩)⟩
            · exfalso
              omega
        · exfalso
          omega
      · have f231109 := f231020.tr f231037 rfl
        show wp _ _ 29 24 [(0, .ref r0), (1, vI a1), (2, vI a2), (3, vI a3), (4, vI a4)] [vI z231038] _ H231032 _
        refine wp_of e29 c29_24 (rw_if_ne (p1 := 29) (p2 := 27) (by decide) rfl ⟨by omega, by omega⟩ (fun c231110 => ?_) (fun c231110 => ?_))
        · exfalso
          omega
        · refine wp_of e29 c29_27 (rw_iconst (pc' := 28) rfl ?_)
          have k231111 : H231032 r0 1 = H231017 r0 1 := (f231037 r0 1 _ g0 rfl)
          have o231112 : (xrg B n q a1 a2 a3 a4) = (xw B n ((xN B n q)) 655, ((xN B n q)), ((xN B n q))) := by
            unfold xrg
            repeat first | rw [xs_0 (by omega)] | rw [xs_1 (by omega)] | rw [if_pos (by omega)] | rw [if_neg (by omega)]
            first | done | rfl | assumption | (exfalso; omega) | (refine Prod.ext ?_ (Prod.ext ?_ ?_) <;> (try dsimp only) <;> omega)
          have o231112a : ((xrg B n q a1 a2 a3 a4)).1 = xw B n ((xN B n q)) 655 := by rw [o231112]
          have o231112b : ((xrg B n q a1 a2 a3 a4)).2.1 = ((xN B n q)) := by rw [o231112]
          have o231112c : ((xrg B n q a1 a2 a3 a4)).2.2 = ((xN B n q)) := by rw [o231112]
          exact wp_zreturn e29 c29_28 rfl (by omega) ⟨rfl, w231036, f231109, 0, rfl, ⟨by omega, by omega⟩, (Or.inr ⟨by omega, by omega, by omega, by omega, by omega⟩)⟩
  · have f231113 := f0.tr f231003 rfl
    show wp _ _ 29 7 [(0, .ref r0), (1, vI a1), (2, vI a2), (3, vI a3), (4, vI a4)] [vI z231004, .ref r0] _ H230998 _
    refine wp_of e29 c29_7 (xp_I (pc' := 10) lf_1_158 w231002 g0 sh_3 (by decide) (by decide) ty_3_1 rfl rfl (by omega) (by omega) ⟨by omega, by omega⟩ rfl (fun H231114 e231115 w231116 => ?_))
    have f231117 := f231113.put' e231115 g0 rfl
    have k231118 : H231114 r0 1 = z231004 := wq_u_s e231115
    refine wp_of e29 c29_10 (rw_aload_n (pc' := 11) (v := .ref r0) rfl rfl rfl ?_)
    refine wp_of e29 c29_11 (xg_I (pc' := 14) lf_1_158 w231116 g0 sh_3 (by decide) (by decide) ty_3_1 rfl rfl (fun b231119 b231120 => ?_))
    refine wp_of e29 c29_14 (rw_if_lt (p1 := 27) (p2 := 17) (by decide) rfl ⟨by omega, by omega⟩ (fun c231121 => ?_) (fun c231121 => ?_))
    · refine wp_of e29 c29_27 (rw_iconst (pc' := 28) rfl ?_)
      have k231122 : H231114 r0 3 = H230998 r0 3 := (wq_u_j e231115 rfl)
      have k231123 : H231114 r0 4 = H230998 r0 4 := (wq_u_j e231115 rfl)
      have o231124 : (xrg B n q a1 a2 a3 a4) = (xh B n q 0 a1, q, q) := by
        unfold xrg
        repeat first | rw [xs_0 (by omega)] | rw [xs_1 (by omega)] | rw [if_pos (by omega)] | rw [if_neg (by omega)]
        first | done | rfl | assumption | (exfalso; omega) | (refine Prod.ext ?_ (Prod.ext ?_ ?_) <;> (try dsimp only) <;> omega)
      have o231124a : ((xrg B n q a1 a2 a3 a4)).1 = xh B n q 0 a1 := by rw [o231124]
      have o231124b : ((xrg B n q a1 a2 a3 a4)).2.1 = q := by rw [o231124]
      have o231124c : ((xrg B n q a1 a2 a3 a4)).2.2 = q := by rw [o231124]
      exact wp_zreturn e29 c29_28 rfl (by omega) ⟨rfl, w231116, f231117, 0, rfl, ⟨by omega, by omega⟩, (Or.inr ⟨by omega, by omega, by omega, by omega, by omega⟩)⟩
    · exfalso
      omega
