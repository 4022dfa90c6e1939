section
/-! what methods do (own work, written by wip/gen3/sx3.py) -/
/-! StrikeAwakeModel.nothing()I  -/
abbrev uq_282 (r0 : Nat) (e : xD) (d : xD) (T : wq_T) (H : wq_H) : Option Value → wq_T → wq_H → Prop := fun r T' H' => T = T' ∧ WT T H' ∧ wfr [(42, 0), (42, 1), (42, 2), (42, 28), (42, 29), (51, 999), (52, 999)] T H H' ∧ ∃ z : Int, some (vI z) = r ∧ ((-2147483648) ≤ z ∧ z ≤ 2147483647) ∧ (((wKI H' r0 = 1) ∧ KNN T H' r0 e d))
set_option maxHeartbeats 4000000 in
theorem u_282 {kt : Nat → Option mc_E} {T : wq_T} {H : wq_H} {r0 : Nat} {e : xD} {d : xD} (hW : WT T H) (g0 : T.2.2.2 r0 = some 42) (p0 : wKI H r0 = 1) (p1 : XW d) (p2 : ∀ h : Nat, d 0 0 ≤ (h : Int) → h < 24 → e 13 h = 0) (p3 : XN d) (p4 : ∀ h : Nat, h < 24 → 0 ≤ e 13 h ∧ e 13 h ≤ 100) (hRB_r0 : RB T H r0 e d) (hKNN_r0 : KNN T H r0 e d) : wpc kt 8 282 [.ref r0] T H (uq_282 r0 e d T H) := by
  refine wp_enter e282 (Nat.le_of_ble_eq_true rfl) rfl ?_
  have f0 : wfr [(42, 0), (42, 1), (42, 2), (42, 28), (42, 29), (51, 999), (52, 999)] T H H := wfr.rf
  show wp _ _ 282 0 [(0, .ref r0)] [] _ H _
  have _b := RB_b hW hRB_r0
  have _nu := RB_n3 hRB_r0
  have _lm := RB_lm hRB_r0
  refine wp_of e282 c282_0 (rw_aload_n (pc' := 1) (v := .ref r0) rfl rfl rfl ?_)
  refine wp_of e282 c282_1 (rw_iconst (pc' := 2) rfl ?_)
  refine wp_of e282 c282_2 (xp_I (pc' := 5) lf_9_48 hW g0 sh_42 (by decide) (by decide) ty_42_0 rfl rfl (by decide) (by decide) ⟨by decide, by decide⟩ rfl (fun H5525 e5526 w5527 => ?_))
  have f5528 := f0.put' e5526 g0 rfl
  have k5529 : H5525 r0 0 = 0 := wq_u_s e5526
  refine wp_of e282 c282_5 (rw_aload_n (pc' := 6) (v := .ref r0) rfl rfl rfl ?_)
  refine wp_of e282 c282_6 (rw_aload_n (pc' := 7) (v := .ref r0) rfl rfl rfl ?_)
  have k5530 : H5525 r0 3 = H r0 3 := (wq_u_j e5526 rfl)
  refine wp_of e282 c282_7 (xg_O (pc' := 10) lf_9_337 w5527 g0 sh_42 (by decide) (by decide) ty_42_3 rfl rfl (fun q5532 => ?_) (fun r5531 q5532 g5533 => ?_))
  · refine wp_of e282 c282_10 (rw_ifnull_n (p1 := 17) (p2 := 13) (by decide) rfl ?_)
    refine wp_of e282 c282_17 (rw_iconst (pc' := 18) rfl ?_)
    have k5534 : wKI H5525 r0 = wKI H r0 := (wKI_fr hW g0 ((wfr.rf (l := [(42, 0)])).put' e5526 g0 rfl) rfl)
    have h5535 : RB T H5525 r0 e d := (RB_fr hW g0 ((wfr.rf (l := [(42, 0)])).put' e5526 g0 rfl) rfl hRB_r0)
    have h5536 : KNN T H5525 r0 e d := (KNN_fr hW g0 ((wfr.rf (l := [(42, 0)])).put' e5526 g0 rfl) rfl hKNN_r0)
    refine wp_of e282 c282_18 (xc_V (pc' := 21) (r := r0) (as := [vI 0]) (st := []) (lm_9_433) rfl rfl (Nat.le_of_ble_eq_true rfl) w5527 g0 sh_42 (by decide) rfl (by decide) (u_241 (e := e) (d := d) w5527 g0 ⟨by decide, by decide⟩ (by omega) (by omega) (by assumption) (by assumption) (by assumption) (by assumption) h5535 h5536) (fun R5537 T5538 H5539 p5540 => ?_))
    obtain ⟨e5541, w5543, f5544, z5545, e5542, b5546, p5547⟩ := p5540
    subst e5541
    subst e5542
    rcases p5547 with ⟨a5548, a5549, a5550, a5551, a5552, a5553, a5554, a5555, a5556⟩ | ⟨a5557, a5558, a5559, a5560, a5561, a5562, a5563⟩
    · exfalso
      omega
    · have f5564 := f5528.tr f5544 rfl
      show wp _ _ 282 21 [(0, .ref r0)] [vI z5545] _ H5539 _
      have k5565 : wLM H5539 r0 = wLM H r0 := ((wLM_fr w5527 g0 f5544 rfl).trans (wLM_fr hW g0 ((wfr.rf (l := [(42, 0)])).put' e5526 g0 rfl) rfl))
      refine wp_of e282 c282_21 (rw_istore_n (pc' := 22) (z := z5545) (L' := [(1, vI z5545), (0, .ref r0)]) rfl rfl rfl ?_)
      refine wp_of e282 c282_22 (rw_iload_n (pc' := 23) (z := z5545) rfl rfl ?_)
      refine wp_of e282 c282_23 (rw_if_le (p1 := 32) (p2 := 26) (by decide) rfl ⟨Int.le_trans (by decide) b5546.1, Int.le_trans b5546.2 (by decide)⟩ (fun c5566 => ?_) (fun c5566 => ?_))
      · exfalso
        omega
      · refine wp_of e282 c282_26 (rw_aload_n (pc' := 27) (v := .ref r0) rfl rfl rfl ?_)
        refine wp_of e282 c282_27 (rw_iload_n (pc' := 28) (z := z5545) rfl rfl ?_)
        refine wp_of e282 c282_28 (xc_V (pc' := 31) (r := r0) (as := [vI z5545]) (st := []) (lm_9_54) rfl rfl (Nat.le_of_ble_eq_true rfl) w5543 g0 sh_42 (by decide) rfl (by decide) (s_170 w5543 g0 ⟨Int.le_trans (by decide) b5546.1, Int.le_trans b5546.2 (by decide)⟩) (fun R5567 T5568 H5569 p5570 => ?_))
        obtain ⟨e5571, w5573, f5574, z5575, e5572, b5576⟩ := p5570
        subst e5571
        subst e5572
        have f5577 := f5564.tr f5574 rfl
        show wp _ _ 282 31 [(1, vI z5545), (0, .ref r0)] [vI z5575] _ H5569 _
        have k5578 : wKI H5569 r0 = wKI H5539 r0 := (wKI_fr w5543 g0 f5574 rfl)
        have h5579 : KNN T H5569 r0 e d := (KNN_fr w5543 g0 f5574 rfl a5563)
        exact wp_ireturn e282 c282_31 rfl ⟨rfl, w5573, f5577, z5575, rfl, ⟨b5576.1, b5576.2⟩, ⟨by omega, h5579⟩⟩
  · refine wp_of e282 c282_10 (rw_ifnull_r (p1 := 17) (p2 := 13) (by decide) rfl ?_)
    refine wp_of e282 c282_13 (rw_iconst (pc' := 14) rfl ?_)
    refine wp_of e282 c282_14 (rw_goto (p1 := 18) (by decide) ?_)
    have k5580 : wKI H5525 r0 = wKI H r0 := (wKI_fr hW g0 ((wfr.rf (l := [(42, 0)])).put' e5526 g0 rfl) rfl)
    have h5581 : RB T H5525 r0 e d := (RB_fr hW g0 ((wfr.rf (l := [(42, 0)])).put' e5526 g0 rfl) rfl hRB_r0)
    have h5582 : KNN T H5525 r0 e d := (KNN_fr hW g0 ((wfr.rf (l := [(42, 0)])).put' e5526 g0 rfl) rfl hKNN_r0)
    refine wp_of e282 c282_18 (xc_V (pc' := 21) (r := r0) (as := [vI 1]) (st := []) (lm_9_433) rfl rfl (Nat.le_of_ble_eq_true rfl) w5527 g0 sh_42 (by decide) rfl (by decide) (u_241 (e := e) (d := d) w5527 g0 ⟨by decide, by decide⟩ (by omega) (by omega) (by assumption) (by assumption) (by assumption) (by assumption) h5581 h5582) (fun R5583 T5584 H5585 p5586 => ?_))
    obtain ⟨e5587, w5589, f5590, z5591, e5588, b5592, p5593⟩ := p5586
    subst e5587
    subst e5588
    rcases p5593 with ⟨a5594, a5595, a5596, a5597, a5598, a5599, a5600, a5601, a5602⟩ | ⟨a5603, a5604, a5605, a5606, a5607, a5608, a5609⟩
    · have f5610 := f5528.tr f5590 rfl
      show wp _ _ 282 21 [(0, .ref r0)] [vI z5591] _ H5585 _
      have k5611 : wLM H5585 r0 = wLM H r0 := ((wLM_fr w5527 g0 f5590 rfl).trans (wLM_fr hW g0 ((wfr.rf (l := [(42, 0)])).put' e5526 g0 rfl) rfl))
      refine wp_of e282 c282_21 (rw_istore_n (pc' := 22) (z := z5591) (L' := [(1, vI z5591), (0, .ref r0)]) rfl rfl rfl ?_)
      refine wp_of e282 c282_22 (rw_iload_n (pc' := 23) (z := z5591) rfl rfl ?_)
      refine wp_of e282 c282_23 (rw_if_le (p1 := 32) (p2 := 26) (by decide) rfl ⟨Int.le_trans (by decide) b5592.1, Int.le_trans b5592.2 (by decide)⟩ (fun c5612 => ?_) (fun c5612 => ?_))
      · refine wp_of e282 c282_32 (rw_iconst (pc' := 33) rfl ?_)
        refine wp_of e282 c282_33 (rw_istore_n (pc' := 34) (z := 0) (L' := [(2, vI 0), (1, vI z5591), (0, .ref r0)]) rfl rfl rfl ?_)
        refine wp_of e282 c282_34 (rw_iconst (pc' := 35) rfl ?_)
        refine wp_of e282 c282_35 (rw_istore_n (pc' := 36) (z := 0) (L' := [(3, vI 0), (2, vI 0), (1, vI z5591), (0, .ref r0)]) rfl rfl rfl ?_)
        have lp7557 : ∀ (n7558 : Nat) (v7560 : Int) (v7561 : Int) (H7562 : wq_H), WT T H7562 → wfr [(51, 999)] T H5585 H7562 → (0 ≤ v7560 ∧ v7560 ≤ 20000) → (0 ≤ v7561 ∧ v7561 ≤ 16777215) → (20000 - v7560).toNat = n7558 → wp kt 7 282 36 [(3, vI v7560), (2, vI v7561), (0, .ref r0)] [] T H7562 (uq_282 r0 e d T H) := by
          intro n7558
          induction n7558 using Nat.strongRecOn with
          | _ n7558 ih7559 =>
            intro v7560 v7561 H7562 w7563 f7564 b7565 b7566 m7567
            have f7568 := f5610.tr f7564 rfl
            refine wp_of e282 c282_36 (rw_iload_n (pc' := 37) (z := v7560) rfl rfl ?_)
            refine wp_of e282 c282_37 (rw_i2l (pc' := 38) rfl ⟨Int.le_trans (by decide) b7565.1, Int.le_trans b7565.2 (by decide)⟩ ?_)
            have k7569 : wLM H7562 r0 = wLM H5585 r0 := (wLM_fr w5589 g0 f7564 rfl)
            refine wp_of e282 c282_38 (rw_aload_n (pc' := 39) (v := .ref r0) rfl rfl rfl ?_)
            have k7570 : H7562 r0 3 = H5525 r0 3 := ((f7564 r0 3 _ g0 rfl).trans (f5590 r0 3 _ g0 rfl))
            have q7571 : H7562 r0 3 = (r5531 : Int) := k7570.trans q5532
            refine wp_of e282 c282_39 (xc_V (pc' := 42) (r := r0) (as := []) (st := [vL v7560]) (lm_9_376) rfl rfl (Nat.le_of_ble_eq_true rfl) w7563 g0 sh_42 (by decide) rfl (by decide) (s_220 w7563 g0 q7571 g5533) (fun R7572 T7573 H7574 p7575 => ?_))
            obtain ⟨e7576, e7578, z7580, e7577, b7581, p7579⟩ := p7575
            subst e7576
            subst e7577
            subst e7578
            show wp _ _ 282 42 [(3, vI v7560), (2, vI v7561), (0, .ref r0)] [vL z7580, vL v7560] _ H7562 _
            refine wp_of e282 c282_42 (rw_lcmp (pc' := 43) rfl ⟨Int.le_trans (by decide) b7565.1, Int.le_trans b7565.2 (by decide)⟩ ⟨Int.le_trans (by decide) b7581.1, Int.le_trans b7581.2 (by decide)⟩ ?_)
            have b7582 := wq_cmp_b v7560 z7580
            refine wp_of e282 c282_43 (rw_if_ge (p1 := 116) (p2 := 46) (by decide) rfl ⟨by omega, by omega⟩ (fun c7583 => ?_) (fun c7583 => ?_))
            · refine wp_of e282 c282_116 (rw_aload_n (pc' := 117) (v := .ref r0) rfl rfl rfl ?_)
              refine wp_of e282 c282_117 (rw_iload_n (pc' := 118) (z := v7561) rfl rfl ?_)
              refine wp_of e282 c282_118 (xc_V (pc' := 121) (r := r0) (as := [vI v7561]) (st := []) (lm_9_58) rfl rfl (Nat.le_of_ble_eq_true rfl) w7563 g0 sh_42 (by decide) rfl (by decide) (s_209 w7563 g0 ⟨Int.le_trans (by decide) b7566.1, Int.le_trans b7566.2 (by decide)⟩) (fun R7584 T7585 H7586 p7587 => ?_))
              obtain ⟨e7588, w7590, f7591, z7592, e7589, b7593⟩ := p7587
              subst e7588
              subst e7589
              have f7594 := f7568.tr f7591 rfl
              show wp _ _ 282 121 [(3, vI v7560), (2, vI v7561), (0, .ref r0)] [vI z7592] _ H7586 _
              have k7595 : wKI H7586 r0 = wKI H5585 r0 := ((wKI_fr w7563 g0 f7591 rfl).trans (wKI_fr w5589 g0 f7564 rfl))
              have h7596 : KNN T H7586 r0 e d := (KNN_fr w7563 g0 f7591 rfl (KNN_fr w5589 g0 f7564 rfl a5601))
              exact wp_ireturn e282 c282_121 rfl ⟨rfl, w7590, f7594, z7592, rfl, ⟨b7593.1, b7593.2⟩, ⟨by omega, h7596⟩⟩
            · refine wp_of e282 c282_46 (rw_aload_n (pc' := 47) (v := .ref r0) rfl rfl rfl ?_)
              refine wp_of e282 c282_47 (rw_iload_n (pc' := 48) (z := v7560) rfl rfl ?_)
              refine wp_of e282 c282_48 (xc_V (pc' := 51) (r := r0) (as := [vI v7560]) (st := []) (lm_9_425) rfl rfl (Nat.le_of_ble_eq_true rfl) w7563 g0 sh_42 (by decide) rfl (by decide) (s_243 w7563 g0 ⟨b7565.1, Int.le_trans b7565.2 (by decide)⟩ q7571 g5533 (by omega)) (fun R7597 T7598 H7599 p7600 => ?_))
              obtain ⟨e7601, w7603, f7604, e7602⟩ := p7600
              subst e7601
              subst e7602
              have f7605 := f7568.tr f7604 rfl
              have f7606 := f7564.tr f7604 rfl
              show wp _ _ 282 51 [(3, vI v7560), (2, vI v7561), (0, .ref r0)] [] _ H7599 _
              refine wp_of e282 c282_51 (rw_aload_n (pc' := 52) (v := .ref r0) rfl rfl rfl ?_)
              refine wp_of e282 c282_52 (rw_aload_n (pc' := 53) (v := .ref r0) rfl rfl rfl ?_)
              refine wp_of e282 c282_53 (xg_R (pc' := 56) lf_9_39 w7603 g0 sh_42 (by decide) (by decide) ty_42_27 rfl rfl (fun r7607 q7608 g7609 => ?_))
              have k7610 : H7599 r0 3 = H7562 r0 3 := (f7604 r0 3 _ g0 rfl)
              have q7611 : H7599 r0 3 = (r5531 : Int) := k7610.trans q7571
              refine wp_of e282 c282_56 (xc_V (pc' := 59) (r := r0) (as := [.ref r7607]) (st := []) (lm_9_393) rfl rfl (Nat.le_of_ble_eq_true rfl) w7603 g0 sh_42 (by decide) rfl (by decide) (s_235_m_lot w7603 g0 g7609 q7611 g5533) (fun R7612 T7613 H7614 p7615 => ?_))
              obtain ⟨e7616, e7618, z7619, e7617, b7620⟩ := p7615
              subst e7616
              subst e7617
              subst e7618
              show wp _ _ 282 59 [(3, vI v7560), (2, vI v7561), (0, .ref r0)] [vI z7619] _ H7599 _
              refine wp_of e282 c282_59 (rw_if_eq (p1 := 65) (p2 := 62) (by decide) rfl ⟨b7620.1, b7620.2⟩ (fun c7621 => ?_) (fun c7621 => ?_))
              · refine wp_of e282 c282_65 (rw_iconst (pc' := 66) rfl ?_)
                refine wp_of e282 c282_66 (rw_istore (pc' := 68) (z := 0) (L' := [(4, vI 0), (3, vI v7560), (2, vI v7561), (0, .ref r0)]) rfl rfl rfl ?_)
                have lp7806 : ∀ (n7807 : Nat) (v7809 : Int) (v7810 : Int), (0 ≤ v7809 ∧ v7809 ≤ 24) → (0 ≤ v7810 ∧ v7810 ≤ 16777215) → (24 - v7809).toNat = n7807 → wp kt 7 282 68 [(4, vI v7809), (2, vI v7810), (3, vI v7560), (0, .ref r0)] [] T H7599 (uq_282 r0 e d T H) := by
                  intro n7807
                  induction n7807 using Nat.strongRecOn with
                  | _ n7807 ih7808 =>
                    intro v7809 v7810 b7813 b7814 m7815
                    refine wp_of e282 c282_68 (rw_iload (pc' := 70) (z := v7809) rfl rfl ?_)
                    refine wp_of e282 c282_70 (rw_aload_n (pc' := 71) (v := .ref r0) rfl rfl rfl ?_)
                    refine wp_of e282 c282_71 (xg_K (pc' := 74) lf_9_337 w7603 g0 sh_42 (by decide) (by decide) rfl q7611 rfl ?_)
                    refine wp_of e282 c282_74 (xg_I (pc' := 77) lf_9_185 w7603 g5533 sh_54 (by decide) (by decide) ty_54_0 rfl rfl (fun b7816 b7817 => ?_))
                    refine wp_of e282 c282_77 (rw_icmp_ge (p1 := 110) (p2 := 80) (by decide) rfl ⟨Int.le_trans (by decide) b7813.1, Int.le_trans b7813.2 (by decide)⟩ ⟨Int.le_trans (by decide) b7816, Int.le_trans b7817 (by decide)⟩ (fun c7818 => ?_) (fun c7818 => ?_))
                    · refine wp_of e282 c282_110 (rw_iinc (pc' := 113) (z := v7560) (L' := [(3, vI (v7560 + 1)), (4, vI v7809), (2, vI v7810), (0, .ref r0)]) rfl rfl rfl rfl ?_)
                      refine wp_of e282 c282_113 (rw_goto (p1 := 36) (by decide) ?_)
                      exact wp_lc (ks := [3, 4, 2, 0]) (wl_c rfl (wl_c rfl (wl_c rfl wl_n))) rfl (by decide) (ih7559 _ (by omega) (v7560 + 1) v7810 H7599 w7603 f7606 ⟨by omega, by omega⟩ ⟨b7814.1, b7814.2⟩ rfl)
                    · refine wp_of e282 c282_80 (rw_iload_n (pc' := 81) (z := v7810) rfl rfl ?_)
                      refine wp_of e282 c282_81 (rw_aload_n (pc' := 82) (v := .ref r0) rfl rfl rfl ?_)
                      refine wp_of e282 c282_82 (rw_aload_n (pc' := 83) (v := .ref r0) rfl rfl rfl ?_)
                      refine wp_of e282 c282_83 (xg_K (pc' := 86) lf_9_39 w7603 g0 sh_42 (by decide) (by decide) rfl q7608 rfl ?_)
                      refine wp_of e282 c282_86 (rw_iload (pc' := 88) (z := v7809) rfl rfl ?_)
                      refine wp_of e282 c282_88 (xc_V (pc' := 91) (r := r0) (as := [.ref r7607, vI v7809]) (st := [vI v7810]) (lm_9_386) rfl rfl (Nat.le_of_ble_eq_true rfl) w7603 g0 sh_42 (by decide) rfl (by decide) (s_228_m_lot w7603 g0 g7609 ⟨Int.le_trans (by decide) b7813.1, Int.le_trans b7813.2 (by decide)⟩ q7611 g5533) (fun R7819 T7820 H7821 p7822 => ?_))
                      obtain ⟨e7823, e7825, z7826, e7824, b7827⟩ := p7822
                      subst e7823
                      subst e7824
                      subst e7825
                      show wp _ _ 282 91 [(4, vI v7809), (2, vI v7810), (3, vI v7560), (0, .ref r0)] [vI z7826, vI v7810] _ H7599 _
                      refine wp_of e282 c282_91 (rw_if_ne (p1 := 101) (p2 := 94) (by decide) rfl ⟨b7827.1, b7827.2⟩ (fun c7828 => ?_) (fun c7828 => ?_))
                      · refine wp_of e282 c282_101 (rw_iconst (pc' := 102) rfl ?_)
                        refine wp_of e282 c282_102 (rw_ior (pc' := 103) rfl ?_)
                        obtain ⟨v7829, e7830⟩ : ∃ x : Int, x = wq_or v7810 0 := ⟨_, rfl⟩
                        rw [← e7830]
                        have b7831 : 0 ≤ v7829 ∧ v7829 ≤ 16777215 := by
                          rw [e7830]
                          exact wq_or_24 ⟨by omega, by omega⟩ ⟨by omega, by omega⟩
                        refine wp_of e282 c282_103 (rw_istore_n (pc' := 104) (z := v7829) (L' := [(2, vI v7829), (4, vI v7809), (3, vI v7560), (0, .ref r0)]) rfl rfl rfl ?_)
                        refine wp_of e282 c282_104 (rw_iinc (pc' := 107) (z := v7809) (L' := [(4, vI (v7809 + 1)), (2, vI v7829), (3, vI v7560), (0, .ref r0)]) rfl rfl rfl rfl ?_)
                        refine wp_of e282 c282_107 (rw_goto (p1 := 68) (by decide) ?_)
                        exact wp_lc (ks := [4, 2, 3, 0]) (wl_c rfl (wl_c rfl (wl_c rfl (wl_c rfl wl_n)))) rfl (by decide) (ih7808 _ (by omega) (v7809 + 1) v7829 ⟨by omega, by omega⟩ ⟨b7831.1, b7831.2⟩ rfl)
                      · refine wp_of e282 c282_94 (rw_iconst (pc' := 95) rfl ?_)
                        refine wp_of e282 c282_95 (rw_iload (pc' := 97) (z := v7809) rfl rfl ?_)
                        refine wp_of e282 c282_97 (rw_ishl (pc' := 98) rfl ?_)
                        obtain ⟨v7832, e7833⟩ : ∃ x : Int, x = wq_shl 1 v7809 := ⟨_, rfl⟩
                        rw [← e7833]
                        have b7834 : 1 ≤ v7832 ∧ v7832 ≤ 8388608 := by
                          rw [e7833]
                          exact wq_shl1_24 ⟨by omega, by omega⟩
                        refine wp_of e282 c282_98 (rw_goto (p1 := 102) (by decide) ?_)
                        refine wp_of e282 c282_102 (rw_ior (pc' := 103) rfl ?_)
                        obtain ⟨v7835, e7836⟩ : ∃ x : Int, x = wq_or v7810 v7832 := ⟨_, rfl⟩
                        rw [← e7836]
                        have b7837 : 0 ≤ v7835 ∧ v7835 ≤ 16777215 := by
                          rw [e7836]
                          exact wq_or_24 ⟨by omega, by omega⟩ ⟨by omega, by omega⟩
                        refine wp_of e282 c282_103 (rw_istore_n (pc' := 104) (z := v7835) (L' := [(2, vI v7835), (4, vI v7809), (3, vI v7560), (0, .ref r0)]) rfl rfl rfl ?_)
                        refine wp_of e282 c282_104 (rw_iinc (pc' := 107) (z := v7809) (L' := [(4, vI (v7809 + 1)), (2, vI v7835), (3, vI v7560), (0, .ref r0)]) rfl rfl rfl rfl ?_)
                        refine wp_of e282 c282_107 (rw_goto (p1 := 68) (by decide) ?_)
                        exact wp_lc (ks := [4, 2, 3, 0]) (wl_c rfl (wl_c rfl (wl_c rfl (wl_c rfl wl_n)))) rfl (by decide) (ih7808 _ (by omega) (v7809 + 1) v7835 ⟨by omega, by omega⟩ ⟨b7837.1, b7837.2⟩ rfl)
                exact wp_lc (ks := [4, 3, 2, 0]) (wl_c rfl (wl_c rfl (wl_c rfl (wl_c rfl wl_n)))) rfl (by decide) (lp7806 _ 0 v7561 ⟨by decide, by decide⟩ ⟨b7566.1, b7566.2⟩ rfl)
              · refine wp_of e282 c282_62 (rw_goto (p1 := 110) (by decide) ?_)
                refine wp_of e282 c282_110 (rw_iinc (pc' := 113) (z := v7560) (L' := [(3, vI (v7560 + 1)), (2, vI v7561), (0, .ref r0)]) rfl rfl rfl rfl ?_)
                refine wp_of e282 c282_113 (rw_goto (p1 := 36) (by decide) ?_)
                exact wp_lc (ks := [3, 2, 0]) (wl_c rfl (wl_c rfl (wl_c rfl wl_n))) rfl (by decide) (ih7559 _ (by omega) (v7560 + 1) v7561 H7599 w7603 f7606 ⟨by omega, by omega⟩ ⟨b7566.1, b7566.2⟩ rfl)
        exact wp_lc (ks := [3, 2, 1, 0]) (wl_c rfl (wl_c rfl (wl_c rfl wl_n))) rfl (by decide) (lp7557 _ 0 0 H5585 w5589 wfr.rf ⟨by decide, by decide⟩ ⟨by decide, by decide⟩ rfl)
      · exfalso
        omega
    · have f7838 := f5528.tr f5590 rfl
      show wp _ _ 282 21 [(0, .ref r0)] [vI z5591] _ H5585 _
      have k7839 : wLM H5585 r0 = wLM H r0 := ((wLM_fr w5527 g0 f5590 rfl).trans (wLM_fr hW g0 ((wfr.rf (l := [(42, 0)])).put' e5526 g0 rfl) rfl))
      refine wp_of e282 c282_21 (rw_istore_n (pc' := 22) (z := z5591) (L' := [(1, vI z5591), (0, .ref r0)]) rfl rfl rfl ?_)
      refine wp_of e282 c282_22 (rw_iload_n (pc' := 23) (z := z5591) rfl rfl ?_)
      refine wp_of e282 c282_23 (rw_if_le (p1 := 32) (p2 := 26) (by decide) rfl ⟨Int.le_trans (by decide) b5592.1, Int.le_trans b5592.2 (by decide)⟩ (fun c7840 => ?_) (fun c7840 => ?_))
      · exfalso
        omega
      · refine wp_of e282 c282_26 (rw_aload_n (pc' := 27) (v := .ref r0) rfl rfl rfl ?_)
        refine wp_of e282 c282_27 (rw_iload_n (pc' := 28) (z := z5591) rfl rfl ?_)
        refine wp_of e282 c282_28 (xc_V (pc' := 31) (r := r0) (as := [vI z5591]) (st := []) (lm_9_54) rfl rfl (Nat.le_of_ble_eq_true rfl) w5589 g0 sh_42 (by decide) rfl (by decide) (s_170 w5589 g0 ⟨Int.le_trans (by decide) b5592.1, Int.le_trans b5592.2 (by decide)⟩) (fun R7841 T7842 H7843 p7844 => ?_))
        obtain ⟨e7845, w7847, f7848, z7849, e7846, b7850⟩ := p7844
        subst e7845
        subst e7846
        have f7851 := f7838.tr f7848 rfl
        show wp _ _ 282 31 [(1, vI z5591), (0, .ref r0)] [vI z7849] _ H7843 _
        have k7852 : wKI H7843 r0 = wKI H5585 r0 := (wKI_fr w5589 g0 f7848 rfl)
        have h7853 : KNN T H7843 r0 e d := (KNN_fr w5589 g0 f7848 rfl a5609)
        exact wp_ireturn e282 c282_31 rfl ⟨rfl, w7847, f7851, z7849, rfl, ⟨b7850.1, b7850.2⟩, ⟨by omega, h7853⟩⟩
/-! StrikeAwakeModel.seek()I  -/
abbrev uq_288 (r0 : Nat) (e : xD) (d : xD) (T : wq_T) (H : wq_H) : Option Value → wq_T → wq_H → Prop := fun r T' H' => T = T' ∧ WT T H' ∧ wfr [(42, 0), (42, 1), (42, 2), (42, 28), (42, 29), (42, 32), (51, 999), (52, 999)] T H H' ∧ ∃ z : Int, some (vI z) = r ∧ ((-2147483648) ≤ z ∧ z ≤ 2147483647) ∧ (((wKI H' r0 = 1) ∧ KNN T H' r0 e d))
set_option maxHeartbeats 4000000 in
theorem u_288 {kt : Nat → Option mc_E} {T : wq_T} {H : wq_H} {r0 : Nat} {e : xD} {d : xD} (hW : WT T H) (g0 : T.2.2.2 r0 = some 42) (p0 : wKI H r0 = 1) (p1 : XW d) (p2 : ∀ h : Nat, d 0 0 ≤ (h : Int) → h < 24 → e 13 h = 0) (p3 : XN d) (p4 : ∀ h : Nat, h < 24 → 0 ≤ e 13 h ∧ e 13 h ≤ 100) (hRB_r0 : RB T H r0 e d) (hKNN_r0 : KNN T H r0 e d) : wpc kt 8 288 [.ref r0] T H (uq_288 r0 e d T H) := by
  refine wp_enter e288 (Nat.le_of_ble_eq_true rfl) rfl ?_
  have f0 : wfr [(42, 0), (42, 1), (42, 2), (42, 28), (42, 29), (42, 32), (51, 999), (52, 999)] T H H := wfr.rf
  show wp _ _ 288 0 [(0, .ref r0)] [] _ H _
  have _b := RB_b hW hRB_r0
  have _nu := RB_n3 hRB_r0
  have _lm := RB_lm hRB_r0
  refine wp_of e288 c288_0 (rw_aload_n (pc' := 1) (v := .ref r0) rfl rfl rfl ?_)
  refine wp_of e288 c288_1 (rw_iconst (pc' := 2) rfl ?_)
  refine wp_of e288 c288_2 (xp_I (pc' := 5) lf_9_48 hW g0 sh_42 (by decide) (by decide) ty_42_0 rfl rfl (by decide) (by decide) ⟨by decide, by decide⟩ rfl (fun H1384 e1385 w1386 => ?_))
  have f1387 := f0.put' e1385 g0 rfl
  have k1388 : H1384 r0 0 = 0 := wq_u_s e1385
  refine wp_of e288 c288_5 (rw_aload_n (pc' := 6) (v := .ref r0) rfl rfl rfl ?_)
  refine wp_of e288 c288_6 (rw_aload_n (pc' := 7) (v := .ref r0) rfl rfl rfl ?_)
  have k1389 : H1384 r0 3 = H r0 3 := (wq_u_j e1385 rfl)
  refine wp_of e288 c288_7 (xg_O (pc' := 10) lf_9_337 w1386 g0 sh_42 (by decide) (by decide) ty_42_3 rfl rfl (fun q1391 => ?_) (fun r1390 q1391 g1392 => ?_))
  · refine wp_of e288 c288_10 (rw_ifnull_n (p1 := 17) (p2 := 13) (by decide) rfl ?_)
    refine wp_of e288 c288_17 (rw_iconst (pc' := 18) rfl ?_)
    have k1393 : wKI H1384 r0 = wKI H r0 := (wKI_fr hW g0 ((wfr.rf (l := [(42, 0)])).put' e1385 g0 rfl) rfl)
    have h1394 : RB T H1384 r0 e d := (RB_fr hW g0 ((wfr.rf (l := [(42, 0)])).put' e1385 g0 rfl) rfl hRB_r0)
    have h1395 : KNN T H1384 r0 e d := (KNN_fr hW g0 ((wfr.rf (l := [(42, 0)])).put' e1385 g0 rfl) rfl hKNN_r0)
    refine wp_of e288 c288_18 (xc_V (pc' := 21) (r := r0) (as := [vI 0]) (st := []) (lm_9_433) rfl rfl (Nat.le_of_ble_eq_true rfl) w1386 g0 sh_42 (by decide) rfl (by decide) (u_241 (e := e) (d := d) w1386 g0 ⟨by decide, by decide⟩ (by omega) (by omega) (by assumption) (by assumption) (by assumption) (by assumption) h1394 h1395) (fun R1396 T1397 H1398 p1399 => ?_))
    obtain ⟨e1400, w1402, f1403, z1404, e1401, b1405, p1406⟩ := p1399
    subst e1400
    subst e1401
    rcases p1406 with ⟨a1407, a1408, a1409, a1410, a1411, a1412, a1413, a1414, a1415⟩ | ⟨a1416, a1417, a1418, a1419, a1420, a1421, a1422⟩
    · exfalso
      omega
    · have f1423 := f1387.tr f1403 rfl
      show wp _ _ 288 21 [(0, .ref r0)] [vI z1404] _ H1398 _
      have k1424 : wLM H1398 r0 = wLM H r0 := ((wLM_fr w1386 g0 f1403 rfl).trans (wLM_fr hW g0 ((wfr.rf (l := [(42, 0)])).put' e1385 g0 rfl) rfl))
      refine wp_of e288 c288_21 (rw_istore_n (pc' := 22) (z := z1404) (L' := [(1, vI z1404), (0, .ref r0)]) rfl rfl rfl ?_)
      refine wp_of e288 c288_22 (rw_iload_n (pc' := 23) (z := z1404) rfl rfl ?_)
      refine wp_of e288 c288_23 (rw_if_le (p1 := 32) (p2 := 26) (by decide) rfl ⟨Int.le_trans (by decide) b1405.1, Int.le_trans b1405.2 (by decide)⟩ (fun c1425 => ?_) (fun c1425 => ?_))
      · exfalso
        omega
      · refine wp_of e288 c288_26 (rw_aload_n (pc' := 27) (v := .ref r0) rfl rfl rfl ?_)
        refine wp_of e288 c288_27 (rw_iload_n (pc' := 28) (z := z1404) rfl rfl ?_)
        refine wp_of e288 c288_28 (xc_V (pc' := 31) (r := r0) (as := [vI z1404]) (st := []) (lm_9_54) rfl rfl (Nat.le_of_ble_eq_true rfl) w1402 g0 sh_42 (by decide) rfl (by decide) (s_170 w1402 g0 ⟨Int.le_trans (by decide) b1405.1, Int.le_trans b1405.2 (by decide)⟩) (fun R1426 T1427 H1428 p1429 => ?_))
        obtain ⟨e1430, w1432, f1433, z1434, e1431, b1435⟩ := p1429
        subst e1430
        subst e1431
        have f1436 := f1423.tr f1433 rfl
        show wp _ _ 288 31 [(1, vI z1404), (0, .ref r0)] [vI z1434] _ H1428 _
        have k1437 : wKI H1428 r0 = wKI H1398 r0 := (wKI_fr w1402 g0 f1433 rfl)
        have h1438 : KNN T H1428 r0 e d := (KNN_fr w1402 g0 f1433 rfl a1422)
        exact wp_ireturn e288 c288_31 rfl ⟨rfl, w1432, f1436, z1434, rfl, ⟨b1435.1, b1435.2⟩, ⟨by omega, h1438⟩⟩
  · refine wp_of e288 c288_10 (rw_ifnull_r (p1 := 17) (p2 := 13) (by decide) rfl ?_)
    refine wp_of e288 c288_13 (rw_iconst (pc' := 14) rfl ?_)
    refine wp_of e288 c288_14 (rw_goto (p1 := 18) (by decide) ?_)
    have k1439 : wKI H1384 r0 = wKI H r0 := (wKI_fr hW g0 ((wfr.rf (l := [(42, 0)])).put' e1385 g0 rfl) rfl)
    have h1440 : RB T H1384 r0 e d := (RB_fr hW g0 ((wfr.rf (l := [(42, 0)])).put' e1385 g0 rfl) rfl hRB_r0)
    have h1441 : KNN T H1384 r0 e d := (KNN_fr hW g0 ((wfr.rf (l := [(42, 0)])).put' e1385 g0 rfl) rfl hKNN_r0)
    refine wp_of e288 c288_18 (xc_V (pc' := 21) (r := r0) (as := [vI 1]) (st := []) (lm_9_433) rfl rfl (Nat.le_of_ble_eq_true rfl) w1386 g0 sh_42 (by decide) rfl (by decide) (u_241 (e := e) (d := d) w1386 g0 ⟨by decide, by decide⟩ (by omega) (by omega) (by assumption) (by assumption) (by assumption) (by assumption) h1440 h1441) (fun R1442 T1443 H1444 p1445 => ?_))
    obtain ⟨e1446, w1448, f1449, z1450, e1447, b1451, p1452⟩ := p1445
    subst e1446
    subst e1447
    rcases p1452 with ⟨a1453, a1454, a1455, a1456, a1457, a1458, a1459, a1460, a1461⟩ | ⟨a1462, a1463, a1464, a1465, a1466, a1467, a1468⟩
    · have f1469 := f1387.tr f1449 rfl
      show wp _ _ 288 21 [(0, .ref r0)] [vI z1450] _ H1444 _
      have k1470 : wLM H1444 r0 = wLM H r0 := ((wLM_fr w1386 g0 f1449 rfl).trans (wLM_fr hW g0 ((wfr.rf (l := [(42, 0)])).put' e1385 g0 rfl) rfl))
      refine wp_of e288 c288_21 (rw_istore_n (pc' := 22) (z := z1450) (L' := [(1, vI z1450), (0, .ref r0)]) rfl rfl rfl ?_)
      refine wp_of e288 c288_22 (rw_iload_n (pc' := 23) (z := z1450) rfl rfl ?_)
      refine wp_of e288 c288_23 (rw_if_le (p1 := 32) (p2 := 26) (by decide) rfl ⟨Int.le_trans (by decide) b1451.1, Int.le_trans b1451.2 (by decide)⟩ (fun c1471 => ?_) (fun c1471 => ?_))
      · refine wp_of e288 c288_32 (rw_iconst (pc' := 33) rfl ?_)
        refine wp_of e288 c288_33 (rw_istore_n (pc' := 34) (z := 0) (L' := [(2, vI 0), (1, vI z1450), (0, .ref r0)]) rfl rfl rfl ?_)
        have lp1568 : ∀ (n1569 : Nat) (v1571 : Int), (0 ≤ v1571 ∧ v1571 ≤ 20000) → (20000 - v1571).toNat = n1569 → wp kt 7 288 34 [(2, vI v1571), (0, .ref r0)] [] T H1444 (uq_288 r0 e d T H) := by
          intro n1569
          induction n1569 using Nat.strongRecOn with
          | _ n1569 ih1570 =>
            intro v1571 b1574 m1575
            refine wp_of e288 c288_34 (rw_iload_n (pc' := 35) (z := v1571) rfl rfl ?_)
            refine wp_of e288 c288_35 (rw_aload_n (pc' := 36) (v := .ref r0) rfl rfl rfl ?_)
            refine wp_of e288 c288_36 (xg_I (pc' := 39) lf_9_422 w1448 g0 sh_42 (by decide) (by decide) ty_42_29 rfl rfl (fun b1576 b1577 => ?_))
            refine wp_of e288 c288_39 (rw_icmp_ge (p1 := 87) (p2 := 42) (by decide) rfl ⟨Int.le_trans (by decide) b1574.1, Int.le_trans b1574.2 (by decide)⟩ ⟨Int.le_trans (by decide) b1576, Int.le_trans b1577 (by decide)⟩ (fun c1578 => ?_) (fun c1578 => ?_))
            · refine wp_of e288 c288_87 (rw_aload_n (pc' := 88) (v := .ref r0) rfl rfl rfl ?_)
              refine wp_of e288 c288_88 (rw_bipush (pc' := 90) (z := 6) rfl (by decide) ?_)
              refine wp_of e288 c288_90 (xc_V (pc' := 93) (r := r0) (as := [vI 6]) (st := []) (lm_9_54) rfl rfl (Nat.le_of_ble_eq_true rfl) w1448 g0 sh_42 (by decide) rfl (by decide) (s_170 w1448 g0 ⟨by decide, by decide⟩) (fun R1579 T1580 H1581 p1582 => ?_))
              obtain ⟨e1583, w1585, f1586, z1587, e1584, b1588⟩ := p1582
              subst e1583
              subst e1584
              have f1589 := f1469.tr f1586 rfl
              show wp _ _ 288 93 [(2, vI v1571), (0, .ref r0)] [vI z1587] _ H1581 _
              have k1590 : wKI H1581 r0 = wKI H1444 r0 := (wKI_fr w1448 g0 f1586 rfl)
              have h1591 : KNN T H1581 r0 e d := (KNN_fr w1448 g0 f1586 rfl a1460)
              exact wp_ireturn e288 c288_93 rfl ⟨rfl, w1585, f1589, z1587, rfl, ⟨b1588.1, b1588.2⟩, ⟨by omega, h1591⟩⟩
            · refine wp_of e288 c288_42 (rw_aload_n (pc' := 43) (v := .ref r0) rfl rfl rfl ?_)
              refine wp_of e288 c288_43 (xg_R (pc' := 46) lf_9_42 w1448 g0 sh_42 (by decide) (by decide) ty_42_30 rfl rfl (fun r1592 q1593 g1594 => ?_))
              refine wp_of e288 c288_46 (rw_iload_n (pc' := 47) (z := v1571) rfl rfl ?_)
              refine wp_of e288 c288_47 (xa_I (so := 0) (pc' := 48) w1448 g1594 sh_52 (by decide) (ty_52 _) (b1574.1) (by omega) rfl (fun b1595 b1596 => ?_))
              refine wp_of e288 c288_48 (rw_aload_n (pc' := 49) (v := .ref r0) rfl rfl rfl ?_)
              refine wp_of e288 c288_49 (xg_I (pc' := 52) lf_9_340 w1448 g0 sh_42 (by decide) (by decide) ty_42_32 rfl rfl (fun b1597 b1598 => ?_))
              refine wp_of e288 c288_52 (rw_icmp_ge (p1 := 58) (p2 := 55) (by decide) rfl ⟨Int.le_trans (by decide) b1595, Int.le_trans b1596 (by decide)⟩ ⟨Int.le_trans (by decide) b1597, b1598⟩ (fun c1599 => ?_) (fun c1599 => ?_))
              · refine wp_of e288 c288_58 (rw_aload_n (pc' := 59) (v := .ref r0) rfl rfl rfl ?_)
                refine wp_of e288 c288_59 (rw_aload_n (pc' := 60) (v := .ref r0) rfl rfl rfl ?_)
                refine wp_of e288 c288_60 (xg_K (pc' := 63) lf_9_42 w1448 g0 sh_42 (by decide) (by decide) rfl q1593 rfl ?_)
                refine wp_of e288 c288_63 (rw_iload_n (pc' := 64) (z := v1571) rfl rfl ?_)
                refine wp_of e288 c288_64 (xa_I (so := 0) (pc' := 65) w1448 g1594 sh_52 (by decide) (ty_52 _) (b1574.1) (by omega) rfl (fun b1600 b1601 => ?_))
                refine wp_of e288 c288_65 (rw_iconst (pc' := 66) rfl ?_)
                refine wp_of e288 c288_66 (rw_iadd (pc' := 67) rfl ?_)
                refine wp_of e288 c288_67 (xp_I (pc' := 70) lf_9_340 w1448 g0 sh_42 (by decide) (by decide) ty_42_32 rfl rfl (by omega) (by omega) ⟨by omega, by omega⟩ rfl (fun H1602 e1603 w1604 => ?_))
                have f1605 := f1469.put' e1603 g0 rfl
                have k1606 : H1602 r0 32 = (H1444 r1592 (v1571.toNat)) + 1 := wq_u_s e1603
                refine wp_of e288 c288_70 (rw_aload_n (pc' := 71) (v := .ref r0) rfl rfl rfl ?_)
                refine wp_of e288 c288_71 (rw_aload_n (pc' := 72) (v := .ref r0) rfl rfl rfl ?_)
                have k1607 : H1602 r0 30 = H1444 r0 30 := (wq_u_j e1603 rfl)
                have q1608 : H1602 r0 30 = (r1592 : Int) := k1607.trans q1593
                refine wp_of e288 c288_72 (xg_K (pc' := 75) lf_9_42 w1604 g0 sh_42 (by decide) (by decide) rfl q1608 rfl ?_)
                refine wp_of e288 c288_75 (rw_iload_n (pc' := 76) (z := v1571) rfl rfl ?_)
                have k1609 : H1602 r1592 (v1571.toNat) = H1444 r1592 (v1571.toNat) := (wq_u_t e1603 g0 g1594 rfl (v1571.toNat))
                refine wp_of e288 c288_76 (xa_I (so := 0) (pc' := 77) w1604 g1594 sh_52 (by decide) (ty_52 _) (b1574.1) (by omega) rfl (fun b1610 b1611 => ?_))
                refine wp_of e288 c288_77 (xc_V (pc' := 80) (r := r0) (as := [vI (H1602 r1592 (v1571.toNat))]) (st := []) (lm_9_58) rfl rfl (Nat.le_of_ble_eq_true rfl) w1604 g0 sh_42 (by decide) rfl (by decide) (s_209 w1604 g0 ⟨Int.le_trans (by decide) b1610, Int.le_trans b1611 (by decide)⟩) (fun R1612 T1613 H1614 p1615 => ?_))
                obtain ⟨e1616, w1618, f1619, z1620, e1617, b1621⟩ := p1615
                subst e1616
                subst e1617
                have f1622 := f1605.tr f1619 rfl
                show wp _ _ 288 80 [(2, vI v1571), (0, .ref r0)] [vI z1620] _ H1614 _
                have k1623 : wKI H1614 r0 = wKI H1444 r0 := ((wKI_fr w1604 g0 f1619 rfl).trans (wKI_fr w1448 g0 ((wfr.rf (l := [(42, 32)])).put' e1603 g0 rfl) rfl))
                have h1624 : KNN T H1614 r0 e d := (KNN_fr w1604 g0 f1619 rfl (KNN_fr w1448 g0 ((wfr.rf (l := [(42, 32)])).put' e1603 g0 rfl) rfl a1460))
                exact wp_ireturn e288 c288_80 rfl ⟨rfl, w1618, f1622, z1620, rfl, ⟨b1621.1, b1621.2⟩, ⟨by omega, h1624⟩⟩
              · refine wp_of e288 c288_55 (rw_goto (p1 := 81) (by decide) ?_)
                refine wp_of e288 c288_81 (rw_iinc (pc' := 84) (z := v1571) (L' := [(2, vI (v1571 + 1)), (0, .ref r0)]) rfl rfl rfl rfl ?_)
                refine wp_of e288 c288_84 (rw_goto (p1 := 34) (by decide) ?_)
                exact wp_lc (ks := [2, 0]) (wl_c rfl (wl_c rfl wl_n)) rfl (by decide) (ih1570 _ (by omega) (v1571 + 1) ⟨by omega, by omega⟩ rfl)
        exact wp_lc (ks := [2, 1, 0]) (wl_c rfl (wl_c rfl wl_n)) rfl (by decide) (lp1568 _ 0 ⟨by decide, by decide⟩ rfl)
      · exfalso
        omega
    · have f1625 := f1387.tr f1449 rfl
      show wp _ _ 288 21 [(0, .ref r0)] [vI z1450] _ H1444 _
      have k1626 : wLM H1444 r0 = wLM H r0 := ((wLM_fr w1386 g0 f1449 rfl).trans (wLM_fr hW g0 ((wfr.rf (l := [(42, 0)])).put' e1385 g0 rfl) rfl))
      refine wp_of e288 c288_21 (rw_istore_n (pc' := 22) (z := z1450) (L' := [(1, vI z1450), (0, .ref r0)]) rfl rfl rfl ?_)
      refine wp_of e288 c288_22 (rw_iload_n (pc' := 23) (z := z1450) rfl rfl ?_)
      refine wp_of e288 c288_23 (rw_if_le (p1 := 32) (p2 := 26) (by decide) rfl ⟨Int.le_trans (by decide) b1451.1, Int.le_trans b1451.2 (by decide)⟩ (fun c1627 => ?_) (fun c1627 => ?_))
      · exfalso
        omega
      · refine wp_of e288 c288_26 (rw_aload_n (pc' := 27) (v := .ref r0) rfl rfl rfl ?_)
        refine wp_of e288 c288_27 (rw_iload_n (pc' := 28) (z := z1450) rfl rfl ?_)
        refine wp_of e288 c288_28 (xc_V (pc' := 31) (r := r0) (as := [vI z1450]) (st := []) (lm_9_54) rfl rfl (Nat.le_of_ble_eq_true rfl) w1448 g0 sh_42 (by decide) rfl (by decide) (s_170 w1448 g0 ⟨Int.le_trans (by decide) b1451.1, Int.le_trans b1451.2 (by decide)⟩) (fun R1628 T1629 H1630 p1631 => ?_))
        obtain ⟨e1632, w1634, f1635, z1636, e1633, b1637⟩ := p1631
        subst e1632
        subst e1633
        have f1638 := f1625.tr f1635 rfl
        show wp _ _ 288 31 [(1, vI z1450), (0, .ref r0)] [vI z1636] _ H1630 _
        have k1639 : wKI H1630 r0 = wKI H1444 r0 := (wKI_fr w1448 g0 f1635 rfl)
        have h1640 : KNN T H1630 r0 e d := (KNN_fr w1448 g0 f1635 rfl a1468)
        exact wp_ireturn e288 c288_31 rfl ⟨rfl, w1634, f1638, z1636, rfl, ⟨b1637.1, b1637.2⟩, ⟨by omega, h1640⟩⟩
end
section
/-! WHAT THE TWO OBJECTS HAVE IN COMMON between calls (own work): THE TAPE; two PARISHES of the class apart from each other; what is told, what is struck now, SPANS -/
def XI0 (T : wq_T) (H : wq_H) (x m : Nat) : Prop := ∃ (B : Nat → Int) (tc tm cu dr : Nat), H x 0 = (tc : Int) ∧ T.2.2.2 tc = some 2 ∧ TP T H tc B ∧ H m 5 = (tm : Int) ∧ T.2.2.2 tm = some 43 ∧ TM T H tm B ∧ H x 6 = (cu : Int) ∧ T.2.2.2 cu = some 27 ∧ H x 7 = (dr : Int) ∧ T.2.2.2 dr = some 27 ∧ DD T H cu ∧ DD T H dr ∧ T.2.2.2 m = some 42
def XI (T : wq_T) (H : wq_H) (x m : Nat) : Prop := ∃ (B : Nat → Int) (tc tm cu dr : Nat) (C : Nat → Bool) (e d : xD) (n : Int) (g : Nat → Int) (ce : Nat), H x 0 = (tc : Int) ∧ T.2.2.2 tc = some 2 ∧ TP T H tc B ∧ H m 5 = (tm : Int) ∧ T.2.2.2 tm = some 43 ∧ TM T H tm B ∧ H x 6 = (cu : Int) ∧ T.2.2.2 cu = some 27 ∧ H x 7 = (dr : Int) ∧ T.2.2.2 dr = some 27 ∧ DD T H cu ∧ DD T H dr ∧ DE T H cu ∧ DE T H dr ∧ SP T H x C ∧ C cu = true ∧ C dr = false ∧ CU T H cu e d n ∧ RB T H m e d ∧ CG T H cu (d 0 3) g ∧ MN26 T H m (d 0 3) g ∧ (∀ i, i ≠ 13 → e i = d i) ∧ (∀ h : Nat, d 0 0 ≤ (h : Int) → h < 24 → e 13 h = 0) ∧ (H x 8 = 0 ∨ n = xlots d) ∧ XA d ∧ (H x 8 = 0 ∨ (1 ≤ d 0 0 ∧ 1 ≤ d 0 3)) ∧ SG d g ∧ H x 3 = (ce : Int) ∧ T.2.2.2 ce = some 12 ∧ CEN T H ce e d ∧ HDR T H ce ∧ KNN T H m e d ∧ T.2.2.2 m = some 42
def XIx (l : List (Nat × Nat)) : Bool := wno l 1 (fun j => decide (j = 0 ∨ j = 3 ∨ j = 6 ∨ j = 7 ∨ j = 8)) && TPx l && wno l 42 (fun j => decide (j = 5)) && TMx l && DDx l && DEx l && SPx l && CUx l && RBx l && CGx l && DAw 42 26 50 l && CENx l && HDRx l && KNNx l
theorem XI_fr {T : wq_T} {H H' : wq_H} {l : List (Nat × Nat)} {x m : Nat} (hW : WT T H) (g : T.2.2.2 x = some 1) (f : wfr l T H H') (y : XIx l = true) (h : XI T H x m) : XI T H' x m := by
  unfold XIx at y
  simp only [Bool.and_eq_true] at y
  obtain ⟨⟨⟨⟨⟨⟨⟨⟨⟨⟨⟨⟨⟨y1, y2⟩, y3⟩, y4⟩, y5⟩, y6⟩, y7⟩, y8⟩, y9⟩, y10⟩, y11⟩, y12⟩, y12b⟩, y13⟩ := y
  obtain ⟨B, tc, tm, cu, dr, C, e, d, n, g', ce, h1, h2, h3, h4, h5, h6, h7, h8, h9, h10, h11, h12, h13, h14, h15, h16, h17, h18, h19, hcg, hmn, h20, h20z, h21, ha, hv, hs, hc1, hc2, hc3, hch, hc4, h22⟩ := h
  have e8 : H' x 8 = H x 8 := wno_f f g y1 rfl
  exact ⟨B, tc, tm, cu, dr, C, e, d, n, g', ce, (wno_f f g y1 rfl).trans h1, h2, TP_fr hW h2 f y2 h3, (wno_f f h22 y3 rfl).trans h4, h5, TM_fr hW h5 f y4 h6, (wno_f f g y1 rfl).trans h7, h8, (wno_f f g y1 rfl).trans h9, h10, DD_fr hW h8 f y5 h11, DD_fr hW h10 f y5 h12, DE_fr hW h8 f y6 h13, DE_fr hW h10 f y6 h14, SP_fr hW g f y7 h15, h16, h17, CU_fr hW h8 f y8 h18, RB_fr hW h22 f y9 h19, CG_fr hW h8 f y10 hcg, MN26_fr hW h22 f y11 hmn, h20, h20z, by rw [e8]; exact h21, ha, by rw [e8]; exact hv, hs, (wno_f f g y1 rfl).trans hc1, hc2, CEN_fr hW hc2 f y12 hc3, HDR_fr hW hc2 f y12b hch, KNN_fr hW h22 f y13 hc4, h22⟩
theorem DD_mono {T T' : wq_T} {H : wq_H} {r : Nat} (m : ∀ a t, T.2.2.2 a = some t → T'.2.2.2 a = some t) (h : DD T H r) : DD T' H r := by
  obtain ⟨pa, h1, h2, h3⟩ := h
  exact ⟨pa, h1, m _ _ h2, h3⟩
end
