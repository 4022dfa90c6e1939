/-! what methods do (own work, written by wip/gen3/sx3.py) -/
/-! StrikeAwakeModel.nothing()I  -/
abbrev uq_282 (r0 : Nat) (e : xD) (d : xD) (T : wq_T) (H : wq_H) : Option Value → wq_T → wq_H → Prop := fun r T' H' => T = T' ∧ WT T H' ∧ wfr [(42, 0), (42, 1), (42, 2), (42, 28), (42, 29), (51, 999), (52, 999)] T H H' ∧ ∃ z : Int, some (vI z) = r ∧ ((-2147483648) ≤ z ∧ z ≤ 2147483647) ∧ (((wKI H' r0 = 1) ∧ KNN T H' r0 e d))
set_option maxHeartbeats 4000000 in
theorem u_282 {kt : Nat → Option mc_E} {T : wq_T} {H : wq_H} {r0 : Nat} {e : xD} {d : xD} (hW : WT T H) (g0 : T.2.2.2 r0 = some 42) (p0 : wKI H r0 = 1) (p1 : XW d) (p2 : ∀ h : Nat, d 0 0 ≤ (h : Int) → h < 24 → e 13 h = 0) (p3 : XN d) (p4 : ∀ h : Nat, h < 24 → 0 ≤ e 13 h ∧ e 13 h ≤ 100) (hRB_r0 : RB T H r0 e d) (hKNN_r0 : KNN T H r0 e d) : wpc kt 8 282 [.ref r0] T H (uq_282 r0 e d T H) := by
  refine wp_enter e282 (Nat.le_of_ble_eq_true rfl) rfl ?_
  have f0 : wfr [(42, 0), (42, 1), (42, 2), (42, 28), (42, 29), (51, 999), (52, 999)] T H H := wfr.rf
  show wp _ _ 282 0 [(0, .ref r0)] [] _ H _
  have _b := RB_b hW hRB_r0
  have _nu := RB_n3 hRB_r0
  have _lm := RB_lm hRB_r0
  refine wp_of e282 c282_0 (rw_aload_n (pc' := 1) (v := .ref r0) rfl rfl rfl ?_)
  refine wp_of e282 c282_1 (rw_iconst (pc' := 2) rfl ?_)
  refine wp_of e282 c282_2 (xp_I (pc' := 5) lf_9_48 hW g0 sh_42 (by decide) (by decide) ty_42_0 rfl rfl (by decide) (by decide) ⟨by decide, by decide⟩ rfl (fun H5525 e5526 w5527 => ?_))
  have f5528 := f0.put' e5526 g0 rfl
  have k5529 : H5525 r0 0 = 0 := wq_u_s e5526
  refine wp_of e282 c282_5 (rw_aload_n (pc' := 6) (v := .ref r0) rfl rfl rfl ?_)
  refine wp_of e282 c282_6 (rw_aload_n (pc' := 7) (v := .ref r0) rfl rfl rfl ?_)
  have k5530 : H5525 r0 3 = H r0 3 := (wq_u_j e5526 rfl)
  refine wp_of e282 c282_7 (xg_O (pc' := 10) lf_9_337 w5527 g0 sh_42 (by decide) (by decide) ty_42_3 rfl rfl (fun q5532 => ?_) (fun r5531 q5532 g5533 => ?_))
  · refine wp_of e282 c282_10 (rw_ifnull_n (p1 := 17) (p2 := 13) (by decide) rfl ?_)
    refine wp_of e282 c282_17 (rw_iconst (pc' := 18) rfl ?_)
    have k5534 : wKI H5525 r0 = wKI H r0 := (wKI_fr hW g0 ((wfr.rf (l := [(42, 0)])).put' e5526 g0 rfl) rfl)
    have h5535 : RB T H5525 r0 e d := (RB_fr hW g0 ((wfr.rf (l := [(42, 0)])).put' e5526 g0 rfl) rfl hRB_r0)
    have h5536 : KNN T H5525 r0 e d := (KNN_fr hW g0 ((wfr.rf (l := [(42, 0)])).put' e5526 g0 rfl) rfl hKNN_r0)
    refine wp_of e282 c282_18 (xc_V (pc' := 21) (r := r0) (as := [vI 0]) (st := []) (lm_9_433) rfl rfl (Nat.le_of_ble_eq_true rfl) w5527 g0 sh_42 (by decide) rfl (by decide) (u_241 (e := e) (d := d) w5527 g0 ⟨by decide, by decide⟩ (by omega) (by omega) (by assumption) (by assumption) (by assumption) (by assumption) h5535 h5536) (fun R5537 T5538 H5539 p5540 => ?_))
    obtain ⟨e5541, w5543, f5544, z5545, e5542, b5546, p5547⟩ := p5540
    subst e5541
    subst e5542
    rcases p5547 with ⟨a5548, a5549, a5550, a5551, a5552, a5553, a5554, a5555, a5556⟩ | ⟨a5557, a5558, a5559, a5560, a5561, a5562, a5563⟩
    · have f5564 := f5528.tr f5544 rfl
      show wp _ _ 282 21 [(0, .ref r0)] [vI z5545] _ H5539 _
      have k5565 : wLM H5539 r0 = wLM H r0 := ((wLM_fr w5527 g0 f5544 rfl).trans (wLM_fr hW g0 ((wfr.rf (l := [(42, 0)])).put' e5526 g0 rfl) rfl))
      refine wp_of e282 c282_21 (rw_istore_n (pc' := 22) (z := z5545) (L' := [(1, vI z5545), (0, .ref r0)]) rfl rfl rfl ?_)
      refine wp_of e282 c282_22 (rw_iload_n (pc' := 23) (z := z5545) rfl rfl ?_)
      refine wp_of e282 c282_23 (rw_if_le (p1 := 32) (p2 := 26) (by decide) rfl ⟨Int.le_trans (by decide) b5546.1, Int.le_trans b5546.2 (by decide)⟩ (fun c5566 => ?_) (fun c5566 => ?_))
      · refine wp_of e282 c282_32 (rw_iconst (pc' := 33) rfl ?_)
        refine wp_of e282 c282_33 (rw_istore_n (pc' := 34) (z := 0) (L' := [(2, vI 0), (1, vI z5545), (0, .ref r0)]) rfl rfl rfl ?_)
        refine wp_of e282 c282_34 (rw_iconst (pc' := 35) rfl ?_)
        refine wp_of e282 c282_35 (rw_istore_n (pc' := 36) (z := 0) (L' := [(3, vI 0), (2, vI 0), (1, vI z5545), (0, .ref r0)]) rfl rfl rfl ?_)
        have lp7535 : ∀ (n7536 : Nat) (v7538 : Int) (v7539 : Int) (H7540 : wq_H), WT T H7540 → wfr [(51, 999)] T H5539 H7540 → (0 ≤ v7538 ∧ v7538 ≤ 20000) → (0 ≤ v7539 ∧ v7539 ≤ 16777215) → (20000 - v7538).toNat = n7536 → wp kt 7 282 36 [(3, vI v7538), (2, vI v7539), (0, .ref r0)] [] T H7540 (uq_282 r0 e d T H) := by
          intro n7536
          induction n7536 using Nat.strongRecOn with
          | _ n7536 ih7537 =>
            intro v7538 v7539 H7540 w7541 f7542 b7543 b7544 m7545
            have f7546 := f5564.tr f7542 rfl
            refine wp_of e282 c282_36 (rw_iload_n (pc' := 37) (z := v7538) rfl rfl ?_)
            refine wp_of e282 c282_37 (rw_i2l (pc' := 38) rfl ⟨Int.le_trans (by decide) b7543.1, Int.le_trans b7543.2 (by decide)⟩ ?_)
            have k7547 : wLM H7540 r0 = wLM H5539 r0 := (wLM_fr w5543 g0 f7542 rfl)
            refine wp_of e282 c282_38 (rw_aload_n (pc' := 39) (v := .ref r0) rfl rfl rfl ?_)
            have k7548 : H7540 r0 3 = H5525 r0 3 := ((f7542 r0 3 _ g0 rfl).trans (f5544 r0 3 _ g0 rfl))
            have q7549 : H7540 r0 3 = -1 := k7548.trans q5532
            obtain ⟨r7550, q7551, g7552⟩ := (w7541.opt g0 (t' := 54) (n := 33) (j := 3) (p := 0) (q := 0) rfl (by decide) rfl).resolve_left (by omega)
            refine wp_of e282 c282_39 (xc_V (pc' := 42) (r := r0) (as := []) (st := [vL v7538]) (lm_9_376) rfl rfl (Nat.le_of_ble_eq_true rfl) w7541 g0 sh_42 (by decide) rfl (by decide) (s_220 w7541 g0 q7551 g7552) (fun R7553 T7554 H7555 p7556 => ?_))
            obtain ⟨e7557, e7559, z7561, e7558, b7562, p7560⟩ := p7556
            subst e7557
            subst e7558
            subst e7559
            show wp _ _ 282 42 [(3, vI v7538), (2, vI v7539), (0, .ref r0)] [vL z7561, vL v7538] _ H7540 _
            refine wp_of e282 c282_42 (rw_lcmp (pc' := 43) rfl ⟨Int.le_trans (by decide) b7543.1, Int.le_trans b7543.2 (by decide)⟩ ⟨Int.le_trans (by decide) b7562.1, Int.le_trans b7562.2 (by decide)⟩ ?_)
            have b7563 := wq_cmp_b v7538 z7561
            refine wp_of e282 c282_43 (rw_if_ge (p1 := 116) (p2 := 46) (by decide) rfl ⟨by omega, by omega⟩ (fun c7564 => ?_) (fun c7564 => ?_))
            · refine wp_of e282 c282_116 (rw_aload_n (pc' := 117) (v := .ref r0) rfl rfl rfl ?_)
              refine wp_of e282 c282_117 (rw_iload_n (pc' := 118) (z := v7539) rfl rfl ?_)
              refine wp_of e282 c282_118 (xc_V (pc' := 121) (r := r0) (as := [vI v7539]) (st := []) (lm_9_58) rfl rfl (Nat.le_of_ble_eq_true rfl) w7541 g0 sh_42 (by decide) rfl (by decide) (s_209 w7541 g0 ⟨Int.le_trans (by decide) b7544.1, Int.le_trans b7544.2 (by decide)⟩) (fun R7565 T7566 H7567 p7568 => ?_))
              obtain ⟨e7569, w7571, f7572, z7573, e7570, b7574⟩ := p7568
              subst e7569
              subst e7570
              have f7575 := f7546.tr f7572 rfl
              show wp _ _ 282 121 [(3, vI v7538), (2, vI v7539), (0, .ref r0)] [vI z7573] _ H7567 _
              have k7576 : wKI H7567 r0 = wKI H5539 r0 := ((wKI_fr w7541 g0 f7572 rfl).trans (wKI_fr w5543 g0 f7542 rfl))
              have h7577 : KNN T H7567 r0 e d := (KNN_fr w7541 g0 f7572 rfl (KNN_fr w5543 g0 f7542 rfl a5555))
              exact wp_ireturn e282 c282_121 rfl ⟨rfl, w7571, f7575, z7573, rfl, ⟨b7574.1, b7574.2⟩, ⟨by omega, h7577⟩⟩
            · refine wp_of e282 c282_46 (rw_aload_n (pc' := 47) (v := .ref r0) rfl rfl rfl ?_)
              refine wp_of e282 c282_47 (rw_iload_n (pc' := 48) (z := v7538) rfl rfl ?_)
              refine wp_of e282 c282_48 (xc_V (pc' := 51) (r := r0) (as := [vI v7538]) (st := []) (lm_9_425) rfl rfl (Nat.le_of_ble_eq_true rfl) w7541 g0 sh_42 (by decide) rfl (by decide) (s_243 w7541 g0 ⟨b7543.1, Int.le_trans b7543.2 (by decide)⟩ q7551 g7552 (by omega)) (fun R7578 T7579 H7580 p7581 => ?_))
              obtain ⟨e7582, w7584, f7585, e7583⟩ := p7581
              subst e7582
              subst e7583
              have f7586 := f7546.tr f7585 rfl
              have f7587 := f7542.tr f7585 rfl
              show wp _ _ 282 51 [(3, vI v7538), (2, vI v7539), (0, .ref r0)] [] _ H7580 _
              refine wp_of e282 c282_51 (rw_aload_n (pc' := 52) (v := .ref r0) rfl rfl rfl ?_)
              refine wp_of e282 c282_52 (rw_aload_n (pc' := 53) (v := .ref r0) rfl rfl rfl ?_)
              refine wp_of e282 c282_53 (xg_R (pc' := 56) lf_9_39 w7584 g0 sh_42 (by decide) (by decide) ty_42_27 rfl rfl (fun r7588 q7589 g7590 => ?_))
              have k7591 : H7580 r0 3 = H7540 r0 3 := (f7585 r0 3 _ g0 rfl)
              have q7592 : H7580 r0 3 = (r7550 : Int) := k7591.trans q7551
              refine wp_of e282 c282_56 (xc_V (pc' := 59) (r := r0) (as := [.ref r7588]) (st := []) (lm_9_393) rfl rfl (Nat.le_of_ble_eq_true rfl) w7584 g0 sh_42 (by decide) rfl (by decide) (s_235_m_lot w7584 g0 g7590 q7592 g7552) (fun R7593 T7594 H7595 p7596 => ?_))
              obtain ⟨e7597, e7599, z7600, e7598, b7601⟩ := p7596
              subst e7597
              subst e7598
              subst e7599
              show wp _ _ 282 59 [(3, vI v7538), (2, vI v7539), (0, .ref r0)] [vI z7600] _ H7580 _
              refine wp_of e282 c282_59 (rw_if_eq (p1 := 65) (p2 := 62) (by decide) rfl ⟨b7601.1, b7601.2⟩ (fun c7602 => ?_) (fun c7602 => ?_))
              · refine wp_of e282 c282_65 (rw_iconst (pc' := 66) rfl ?_)
                refine wp_of e282 c282_66 (rw_istore (pc' := 68) (z := 0) (L' := [(4, vI 0), (3, vI v7538), (2, vI v7539), (0, .ref r0)]) rfl rfl rfl ?_)
                have lp7787 : ∀ (n7788 : Nat) (v7790 : Int) (v7791 : Int), (0 ≤ v7790 ∧ v7790 ≤ 24) → (0 ≤ v7791 ∧ v7791 ≤ 16777215) → (24 - v7790).toNat = n7788 → wp kt 7 282 68 [(4, vI v7790), (2, vI v7791), (3, vI v7538), (0, .ref r0)] [] T H7580 (uq_282 r0 e d T H) := by
                  intro n7788
                  induction n7788 using Nat.strongRecOn with
                  | _ n7788 ih7789 =>
                    intro v7790 v7791 b7794 b7795 m7796
                    refine wp_of e282 c282_68 (rw_iload (pc' := 70) (z := v7790) rfl rfl ?_)
                    refine wp_of e282 c282_70 (rw_aload_n (pc' := 71) (v := .ref r0) rfl rfl rfl ?_)
                    refine wp_of e282 c282_71 (xg_K (pc' := 74) lf_9_337 w7584 g0 sh_42 (by decide) (by decide) rfl q7592 rfl ?_)
                    refine wp_of e282 c282_74 (xg_I (pc' := 77) lf_9_185 w7584 g7552 sh_54 (by decide) (by decide) ty_54_0 rfl rfl (fun b7797 b7798 => ?_))
                    refine wp_of e282 c282_77 (rw_icmp_ge (p1 := 110) (p2 := 80) (by decide) rfl ⟨Int.le_trans (by decide) b7794.1, Int.le_trans b7794.2 (by decide)⟩ ⟨Int.le_trans (by decide) b7797, Int.le_trans b7798 (by decide)⟩ (fun c7799 => ?_) (fun c7799 => ?_))
                    · refine wp_of e282 c282_110 (rw_iinc (pc' := 113) (z := v7538) (L' := [(3, vI (v7538 + 1)), (4, vI v7790), (2, vI v7791), (0, .ref r0)]) rfl rfl rfl rfl ?_)
                      refine wp_of e282 c282_113 (rw_goto (p1 := 36) (by decide) ?_)
                      exact wp_lc (ks := [3, 4, 2, 0]) (wl_c rfl (wl_c rfl (wl_c rfl wl_n))) rfl (by decide) (ih7537 _ (by omega) (v7538 + 1) v7791 H7580 w7584 f7587 ⟨by omega, by omega⟩ ⟨b7795.1, b7795.2⟩ rfl)
                    · refine wp_of e282 c282_80 (rw_iload_n (pc' := 81) (z := v7791) rfl rfl ?_)
                      refine wp_of e282 c282_81 (rw_aload_n (pc' := 82) (v := .ref r0) rfl rfl rfl ?_)
                      refine wp_of e282 c282_82 (rw_aload_n (pc' := 83) (v := .ref r0) rfl rfl rfl ?_)
                      refine wp_of e282 c282_83 (xg_K (pc' := 86) lf_9_39 w7584 g0 sh_42 (by decide) (by decide) rfl q7589 rfl ?_)
                      refine wp_of e282 c282_86 (rw_iload (pc' := 88) (z := v7790) rfl rfl ?_)
                      refine wp_of e282 c282_88 (xc_V (pc' := 91) (r := r0) (as := [.ref r7588, vI v7790]) (st := [vI v7791]) (lm_9_386) rfl rfl (Nat.le_of_ble_eq_true rfl) w7584 g0 sh_42 (by decide) rfl (by decide) (s_228_m_lot w7584 g0 g7590 ⟨Int.le_trans (by decide) b7794.1, Int.le_trans b7794.2 (by decide)⟩ q7592 g7552) (fun R7800 T7801 H7802 p7803 => ?_))
                      obtain ⟨e7804, e7806, z7807, e7805, b7808⟩ := p7803
                      subst e7804
                      subst e7805
                      subst e7806
                      show wp _ _ 282 91 [(4, vI v7790), (2, vI v7791), (3, vI v7538), (0, .ref r0)] [vI z7807, vI v7791] _ H7580 _
                      refine wp_of e282 c282_91 (rw_if_ne (p1 := 101) (p2 := 94) (by decide) rfl ⟨b7808.1, b7808.2⟩ (fun c7809 => ?_) (fun c7809 => ?_))
                      · refine wp_of e282 c282_101 (rw_iconst (pc' := 102) rfl ?_)
                        refine wp_of e282 c282_102 (rw_ior (pc' := 103) rfl ?_)
                        obtain ⟨v7810, e7811⟩ : ∃ x : Int, x = wq_or v7791 0 := ⟨_, rfl⟩
                        rw [← e7811]
                        have b7812 : 0 ≤ v7810 ∧ v7810 ≤ 16777215 := by
                          rw [e7811]
                          exact wq_or_24 ⟨by omega, by omega⟩ ⟨by omega, by omega⟩
                        refine wp_of e282 c282_103 (rw_istore_n (pc' := 104) (z := v7810) (L' := [(2, vI v7810), (4, vI v7790), (3, vI v7538), (0, .ref r0)]) rfl rfl rfl ?_)
                        refine wp_of e282 c282_104 (rw_iinc (pc' := 107) (z := v7790) (L' := [(4, vI (v7790 + 1)), (2, vI v7810), (3, vI v7538), (0, .ref r0)]) rfl rfl rfl rfl ?_)
                        refine wp_of e282 c282_107 (rw_goto (p1 := 68) (by decide) ?_)
                        exact wp_lc (ks := [4, 2, 3, 0]) (wl_c rfl (wl_c rfl (wl_c rfl (wl_c rfl wl_n)))) rfl (by decide) (ih7789 _ (by omega) (v7790 + 1) v7810 ⟨by omega, by omega⟩ ⟨b7812.1, b7812.2⟩ rfl)
                      · refine wp_of e282 c282_94 (rw_iconst (pc' := 95) rfl ?_)
                        refine wp_of e282 c282_95 (rw_iload (pc' := 97) (z := v7790) rfl rfl ?_)
                        refine wp_of e282 c282_97 (rw_ishl (pc' := 98) rfl ?_)
                        obtain ⟨v7813, e7814⟩ : ∃ x : Int, x = wq_shl 1 v7790 := ⟨_, rfl⟩
                        rw [← e7814]
                        have b7815 : 1 ≤ v7813 ∧ v7813 ≤ 8388608 := by
                          rw [e7814]
                          exact wq_shl1_24 ⟨by omega, by omega⟩
                        refine wp_of e282 c282_98 (rw_goto (p1 := 102) (by decide) ?_)
                        refine wp_of e282 c282_102 (rw_ior (pc' := 103) rfl ?_)
                        obtain ⟨v7816, e7817⟩ : ∃ x : Int, x = wq_or v7791 v7813 := ⟨_, rfl⟩
                        rw [← e7817]
                        have b7818 : 0 ≤ v7816 ∧ v7816 ≤ 16777215 := by
                          rw [e7817]
                          exact wq_or_24 ⟨by omega, by omega⟩ ⟨by omega, by omega⟩
                        refine wp_of e282 c282_103 (rw_istore_n (pc' := 104) (z := v7816) (L' := [(2, vI v7816), (4, vI v7790), (3, vI v7538), (0, .ref r0)]) rfl rfl rfl ?_)
                        refine wp_of e282 c282_104 (rw_iinc (pc' := 107) (z := v7790) (L' := [(4, vI (v7790 + 1)), (2, vI v7816), (3, vI v7538), (0, .ref r0)]) rfl rfl rfl rfl ?_)
                        refine wp_of e282 c282_107 (rw_goto (p1 := 68) (by decide) ?_)
                        exact wp_lc (ks := [4, 2, 3, 0]) (wl_c rfl (wl_c rfl (wl_c rfl (wl_c rfl wl_n)))) rfl (by decide) (ih7789 _ (by omega) (v7790 + 1) v7816 ⟨by omega, by omega⟩ ⟨b7818.1, b7818.2⟩ rfl)
                exact wp_lc (ks := [4, 3, 2, 0]) (wl_c rfl (wl_c rfl (wl_c rfl (wl_c rfl wl_n)))) rfl (by decide) (lp7787 _ 0 v7539 ⟨by decide, by decide⟩ ⟨b7544.1, b7544.2⟩ rfl)
              · refine wp_of e282 c282_62 (rw_goto (p1 := 110) (by decide) ?_)
                refine wp_of e282 c282_110 (rw_iinc (pc' := 113) (z := v7538) (L' := [(3, vI (v7538 + 1)), (2, vI v7539), (0, .ref r0)]) rfl rfl rfl rfl ?_)
                refine wp_of e282 c282_113 (rw_goto (p1 := 36) (by decide) ?_)
                exact wp_lc (ks := [3, 2, 0]) (wl_c rfl (wl_c rfl (wl_c rfl wl_n))) rfl (by decide) (ih7537 _ (by omega) (v7538 + 1) v7539 H7580 w7584 f7587 ⟨by omega, by omega⟩ ⟨b7544.1, b7544.2⟩ rfl)
        exact wp_lc (ks := [3, 2, 1, 0]) (wl_c rfl (wl_c rfl (wl_c rfl wl_n))) rfl (by decide) (lp7535 _ 0 0 H5539 w5543 wfr.rf ⟨by decide, by decide⟩ ⟨by decide, by decide⟩ rfl)
      · exfalso
        omega
    · have f7819 := f5528.tr f5544 rfl
      show wp _ _ 282 21 [(0, .ref r0)] [vI z5545] _ H5539 _
      have k7820 : wLM H5539 r0 = wLM H r0 := ((wLM_fr w5527 g0 f5544 rfl).trans (wLM_fr hW g0 ((wfr.rf (l := [(42, 0)])).put' e5526 g0 rfl) rfl))
      refine wp_of e282 c282_21 (rw_istore_n (pc' := 22) (z := z5545) (L' := [(1, vI z5545), (0, .ref r0)]) rfl rfl rfl ?_)
      refine wp_of e282 c282_22 (rw_iload_n (pc' := 23) (z := z5545) rfl rfl ?_)
      refine wp_of e282 c282_23 (rw_if_le (p1 := 32) (p2 := 26) (by decide) rfl ⟨Int.le_trans (by decide) b5546.1, Int.le_trans b5546.2 (by decide)⟩ (fun c7821 => ?_) (fun c7821 => ?_))
      · exfalso
        omega
      · refine wp_of e282 c282_26 (rw_aload_n (pc' := 27) (v := .ref r0) rfl rfl rfl ?_)
        refine wp_of e282 c282_27 (rw_iload_n (pc' := 28) (z := z5545) rfl rfl ?_)
        refine wp_of e282 c282_28 (xc_V (pc' := 31) (r := r0) (as := [vI z5545]) (st := []) (lm_9_54) rfl rfl (Nat.le_of_ble_eq_true rfl) w5543 g0 sh_42 (by decide) rfl (by decide) (s_170 w5543 g0 ⟨Int.le_trans (by decide) b5546.1, Int.le_trans b5546.2 (by decide)⟩) (fun R7822 T7823 H7824 p7825 => ?_))
        obtain ⟨e7826, w7828, f7829, z7830, e7827, b7831⟩ := p7825
        subst e7826
        subst e7827
        have f7832 := f7819.tr f7829 rfl
        show wp _ _ 282 31 [(1, vI z5545), (0, .ref r0)] [vI z7830] _ H7824 _
        have k7833 : wKI H7824 r0 = wKI H5539 r0 := (wKI_fr w5543 g0 f7829 rfl)
        have h7834 : KNN T H7824 r0 e d := (KNN_fr w5543 g0 f7829 rfl a5563)
        exact wp_ireturn e282 c282_31 rfl ⟨rfl, w7828, f7832, z7830, rfl, ⟨b7831.1, b7831.2⟩, ⟨by omega, h7834⟩⟩
  · refine wp_of e282 c282_10 (rw_ifnull_r (p1 := 17) (p2 := 13) (by decide) rfl ?_)
    refine wp_of e282 c282_13 (rw_iconst (pc' := 14) rfl ?_)
    refine wp_of e282 c282_14 (rw_goto (p1 := 18) (by decide) ?_)
    have k7835 : wKI H5525 r0 = wKI H r0 := (wKI_fr hW g0 ((wfr.rf (l := [(42, 0)])).put' e5526 g0 rfl) rfl)
    have h7836 : RB T H5525 r0 e d := (RB_fr hW g0 ((wfr.rf (l := [(42, 0)])).put' e5526 g0 rfl) rfl hRB_r0)
    have h7837 : KNN T H5525 r0 e d := (KNN_fr hW g0 ((wfr.rf (l := [(42, 0)])).put' e5526 g0 rfl) rfl hKNN_r0)
    refine wp_of e282 c282_18 (xc_V (pc' := 21) (r := r0) (as := [vI 1]) (st := []) (lm_9_433) rfl rfl (Nat.le_of_ble_eq_true rfl) w5527 g0 sh_42 (by decide) rfl (by decide) (u_241 (e := e) (d := d) w5527 g0 ⟨by decide, by decide⟩ (by omega) (by omega) (by assumption) (by assumption) (by assumption) (by assumption) h7836 h7837) (fun R7838 T7839 H7840 p7841 => ?_))
    obtain ⟨e7842, w7844, f7845, z7846, e7843, b7847, p7848⟩ := p7841
    subst e7842
    subst e7843
    rcases p7848 with ⟨a7849, a7850, a7851, a7852, a7853, a7854, a7855, a7856, a7857⟩ | ⟨a7858, a7859, a7860, a7861, a7862, a7863, a7864⟩
    · have f7865 := f5528.tr f7845 rfl
      show wp _ _ 282 21 [(0, .ref r0)] [vI z7846] _ H7840 _
      have k7866 : wLM H7840 r0 = wLM H r0 := ((wLM_fr w5527 g0 f7845 rfl).trans (wLM_fr hW g0 ((wfr.rf (l := [(42, 0)])).put' e5526 g0 rfl) rfl))
      refine wp_of e282 c282_21 (rw_istore_n (pc' := 22) (z := z7846) (L' := [(1, vI z7846), (0, .ref r0)]) rfl rfl rfl ?_)
      refine wp_of e282 c282_22 (rw_iload_n (pc' := 23) (z := z7846) rfl rfl ?_)
      refine wp_of e282 c282_23 (rw_if_le (p1 := 32) (p2 := 26) (by decide) rfl ⟨Int.le_trans (by decide) b7847.1, Int.le_trans b7847.2 (by decide)⟩ (fun c7867 => ?_) (fun c7867 => ?_))
      · refine wp_of e282 c282_32 (rw_iconst (pc' := 33) rfl ?_)
        refine wp_of e282 c282_33 (rw_istore_n (pc' := 34) (z := 0) (L' := [(2, vI 0), (1, vI z7846), (0, .ref r0)]) rfl rfl rfl ?_)
        refine wp_of e282 c282_34 (rw_iconst (pc' := 35) rfl ?_)
        refine wp_of e282 c282_35 (rw_istore_n (pc' := 36) (z := 0) (L' := [(3, vI 0), (2, vI 0), (1, vI z7846), (0, .ref r0)]) rfl rfl rfl ?_)
        have lp9812 : ∀ (n9813 : Nat) (v9815 : Int) (v9816 : Int) (H9817 : wq_H), WT T H9817 → wfr [(51, 999)] T H7840 H9817 → (0 ≤ v9815 ∧ v9815 ≤ 20000) → (0 ≤ v9816 ∧ v9816 ≤ 16777215) → (20000 - v9815).toNat = n9813 → wp kt 7 282 36 [(3, vI v9815), (2, vI v9816), (0, .ref r0)] [] T H9817 (uq_282 r0 e d T H) := by
          intro n9813
          induction n9813 using Nat.strongRecOn with
          | _ n9813 ih9814 =>
            intro v9815 v9816 H9817 w9818 f9819 b9820 b9821 m9822
            have f9823 := f7865.tr f9819 rfl
            refine wp_of e282 c282_36 (rw_iload_n (pc' := 37) (z := v9815) rfl rfl ?_)
            refine wp_of e282 c282_37 (rw_i2l (pc' := 38) rfl ⟨Int.le_trans (by decide) b9820.1, Int.le_trans b9820.2 (by decide)⟩ ?_)
            have k9824 : wLM H9817 r0 = wLM H7840 r0 := (wLM_fr w7844 g0 f9819 rfl)
            refine wp_of e282 c282_38 (rw_aload_n (pc' := 39) (v := .ref r0) rfl rfl rfl ?_)
            have k9825 : H9817 r0 3 = H5525 r0 3 := ((f9819 r0 3 _ g0 rfl).trans (f7845 r0 3 _ g0 rfl))
            have q9826 : H9817 r0 3 = (r5531 : Int) := k9825.trans q5532
            refine wp_of e282 c282_39 (xc_V (pc' := 42) (r := r0) (as := []) (st := [vL v9815]) (lm_9_376) rfl rfl (Nat.le_of_ble_eq_true rfl) w9818 g0 sh_42 (by decide) rfl (by decide) (s_220 w9818 g0 q9826 g5533) (fun R9827 T9828 H9829 p9830 => ?_))
            obtain ⟨e9831, e9833, z9835, e9832, b9836, p9834⟩ := p9830
            subst e9831
            subst e9832
            subst e9833
            show wp _ _ 282 42 [(3, vI v9815), (2, vI v9816), (0, .ref r0)] [vL z9835, vL v9815] _ H9817 _
            refine wp_of e282 c282_42 (rw_lcmp (pc' := 43) rfl ⟨Int.le_trans (by decide) b9820.1, Int.le_trans b9820.2 (by decide)⟩ ⟨Int.le_trans (by decide) b9836.1, Int.le_trans b9836.2 (by decide)⟩ ?_)
            have b9837 := wq_cmp_b v9815 z9835
            refine wp_of e282 c282_43 (rw_if_ge (p1 := 116) (p2 := 46) (by decide) rfl ⟨by omega, by omega⟩ (fun c9838 => ?_) (fun c9838 => ?_))
            · refine wp_of e282 c282_116 (rw_aload_n (pc' := 117) (v := .ref r0) rfl rfl rfl ?_)
              refine wp_of e282 c282_117 (rw_iload_n (pc' := 118) (z := v9816) rfl rfl ?_)
              refine wp_of e282 c282_118 (xc_V (pc' := 121) (r := r0) (as := [vI v9816]) (st := []) (lm_9_58) rfl rfl (Nat.le_of_ble_eq_true rfl) w9818 g0 sh_42 (by decide) rfl (by decide) (s_209 w9818 g0 ⟨Int.le_trans (by decide) b9821.1, Int.le_trans b9821.2 (by decide)⟩) (fun R9839 T9840 H9841 p9842 => ?_))
              obtain ⟨e9843, w9845, f9846, z9847, e9844, b9848⟩ := p9842
              subst e9843
              subst e9844
              have f9849 := f9823.tr f9846 rfl
              show wp _ _ 282 121 [(3, vI v9815), (2, vI v9816), (0, .ref r0)] [vI z9847] _ H9841 _
              have k9850 : wKI H9841 r0 = wKI H7840 r0 := ((wKI_fr w9818 g0 f9846 rfl).trans (wKI_fr w7844 g0 f9819 rfl))
              have h9851 : KNN T H9841 r0 e d := (KNN_fr w9818 g0 f9846 rfl (KNN_fr w7844 g0 f9819 rfl a7856))
              exact wp_ireturn e282 c282_121 rfl ⟨rfl, w9845, f9849, z9847, rfl, ⟨b9848.1, b9848.2⟩, ⟨by omega, h9851⟩⟩
            · refine wp_of e282 c282_46 (rw_aload_n (pc' := 47) (v := .ref r0) rfl rfl rfl ?_)
              refine wp_of e282 c282_47 (rw_iload_n (pc' := 48) (z := v9815) rfl rfl ?_)
              refine wp_of e282 c282_48 (xc_V (pc' := 51) (r := r0) (as := [vI v9815]) (st := []) (lm_9_425) rfl rfl (Nat.le_of_ble_eq_true rfl) w9818 g0 sh_42 (by decide) rfl (by decide) (s_243 w9818 g0 ⟨b9820.1, Int.le_trans b9820.2 (by decide)⟩ q9826 g5533 (by omega)) (fun R9852 T9853 H9854 p9855 => ?_))
              obtain ⟨e9856, w9858, f9859, e9857⟩ := p9855
              subst e9856
              subst e9857
              have f9860 := f9823.tr f9859 rfl
              have f9861 := f9819.tr f9859 rfl
              show wp _ _ 282 51 [(3, vI v9815), (2, vI v9816), (0, .ref r0)] [] _ H9854 _
              refine wp_of e282 c282_51 (rw_aload_n (pc' := 52) (v := .ref r0) rfl rfl rfl ?_)
              refine wp_of e282 c282_52 (rw_aload_n (pc' := 53) (v := .ref r0) rfl rfl rfl ?_)
              refine wp_of e282 c282_53 (xg_R (pc' := 56) lf_9_39 w9858 g0 sh_42 (by decide) (by decide) ty_42_27 rfl rfl (fun r9862 q9863 g9864 => ?_))
              have k9865 : H9854 r0 3 = H9817 r0 3 := (f9859 r0 3 _ g0 rfl)
              have q9866 : H9854 r0 3 = (r5531 : Int) := k9865.trans q9826
              refine wp_of e282 c282_56 (xc_V (pc' := 59) (r := r0) (as := [.ref r9862]) (st := []) (lm_9_393) rfl rfl (Nat.le_of_ble_eq_true rfl) w9858 g0 sh_42 (by decide) rfl (by decide) (s_235_m_lot w9858 g0 g9864 q9866 g5533) (fun R9867 T9868 H9869 p9870 => ?_))
              obtain ⟨e9871, e9873, z9874, e9872, b9875⟩ := p9870
              subst e9871
              subst e9872
              subst e9873
              show wp _ _ 282 59 [(3, vI v9815), (2, vI v9816), (0, .ref r0)] [vI z9874] _ H9854 _
              refine wp_of e282 c282_59 (rw_if_eq (p1 := 65) (p2 := 62) (by decide) rfl ⟨b9875.1, b9875.2⟩ (fun c9876 => ?_) (fun c9876 => ?_))
              · refine wp_of e282 c282_65 (rw_iconst (pc' := 66) rfl ?_)
                refine wp_of e282 c282_66 (rw_istore (pc' := 68) (z := 0) (L' := [(4, vI 0), (3, vI v9815), (2, vI v9816), (0, .ref r0)]) rfl rfl rfl ?_)
                have lp10061 : ∀ (n10062 : Nat) (v10064 : Int) (v10065 : Int), (0 ≤ v10064 ∧ v10064 ≤ 24) → (0 ≤ v10065 ∧ v10065 ≤ 16777215) → (24 - v10064).toNat = n10062 → wp kt 7 282 68 [(4, vI v10064), (2, vI v10065), (3, vI v9815), (0, .ref r0)] [] T H9854 (uq_282 r0 e d T H) := by
                  intro n10062
                  induction n10062 using Nat.strongRecOn with
                  | _ n10062 ih10063 =>
                    intro v10064 v10065 b10068 b10069 m10070
                    refine wp_of e282 c282_68 (rw_iload (pc' := 70) (z := v10064) rfl rfl ?_)
                    refine wp_of e282 c282_70 (rw_aload_n (pc' := 71) (v := .ref r0) rfl rfl rfl ?_)
                    refine wp_of e282 c282_71 (xg_K (pc' := 74) lf_9_337 w9858 g0 sh_42 (by decide) (by decide) rfl q9866 rfl ?_)
                    refine wp_of e282 c282_74 (xg_I (pc' := 77) lf_9_185 w9858 g5533 sh_54 (by decide) (by decide) ty_54_0 rfl rfl (fun b10071 b10072 => ?_))
                    refine wp_of e282 c282_77 (rw_icmp_ge (p1 := 110) (p2 := 80) (by decide) rfl ⟨Int.le_trans (by decide) b10068.1, Int.le_trans b10068.2 (by decide)⟩ ⟨Int.le_trans (by decide) b10071, Int.le_trans b10072 (by decide)⟩ (fun c10073 => ?_) (fun c10073 => ?_))
                    · refine wp_of e282 c282_110 (rw_iinc (pc' := 113) (z := v9815) (L' := [(3, vI (v9815 + 1)), (4, vI v10064), (2, vI v10065), (0, .ref r0)]) rfl rfl rfl rfl ?_)
                      refine wp_of e282 c282_113 (rw_goto (p1 := 36) (by decide) ?_)
                      exact wp_lc (ks := [3, 4, 2, 0]) (wl_c rfl (wl_c rfl (wl_c rfl wl_n))) rfl (by decide) (ih9814 _ (by omega) (v9815 + 1) v10065 H9854 w9858 f9861 ⟨by omega, by omega⟩ ⟨b10069.1, b10069.2⟩ rfl)
                    · refine wp_of e282 c282_80 (rw_iload_n (pc' := 81) (z := v10065) rfl rfl ?_)
                      refine wp_of e282 c282_81 (rw_aload_n (pc' := 82) (v := .ref r0) rfl rfl rfl ?_)
                      refine wp_of e282 c282_82 (rw_aload_n (pc' := 83) (v := .ref r0) rfl rfl rfl ?_)
                      refine wp_of e282 c282_83 (xg_K (pc' := 86) lf_9_39 w9858 g0 sh_42 (by decide) (by decide) rfl q9863 rfl ?_)
                      refine wp_of e282 c282_86 (rw_iload (pc' := 88) (z := v10064) rfl rfl ?_)
                      refine wp_of e282 c282_88 (xc_V (pc' := 91) (r := r0) (as := [.ref r9862, vI v10064]) (st := [vI v10065]) (lm_9_386) rfl rfl (Nat.le_of_ble_eq_true rfl) w9858 g0 sh_42 (by decide) rfl (by decide) (s_228_m_lot w9858 g0 g9864 ⟨Int.le_trans (by decide) b10068.1, Int.le_trans b10068.2 (by decide)⟩ q9866 g5533) (fun R10074 T10075 H10076 p10077 => ?_))
                      obtain ⟨e10078, e10080, z10081, e10079, b10082⟩ := p10077
                      subst e10078
                      subst e10079
                      subst e10080
                      show wp _ _ 282 91 [(4, vI v10064), (2, vI v10065), (3, vI v9815), (0, .ref r0)] [vI z10081, vI v10065] _ H9854 _
                      refine wp_of e282 c282_91 (rw_if_ne (p1 := 101) (p2 := 94) (by decide) rfl ⟨b10082.1, b10082.2⟩ (fun c10083 => ?_) (fun c10083 => ?_))
                      · refine wp_of e282 c282_101 (rw_iconst (pc' := 102) rfl ?_)
                        refine wp_of e282 c282_102 (rw_ior (pc' := 103) rfl ?_)
                        obtain ⟨v10084, e10085⟩ : ∃ x : Int, x = wq_or v10065 0 := ⟨_, rfl⟩
                        rw [← e10085]
                        have b10086 : 0 ≤ v10084 ∧ v10084 ≤ 16777215 := by
                          rw [e10085]
                          exact wq_or_24 ⟨by omega, by omega⟩ ⟨by omega, by omega⟩
                        refine wp_of e282 c282_103 (rw_istore_n (pc' := 104) (z := v10084) (L' := [(2, vI v10084), (4, vI v10064), (3, vI v9815), (0, .ref r0)]) rfl rfl rfl ?_)
                        refine wp_of e282 c282_104 (rw_iinc (pc' := 107) (z := v10064) (L' := [(4, vI (v10064 + 1)), (2, vI v10084), (3, vI v9815), (0, .ref r0)]) rfl rfl rfl rfl ?_)
                        refine wp_of e282 c282_107 (rw_goto (p1 := 68) (by decide) ?_)
                        exact wp_lc (ks := [4, 2, 3, 0]) (wl_c rfl (wl_c rfl (wl_c rfl (wl_c rfl wl_n)))) rfl (by decide) (ih10063 _ (by omega) (v10064 + 1) v10084 ⟨by omega, by omega⟩ ⟨b10086.1, b10086.2⟩ rfl)
                      · refine wp_of e282 c282_94 (rw_iconst (pc' := 95) rfl ?_)
                        refine wp_of e282 c282_95 (rw_iload (pc' := 97) (z := v10064) rfl rfl ?_)
                        refine wp_of e282 c282_97 (rw_ishl (pc' := 98) rfl ?_)
                        obtain ⟨v10087, e10088⟩ : ∃ x : Int, x = wq_shl 1 v10064 := ⟨_, rfl⟩
                        rw [← e10088]
                        have b10089 : 1 ≤ v10087 ∧ v10087 ≤ 8388608 := by
                          rw [e10088]
                          exact wq_shl1_24 ⟨by omega, by omega⟩
                        refine wp_of e282 c282_98 (rw_goto (p1 := 102) (by decide) ?_)
                        refine wp_of e282 c282_102 (rw_ior (pc' := 103) rfl ?_)
                        obtain ⟨v10090, e10091⟩ : ∃ x : Int, x = wq_or v10065 v10087 := ⟨_, rfl⟩
                        rw [← e10091]
                        have b10092 : 0 ≤ v10090 ∧ v10090 ≤ 16777215 := by
                          rw [e10091]
                          exact wq_or_24 ⟨by omega, by omega⟩ ⟨by omega, by omega⟩
                        refine wp_of e282 c282_103 (rw_istore_n (pc' := 104) (z := v10090) (L' := [(2, vI v10090), (4, vI v10064), (3, vI v9815), (0, .ref r0)]) rfl rfl rfl ?_)
                        refine wp_of e282 c282_104 (rw_iinc (pc' := 107) (z := v10064) (L' := [(4, vI (v10064 + 1)), (2, vI v10090), (3, vI v9815), (0, .ref r0)]) rfl rfl rfl rfl ?_)
                        refine wp_of e282 c282_107 (rw_goto (p1 := 68) (by decide) ?_)
                        exact wp_lc (ks := [4, 2, 3, 0]) (wl_c rfl (wl_c rfl (wl_c rfl (wl_c rfl wl_n)))) rfl (by decide) (ih10063 _ (by omega) (v10064 + 1) v10090 ⟨by omega, by omega⟩ ⟨b10092.1, b10092.2⟩ rfl)
                exact wp_lc (ks := [4, 3, 2, 0]) (wl_c rfl (wl_c rfl (wl_c rfl (wl_c rfl wl_n)))) rfl (by decide) (lp10061 _ 0 v9816 ⟨by decide, by decide⟩ ⟨b9821.1, b9821.2⟩ rfl)
              · refine wp_of e282 c282_62 (rw_goto (p1 := 110) (by decide) ?_)
                refine wp_of e282 c282_110 (rw_iinc (pc' := 113) (z := v9815) (L' := [(3, vI (v9815 + 1)), (2, vI v9816), (0, .ref r0)]) rfl rfl rfl rfl ?_)
                refine wp_of e282 c282_113 (rw_goto (p1 := 36) (by decide) ?_)
                exact wp_lc (ks := [3, 2, 0]) (wl_c rfl (wl_c rfl (wl_c rfl wl_n))) rfl (by decide) (ih9814 _ (by omega) (v9815 + 1) v9816 H9854 w9858 f9861 ⟨by omega, by omega⟩ ⟨b9821.1, b9821.2⟩ rfl)
        exact wp_lc (ks := [3, 2, 1, 0]) (wl_c rfl (wl_c rfl (wl_c rfl wl_n))) rfl (by decide) (lp9812 _ 0 0 H7840 w7844 wfr.rf ⟨by decide, by decide⟩ ⟨by decide, by decide⟩ rfl)
      · exfalso
        omega
    · have f10093 := f5528.tr f7845 rfl
      show wp _ _ 282 21 [(0, .ref r0)] [vI z7846] _ H7840 _
      have k10094 : wLM H7840 r0 = wLM H r0 := ((wLM_fr w5527 g0 f7845 rfl).trans (wLM_fr hW g0 ((wfr.rf (l := [(42, 0)])).put' e5526 g0 rfl) rfl))
      refine wp_of e282 c282_21 (rw_istore_n (pc' := 22) (z := z7846) (L' := [(1, vI z7846), (0, .ref r0)]) rfl rfl rfl ?_)
      refine wp_of e282 c282_22 (rw_iload_n (pc' := 23) (z := z7846) rfl rfl ?_)
      refine wp_of e282 c282_23 (rw_if_le (p1 := 32) (p2 := 26) (by decide) rfl ⟨Int.le_trans (by decide) b7847.1, Int.le_trans b7847.2 (by decide)⟩ (fun c10095 => ?_) (fun c10095 => ?_))
      · exfalso
        omega
      · refine wp_of e282 c282_26 (rw_aload_n (pc' := 27) (v := .ref r0) rfl rfl rfl ?_)
        refine wp_of e282 c282_27 (rw_iload_n (pc' := 28) (z := z7846) rfl rfl ?_)
        refine wp_of e282 c282_28 (xc_V (pc' := 31) (r := r0) (as := [vI z7846]) (st := []) (lm_9_54) rfl rfl (Nat.le_of_ble_eq_true rfl) w7844 g0 sh_42 (by decide) rfl (by decide) (s_170 w7844 g0 ⟨Int.le_trans (by decide) b7847.1, Int.le_trans b7847.2 (by decide)⟩) (fun R10096 T10097 H10098 p10099 => ?_))
        obtain ⟨e10100, w10102, f10103, z10104, e10101, b10105⟩ := p10099
        subst e10100
        subst e10101
        have f10106 := f10093.tr f10103 rfl
        show wp _ _ 282 31 [(1, vI z7846), (0, .ref r0)] [vI z10104] _ H10098 _
        have k10107 : wKI H10098 r0 = wKI H7840 r0 := (wKI_fr w7844 g0 f10103 rfl)
        have h10108 : KNN T H10098 r0 e d := (KNN_fr w7844 g0 f10103 rfl a7864)
        exact wp_ireturn e282 c282_31 rfl ⟨rfl, w10102, f10106, z10104, rfl, ⟨b10105.1, b10105.2⟩, ⟨by omega, h10108⟩⟩
/-! StrikeAwakeModel.seek()I  -/
abbrev uq_288 (r0 : Nat) (e : xD) (d : xD) (T : wq_T) (H : wq_H) : Option Value → wq_T → wq_H → Prop := fun r T' H' => T = T' ∧ WT T H' ∧ wfr [(42, 0), (42, 1), (42, 2), (42, 28), (42, 29), (42, 32), (51, 999), (52, 999)] T H H' ∧ ∃ z : Int, some (vI z) = r ∧ ((-2147483648) ≤ z ∧ z ≤ 2147483647) ∧ (((wKI H' r0 = 1) ∧ KNN T H' r0 e d))
set_option maxHeartbeats 4000000 in
theorem u_288 {kt : Nat → Option mc_E} {T : wq_T} {H : wq_H} {r0 : Nat} {e : xD} {d : xD} (hW : WT T H) (g0 : T.2.2.2 r0 = some 42) (p0 : wKI H r0 = 1) (p1 : XW d) (p2 : ∀ h : Nat, d 0 0 ≤ (h : Int) → h < 24 → e 13 h = 0) (p3 : XN d) (p4 : ∀ h : Nat, h < 24 → 0 ≤ e 13 h ∧ e 13 h ≤ 100) (hRB_r0 : RB T H r0 e d) (hKNN_r0 : KNN T H r0 e d) : wpc kt 8 288 [.ref r0] T H (uq_288 r0 e d T H) := by
  refine wp_enter e288 (Nat.le_of_ble_eq_true rfl) rfl ?_
  have f0 : wfr [(42, 0), (42, 1), (42, 2), (42, 28), (42, 29), (42, 32), (51, 999), (52, 999)] T H H := wfr.rf
  show wp _ _ 288 0 [(0, .ref r0)] [] _ H _
  have _b := RB_b hW hRB_r0
  have _nu := RB_n3 hRB_r0
  have _lm := RB_lm hRB_r0
  refine wp_of e288 c288_0 (rw_aload_n (pc' := 1) (v := .ref r0) rfl rfl rfl ?_)
  refine wp_of e288 c288_1 (rw_iconst (pc' := 2) rfl ?_)
  refine wp_of e288 c288_2 (xp_I (pc' := 5) lf_9_48 hW g0 sh_42 (by decide) (by decide) ty_42_0 rfl rfl (by decide) (by decide) ⟨by decide, by decide⟩ rfl (fun H1384 e1385 w1386 => ?_))
  have f1387 := f0.put' e1385 g0 rfl
  have k1388 : H1384 r0 0 = 0 := wq_u_s e1385
  refine wp_of e288 c288_5 (rw_aload_n (pc' := 6) (v := .ref r0) rfl rfl rfl ?_)
  refine wp_of e288 c288_6 (rw_aload_n (pc' := 7) (v := .ref r0) rfl rfl rfl ?_)
  have k1389 : H1384 r0 3 = H r0 3 := (wq_u_j e1385 rfl)
  refine wp_of e288 c288_7 (xg_O (pc' := 10) lf_9_337 w1386 g0 sh_42 (by decide) (by decide) ty_42_3 rfl rfl (fun q1391 => ?_) (fun r1390 q1391 g1392 => ?_))
  · refine wp_of e288 c288_10 (rw_ifnull_n (p1 := 17) (p2 := 13) (by decide) rfl ?_)
    refine wp_of e288 c288_17 (rw_iconst (pc' := 18) rfl ?_)
    have k1393 : wKI H1384 r0 = wKI H r0 := (wKI_fr hW g0 ((wfr.rf (l := [(42, 0)])).put' e1385 g0 rfl) rfl)
    have h1394 : RB T H1384 r0 e d := (RB_fr hW g0 ((wfr.rf (l := [(42, 0)])).put' e1385 g0 rfl) rfl hRB_r0)
    have h1395 : KNN T H1384 r0 e d := (KNN_fr hW g0 ((wfr.rf (l := [(42, 0)])).put' e1385 g0 rfl) rfl hKNN_r0)
    refine wp_of e288 c288_18 (xc_V (pc' := 21) (r := r0) (as := [vI 0]) (st := []) (lm_9_433) rfl rfl (Nat.le_of_ble_eq_true rfl) w1386 g0 sh_42 (by decide) rfl (by decide) (u_241 (e := e) (d := d) w1386 g0 ⟨by decide, by decide⟩ (by omega) (by omega) (by assumption) (by assumption) (by assumption) (by assumption) h1394 h1395) (fun R1396 T1397 H1398 p1399 => ?_))
    obtain ⟨e1400, w1402, f1403, z1404, e1401, b1405, p1406⟩ := p1399
    subst e1400
    subst e1401
    rcases p1406 with ⟨a1407, a1408, a1409, a1410, a1411, a1412, a1413, a1414, a1415⟩ | ⟨a1416, a1417, a1418, a1419, a1420, a1421, a1422⟩
    · have f1423 := f1387.tr f1403 rfl
      show wp _ _ 288 21 [(0, .ref r0)] [vI z1404] _ H1398 _
      have k1424 : wLM H1398 r0 = wLM H r0 := ((wLM_fr w1386 g0 f1403 rfl).trans (wLM_fr hW g0 ((wfr.rf (l := [(42, 0)])).put' e1385 g0 rfl) rfl))
      refine wp_of e288 c288_21 (rw_istore_n (pc' := 22) (z := z1404) (L' := [(1, vI z1404), (0, .ref r0)]) rfl rfl rfl ?_)
      refine wp_of e288 c288_22 (rw_iload_n (pc' := 23) (z := z1404) rfl rfl ?_)
      refine wp_of e288 c288_23 (rw_if_le (p1 := 32) (p2 := 26) (by decide) rfl ⟨Int.le_trans (by decide) b1405.1, Int.le_trans b1405.2 (by decide)⟩ (fun c1425 => ?_) (fun c1425 => ?_))
      · refine wp_of e288 c288_32 (rw_iconst (pc' := 33) rfl ?_)
        refine wp_of e288 c288_33 (rw_istore_n (pc' := 34) (z := 0) (L' := [(2, vI 0), (1, vI z1404), (0, .ref r0)]) rfl rfl rfl ?_)
        have lp1522 : ∀ (n1523 : Nat) (v1525 : Int), (0 ≤ v1525 ∧ v1525 ≤ 20000) → (20000 - v1525).toNat = n1523 → wp kt 7 288 34 [(2, vI v1525), (0, .ref r0)] [] T H1398 (uq_288 r0 e d T H) := by
          intro n1523
          induction n1523 using Nat.strongRecOn with
          | _ n1523 ih1524 =>
            intro v1525 b1528 m1529
            refine wp_of e288 c288_34 (rw_iload_n (pc' := 35) (z := v1525) rfl rfl ?_)
            refine wp_of e288 c288_35 (rw_aload_n (pc' := 36) (v := .ref r0) rfl rfl rfl ?_)
            refine wp_of e288 c288_36 (xg_I (pc' := 39) lf_9_422 w1402 g0 sh_42 (by decide) (by decide) ty_42_29 rfl rfl (fun b1530 b1531 => ?_))
            refine wp_of e288 c288_39 (rw_icmp_ge (p1 := 87) (p2 := 42) (by decide) rfl ⟨Int.le_trans (by decide) b1528.1, Int.le_trans b1528.2 (by decide)⟩ ⟨Int.le_trans (by decide) b1530, Int.le_trans b1531 (by decide)⟩ (fun c1532 => ?_) (fun c1532 => ?_))
            · refine wp_of e288 c288_87 (rw_aload_n (pc' := 88) (v := .ref r0) rfl rfl rfl ?_)
              refine wp_of e288 c288_88 (rw_bipush (pc' := 90) (z := 6) rfl (by decide) ?_)
              refine wp_of e288 c288_90 (xc_V (pc' := 93) (r := r0) (as := [vI 6]) (st := []) (lm_9_54) rfl rfl (Nat.le_of_ble_eq_true rfl) w1402 g0 sh_42 (by decide) rfl (by decide) (s_170 w1402 g0 ⟨by decide, by decide⟩) (fun R1533 T1534 H1535 p1536 => ?_))
              obtain ⟨e1537, w1539, f1540, z1541, e1538, b1542⟩ := p1536
              subst e1537
              subst e1538
              have f1543 := f1423.tr f1540 rfl
              show wp _ _ 288 93 [(2, vI v1525), (0, .ref r0)] [vI z1541] _ H1535 _
              have k1544 : wKI H1535 r0 = wKI H1398 r0 := (wKI_fr w1402 g0 f1540 rfl)
              have h1545 : KNN T H1535 r0 e d := (KNN_fr w1402 g0 f1540 rfl a1414)
              exact wp_ireturn e288 c288_93 rfl ⟨rfl, w1539, f1543, z1541, rfl, ⟨b1542.1, b1542.2⟩, ⟨by omega, h1545⟩⟩
            · refine wp_of e288 c288_42 (rw_aload_n (pc' := 43) (v := .ref r0) rfl rfl rfl ?_)
              refine wp_of e288 c288_43 (xg_R (pc' := 46) lf_9_42 w1402 g0 sh_42 (by decide) (by decide) ty_42_30 rfl rfl (fun r1546 q1547 g1548 => ?_))
              refine wp_of e288 c288_46 (rw_iload_n (pc' := 47) (z := v1525) rfl rfl ?_)
              refine wp_of e288 c288_47 (xa_I (so := 0) (pc' := 48) w1402 g1548 sh_52 (by decide) (ty_52 _) (b1528.1) (by omega) rfl (fun b1549 b1550 => ?_))
              refine wp_of e288 c288_48 (rw_aload_n (pc' := 49) (v := .ref r0) rfl rfl rfl ?_)
              refine wp_of e288 c288_49 (xg_I (pc' := 52) lf_9_340 w1402 g0 sh_42 (by decide) (by decide) ty_42_32 rfl rfl (fun b1551 b1552 => ?_))
              refine wp_of e288 c288_52 (rw_icmp_ge (p1 := 58) (p2 := 55) (by decide) rfl ⟨Int.le_trans (by decide) b1549, Int.le_trans b1550 (by decide)⟩ ⟨Int.le_trans (by decide) b1551, b1552⟩ (fun c1553 => ?_) (fun c1553 => ?_))
              · refine wp_of e288 c288_58 (rw_aload_n (pc' := 59) (v := .ref r0) rfl rfl rfl ?_)
                refine wp_of e288 c288_59 (rw_aload_n (pc' := 60) (v := .ref r0) rfl rfl rfl ?_)
                refine wp_of e288 c288_60 (xg_K (pc' := 63) lf_9_42 w1402 g0 sh_42 (by decide) (by decide) rfl q1547 rfl ?_)
                refine wp_of e288 c288_63 (rw_iload_n (pc' := 64) (z := v1525) rfl rfl ?_)
                refine wp_of e288 c288_64 (xa_I (so := 0) (pc' := 65) w1402 g1548 sh_52 (by decide) (ty_52 _) (b1528.1) (by omega) rfl (fun b1554 b1555 => ?_))
                refine wp_of e288 c288_65 (rw_iconst (pc' := 66) rfl ?_)
                refine wp_of e288 c288_66 (rw_iadd (pc' := 67) rfl ?_)
                refine wp_of e288 c288_67 (xp_I (pc' := 70) lf_9_340 w1402 g0 sh_42 (by decide) (by decide) ty_42_32 rfl rfl (by omega) (by omega) ⟨by omega, by omega⟩ rfl (fun H1556 e1557 w1558 => ?_))
                have f1559 := f1423.put' e1557 g0 rfl
                have k1560 : H1556 r0 32 = (H1398 r1546 (v1525.toNat)) + 1 := wq_u_s e1557
                refine wp_of e288 c288_70 (rw_aload_n (pc' := 71) (v := .ref r0) rfl rfl rfl ?_)
                refine wp_of e288 c288_71 (rw_aload_n (pc' := 72) (v := .ref r0) rfl rfl rfl ?_)
                have k1561 : H1556 r0 30 = H1398 r0 30 := (wq_u_j e1557 rfl)
                have q1562 : H1556 r0 30 = (r1546 : Int) := k1561.trans q1547
                refine wp_of e288 c288_72 (xg_K (pc' := 75) lf_9_42 w1558 g0 sh_42 (by decide) (by decide) rfl q1562 rfl ?_)
                refine wp_of e288 c288_75 (rw_iload_n (pc' := 76) (z := v1525) rfl rfl ?_)
                have k1563 : H1556 r1546 (v1525.toNat) = H1398 r1546 (v1525.toNat) := (wq_u_t e1557 g0 g1548 rfl (v1525.toNat))
                refine wp_of e288 c288_76 (xa_I (so := 0) (pc' := 77) w1558 g1548 sh_52 (by decide) (ty_52 _) (b1528.1) (by omega) rfl (fun b1564 b1565 => ?_))
                refine wp_of e288 c288_77 (xc_V (pc' := 80) (r := r0) (as := [vI (H1556 r1546 (v1525.toNat))]) (st := []) (lm_9_58) rfl rfl (Nat.le_of_ble_eq_true rfl) w1558 g0 sh_42 (by decide) rfl (by decide) (s_209 w1558 g0 ⟨Int.le_trans (by decide) b1564, Int.le_trans b1565 (by decide)⟩) (fun R1566 T1567 H1568 p1569 => ?_))
                obtain ⟨e1570, w1572, f1573, z1574, e1571, b1575⟩ := p1569
                subst e1570
                subst e1571
                have f1576 := f1559.tr f1573 rfl
                show wp _ _ 288 80 [(2, vI v1525), (0, .ref r0)] [vI z1574] _ H1568 _
                have k1577 : wKI H1568 r0 = wKI H1398 r0 := ((wKI_fr w1558 g0 f1573 rfl).trans (wKI_fr w1402 g0 ((wfr.rf (l := [(42, 32)])).put' e1557 g0 rfl) rfl))
                have h1578 : KNN T H1568 r0 e d := (KNN_fr w1558 g0 f1573 rfl (KNN_fr w1402 g0 ((wfr.rf (l := [(42, 32)])).put' e1557 g0 rfl) rfl a1414))
                exact wp_ireturn e288 c288_80 rfl ⟨rfl, w1572, f1576, z1574, rfl, ⟨b1575.1, b1575.2⟩, ⟨by omega, h1578⟩⟩
              · refine wp_of e288 c288_55 (rw_goto (p1 := 81) (by decide) ?_)
                refine wp_of e288 c288_81 (rw_iinc (pc' := 84) (z := v1525) (L' := [(2, vI (v1525 + 1)), (0, .ref r0)]) rfl rfl rfl rfl ?_)
                refine wp_of e288 c288_84 (rw_goto (p1 := 34) (by decide) ?_)
                exact wp_lc (ks := [2, 0]) (wl_c rfl (wl_c rfl wl_n)) rfl (by decide) (ih1524 _ (by omega) (v1525 + 1) ⟨by omega, by omega⟩ rfl)
        exact wp_lc (ks := [2, 1, 0]) (wl_c rfl (wl_c rfl wl_n)) rfl (by decide) (lp1522 _ 0 ⟨by decide, by decide⟩ rfl)
      · exfalso
        omega
    · have f1579 := f1387.tr f1403 rfl
      show wp _ _ 288 21 [(0, .ref r0)] [vI z1404] _ H1398 _
      have k1580 : wLM H1398 r0 = wLM H r0 := ((wLM_fr w1386 g0 f1403 rfl).trans (wLM_fr hW g0 ((wfr.rf (l := [(42, 0)])).put' e1385 g0 rfl) rfl))
      refine wp_of e288 c288_21 (rw_istore_n (pc' := 22) (z := z1404) (L' := [(1, vI z1404), (0, .ref r0)]) rfl rfl rfl ?_)
      refine wp_of e288 c288_22 (rw_iload_n (pc' := 23) (z := z1404) rfl rfl ?_)
      refine wp_of e288 c288_23 (rw_if_le (p1 := 32) (p2 := 26) (by decide) rfl ⟨Int.le_trans (by decide) b1405.1, Int.le_trans b1405.2 (by decide)⟩ (fun c1581 => ?_) (fun c1581 => ?_))
      · exfalso
        omega
      · refine wp_of e288 c288_26 (rw_aload_n (pc' := 27) (v := .ref r0) rfl rfl rfl ?_)
        refine wp_of e288 c288_27 (rw_iload_n (pc' := 28) (z := z1404) rfl rfl ?_)
        refine wp_of e288 c288_28 (xc_V (pc' := 31) (r := r0) (as := [vI z1404]) (st := []) (lm_9_54) rfl rfl (Nat.le_of_ble_eq_true rfl) w1402 g0 sh_42 (by decide) rfl (by decide) (s_170 w1402 g0 ⟨Int.le_trans (by decide) b1405.1, Int.le_trans b1405.2 (by decide)⟩) (fun R1582 T1583 H1584 p1585 => ?_))
        obtain ⟨e1586, w1588, f1589, z1590, e1587, b1591⟩ := p1585
        subst e1586
        subst e1587
        have f1592 := f1579.tr f1589 rfl
        show wp _ _ 288 31 [(1, vI z1404), (0, .ref r0)] [vI z1590] _ H1584 _
        have k1593 : wKI H1584 r0 = wKI H1398 r0 := (wKI_fr w1402 g0 f1589 rfl)
        have h1594 : KNN T H1584 r0 e d := (KNN_fr w1402 g0 f1589 rfl a1422)
        exact wp_ireturn e288 c288_31 rfl ⟨rfl, w1588, f1592, z1590, rfl, ⟨b1591.1, b1591.2⟩, ⟨by omega, h1594⟩⟩
  · refine wp_of e288 c288_10 (rw_ifnull_r (p1 := 17) (p2 := 13) (by decide) rfl ?_)
    refine wp_of e288 c288_13 (rw_iconst (pc' := 14) rfl ?_)
    refine wp_of e288 c288_14 (rw_goto (p1 := 18) (by decide) ?_)
    have k1595 : wKI H1384 r0 = wKI H r0 := (wKI_fr hW g0 ((wfr.rf (l := [(42, 0)])).put' e1385 g0 rfl) rfl)
    have h1596 : RB T H1384 r0 e d := (RB_fr hW g0 ((wfr.rf (l := [(42, 0)])).put' e1385 g0 rfl) rfl hRB_r0)
    have h1597 : KNN T H1384 r0 e d := (KNN_fr hW g0 ((wfr.rf (l := [(42, 0)])).put' e1385 g0 rfl) rfl hKNN_r0)
    refine wp_of e288 c288_18 (xc_V (pc' := 21) (r := r0) (as := [vI 1]) (st := []) (lm_9_433) rfl rfl (Nat.le_of_ble_eq_true rfl) w1386 g0 sh_42 (by decide) rfl (by decide) (u_241 (e := e) (d := d) w1386 g0 ⟨by decide, by decide⟩ (by omega) (by omega) (by assumption) (by assumption) (by assumption) (by assumption) h1596 h1597) (fun R1598 T1599 H1600 p1601 => ?_))
    obtain ⟨e1602, w1604, f1605, z1606, e1603, b1607, p1608⟩ := p1601
    subst e1602
    subst e1603
    rcases p1608 with ⟨a1609, a1610, a1611, a1612, a1613, a1614, a1615, a1616, a1617⟩ | ⟨a1618, a1619, a1620, a1621, a1622, a1623, a1624⟩
    · have f1625 := f1387.tr f1605 rfl
      show wp _ _ 288 21 [(0, .ref r0)] [vI z1606] _ H1600 _
      have k1626 : wLM H1600 r0 = wLM H r0 := ((wLM_fr w1386 g0 f1605 rfl).trans (wLM_fr hW g0 ((wfr.rf (l := [(42, 0)])).put' e1385 g0 rfl) rfl))
      refine wp_of e288 c288_21 (rw_istore_n (pc' := 22) (z := z1606) (L' := [(1, vI z1606), (0, .ref r0)]) rfl rfl rfl ?_)
      refine wp_of e288 c288_22 (rw_iload_n (pc' := 23) (z := z1606) rfl rfl ?_)
      refine wp_of e288 c288_23 (rw_if_le (p1 := 32) (p2 := 26) (by decide) rfl ⟨Int.le_trans (by decide) b1607.1, Int.le_trans b1607.2 (by decide)⟩ (fun c1627 => ?_) (fun c1627 => ?_))
      · refine wp_of e288 c288_32 (rw_iconst (pc' := 33) rfl ?_)
        refine wp_of e288 c288_33 (rw_istore_n (pc' := 34) (z := 0) (L' := [(2, vI 0), (1, vI z1606), (0, .ref r0)]) rfl rfl rfl ?_)
        have lp1724 : ∀ (n1725 : Nat) (v1727 : Int), (0 ≤ v1727 ∧ v1727 ≤ 20000) → (20000 - v1727).toNat = n1725 → wp kt 7 288 34 [(2, vI v1727), (0, .ref r0)] [] T H1600 (uq_288 r0 e d T H) := by
          intro n1725
          induction n1725 using Nat.strongRecOn with
          | _ n1725 ih1726 =>
            intro v1727 b1730 m1731
            refine wp_of e288 c288_34 (rw_iload_n (pc' := 35) (z := v1727) rfl rfl ?_)
            refine wp_of e288 c288_35 (rw_aload_n (pc' := 36) (v := .ref r0) rfl rfl rfl ?_)
            refine wp_of e288 c288_36 (xg_I (pc' := 39) lf_9_422 w1604 g0 sh_42 (by decide) (by decide) ty_42_29 rfl rfl (fun b1732 b1733 => ?_))
            refine wp_of e288 c288_39 (rw_icmp_ge (p1 := 87) (p2 := 42) (by decide) rfl ⟨Int.le_trans (by decide) b1730.1, Int.le_trans b1730.2 (by decide)⟩ ⟨Int.le_trans (by decide) b1732, Int.le_trans b1733 (by decide)⟩ (fun c1734 => ?_) (fun c1734 => ?_))
            · refine wp_of e288 c288_87 (rw_aload_n (pc' := 88) (v := .ref r0) rfl rfl rfl ?_)
              refine wp_of e288 c288_88 (rw_bipush (pc' := 90) (z := 6) rfl (by decide) ?_)
              refine wp_of e288 c288_90 (xc_V (pc' := 93) (r := r0) (as := [vI 6]) (st := []) (lm_9_54) rfl rfl (Nat.le_of_ble_eq_true rfl) w1604 g0 sh_42 (by decide) rfl (by decide) (s_170 w1604 g0 ⟨by decide, by decide⟩) (fun R1735 T1736 H1737 p1738 => ?_))
              obtain ⟨e1739, w1741, f1742, z1743, e1740, b1744⟩ := p1738
              subst e1739
              subst e1740
              have f1745 := f1625.tr f1742 rfl
              show wp _ _ 288 93 [(2, vI v1727), (0, .ref r0)] [vI z1743] _ H1737 _
              have k1746 : wKI H1737 r0 = wKI H1600 r0 := (wKI_fr w1604 g0 f1742 rfl)
              have h1747 : KNN T H1737 r0 e d := (KNN_fr w1604 g0 f1742 rfl a1616)
              exact wp_ireturn e288 c288_93 rfl ⟨rfl, w1741, f1745, z1743, rfl, ⟨b1744.1, b1744.2⟩, ⟨by omega, h1747⟩⟩
            · refine wp_of e288 c288_42 (rw_aload_n (pc' := 43) (v := .ref r0) rfl rfl rfl ?_)
              refine wp_of e288 c288_43 (xg_R (pc' := 46) lf_9_42 w1604 g0 sh_42 (by decide) (by decide) ty_42_30 rfl rfl (fun r1748 q1749 g1750 => ?_))
              refine wp_of e288 c288_46 (rw_iload_n (pc' := 47) (z := v1727) rfl rfl ?_)
              refine wp_of e288 c288_47 (xa_I (so := 0) (pc' := 48) w1604 g1750 sh_52 (by decide) (ty_52 _) (b1730.1) (by omega) rfl (fun b1751 b1752 => ?_))
              refine wp_of e288 c288_48 (rw_aload_n (pc' := 49) (v := .ref r0) rfl rfl rfl ?_)
              refine wp_of e288 c288_49 (xg_I (pc' := 52) lf_9_340 w1604 g0 sh_42 (by decide) (by decide) ty_42_32 rfl rfl (fun b1753 b1754 => ?_))
              refine wp_of e288 c288_52 (rw_icmp_ge (p1 := 58) (p2 := 55) (by decide) rfl ⟨Int.le_trans (by decide) b1751, Int.le_trans b1752 (by decide)⟩ ⟨Int.le_trans (by decide) b1753, b1754⟩ (fun c1755 => ?_) (fun c1755 => ?_))
              · refine wp_of e288 c288_58 (rw_aload_n (pc' := 59) (v := .ref r0) rfl rfl rfl ?_)
                refine wp_of e288 c288_59 (rw_aload_n (pc' := 60) (v := .ref r0) rfl rfl rfl ?_)
                refine wp_of e288 c288_60 (xg_K (pc' := 63) lf_9_42 w1604 g0 sh_42 (by decide) (by decide) rfl q1749 rfl ?_)
                refine wp_of e288 c288_63 (rw_iload_n (pc' := 64) (z := v1727) rfl rfl ?_)
                refine wp_of e288 c288_64 (xa_I (so := 0) (pc' := 65) w1604 g1750 sh_52 (by decide) (ty_52 _) (b1730.1) (by omega) rfl (fun b1756 b1757 => ?_))
                refine wp_of e288 c288_65 (rw_iconst (pc' := 66) rfl ?_)
                refine wp_of e288 c288_66 (rw_iadd (pc' := 67) rfl ?_)
                refine wp_of e288 c288_67 (xp_I (pc' := 70) lf_9_340 w1604 g0 sh_42 (by decide) (by decide) ty_42_32 rfl rfl (by omega) (by omega) ⟨by omega, by omega⟩ rfl (fun H1758 e1759 w1760 => ?_))
                have f1761 := f1625.put' e1759 g0 rfl
                have k1762 : H1758 r0 32 = (H1600 r1748 (v1727.toNat)) + 1 := wq_u_s e1759
                refine wp_of e288 c288_70 (rw_aload_n (pc' := 71) (v := .ref r0) rfl rfl rfl ?_)
                refine wp_of e288 c288_71 (rw_aload_n (pc' := 72) (v := .ref r0) rfl rfl rfl ?_)
                have k1763 : H1758 r0 30 = H1600 r0 30 := (wq_u_j e1759 rfl)
                have q1764 : H1758 r0 30 = (r1748 : Int) := k1763.trans q1749
                refine wp_of e288 c288_72 (xg_K (pc' := 75) lf_9_42 w1760 g0 sh_42 (by decide) (by decide) rfl q1764 rfl ?_)
                refine wp_of e288 c288_75 (rw_iload_n (pc' := 76) (z := v1727) rfl rfl ?_)
                have k1765 : H1758 r1748 (v1727.toNat) = H1600 r1748 (v1727.toNat) := (wq_u_t e1759 g0 g1750 rfl (v1727.toNat))
                refine wp_of e288 c288_76 (xa_I (so := 0) (pc' := 77) w1760 g1750 sh_52 (by decide) (ty_52 _) (b1730.1) (by omega) rfl (fun b1766 b1767 => ?_))
                refine wp_of e288 c288_77 (xc_V (pc' := 80) (r := r0) (as := [vI (H1758 r1748 (v1727.toNat))]) (st := []) (lm_9_58) rfl rfl (Nat.le_of_ble_eq_true rfl) w1760 g0 sh_42 (by decide) rfl (by decide) (s_209 w1760 g0 ⟨Int.le_trans (by decide) b1766, Int.le_trans b1767 (by decide)⟩) (fun R1768 T1769 H1770 p1771 => ?_))
                obtain ⟨e1772, w1774, f1775, z1776, e1773, b1777⟩ := p1771
                subst e1772
                subst e1773
                have f1778 := f1761.tr f1775 rfl
                show wp _ _ 288 80 [(2, vI v1727), (0, .ref r0)] [vI z1776] _ H1770 _
                have k1779 : wKI H1770 r0 = wKI H1600 r0 := ((wKI_fr w1760 g0 f1775 rfl).trans (wKI_fr w1604 g0 ((wfr.rf (l := [(42, 32)])).put' e1759 g0 rfl) rfl))
                have h1780 : KNN T H1770 r0 e d := (KNN_fr w1760 g0 f1775 rfl (KNN_fr w1604 g0 ((wfr.rf (l := [(42, 32)])).put' e1759 g0 rfl) rfl a1616))
                exact wp_ireturn e288 c288_80 rfl ⟨rfl, w1774, f1778, z1776, rfl, ⟨b1777.1, b1777.2⟩, ⟨by omega, h1780⟩⟩
              · refine wp_of e288 c288_55 (rw_goto (p1 := 81) (by decide) ?_)
                refine wp_of e288 c288_81 (rw_iinc (pc' := 84) (z := v1727) (L' := [(2, vI (v1727 + 1)), (0, .ref r0)]) rfl rfl rfl rfl ?_)
                refine wp_of e288 c288_84 (rw_goto (p1 := 34) (by decide) ?_)
                exact wp_lc (ks := [2, 0]) (wl_c rfl (wl_c rfl wl_n)) rfl (by decide) (ih1726 _ (by omega) (v1727 + 1) ⟨by omega, by omega⟩ rfl)
        exact wp_lc (ks := [2, 1, 0]) (wl_c rfl (wl_c rfl wl_n)) rfl (by decide) (lp1724 _ 0 ⟨by decide, by decide⟩ rfl)
      · exfalso
        omega
    · have f1781 := f1387.tr f1605 rfl
      show wp _ _ 288 21 [(0, .ref r0)] [vI z1606] _ H1600 _
      have k1782 : wLM H1600 r0 = wLM H r0 := ((wLM_fr w1386 g0 f1605 rfl).trans (wLM_fr hW g0 ((wfr.rf (l := [(42, 0)])).put' e1385 g0 rfl) rfl))
      refine wp_of e288 c288_21 (rw_istore_n (pc' := 22) (z := z1606) (L' := [(1, vI z1606), (0, .ref r0)]) rfl rfl rfl ?_)
      refine wp_of e288 c288_22 (rw_iload_n (pc' := 23) (z := z1606) rfl rfl ?_)
      refine wp_of e288 c288_23 (rw_if_le (p1 := 32) (p2 := 26) (by decide) rfl ⟨Int.le_trans (by decide) b1607.1, Int.le_trans b1607.2 (by decide)⟩ (fun c1783 => ?_) (fun c1783 => ?_))
      · exfalso
        omega
      · refine wp_of e288 c288_26 (rw_aload_n (pc' := 27) (v := .ref r0) rfl rfl rfl ?_)
        refine wp_of e288 c288_27 (rw_iload_n (pc' := 28) (z := z1606) rfl rfl ?_)
        refine wp_of e288 c288_28 (xc_V (pc' := 31) (r := r0) (as := [vI z1606]) (st := []) (lm_9_54) rfl rfl (Nat.le_of_ble_eq_true rfl) w1604 g0 sh_42 (by decide) rfl (by decide) (s_170 w1604 g0 ⟨Int.le_trans (by decide) b1607.1, Int.le_trans b1607.2 (by decide)⟩) (fun R1784 T1785 H1786 p1787 => ?_))
        obtain ⟨e1788, w1790, f1791, z1792, e1789, b1793⟩ := p1787
        subst e1788
        subst e1789
        have f1794 := f1781.tr f1791 rfl
        show wp _ _ 288 31 [(1, vI z1606), (0, .ref r0)] [vI z1792] _ H1786 _
        have k1795 : wKI H1786 r0 = wKI H1600 r0 := (wKI_fr w1604 g0 f1791 rfl)
        have h1796 : KNN T H1786 r0 e d := (KNN_fr w1604 g0 f1791 rfl a1624)
        exact wp_ireturn e288 c288_31 rfl ⟨rfl, w1790, f1794, z1792, rfl, ⟨b1793.1, b1793.2⟩, ⟨by omega, h1796⟩⟩
