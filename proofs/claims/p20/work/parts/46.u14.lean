/-! what methods do (own work, written by wip/gen3/sx3.py) -/
/-! StrikeAwakeModel.nothing()I  -/
abbrev uq_282 (r0 : Nat) (e : xD) (d : xD) (T : wq_T) (H : wq_H) : Option Value → wq_T → wq_H → Prop := fun r T' H' => T = T' ∧ WT T H' ∧ wfr [(42, 0), (42, 1), (42, 2), (42, 28), (42, 29), (51, 999), (52, 999)] T H H' ∧ ∃ z : Int, some (vI z) = r ∧ ((-2147483648) ≤ z ∧ z ≤ 2147483647) ∧ (((wKI H' r0 = 1) ∧ KNN T H' r0 e d))
set_option maxHeartbeats 4000000 in
theorem u_282 {kt : Nat → Option mc_E} {T : wq_T} {H : wq_H} {r0 : Nat} {e : xD} {d : xD} (hW : WT T H) (g0 : T.2.2.2 r0 = some 42) (p0 : wKI H r0 = 1) (p1 : XW d) (p2 : ∀ h : Nat, d 0 0 ≤ (h : Int) → h < 24 → e 13 h = 0) (p3 : XN d) (p4 : ∀ h : Nat, h < 24 → 0 ≤ e 13 h ∧ e 13 h ≤ 100) (hRB_r0 : RB T H r0 e d) (hKNN_r0 : KNN T H r0 e d) : wpc kt 8 282 [.ref r0] T H (uq_282 r0 e d T H) := by
  refine wp_enter e282 (Nat.le_of_ble_eq_true rfl) rfl ?_
  have f0 : wfr [(42, 0), (42, 1), (42, 2), (42, 28), (42, 29), (51, 999), (52, 999)] T H H := wfr.rf
  show wp _ _ 282 0 [(0, .ref r0)] [] _ H _
  have _b := RB_b hW hRB_r0
  have _nu := RB_n3 hRB_r0
  have _lm := RB_lm hRB_r0
  refine wp_of e282 c282_0 (rw_aload_n (pc' := 1) (v := .ref r0) rfl rfl rfl ?_)
  refine wp_of e282 c282_1 (rw_iconst (pc' := 2) rfl ?_)
  refine wp_of e282 c282_2 (xp_I (pc' := 5) lf_9_48 hW g0 sh_42 (by decide) (by decide) ty_42_0 rfl rfl (by decide) (by decide) ⟨by decide, by decide⟩ rfl (fun H5521 e5522 w5523 => ?_))
  have f5524 := f0.put' e5522 g0 rfl
  have k5525 : H5521 r0 0 = 0 := wq_u_s e5522
  refine wp_of e282 c282_5 (rw_aload_n (pc' := 6) (v := .ref r0) rfl rfl rfl ?_)
  refine wp_of e282 c282_6 (rw_aload_n (pc' := 7) (v := .ref r0) rfl rfl rfl ?_)
  have k5526 : H5521 r0 3 = H r0 3 := (wq_u_j e5522 rfl)
  refine wp_of e282 c282_7 (xg_O (pc' := 10) lf_9_337 w5523 g0 sh_42 (by decide) (by decide) ty_42_3 rfl rfl (fun q5528 => ?_) (fun r5527 q5528 g5529 => ?_))
  · refine wp_of e282 c282_10 (rw_ifnull_n (p1 := 17) (p2 := 13) (by decide) rfl ?_)
    refine wp_of e282 c282_17 (rw_iconst (pc' := 18) rfl ?_)
    have k5530 : wKI H5521 r0 = wKI H r0 := (wKI_fr hW g0 ((wfr.rf (l := [(42, 0)])).put' e5522 g0 rfl) rfl)
    have h5531 : RB T H5521 r0 e d := (RB_fr hW g0 ((wfr.rf (l := [(42, 0)])).put' e5522 g0 rfl) rfl hRB_r0)
    have h5532 : KNN T H5521 r0 e d := (KNN_fr hW g0 ((wfr.rf (l := [(42, 0)])).put' e5522 g0 rfl) rfl hKNN_r0)
    refine wp_of e282 c282_18 (xc_V (pc' := 21) (r := r0) (as := [vI 0]) (st := []) (lm_9_433) rfl rfl (Nat.le_of_ble_eq_true rfl) w5523 g0 sh_42 (by decide) rfl (by decide) (u_241 (e := e) (d := d) w5523 g0 ⟨by decide, by decide⟩ (by omega) (by omega) (by assumption) (by assumption) (by assumption) (by assumption) h5531 h5532) (fun R5533 T5534 H5535 p5536 => ?_))
    obtain ⟨e5537, w5539, f5540, z5541, e5538, b5542, p5543⟩ := p5536
    subst e5537
    subst e5538
    rcases p5543 with ⟨a5544, a5545, a5546, a5547, a5548, a5549, a5550, a5551, a5552⟩ | ⟨a5553, a5554, a5555, a5556, a5557, a5558, a5559⟩
    · have f5560 := f5524.tr f5540 rfl
      show wp _ _ 282 21 [(0, .ref r0)] [vI z5541] _ H5535 _
      refine wp_of e282 c282_21 (rw_istore_n (pc' := 22) (z := z5541) (L' := [(1, vI z5541), (0, .ref r0)]) rfl rfl rfl ?_)
      refine wp_of e282 c282_22 (rw_iload_n (pc' := 23) (z := z5541) rfl rfl ?_)
      refine wp_of e282 c282_23 (rw_if_le (p1 := 32) (p2 := 26) (by decide) rfl ⟨Int.le_trans (by decide) b5542.1, Int.le_trans b5542.2 (by decide)⟩ (fun c5561 => ?_) (fun c5561 => ?_))
      · refine wp_of e282 c282_32 (rw_iconst (pc' := 33) rfl ?_)
        refine wp_of e282 c282_33 (rw_istore_n (pc' := 34) (z := 0) (L' := [(2, vI 0), (1, vI z5541), (0, .ref r0)]) rfl rfl rfl ?_)
        refine wp_of e282 c282_34 (rw_iconst (pc' := 35) rfl ?_)
        refine wp_of e282 c282_35 (rw_istore_n (pc' := 36) (z := 0) (L' := [(3, vI 0), (2, vI 0), (1, vI z5541), (0, .ref r0)]) rfl rfl rfl ?_)
        have lp7530 : ∀ (n7531 : Nat) (v7533 : Int) (v7534 : Int) (H7535 : wq_H), WT T H7535 → wfr [(51, 999)] T H5535 H7535 → (0 ≤ v7533 ∧ v7533 ≤ 20000) → (0 ≤ v7534 ∧ v7534 ≤ 16777215) → (20000 - v7533).toNat = n7531 → wp kt 7 282 36 [(3, vI v7533), (2, vI v7534), (0, .ref r0)] [] T H7535 (uq_282 r0 e d T H) := by
          intro n7531
          induction n7531 using Nat.strongRecOn with
          | _ n7531 ih7532 =>
            intro v7533 v7534 H7535 w7536 f7537 b7538 b7539 m7540
            have f7541 := f5560.tr f7537 rfl
            refine wp_of e282 c282_36 (rw_iload_n (pc' := 37) (z := v7533) rfl rfl ?_)
            refine wp_of e282 c282_37 (rw_i2l (pc' := 38) rfl ⟨Int.le_trans (by decide) b7538.1, Int.le_trans b7538.2 (by decide)⟩ ?_)
            have k7542 : wLM H7535 r0 = wLM H r0 := ((wLM_fr w5539 g0 f7537 rfl).trans ((wLM_fr w5523 g0 f5540 rfl).trans (wLM_fr hW g0 ((wfr.rf (l := [(42, 0)])).put' e5522 g0 rfl) rfl)))
            refine wp_of e282 c282_38 (rw_aload_n (pc' := 39) (v := .ref r0) rfl rfl rfl ?_)
            have k7543 : H7535 r0 3 = H5521 r0 3 := ((f7537 r0 3 _ g0 rfl).trans (f5540 r0 3 _ g0 rfl))
            have q7544 : H7535 r0 3 = -1 := k7543.trans q5528
            obtain ⟨r7545, q7546, g7547⟩ := (w7536.opt g0 (t' := 54) (n := 33) (j := 3) (p := 0) (q := 0) rfl (by decide) rfl).resolve_left (by omega)
            refine wp_of e282 c282_39 (xc_V (pc' := 42) (r := r0) (as := []) (st := [vL v7533]) (lm_9_376) rfl rfl (Nat.le_of_ble_eq_true rfl) w7536 g0 sh_42 (by decide) rfl (by decide) (s_220 w7536 g0 q7546 g7547) (fun R7548 T7549 H7550 p7551 => ?_))
            obtain ⟨e7552, e7554, z7556, e7553, b7557, p7555⟩ := p7551
            subst e7552
            subst e7553
            subst e7554
            show wp _ _ 282 42 [(3, vI v7533), (2, vI v7534), (0, .ref r0)] [vL z7556, vL v7533] _ H7535 _
            refine wp_of e282 c282_42 (rw_lcmp (pc' := 43) rfl ⟨Int.le_trans (by decide) b7538.1, Int.le_trans b7538.2 (by decide)⟩ ⟨Int.le_trans (by decide) b7557.1, Int.le_trans b7557.2 (by decide)⟩ ?_)
            have b7558 := wq_cmp_b v7533 z7556
            refine wp_of e282 c282_43 (rw_if_ge (p1 := 116) (p2 := 46) (by decide) rfl ⟨by omega, by omega⟩ (fun c7559 => ?_) (fun c7559 => ?_))
            · refine wp_of e282 c282_116 (rw_aload_n (pc' := 117) (v := .ref r0) rfl rfl rfl ?_)
              refine wp_of e282 c282_117 (rw_iload_n (pc' := 118) (z := v7534) rfl rfl ?_)
              refine wp_of e282 c282_118 (xc_V (pc' := 121) (r := r0) (as := [vI v7534]) (st := []) (lm_9_58) rfl rfl (Nat.le_of_ble_eq_true rfl) w7536 g0 sh_42 (by decide) rfl (by decide) (s_209 w7536 g0 ⟨Int.le_trans (by decide) b7539.1, Int.le_trans b7539.2 (by decide)⟩) (fun R7560 T7561 H7562 p7563 => ?_))
              obtain ⟨e7564, w7566, f7567, z7568, e7565, b7569⟩ := p7563
              subst e7564
              subst e7565
              have f7570 := f7541.tr f7567 rfl
              show wp _ _ 282 121 [(3, vI v7533), (2, vI v7534), (0, .ref r0)] [vI z7568] _ H7562 _
              have k7571 : wKI H7562 r0 = wKI H5535 r0 := ((wKI_fr w7536 g0 f7567 rfl).trans (wKI_fr w5539 g0 f7537 rfl))
              have h7572 : KNN T H7562 r0 e d := (KNN_fr w7536 g0 f7567 rfl (KNN_fr w5539 g0 f7537 rfl a5551))
              exact wp_ireturn e282 c282_121 rfl ⟨rfl, w7566, f7570, z7568, rfl, ⟨b7569.1, b7569.2⟩, ⟨by omega, h7572⟩⟩
            · refine wp_of e282 c282_46 (rw_aload_n (pc' := 47) (v := .ref r0) rfl rfl rfl ?_)
              refine wp_of e282 c282_47 (rw_iload_n (pc' := 48) (z := v7533) rfl rfl ?_)
              refine wp_of e282 c282_48 (xc_V (pc' := 51) (r := r0) (as := [vI v7533]) (st := []) (lm_9_425) rfl rfl (Nat.le_of_ble_eq_true rfl) w7536 g0 sh_42 (by decide) rfl (by decide) (s_243 w7536 g0 ⟨b7538.1, Int.le_trans b7538.2 (by decide)⟩ q7546 g7547 (by omega)) (fun R7573 T7574 H7575 p7576 => ?_))
              obtain ⟨e7577, w7579, f7580, e7578⟩ := p7576
              subst e7577
              subst e7578
              have f7581 := f7541.tr f7580 rfl
              have f7582 := f7537.tr f7580 rfl
              show wp _ _ 282 51 [(3, vI v7533), (2, vI v7534), (0, .ref r0)] [] _ H7575 _
              refine wp_of e282 c282_51 (rw_aload_n (pc' := 52) (v := .ref r0) rfl rfl rfl ?_)
              refine wp_of e282 c282_52 (rw_aload_n (pc' := 53) (v := .ref r0) rfl rfl rfl ?_)
              refine wp_of e282 c282_53 (xg_R (pc' := 56) lf_9_39 w7579 g0 sh_42 (by decide) (by decide) ty_42_27 rfl rfl (fun r7583 q7584 g7585 => ?_))
              have k7586 : H7575 r0 3 = H7535 r0 3 := (f7580 r0 3 _ g0 rfl)
              have q7587 : H7575 r0 3 = (r7545 : Int) := k7586.trans q7546
              refine wp_of e282 c282_56 (xc_V (pc' := 59) (r := r0) (as := [.ref r7583]) (st := []) (lm_9_393) rfl rfl (Nat.le_of_ble_eq_true rfl) w7579 g0 sh_42 (by decide) rfl (by decide) (s_235_m_lot w7579 g0 g7585 q7587 g7547) (fun R7588 T7589 H7590 p7591 => ?_))
              obtain ⟨e7592, e7594, z7595, e7593, b7596⟩ := p7591
              subst e7592
              subst e7593
              subst e7594
              show wp _ _ 282 59 [(3, vI v7533), (2, vI v7534), (0, .ref r0)] [vI z7595] _ H7575 _
              refine wp_of e282 c282_59 (rw_if_eq (p1 := 65) (p2 := 62) (by decide) rfl ⟨b7596.1, b7596.2⟩ (fun c7597 => ?_) (fun c7597 => ?_))
              · refine wp_of e282 c282_65 (rw_iconst (pc' := 66) rfl ?_)
                refine wp_of e282 c282_66 (rw_istore (pc' := 68) (z := 0) (L' := [(4, vI 0), (3, vI v7533), (2, vI v7534), (0, .ref r0)]) rfl rfl rfl ?_)
                have lp7782 : ∀ (n7783 : Nat) (v7785 : Int) (v7786 : Int), (0 ≤ v7785 ∧ v7785 ≤ 24) → (0 ≤ v7786 ∧ v7786 ≤ 16777215) → (24 - v7785).toNat = n7783 → wp kt 7 282 68 [(4, vI v7785), (2, vI v7786), (3, vI v7533), (0, .ref r0)] [] T H7575 (uq_282 r0 e d T H) := by
                  intro n7783
                  induction n7783 using Nat.strongRecOn with
                  | _ n7783 ih7784 =>
                    intro v7785 v7786 b7789 b7790 m7791
                    refine wp_of e282 c282_68 (rw_iload (pc' := 70) (z := v7785) rfl rfl ?_)
                    refine wp_of e282 c282_70 (rw_aload_n (pc' := 71) (v := .ref r0) rfl rfl rfl ?_)
                    refine wp_of e282 c282_71 (xg_K (pc' := 74) lf_9_337 w7579 g0 sh_42 (by decide) (by decide) rfl q7587 rfl ?_)
                    refine wp_of e282 c282_74 (xg_I (pc' := 77) lf_9_185 w7579 g7547 sh_54 (by decide) (by decide) ty_54_0 rfl rfl (fun b7792 b7793 => ?_))
                    refine wp_of e282 c282_77 (rw_icmp_ge (p1 := 110) (p2 := 80) (by decide) rfl ⟨Int.le_trans (by decide) b7789.1, Int.le_trans b7789.2 (by decide)⟩ ⟨Int.le_trans (by decide) b7792, Int.le_trans b7793 (by decide)⟩ (fun c7794 => ?_) (fun c7794 => ?_))
                    · refine wp_of e282 c282_110 (rw_iinc (pc' := 113) (z := v7533) (L' := [(3, vI (v7533 + 1)), (4, vI v7785), (2, vI v7786), (0, .ref r0)]) rfl rfl rfl rfl ?_)
                      refine wp_of e282 c282_113 (rw_goto (p1 := 36) (by decide) ?_)
                      exact wp_lc (ks := [3, 4, 2, 0]) (wl_c rfl (wl_c rfl (wl_c rfl wl_n))) rfl (by decide) (ih7532 _ (by omega) (v7533 + 1) v7786 H7575 w7579 f7582 ⟨by omega, by omega⟩ ⟨b7790.1, b7790.2⟩ rfl)
                    · refine wp_of e282 c282_80 (rw_iload_n (pc' := 81) (z := v7786) rfl rfl ?_)
                      refine wp_of e282 c282_81 (rw_aload_n (pc' := 82) (v := .ref r0) rfl rfl rfl ?_)
                      refine wp_of e282 c282_82 (rw_aload_n (pc' := 83) (v := .ref r0) rfl rfl rfl ?_)
                      refine wp_of e282 c282_83 (xg_K (pc' := 86) lf_9_39 w7579 g0 sh_42 (by decide) (by decide) rfl q7584 rfl ?_)
                      refine wp_of e282 c282_86 (rw_iload (pc' := 88) (z := v7785) rfl rfl ?_)
                      refine wp_of e282 c282_88 (xc_V (pc' := 91) (r := r0) (as := [.ref r7583, vI v7785]) (st := [vI v7786]) (lm_9_386) rfl rfl (Nat.le_of_ble_eq_true rfl) w7579 g0 sh_42 (by decide) rfl (by decide) (s_228_m_lot w7579 g0 g7585 ⟨Int.le_trans (by decide) b7789.1, Int.le_trans b7789.2 (by decide)⟩ q7587 g7547) (fun R7795 T7796 H7797 p7798 => ?_))
                      obtain ⟨e7799, e7801, z7802, e7800, b7803⟩ := p7798
                      subst e7799
                      subst e7800
                      subst e7801
                      show wp _ _ 282 91 [(4, vI v7785), (2, vI v7786), (3, vI v7533), (0, .ref r0)] [vI z7802, vI v7786] _ H7575 _
                      refine wp_of e282 c282_91 (rw_if_ne (p1 := 101) (p2 := 94) (by decide) rfl ⟨b7803.1, b7803.2⟩ (fun c7804 => ?_) (fun c7804 => ?_))
                      · refine wp_of e282 c282_101 (rw_iconst (pc' := 102) rfl ?_)
                        refine wp_of e282 c282_102 (rw_ior (pc' := 103) rfl ?_)
                        obtain ⟨v7805, e7806⟩ : ∃ x : Int, x = wq_or v7786 0 := ⟨_, rfl⟩
                        rw [← e7806]
                        have b7807 : 0 ≤ v7805 ∧ v7805 ≤ 16777215 := by
                          rw [e7806]
                          exact wq_or_24 ⟨by omega, by omega⟩ ⟨by omega, by omega⟩
                        refine wp_of e282 c282_103 (rw_istore_n (pc' := 104) (z := v7805) (L' := [(2, vI v7805), (4, vI v7785), (3, vI v7533), (0, .ref r0)]) rfl rfl rfl ?_)
                        refine wp_of e282 c282_104 (rw_iinc (pc' := 107) (z := v7785) (L' := [(4, vI (v7785 + 1)), (2, vI v7805), (3, vI v7533), (0, .ref r0)]) rfl rfl rfl rfl ?_)
                        refine wp_of e282 c282_107 (rw_goto (p1 := 68) (by decide) ?_)
                        exact wp_lc (ks := [4, 2, 3, 0]) (wl_c rfl (wl_c rfl (wl_c rfl (wl_c rfl wl_n)))) rfl (by decide) (ih7784 _ (by omega) (v7785 + 1) v7805 ⟨by omega, by omega⟩ ⟨b7807.1, b7807.2⟩ rfl)
                      · refine wp_of e282 c282_94 (rw_iconst (pc' := 95) rfl ?_)
                        refine wp_of e282 c282_95 (rw_iload (pc' := 97) (z := v7785) rfl rfl ?_)
                        refine wp_of e282 c282_97 (rw_ishl (pc' := 98) rfl ?_)
                        obtain ⟨v7808, e7809⟩ : ∃ x : Int, x = wq_shl 1 v7785 := ⟨_, rfl⟩
                        rw [← e7809]
                        have b7810 : 1 ≤ v7808 ∧ v7808 ≤ 8388608 := by
                          rw [e7809]
                          exact wq_shl1_24 ⟨by omega, by omega⟩
                        refine wp_of e282 c282_98 (rw_goto (p1 := 102) (by decide) ?_)
                        refine wp_of e282 c282_102 (rw_ior (pc' := 103) rfl ?_)
                        obtain ⟨v7811, e7812⟩ : ∃ x : Int, x = wq_or v7786 v7808 := ⟨_, rfl⟩
                        rw [← e7812]
                        have b7813 : 0 ≤ v7811 ∧ v7811 ≤ 16777215 := by
                          rw [e7812]
                          exact wq_or_24 ⟨by omega, by omega⟩ ⟨by omega, by omega⟩
                        refine wp_of e282 c282_103 (rw_istore_n (pc' := 104) (z := v7811) (L' := [(2, vI v7811), (4, vI v7785), (3, vI v7533), (0, .ref r0)]) rfl rfl rfl ?_)
                        refine wp_of e282 c282_104 (rw_iinc (pc' := 107) (z := v7785) (L' := [(4, vI (v7785 + 1)), (2, vI v7811), (3, vI v7533), (0, .ref r0)]) rfl rfl rfl rfl ?_)
                        refine wp_of e282 c282_107 (rw_goto (p1 := 68) (by decide) ?_)
                        exact wp_lc (ks := [4, 2, 3, 0]) (wl_c rfl (wl_c rfl (wl_c rfl (wl_c rfl wl_n)))) rfl (by decide) (ih7784 _ (by omega) (v7785 + 1) v7811 ⟨by omega, by omega⟩ ⟨b7813.1, b7813.2⟩ rfl)
                exact wp_lc (ks := [4, 3, 2, 0]) (wl_c rfl (wl_c rfl (wl_c rfl (wl_c rfl wl_n)))) rfl (by decide) (lp7782 _ 0 v7534 ⟨by decide, by decide⟩ ⟨b7539.1, b7539.2⟩ rfl)
              · refine wp_of e282 c282_62 (rw_goto (p1 := 110) (by decide) ?_)
                refine wp_of e282 c282_110 (rw_iinc (pc' := 113) (z := v7533) (L' := [(3, vI (v7533 + 1)), (2, vI v7534), (0, .ref r0)]) rfl rfl rfl rfl ?_)
                refine wp_of e282 c282_113 (rw_goto (p1 := 36) (by decide) ?_)
                exact wp_lc (ks := [3, 2, 0]) (wl_c rfl (wl_c rfl (wl_c rfl wl_n))) rfl (by decide) (ih7532 _ (by omega) (v7533 + 1) v7534 H7575 w7579 f7582 ⟨by omega, by omega⟩ ⟨b7539.1, b7539.2⟩ rfl)
        exact wp_lc (ks := [3, 2, 1, 0]) (wl_c rfl (wl_c rfl (wl_c rfl wl_n))) rfl (by decide) (lp7530 _ 0 0 H5535 w5539 wfr.rf ⟨by decide, by decide⟩ ⟨by decide, by decide⟩ rfl)
      · exfalso
        omega
    · have f7814 := f5524.tr f5540 rfl
      show wp _ _ 282 21 [(0, .ref r0)] [vI z5541] _ H5535 _
      refine wp_of e282 c282_21 (rw_istore_n (pc' := 22) (z := z5541) (L' := [(1, vI z5541), (0, .ref r0)]) rfl rfl rfl ?_)
      refine wp_of e282 c282_22 (rw_iload_n (pc' := 23) (z := z5541) rfl rfl ?_)
      refine wp_of e282 c282_23 (rw_if_le (p1 := 32) (p2 := 26) (by decide) rfl ⟨Int.le_trans (by decide) b5542.1, Int.le_trans b5542.2 (by decide)⟩ (fun c7815 => ?_) (fun c7815 => ?_))
      · exfalso
        omega
      · refine wp_of e282 c282_26 (rw_aload_n (pc' := 27) (v := .ref r0) rfl rfl rfl ?_)
        refine wp_of e282 c282_27 (rw_iload_n (pc' := 28) (z := z5541) rfl rfl ?_)
        refine wp_of e282 c282_28 (xc_V (pc' := 31) (r := r0) (as := [vI z5541]) (st := []) (lm_9_54) rfl rfl (Nat.le_of_ble_eq_true rfl) w5539 g0 sh_42 (by decide) rfl (by decide) (s_170 w5539 g0 ⟨Int.le_trans (by decide) b5542.1, Int.le_trans b5542.2 (by decide)⟩) (fun R7816 T7817 H7818 p7819 => ?_))
        obtain ⟨e7820, w7822, f7823, z7824, e7821, b7825⟩ := p7819
        subst e7820
        subst e7821
        have f7826 := f7814.tr f7823 rfl
        show wp _ _ 282 31 [(1, vI z5541), (0, .ref r0)] [vI z7824] _ H7818 _
        have k7827 : wKI H7818 r0 = wKI H5535 r0 := (wKI_fr w5539 g0 f7823 rfl)
        have h7828 : KNN T H7818 r0 e d := (KNN_fr w5539 g0 f7823 rfl a5559)
        exact wp_ireturn e282 c282_31 rfl ⟨rfl, w7822, f7826, z7824, rfl, ⟨b7825.1, b7825.2⟩, ⟨by omega, h7828⟩⟩
  · refine wp_of e282 c282_10 (rw_ifnull_r (p1 := 17) (p2 := 13) (by decide) rfl ?_)
    refine wp_of e282 c282_13 (rw_iconst (pc' := 14) rfl ?_)
    refine wp_of e282 c282_14 (rw_goto (p1 := 18) (by decide) ?_)
    have k7829 : wKI H5521 r0 = wKI H r0 := (wKI_fr hW g0 ((wfr.rf (l := [(42, 0)])).put' e5522 g0 rfl) rfl)
    have h7830 : RB T H5521 r0 e d := (RB_fr hW g0 ((wfr.rf (l := [(42, 0)])).put' e5522 g0 rfl) rfl hRB_r0)
    have h7831 : KNN T H5521 r0 e d := (KNN_fr hW g0 ((wfr.rf (l := [(42, 0)])).put' e5522 g0 rfl) rfl hKNN_r0)
    refine wp_of e282 c282_18 (xc_V (pc' := 21) (r := r0) (as := [vI 1]) (st := []) (lm_9_433) rfl rfl (Nat.le_of_ble_eq_true rfl) w5523 g0 sh_42 (by decide) rfl (by decide) (u_241 (e := e) (d := d) w5523 g0 ⟨by decide, by decide⟩ (by omega) (by omega) (by assumption) (by assumption) (by assumption) (by assumption) h7830 h7831) (fun R7832 T7833 H7834 p7835 => ?_))
    obtain ⟨e7836, w7838, f7839, z7840, e7837, b7841, p7842⟩ := p7835
    subst e7836
    subst e7837
    rcases p7842 with ⟨a7843, a7844, a7845, a7846, a7847, a7848, a7849, a7850, a7851⟩ | ⟨a7852, a7853, a7854, a7855, a7856, a7857, a7858⟩
    · have f7859 := f5524.tr f7839 rfl
      show wp _ _ 282 21 [(0, .ref r0)] [vI z7840] _ H7834 _
      refine wp_of e282 c282_21 (rw_istore_n (pc' := 22) (z := z7840) (L' := [(1, vI z7840), (0, .ref r0)]) rfl rfl rfl ?_)
      refine wp_of e282 c282_22 (rw_iload_n (pc' := 23) (z := z7840) rfl rfl ?_)
      refine wp_of e282 c282_23 (rw_if_le (p1 := 32) (p2 := 26) (by decide) rfl ⟨Int.le_trans (by decide) b7841.1, Int.le_trans b7841.2 (by decide)⟩ (fun c7860 => ?_) (fun c7860 => ?_))
      · refine wp_of e282 c282_32 (rw_iconst (pc' := 33) rfl ?_)
        refine wp_of e282 c282_33 (rw_istore_n (pc' := 34) (z := 0) (L' := [(2, vI 0), (1, vI z7840), (0, .ref r0)]) rfl rfl rfl ?_)
        refine wp_of e282 c282_34 (rw_iconst (pc' := 35) rfl ?_)
        refine wp_of e282 c282_35 (rw_istore_n (pc' := 36) (z := 0) (L' := [(3, vI 0), (2, vI 0), (1, vI z7840), (0, .ref r0)]) rfl rfl rfl ?_)
        have lp9805 : ∀ (n9806 : Nat) (v9808 : Int) (v9809 : Int) (H9810 : wq_H), WT T H9810 → wfr [(51, 999)] T H7834 H9810 → (0 ≤ v9808 ∧ v9808 ≤ 20000) → (0 ≤ v9809 ∧ v9809 ≤ 16777215) → (20000 - v9808).toNat = n9806 → wp kt 7 282 36 [(3, vI v9808), (2, vI v9809), (0, .ref r0)] [] T H9810 (uq_282 r0 e d T H) := by
          intro n9806
          induction n9806 using Nat.strongRecOn with
          | _ n9806 ih9807 =>
            intro v9808 v9809 H9810 w9811 f9812 b9813 b9814 m9815
            have f9816 := f7859.tr f9812 rfl
            refine wp_of e282 c282_36 (rw_iload_n (pc' := 37) (z := v9808) rfl rfl ?_)
            refine wp_of e282 c282_37 (rw_i2l (pc' := 38) rfl ⟨Int.le_trans (by decide) b9813.1, Int.le_trans b9813.2 (by decide)⟩ ?_)
            have k9817 : wLM H9810 r0 = wLM H r0 := ((wLM_fr w7838 g0 f9812 rfl).trans ((wLM_fr w5523 g0 f7839 rfl).trans (wLM_fr hW g0 ((wfr.rf (l := [(42, 0)])).put' e5522 g0 rfl) rfl)))
            refine wp_of e282 c282_38 (rw_aload_n (pc' := 39) (v := .ref r0) rfl rfl rfl ?_)
            have k9818 : H9810 r0 3 = H5521 r0 3 := ((f9812 r0 3 _ g0 rfl).trans (f7839 r0 3 _ g0 rfl))
            have q9819 : H9810 r0 3 = (r5527 : Int) := k9818.trans q5528
            refine wp_of e282 c282_39 (xc_V (pc' := 42) (r := r0) (as := []) (st := [vL v9808]) (lm_9_376) rfl rfl (Nat.le_of_ble_eq_true rfl) w9811 g0 sh_42 (by decide) rfl (by decide) (s_220 w9811 g0 q9819 g5529) (fun R9820 T9821 H9822 p9823 => ?_))
            obtain ⟨e9824, e9826, z9828, e9825, b9829, p9827⟩ := p9823
            subst e9824
            subst e9825
            subst e9826
            show wp _ _ 282 42 [(3, vI v9808), (2, vI v9809), (0, .ref r0)] [vL z9828, vL v9808] _ H9810 _
            refine wp_of e282 c282_42 (rw_lcmp (pc' := 43) rfl ⟨Int.le_trans (by decide) b9813.1, Int.le_trans b9813.2 (by decide)⟩ ⟨Int.le_trans (by decide) b9829.1, Int.le_trans b9829.2 (by decide)⟩ ?_)
            have b9830 := wq_cmp_b v9808 z9828
            refine wp_of e282 c282_43 (rw_if_ge (p1 := 116) (p2 := 46) (by decide) rfl ⟨by omega, by omega⟩ (fun c9831 => ?_) (fun c9831 => ?_))
            · refine wp_of e282 c282_116 (rw_aload_n (pc' := 117) (v := .ref r0) rfl rfl rfl ?_)
              refine wp_of e282 c282_117 (rw_iload_n (pc' := 118) (z := v9809) rfl rfl ?_)
              refine wp_of e282 c282_118 (xc_V (pc' := 121) (r := r0) (as := [vI v9809]) (st := []) (lm_9_58) rfl rfl (Nat.le_of_ble_eq_true rfl) w9811 g0 sh_42 (by decide) rfl (by decide) (s_209 w9811 g0 ⟨Int.le_trans (by decide) b9814.1, Int.le_trans b9814.2 (by decide)⟩) (fun R9832 T9833 H9834 p9835 => ?_))
              obtain ⟨e9836, w9838, f9839, z9840, e9837, b9841⟩ := p9835
              subst e9836
              subst e9837
              have f9842 := f9816.tr f9839 rfl
              show wp _ _ 282 121 [(3, vI v9808), (2, vI v9809), (0, .ref r0)] [vI z9840] _ H9834 _
              have k9843 : wKI H9834 r0 = wKI H7834 r0 := ((wKI_fr w9811 g0 f9839 rfl).trans (wKI_fr w7838 g0 f9812 rfl))
              have h9844 : KNN T H9834 r0 e d := (KNN_fr w9811 g0 f9839 rfl (KNN_fr w7838 g0 f9812 rfl a7850))
              exact wp_ireturn e282 c282_121 rfl ⟨rfl, w9838, f9842, z9840, rfl, ⟨b9841.1, b9841.2⟩, ⟨by omega, h9844⟩⟩
            · refine wp_of e282 c282_46 (rw_aload_n (pc' := 47) (v := .ref r0) rfl rfl rfl ?_)
              refine wp_of e282 c282_47 (rw_iload_n (pc' := 48) (z := v9808) rfl rfl ?_)
              refine wp_of e282 c282_48 (xc_V (pc' := 51) (r := r0) (as := [vI v9808]) (st := []) (lm_9_425) rfl rfl (Nat.le_of_ble_eq_true rfl) w9811 g0 sh_42 (by decide) rfl (by decide) (s_243 w9811 g0 ⟨b9813.1, Int.le_trans b9813.2 (by decide)⟩ q9819 g5529 (by omega)) (fun R9845 T9846 H9847 p9848 => ?_))
              obtain ⟨e9849, w9851, f9852, e9850⟩ := p9848
              subst e9849
              subst e9850
              have f9853 := f9816.tr f9852 rfl
              have f9854 := f9812.tr f9852 rfl
              show wp _ _ 282 51 [(3, vI v9808), (2, vI v9809), (0, .ref r0)] [] _ H9847 _
              refine wp_of e282 c282_51 (rw_aload_n (pc' := 52) (v := .ref r0) rfl rfl rfl ?_)
              refine wp_of e282 c282_52 (rw_aload_n (pc' := 53) (v := .ref r0) rfl rfl rfl ?_)
              refine wp_of e282 c282_53 (xg_R (pc' := 56) lf_9_39 w9851 g0 sh_42 (by decide) (by decide) ty_42_27 rfl rfl (fun r9855 q9856 g9857 => ?_))
              have k9858 : H9847 r0 3 = H9810 r0 3 := (f9852 r0 3 _ g0 rfl)
              have q9859 : H9847 r0 3 = (r5527 : Int) := k9858.trans q9819
              refine wp_of e282 c282_56 (xc_V (pc' := 59) (r := r0) (as := [.ref r9855]) (st := []) (lm_9_393) rfl rfl (Nat.le_of_ble_eq_true rfl) w9851 g0 sh_42 (by decide) rfl (by decide) (s_235_m_lot w9851 g0 g9857 q9859 g5529) (fun R9860 T9861 H9862 p9863 => ?_))
              obtain ⟨e9864, e9866, z9867, e9865, b9868⟩ := p9863
              subst e9864
              subst e9865
              subst e9866
              show wp _ _ 282 59 [(3, vI v9808), (2, vI v9809), (0, .ref r0)] [vI z9867] _ H9847 _
              refine wp_of e282 c282_59 (rw_if_eq (p1 := 65) (p2 := 62) (by decide) rfl ⟨b9868.1, b9868.2⟩ (fun c9869 => ?_) (fun c9869 => ?_))
              · refine wp_of e282 c282_65 (rw_iconst (pc' := 66) rfl ?_)
                refine wp_of e282 c282_66 (rw_istore (pc' := 68) (z := 0) (L' := [(4, vI 0), (3, vI v9808), (2, vI v9809), (0, .ref r0)]) rfl rfl rfl ?_)
                have lp10054 : ∀ (n10055 : Nat) (v10057 : Int) (v10058 : Int), (0 ≤ v10057 ∧ v10057 ≤ 24) → (0 ≤ v10058 ∧ v10058 ≤ 16777215) → (24 - v10057).toNat = n10055 → wp kt 7 282 68 [(4, vI v10057), (2, vI v10058), (3, vI v9808), (0, .ref r0)] [] T H9847 (uq_282 r0 e d T H) := by
                  intro n10055
                  induction n10055 using Nat.strongRecOn with
                  | _ n10055 ih10056 =>
                    intro v10057 v10058 b10061 b10062 m10063
                    refine wp_of e282 c282_68 (rw_iload (pc' := 70) (z := v10057) rfl rfl ?_)
                    refine wp_of e282 c282_70 (rw_aload_n (pc' := 71) (v := .ref r0) rfl rfl rfl ?_)
                    refine wp_of e282 c282_71 (xg_K (pc' := 74) lf_9_337 w9851 g0 sh_42 (by decide) (by decide) rfl q9859 rfl ?_)
                    refine wp_of e282 c282_74 (xg_I (pc' := 77) lf_9_185 w9851 g5529 sh_54 (by decide) (by decide) ty_54_0 rfl rfl (fun b10064 b10065 => ?_))
                    refine wp_of e282 c282_77 (rw_icmp_ge (p1 := 110) (p2 := 80) (by decide) rfl ⟨Int.le_trans (by decide) b10061.1, Int.le_trans b10061.2 (by decide)⟩ ⟨Int.le_trans (by decide) b10064, Int.le_trans b10065 (by decide)⟩ (fun c10066 => ?_) (fun c10066 => ?_))
                    · refine wp_of e282 c282_110 (rw_iinc (pc' := 113) (z := v9808) (L' := [(3, vI (v9808 + 1)), (4, vI v10057), (2, vI v10058), (0, .ref r0)]) rfl rfl rfl rfl ?_)
                      refine wp_of e282 c282_113 (rw_goto (p1 := 36) (by decide) ?_)
                      exact wp_lc (ks := [3, 4, 2, 0]) (wl_c rfl (wl_c rfl (wl_c rfl wl_n))) rfl (by decide) (ih9807 _ (by omega) (v9808 + 1) v10058 H9847 w9851 f9854 ⟨by omega, by omega⟩ ⟨b10062.1, b10062.2⟩ rfl)
                    · refine wp_of e282 c282_80 (rw_iload_n (pc' := 81) (z := v10058) rfl rfl ?_)
                      refine wp_of e282 c282_81 (rw_aload_n (pc' := 82) (v := .ref r0) rfl rfl rfl ?_)
                      refine wp_of e282 c282_82 (rw_aload_n (pc' := 83) (v := .ref r0) rfl rfl rfl ?_)
                      refine wp_of e282 c282_83 (xg_K (pc' := 86) lf_9_39 w9851 g0 sh_42 (by decide) (by decide) rfl q9856 rfl ?_)
                      refine wp_of e282 c282_86 (rw_iload (pc' := 88) (z := v10057) rfl rfl ?_)
                      refine wp_of e282 c282_88 (xc_V (pc' := 91) (r := r0) (as := [.ref r9855, vI v10057]) (st := [vI v10058]) (lm_9_386) rfl rfl (Nat.le_of_ble_eq_true rfl) w9851 g0 sh_42 (by decide) rfl (by decide) (s_228_m_lot w9851 g0 g9857 ⟨Int.le_trans (by decide) b10061.1, Int.le_trans b10061.2 (by decide)⟩ q9859 g5529) (fun R10067 T10068 H10069 p10070 => ?_))
                      obtain ⟨e10071, e10073, z10074, e10072, b10075⟩ := p10070
                      subst e10071
                      subst e10072
                      subst e10073
                      show wp _ _ 282 91 [(4, vI v10057), (2, vI v10058), (3, vI v9808), (0, .ref r0)] [vI z10074, vI v10058] _ H9847 _
                      refine wp_of e282 c282_91 (rw_if_ne (p1 := 101) (p2 := 94) (by decide) rfl ⟨b10075.1, b10075.2⟩ (fun c10076 => ?_) (fun c10076 => ?_))
                      · refine wp_of e282 c282_101 (rw_iconst (pc' := 102) rfl ?_)
                        refine wp_of e282 c282_102 (rw_ior (pc' := 103) rfl ?_)
                        obtain ⟨v10077, e10078⟩ : ∃ x : Int, x = wq_or v10058 0 := ⟨_, rfl⟩
                        rw [← e10078]
                        have b10079 : 0 ≤ v10077 ∧ v10077 ≤ 16777215 := by
                          rw [e10078]
                          exact wq_or_24 ⟨by omega, by omega⟩ ⟨by omega, by omega⟩
                        refine wp_of e282 c282_103 (rw_istore_n (pc' := 104) (z := v10077) (L' := [(2, vI v10077), (4, vI v10057), (3, vI v9808), (0, .ref r0)]) rfl rfl rfl ?_)
                        refine wp_of e282 c282_104 (rw_iinc (pc' := 107) (z := v10057) (L' := [(4, vI (v10057 + 1)), (2, vI v10077), (3, vI v9808), (0, .ref r0)]) rfl rfl rfl rfl ?_)
                        refine wp_of e282 c282_107 (rw_goto (p1 := 68) (by decide) ?_)
                        exact wp_lc (ks := [4, 2, 3, 0]) (wl_c rfl (wl_c rfl (wl_c rfl (wl_c rfl wl_n)))) rfl (by decide) (ih10056 _ (by omega) (v10057 + 1) v10077 ⟨by omega, by omega⟩ ⟨b10079.1, b10079.2⟩ rfl)
                      · refine wp_of e282 c282_94 (rw_iconst (pc' := 95) rfl ?_)
                        refine wp_of e282 c282_95 (rw_iload (pc' := 97) (z := v10057) rfl rfl ?_)
                        refine wp_of e282 c282_97 (rw_ishl (pc' := 98) rfl ?_)
                        obtain ⟨v10080, e10081⟩ : ∃ x : Int, x = wq_shl 1 v10057 := ⟨_, rfl⟩
                        rw [← e10081]
                        have b10082 : 1 ≤ v10080 ∧ v10080 ≤ 8388608 := by
                          rw [e10081]
                          exact wq_shl1_24 ⟨by omega, by omega⟩
                        refine wp_of e282 c282_98 (rw_goto (p1 := 102) (by decide) ?_)
                        refine wp_of e282 c282_102 (rw_ior (pc' := 103) rfl ?_)
                        obtain ⟨v10083, e10084⟩ : ∃ x : Int, x = wq_or v10058 v10080 := ⟨_, rfl⟩
                        rw [← e10084]
                        have b10085 : 0 ≤ v10083 ∧ v10083 ≤ 16777215 := by
                          rw [e10084]
                          exact wq_or_24 ⟨by omega, by omega⟩ ⟨by omega, by omega⟩
                        refine wp_of e282 c282_103 (rw_istore_n (pc' := 104) (z := v10083) (L' := [(2, vI v10083), (4, vI v10057), (3, vI v9808), (0, .ref r0)]) rfl rfl rfl ?_)
                        refine wp_of e282 c282_104 (rw_iinc (pc' := 107) (z := v10057) (L' := [(4, vI (v10057 + 1)), (2, vI v10083), (3, vI v9808), (0, .ref r0)]) rfl rfl rfl rfl ?_)
                        refine wp_of e282 c282_107 (rw_goto (p1 := 68) (by decide) ?_)
                        exact wp_lc (ks := [4, 2, 3, 0]) (wl_c rfl (wl_c rfl (wl_c rfl (wl_c rfl wl_n)))) rfl (by decide) (ih10056 _ (by omega) (v10057 + 1) v10083 ⟨by omega, by omega⟩ ⟨b10085.1, b10085.2⟩ rfl)
                exact wp_lc (ks := [4, 3, 2, 0]) (wl_c rfl (wl_c rfl (wl_c rfl (wl_c rfl wl_n)))) rfl (by decide) (lp10054 _ 0 v9809 ⟨by decide, by decide⟩ ⟨b9814.1, b9814.2⟩ rfl)
              · refine wp_of e282 c282_62 (rw_goto (p1 := 110) (by decide) ?_)
                refine wp_of e282 c282_110 (rw_iinc (pc' := 113) (z := v9808) (L' := [(3, vI (v9808 + 1)), (2, vI v9809), (0, .ref r0)]) rfl rfl rfl rfl ?_)
                refine wp_of e282 c282_113 (rw_goto (p1 := 36) (by decide) ?_)
                exact wp_lc (ks := [3, 2, 0]) (wl_c rfl (wl_c rfl (wl_c rfl wl_n))) rfl (by decide) (ih9807 _ (by omega) (v9808 + 1) v9809 H9847 w9851 f9854 ⟨by omega, by omega⟩ ⟨b9814.1, b9814.2⟩ rfl)
        exact wp_lc (ks := [3, 2, 1, 0]) (wl_c rfl (wl_c rfl (wl_c rfl wl_n))) rfl (by decide) (lp9805 _ 0 0 H7834 w7838 wfr.rf ⟨by decide, by decide⟩ ⟨by decide, by decide⟩ rfl)
      · exfalso
        omega
    · have f10086 := f5524.tr f7839 rfl
      show wp _ _ 282 21 [(0, .ref r0)] [vI z7840] _ H7834 _
      refine wp_of e282 c282_21 (rw_istore_n (pc' := 22) (z := z7840) (L' := [(1, vI z7840), (0, .ref r0)]) rfl rfl rfl ?_)
      refine wp_of e282 c282_22 (rw_iload_n (pc' := 23) (z := z7840) rfl rfl ?_)
      refine wp_of e282 c282_23 (rw_if_le (p1 := 32) (p2 := 26) (by decide) rfl ⟨Int.le_trans (by decide) b7841.1, Int.le_trans b7841.2 (by decide)⟩ (fun c10087 => ?_) (fun c10087 => ?_))
      · exfalso
        omega
      · refine wp_of e282 c282_26 (rw_aload_n (pc' := 27) (v := .ref r0) rfl rfl rfl ?_)
        refine wp_of e282 c282_27 (rw_iload_n (pc' := 28) (z := z7840) rfl rfl ?_)
        refine wp_of e282 c282_28 (xc_V (pc' := 31) (r := r0) (as := [vI z7840]) (st := []) (lm_9_54) rfl rfl (Nat.le_of_ble_eq_true rfl) w7838 g0 sh_42 (by decide) rfl (by decide) (s_170 w7838 g0 ⟨Int.le_trans (by decide) b7841.1, Int.le_trans b7841.2 (by decide)⟩) (fun R10088 T10089 H10090 p10091 => ?_))
        obtain ⟨e10092, w10094, f10095, z10096, e10093, b10097⟩ := p10091
        subst e10092
        subst e10093
        have f10098 := f10086.tr f10095 rfl
        show wp _ _ 282 31 [(1, vI z7840), (0, .ref r0)] [vI z10096] _ H10090 _
        have k10099 : wKI H10090 r0 = wKI H7834 r0 := (wKI_fr w7838 g0 f10095 rfl)
        have h10100 : KNN T H10090 r0 e d := (KNN_fr w7838 g0 f10095 rfl a7858)
        exact wp_ireturn e282 c282_31 rfl ⟨rfl, w10094, f10098, z10096, rfl, ⟨b10097.1, b10097.2⟩, ⟨by omega, h10100⟩⟩
/-! StrikeAwakeModel.seek()I  -/
abbrev uq_288 (r0 : Nat) (e : xD) (d : xD) (T : wq_T) (H : wq_H) : Option Value → wq_T → wq_H → Prop := fun r T' H' => T = T' ∧ WT T H' ∧ wfr [(42, 0), (42, 1), (42, 2), (42, 28), (42, 29), (42, 32), (51, 999), (52, 999)] T H H' ∧ ∃ z : Int, some (vI z) = r ∧ ((-2147483648) ≤ z ∧ z ≤ 2147483647) ∧ (((wKI H' r0 = 1) ∧ KNN T H' r0 e d))
set_option maxHeartbeats 4000000 in
theorem u_288 {kt : Nat → Option mc_E} {T : wq_T} {H : wq_H} {r0 : Nat} {e : xD} {d : xD} (hW : WT T H) (g0 : T.2.2.2 r0 = some 42) (p0 : wKI H r0 = 1) (p1 : XW d) (p2 : ∀ h : Nat, d 0 0 ≤ (h : Int) → h < 24 → e 13 h = 0) (p3 : XN d) (p4 : ∀ h : Nat, h < 24 → 0 ≤ e 13 h ∧ e 13 h ≤ 100) (hRB_r0 : RB T H r0 e d) (hKNN_r0 : KNN T H r0 e d) : wpc kt 8 288 [.ref r0] T H (uq_288 r0 e d T H) := by
  refine wp_enter e288 (Nat.le_of_ble_eq_true rfl) rfl ?_
  have f0 : wfr [(42, 0), (42, 1), (42, 2), (42, 28), (42, 29), (42, 32), (51, 999), (52, 999)] T H H := wfr.rf
  show wp _ _ 288 0 [(0, .ref r0)] [] _ H _
  have _b := RB_b hW hRB_r0
  have _nu := RB_n3 hRB_r0
  have _lm := RB_lm hRB_r0
  refine wp_of e288 c288_0 (rw_aload_n (pc' := 1) (v := .ref r0) rfl rfl rfl ?_)
  refine wp_of e288 c288_1 (rw_iconst (pc' := 2) rfl ?_)
  refine wp_of e288 c288_2 (xp_I (pc' := 5) lf_9_48 hW g0 sh_42 (by decide) (by decide) ty_42_0 rfl rfl (by decide) (by decide) ⟨by decide, by decide⟩ rfl (fun H1364 e1365 w1366 => ?_))
  have f1367 := f0.put' e1365 g0 rfl
  have k1368 : H1364 r0 0 = 0 := wq_u_s e1365
  refine wp_of e288 c288_5 (rw_aload_n (pc' := 6) (v := .ref r0) rfl rfl rfl ?_)
  refine wp_of e288 c288_6 (rw_aload_n (pc' := 7) (v := .ref r0) rfl rfl rfl ?_)
  have k1369 : H1364 r0 3 = H r0 3 := (wq_u_j e1365 rfl)
  refine wp_of e288 c288_7 (xg_O (pc' := 10) lf_9_337 w1366 g0 sh_42 (by decide) (by decide) ty_42_3 rfl rfl (fun q1371 => ?_) (fun r1370 q1371 g1372 => ?_))
  · refine wp_of e288 c288_10 (rw_ifnull_n (p1 := 17) (p2 := 13) (by decide) rfl ?_)
    refine wp_of e288 c288_17 (rw_iconst (pc' := 18) rfl ?_)
    have k1373 : wKI H1364 r0 = wKI H r0 := (wKI_fr hW g0 ((wfr.rf (l := [(42, 0)])).put' e1365 g0 rfl) rfl)
    have h1374 : RB T H1364 r0 e d := (RB_fr hW g0 ((wfr.rf (l := [(42, 0)])).put' e1365 g0 rfl) rfl hRB_r0)
    have h1375 : KNN T H1364 r0 e d := (KNN_fr hW g0 ((wfr.rf (l := [(42, 0)])).put' e1365 g0 rfl) rfl hKNN_r0)
    refine wp_of e288 c288_18 (xc_V (pc' := 21) (r := r0) (as := [vI 0]) (st := []) (lm_9_433) rfl rfl (Nat.le_of_ble_eq_true rfl) w1366 g0 sh_42 (by decide) rfl (by decide) (u_241 (e := e) (d := d) w1366 g0 ⟨by decide, by decide⟩ (by omega) (by omega) (by assumption) (by assumption) (by assumption) (by assumption) h1374 h1375) (fun R1376 T1377 H1378 p1379 => ?_))
    obtain ⟨e1380, w1382, f1383, z1384, e1381, b1385, p1386⟩ := p1379
    subst e1380
    subst e1381
    rcases p1386 with ⟨a1387, a1388, a1389, a1390, a1391, a1392, a1393, a1394, a1395⟩ | ⟨a1396, a1397, a1398, a1399, a1400, a1401, a1402⟩
    · have f1403 := f1367.tr f1383 rfl
      show wp _ _ 288 21 [(0, .ref r0)] [vI z1384] _ H1378 _
      refine wp_of e288 c288_21 (rw_istore_n (pc' := 22) (z := z1384) (L' := [(1, vI z1384), (0, .ref r0)]) rfl rfl rfl ?_)
      refine wp_of e288 c288_22 (rw_iload_n (pc' := 23) (z := z1384) rfl rfl ?_)
      refine wp_of e288 c288_23 (rw_if_le (p1 := 32) (p2 := 26) (by decide) rfl ⟨Int.le_trans (by decide) b1385.1, Int.le_trans b1385.2 (by decide)⟩ (fun c1404 => ?_) (fun c1404 => ?_))
      · refine wp_of e288 c288_32 (rw_iconst (pc' := 33) rfl ?_)
        refine wp_of e288 c288_33 (rw_istore_n (pc' := 34) (z := 0) (L' := [(2, vI 0), (1, vI z1384), (0, .ref r0)]) rfl rfl rfl ?_)
        have lp1493 : ∀ (n1494 : Nat) (v1496 : Int), (0 ≤ v1496 ∧ v1496 ≤ 20000) → (20000 - v1496).toNat = n1494 → wp kt 7 288 34 [(2, vI v1496), (0, .ref r0)] [] T H1378 (uq_288 r0 e d T H) := by
          intro n1494
          induction n1494 using Nat.strongRecOn with
          | _ n1494 ih1495 =>
            intro v1496 b1499 m1500
            refine wp_of e288 c288_34 (rw_iload_n (pc' := 35) (z := v1496) rfl rfl ?_)
            refine wp_of e288 c288_35 (rw_aload_n (pc' := 36) (v := .ref r0) rfl rfl rfl ?_)
            refine wp_of e288 c288_36 (xg_I (pc' := 39) lf_9_422 w1382 g0 sh_42 (by decide) (by decide) ty_42_29 rfl rfl (fun b1501 b1502 => ?_))
            refine wp_of e288 c288_39 (rw_icmp_ge (p1 := 87) (p2 := 42) (by decide) rfl ⟨Int.le_trans (by decide) b1499.1, Int.le_trans b1499.2 (by decide)⟩ ⟨Int.le_trans (by decide) b1501, Int.le_trans b1502 (by decide)⟩ (fun c1503 => ?_) (fun c1503 => ?_))
            · refine wp_of e288 c288_87 (rw_aload_n (pc' := 88) (v := .ref r0) rfl rfl rfl ?_)
              refine wp_of e288 c288_88 (rw_bipush (pc' := 90) (z := 6) rfl (by decide) ?_)
              refine wp_of e288 c288_90 (xc_V (pc' := 93) (r := r0) (as := [vI 6]) (st := []) (lm_9_54) rfl rfl (Nat.le_of_ble_eq_true rfl) w1382 g0 sh_42 (by decide) rfl (by decide) (s_170 w1382 g0 ⟨by decide, by decide⟩) (fun R1504 T1505 H1506 p1507 => ?_))
              obtain ⟨e1508, w1510, f1511, z1512, e1509, b1513⟩ := p1507
              subst e1508
              subst e1509
              have f1514 := f1403.tr f1511 rfl
              show wp _ _ 288 93 [(2, vI v1496), (0, .ref r0)] [vI z1512] _ H1506 _
              have k1515 : wKI H1506 r0 = wKI H1378 r0 := (wKI_fr w1382 g0 f1511 rfl)
              have h1516 : KNN T H1506 r0 e d := (KNN_fr w1382 g0 f1511 rfl a1394)
              exact wp_ireturn e288 c288_93 rfl ⟨rfl, w1510, f1514, z1512, rfl, ⟨b1513.1, b1513.2⟩, ⟨by omega, h1516⟩⟩
            · refine wp_of e288 c288_42 (rw_aload_n (pc' := 43) (v := .ref r0) rfl rfl rfl ?_)
              refine wp_of e288 c288_43 (xg_R (pc' := 46) lf_9_42 w1382 g0 sh_42 (by decide) (by decide) ty_42_30 rfl rfl (fun r1517 q1518 g1519 => ?_))
              refine wp_of e288 c288_46 (rw_iload_n (pc' := 47) (z := v1496) rfl rfl ?_)
              refine wp_of e288 c288_47 (xa_I (so := 0) (pc' := 48) w1382 g1519 sh_52 (by decide) (ty_52 _) (b1499.1) (by omega) rfl (fun b1520 b1521 => ?_))
              refine wp_of e288 c288_48 (rw_aload_n (pc' := 49) (v := .ref r0) rfl rfl rfl ?_)
              refine wp_of e288 c288_49 (xg_I (pc' := 52) lf_9_340 w1382 g0 sh_42 (by decide) (by decide) ty_42_32 rfl rfl (fun b1522 b1523 => ?_))
              refine wp_of e288 c288_52 (rw_icmp_ge (p1 := 58) (p2 := 55) (by decide) rfl ⟨Int.le_trans (by decide) b1520, Int.le_trans b1521 (by decide)⟩ ⟨Int.le_trans (by decide) b1522, b1523⟩ (fun c1524 => ?_) (fun c1524 => ?_))
              · refine wp_of e288 c288_58 (rw_aload_n (pc' := 59) (v := .ref r0) rfl rfl rfl ?_)
                refine wp_of e288 c288_59 (rw_aload_n (pc' := 60) (v := .ref r0) rfl rfl rfl ?_)
                refine wp_of e288 c288_60 (xg_K (pc' := 63) lf_9_42 w1382 g0 sh_42 (by decide) (by decide) rfl q1518 rfl ?_)
                refine wp_of e288 c288_63 (rw_iload_n (pc' := 64) (z := v1496) rfl rfl ?_)
                refine wp_of e288 c288_64 (xa_I (so := 0) (pc' := 65) w1382 g1519 sh_52 (by decide) (ty_52 _) (b1499.1) (by omega) rfl (fun b1525 b1526 => ?_))
                refine wp_of e288 c288_65 (rw_iconst (pc' := 66) rfl ?_)
                refine wp_of e288 c288_66 (rw_iadd (pc' := 67) rfl ?_)
                refine wp_of e288 c288_67 (xp_I (pc' := 70) lf_9_340 w1382 g0 sh_42 (by decide) (by decide) ty_42_32 rfl rfl (by omega) (by omega) ⟨by omega, by omega⟩ rfl (fun H1527 e1528 w1529 => ?_))
                have f1530 := f1403.put' e1528 g0 rfl
                have k1531 : H1527 r0 32 = (H1378 r1517 (v1496.toNat)) + 1 := wq_u_s e1528
                refine wp_of e288 c288_70 (rw_aload_n (pc' := 71) (v := .ref r0) rfl rfl rfl ?_)
                refine wp_of e288 c288_71 (rw_aload_n (pc' := 72) (v := .ref r0) rfl rfl rfl ?_)
                have k1532 : H1527 r0 30 = H1378 r0 30 := (wq_u_j e1528 rfl)
                have q1533 : H1527 r0 30 = (r1517 : Int) := k1532.trans q1518
                refine wp_of e288 c288_72 (xg_K (pc' := 75) lf_9_42 w1529 g0 sh_42 (by decide) (by decide) rfl q1533 rfl ?_)
                refine wp_of e288 c288_75 (rw_iload_n (pc' := 76) (z := v1496) rfl rfl ?_)
                have k1534 : H1527 r1517 (v1496.toNat) = H1378 r1517 (v1496.toNat) := (wq_u_t e1528 g0 g1519 rfl (v1496.toNat))
                refine wp_of e288 c288_76 (xa_I (so := 0) (pc' := 77) w1529 g1519 sh_52 (by decide) (ty_52 _) (b1499.1) (by omega) rfl (fun b1535 b1536 => ?_))
                refine wp_of e288 c288_77 (xc_V (pc' := 80) (r := r0) (as := [vI (H1527 r1517 (v1496.toNat))]) (st := []) (lm_9_58) rfl rfl (Nat.le_of_ble_eq_true rfl) w1529 g0 sh_42 (by decide) rfl (by decide) (s_209 w1529 g0 ⟨Int.le_trans (by decide) b1535, Int.le_trans b1536 (by decide)⟩) (fun R1537 T1538 H1539 p1540 => ?_))
                obtain ⟨e1541, w1543, f1544, z1545, e1542, b1546⟩ := p1540
                subst e1541
                subst e1542
                have f1547 := f1530.tr f1544 rfl
                show wp _ _ 288 80 [(2, vI v1496), (0, .ref r0)] [vI z1545] _ H1539 _
                have k1548 : wKI H1539 r0 = wKI H1378 r0 := ((wKI_fr w1529 g0 f1544 rfl).trans (wKI_fr w1382 g0 ((wfr.rf (l := [(42, 32)])).put' e1528 g0 rfl) rfl))
                have h1549 : KNN T H1539 r0 e d := (KNN_fr w1529 g0 f1544 rfl (KNN_fr w1382 g0 ((wfr.rf (l := [(42, 32)])).put' e1528 g0 rfl) rfl a1394))
                exact wp_ireturn e288 c288_80 rfl ⟨rfl, w1543, f1547, z1545, rfl, ⟨b1546.1, b1546.2⟩, ⟨by omega, h1549⟩⟩
              · refine wp_of e288 c288_55 (rw_goto (p1 := 81) (by decide) ?_)
                refine wp_of e288 c288_81 (rw_iinc (pc' := 84) (z := v1496) (L' := [(2, vI (v1496 + 1)), (0, .ref r0)]) rfl rfl rfl rfl ?_)
                refine wp_of e288 c288_84 (rw_goto (p1 := 34) (by decide) ?_)
                exact wp_lc (ks := [2, 0]) (wl_c rfl (wl_c rfl wl_n)) rfl (by decide) (ih1495 _ (by omega) (v1496 + 1) ⟨by omega, by omega⟩ rfl)
        exact wp_lc (ks := [2, 1, 0]) (wl_c rfl (wl_c rfl wl_n)) rfl (by decide) (lp1493 _ 0 ⟨by decide, by decide⟩ rfl)
      · exfalso
        omega
    · have f1550 := f1367.tr f1383 rfl
      show wp _ _ 288 21 [(0, .ref r0)] [vI z1384] _ H1378 _
      refine wp_of e288 c288_21 (rw_istore_n (pc' := 22) (z := z1384) (L' := [(1, vI z1384), (0, .ref r0)]) rfl rfl rfl ?_)
      refine wp_of e288 c288_22 (rw_iload_n (pc' := 23) (z := z1384) rfl rfl ?_)
      refine wp_of e288 c288_23 (rw_if_le (p1 := 32) (p2 := 26) (by decide) rfl ⟨Int.le_trans (by decide) b1385.1, Int.le_trans b1385.2 (by decide)⟩ (fun c1551 => ?_) (fun c1551 => ?_))
      · exfalso
        omega
      · refine wp_of e288 c288_26 (rw_aload_n (pc' := 27) (v := .ref r0) rfl rfl rfl ?_)
        refine wp_of e288 c288_27 (rw_iload_n (pc' := 28) (z := z1384) rfl rfl ?_)
        refine wp_of e288 c288_28 (xc_V (pc' := 31) (r := r0) (as := [vI z1384]) (st := []) (lm_9_54) rfl rfl (Nat.le_of_ble_eq_true rfl) w1382 g0 sh_42 (by decide) rfl (by decide) (s_170 w1382 g0 ⟨Int.le_trans (by decide) b1385.1, Int.le_trans b1385.2 (by decide)⟩) (fun R1552 T1553 H1554 p1555 => ?_))
        obtain ⟨e1556, w1558, f1559, z1560, e1557, b1561⟩ := p1555
        subst e1556
        subst e1557
        have f1562 := f1550.tr f1559 rfl
        show wp _ _ 288 31 [(1, vI z1384), (0, .ref r0)] [vI z1560] _ H1554 _
        have k1563 : wKI H1554 r0 = wKI H1378 r0 := (wKI_fr w1382 g0 f1559 rfl)
        have h1564 : KNN T H1554 r0 e d := (KNN_fr w1382 g0 f1559 rfl a1402)
        exact wp_ireturn e288 c288_31 rfl ⟨rfl, w1558, f1562, z1560, rfl, ⟨b1561.1, b1561.2⟩, ⟨by omega, h1564⟩⟩
  · refine wp_of e288 c288_10 (rw_ifnull_r (p1 := 17) (p2 := 13) (by decide) rfl ?_)
    refine wp_of e288 c288_13 (rw_iconst (pc' := 14) rfl ?_)
    refine wp_of e288 c288_14 (rw_goto (p1 := 18) (by decide) ?_)
    have k1565 : wKI H1364 r0 = wKI H r0 := (wKI_fr hW g0 ((wfr.rf (l := [(42, 0)])).put' e1365 g0 rfl) rfl)
    have h1566 : RB T H1364 r0 e d := (RB_fr hW g0 ((wfr.rf (l := [(42, 0)])).put' e1365 g0 rfl) rfl hRB_r0)
    have h1567 : KNN T H1364 r0 e d := (KNN_fr hW g0 ((wfr.rf (l := [(42, 0)])).put' e1365 g0 rfl) rfl hKNN_r0)
    refine wp_of e288 c288_18 (xc_V (pc' := 21) (r := r0) (as := [vI 1]) (st := []) (lm_9_433) rfl rfl (Nat.le_of_ble_eq_true rfl) w1366 g0 sh_42 (by decide) rfl (by decide) (u_241 (e := e) (d := d) w1366 g0 ⟨by decide, by decide⟩ (by omega) (by omega) (by assumption) (by assumption) (by assumption) (by assumption) h1566 h1567) (fun R1568 T1569 H1570 p1571 => ?_))
    obtain ⟨e1572, w1574, f1575, z1576, e1573, b1577, p1578⟩ := p1571
    subst e1572
    subst e1573
    rcases p1578 with ⟨a1579, a1580, a1581, a1582, a1583, a1584, a1585, a1586, a1587⟩ | ⟨a1588, a1589, a1590, a1591, a1592, a1593, a1594⟩
    · have f1595 := f1367.tr f1575 rfl
      show wp _ _ 288 21 [(0, .ref r0)] [vI z1576] _ H1570 _
      refine wp_of e288 c288_21 (rw_istore_n (pc' := 22) (z := z1576) (L' := [(1, vI z1576), (0, .ref r0)]) rfl rfl rfl ?_)
      refine wp_of e288 c288_22 (rw_iload_n (pc' := 23) (z := z1576) rfl rfl ?_)
      refine wp_of e288 c288_23 (rw_if_le (p1 := 32) (p2 := 26) (by decide) rfl ⟨Int.le_trans (by decide) b1577.1, Int.le_trans b1577.2 (by decide)⟩ (fun c1596 => ?_) (fun c1596 => ?_))
      · refine wp_of e288 c288_32 (rw_iconst (pc' := 33) rfl ?_)
        refine wp_of e288 c288_33 (rw_istore_n (pc' := 34) (z := 0) (L' := [(2, vI 0), (1, vI z1576), (0, .ref r0)]) rfl rfl rfl ?_)
        have lp1685 : ∀ (n1686 : Nat) (v1688 : Int), (0 ≤ v1688 ∧ v1688 ≤ 20000) → (20000 - v1688).toNat = n1686 → wp kt 7 288 34 [(2, vI v1688), (0, .ref r0)] [] T H1570 (uq_288 r0 e d T H) := by
          intro n1686
          induction n1686 using Nat.strongRecOn with
          | _ n1686 ih1687 =>
            intro v1688 b1691 m1692
            refine wp_of e288 c288_34 (rw_iload_n (pc' := 35) (z := v1688) rfl rfl ?_)
            refine wp_of e288 c288_35 (rw_aload_n (pc' := 36) (v := .ref r0) rfl rfl rfl ?_)
            refine wp_of e288 c288_36 (xg_I (pc' := 39) lf_9_422 w1574 g0 sh_42 (by decide) (by decide) ty_42_29 rfl rfl (fun b1693 b1694 => ?_))
            refine wp_of e288 c288_39 (rw_icmp_ge (p1 := 87) (p2 := 42) (by decide) rfl ⟨Int.le_trans (by decide) b1691.1, Int.le_trans b1691.2 (by decide)⟩ ⟨Int.le_trans (by decide) b1693, Int.le_trans b1694 (by decide)⟩ (fun c1695 => ?_) (fun c1695 => ?_))
            · refine wp_of e288 c288_87 (rw_aload_n (pc' := 88) (v := .ref r0) rfl rfl rfl ?_)
              refine wp_of e288 c288_88 (rw_bipush (pc' := 90) (z := 6) rfl (by decide) ?_)
              refine wp_of e288 c288_90 (xc_V (pc' := 93) (r := r0) (as := [vI 6]) (st := []) (lm_9_54) rfl rfl (Nat.le_of_ble_eq_true rfl) w1574 g0 sh_42 (by decide) rfl (by decide) (s_170 w1574 g0 ⟨by decide, by decide⟩) (fun R1696 T1697 H1698 p1699 => ?_))
              obtain ⟨e1700, w1702, f1703, z1704, e1701, b1705⟩ := p1699
              subst e1700
              subst e1701
              have f1706 := f1595.tr f1703 rfl
              show wp _ _ 288 93 [(2, vI v1688), (0, .ref r0)] [vI z1704] _ H1698 _
              have k1707 : wKI H1698 r0 = wKI H1570 r0 := (wKI_fr w1574 g0 f1703 rfl)
              have h1708 : KNN T H1698 r0 e d := (KNN_fr w1574 g0 f1703 rfl a1586)
              exact wp_ireturn e288 c288_93 rfl ⟨rfl, w1702, f1706, z1704, rfl, ⟨b1705.1, b1705.2⟩, ⟨by omega, h1708⟩⟩
            · refine wp_of e288 c288_42 (rw_aload_n (pc' := 43) (v := .ref r0) rfl rfl rfl ?_)
              refine wp_of e288 c288_43 (xg_R (pc' := 46) lf_9_42 w1574 g0 sh_42 (by decide) (by decide) ty_42_30 rfl rfl (fun r1709 q1710 g1711 => ?_))
              refine wp_of e288 c288_46 (rw_iload_n (pc' := 47) (z := v1688) rfl rfl ?_)
              refine wp_of e288 c288_47 (xa_I (so := 0) (pc' := 48) w1574 g1711 sh_52 (by decide) (ty_52 _) (b1691.1) (by omega) rfl (fun b1712 b1713 => ?_))
              refine wp_of e288 c288_48 (rw_aload_n (pc' := 49) (v := .ref r0) rfl rfl rfl ?_)
              refine wp_of e288 c288_49 (xg_I (pc' := 52) lf_9_340 w1574 g0 sh_42 (by decide) (by decide) ty_42_32 rfl rfl (fun b1714 b1715 => ?_))
              refine wp_of e288 c288_52 (rw_icmp_ge (p1 := 58) (p2 := 55) (by decide) rfl ⟨Int.le_trans (by decide) b1712, Int.le_trans b1713 (by decide)⟩ ⟨Int.le_trans (by decide) b1714, b1715⟩ (fun c1716 => ?_) (fun c1716 => ?_))
              · refine wp_of e288 c288_58 (rw_aload_n (pc' := 59) (v := .ref r0) rfl rfl rfl ?_)
                refine wp_of e288 c288_59 (rw_aload_n (pc' := 60) (v := .ref r0) rfl rfl rfl ?_)
                refine wp_of e288 c288_60 (xg_K (pc' := 63) lf_9_42 w1574 g0 sh_42 (by decide) (by decide) rfl q1710 rfl ?_)
                refine wp_of e288 c288_63 (rw_iload_n (pc' := 64) (z := v1688) rfl rfl ?_)
                refine wp_of e288 c288_64 (xa_I (so := 0) (pc' := 65) w1574 g1711 sh_52 (by decide) (ty_52 _) (b1691.1) (by omega) rfl (fun b1717 b1718 => ?_))
                refine wp_of e288 c288_65 (rw_iconst (pc' := 66) rfl ?_)
                refine wp_of e288 c288_66 (rw_iadd (pc' := 67) rfl ?_)
                refine wp_of e288 c288_67 (xp_I (pc' := 70) lf_9_340 w1574 g0 sh_42 (by decide) (by decide) ty_42_32 rfl rfl (by omega) (by omega) ⟨by omega, by omega⟩ rfl (fun H1719 e1720 w1721 => ?_))
                have f1722 := f1595.put' e1720 g0 rfl
                have k1723 : H1719 r0 32 = (H1570 r1709 (v1688.toNat)) + 1 := wq_u_s e1720
                refine wp_of e288 c288_70 (rw_aload_n (pc' := 71) (v := .ref r0) rfl rfl rfl ?_)
                refine wp_of e288 c288_71 (rw_aload_n (pc' := 72) (v := .ref r0) rfl rfl rfl ?_)
                have k1724 : H1719 r0 30 = H1570 r0 30 := (wq_u_j e1720 rfl)
                have q1725 : H1719 r0 30 = (r1709 : Int) := k1724.trans q1710
                refine wp_of e288 c288_72 (xg_K (pc' := 75) lf_9_42 w1721 g0 sh_42 (by decide) (by decide) rfl q1725 rfl ?_)
                refine wp_of e288 c288_75 (rw_iload_n (pc' := 76) (z := v1688) rfl rfl ?_)
                have k1726 : H1719 r1709 (v1688.toNat) = H1570 r1709 (v1688.toNat) := (wq_u_t e1720 g0 g1711 rfl (v1688.toNat))
                refine wp_of e288 c288_76 (xa_I (so := 0) (pc' := 77) w1721 g1711 sh_52 (by decide) (ty_52 _) (b1691.1) (by omega) rfl (fun b1727 b1728 => ?_))
                refine wp_of e288 c288_77 (xc_V (pc' := 80) (r := r0) (as := [vI (H1719 r1709 (v1688.toNat))]) (st := []) (lm_9_58) rfl rfl (Nat.le_of_ble_eq_true rfl) w1721 g0 sh_42 (by decide) rfl (by decide) (s_209 w1721 g0 ⟨Int.le_trans (by decide) b1727, Int.le_trans b1728 (by decide)⟩) (fun R1729 T1730 H1731 p1732 => ?_))
                obtain ⟨e1733, w1735, f1736, z1737, e1734, b1738⟩ := p1732
                subst e1733
                subst e1734
                have f1739 := f1722.tr f1736 rfl
                show wp _ _ 288 80 [(2, vI v1688), (0, .ref r0)] [vI z1737] _ H1731 _
                have k1740 : wKI H1731 r0 = wKI H1570 r0 := ((wKI_fr w1721 g0 f1736 rfl).trans (wKI_fr w1574 g0 ((wfr.rf (l := [(42, 32)])).put' e1720 g0 rfl) rfl))
                have h1741 : KNN T H1731 r0 e d := (KNN_fr w1721 g0 f1736 rfl (KNN_fr w1574 g0 ((wfr.rf (l := [(42, 32)])).put' e1720 g0 rfl) rfl a1586))
                exact wp_ireturn e288 c288_80 rfl ⟨rfl, w1735, f1739, z1737, rfl, ⟨b1738.1, b1738.2⟩, ⟨by omega, h1741⟩⟩
              · refine wp_of e288 c288_55 (rw_goto (p1 := 81) (by decide) ?_)
                refine wp_of e288 c288_81 (rw_iinc (pc' := 84) (z := v1688) (L' := [(2, vI (v1688 + 1)), (0, .ref r0)]) rfl rfl rfl rfl ?_)
                refine wp_of e288 c288_84 (rw_goto (p1 := 34) (by decide) ?_)
                exact wp_lc (ks := [2, 0]) (wl_c rfl (wl_c rfl wl_n)) rfl (by decide) (ih1687 _ (by omega) (v1688 + 1) ⟨by omega, by omega⟩ rfl)
        exact wp_lc (ks := [2, 1, 0]) (wl_c rfl (wl_c rfl wl_n)) rfl (by decide) (lp1685 _ 0 ⟨by decide, by decide⟩ rfl)
      · exfalso
        omega
    · have f1742 := f1367.tr f1575 rfl
      show wp _ _ 288 21 [(0, .ref r0)] [vI z1576] _ H1570 _
      refine wp_of e288 c288_21 (rw_istore_n (pc' := 22) (z := z1576) (L' := [(1, vI z1576), (0, .ref r0)]) rfl rfl rfl ?_)
      refine wp_of e288 c288_22 (rw_iload_n (pc' := 23) (z := z1576) rfl rfl ?_)
      refine wp_of e288 c288_23 (rw_if_le (p1 := 32) (p2 := 26) (by decide) rfl ⟨Int.le_trans (by decide) b1577.1, Int.le_trans b1577.2 (by decide)⟩ (fun c1743 => ?_) (fun c1743 => ?_))
      · exfalso
        omega
      · refine wp_of e288 c288_26 (rw_aload_n (pc' := 27) (v := .ref r0) rfl rfl rfl ?_)
        refine wp_of e288 c288_27 (rw_iload_n (pc' := 28) (z := z1576) rfl rfl ?_)
        refine wp_of e288 c288_28 (xc_V (pc' := 31) (r := r0) (as := [vI z1576]) (st := []) (lm_9_54) rfl rfl (Nat.le_of_ble_eq_true rfl) w1574 g0 sh_42 (by decide) rfl (by decide) (s_170 w1574 g0 ⟨Int.le_trans (by decide) b1577.1, Int.le_trans b1577.2 (by decide)⟩) (fun R1744 T1745 H1746 p1747 => ?_))
        obtain ⟨e1748, w1750, f1751, z1752, e1749, b1753⟩ := p1747
        subst e1748
        subst e1749
        have f1754 := f1742.tr f1751 rfl
        show wp _ _ 288 31 [(1, vI z1576), (0, .ref r0)] [vI z1752] _ H1746 _
        have k1755 : wKI H1746 r0 = wKI H1570 r0 := (wKI_fr w1574 g0 f1751 rfl)
        have h1756 : KNN T H1746 r0 e d := (KNN_fr w1574 g0 f1751 rfl a1594)
        exact wp_ireturn e288 c288_31 rfl ⟨rfl, w1750, f1754, z1752, rfl, ⟨b1753.1, b1753.2⟩, ⟨by omega, h1756⟩⟩
