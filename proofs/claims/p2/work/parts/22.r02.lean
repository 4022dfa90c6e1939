/-! methods of the reference (own work, written by wip/gen2/sx.py) -/
/-! StrikeAwakeModel.known()I -/
theorem e195 : wq_en 195 = some (9, 2, false, some FieldType.int) := rfl
theorem c195_0 : mc_cd 195 0 = some (.aload_n 0, 1) := by decide +kernel
theorem c195_1 : mc_cd 195 1 = some (.invokevirtual 162, 3) := by decide +kernel
theorem c195_4 : mc_cd 195 4 = some (.ifCond .ne 8, 3) := by decide +kernel
theorem c195_7 : mc_cd 195 7 = some (.aload_n 0, 1) := by decide +kernel
theorem c195_8 : mc_cd 195 8 = some (.iconst 1, 1) := by decide +kernel
theorem c195_9 : mc_cd 195 9 = some (.invokevirtual 121, 3) := by decide +kernel
theorem c195_12 : mc_cd 195 12 = some (.aload_n 0, 1) := by decide +kernel
theorem c195_13 : mc_cd 195 13 = some (.getfield 166, 3) := by decide +kernel
theorem c195_16 : mc_cd 195 16 = some (.aload_n 0, 1) := by decide +kernel
theorem c195_17 : mc_cd 195 17 = some (.getfield 94, 3) := by decide +kernel
theorem c195_20 : mc_cd 195 20 = some (.invokevirtual 170, 3) := by decide +kernel
theorem c195_23 : mc_cd 195 23 = some (.istore_n 1, 1) := by decide +kernel
theorem c195_24 : mc_cd 195 24 = some (.iload_n 1, 1) := by decide +kernel
theorem c195_25 : mc_cd 195 25 = some (.iconst (-1), 1) := by decide +kernel
theorem c195_26 : mc_cd 195 26 = some (.if_icmp .ne 8, 3) := by decide +kernel
theorem c195_29 : mc_cd 195 29 = some (.aload_n 0, 1) := by decide +kernel
theorem c195_30 : mc_cd 195 30 = some (.iconst 2, 1) := by decide +kernel
theorem c195_31 : mc_cd 195 31 = some (.invokevirtual 121, 3) := by decide +kernel
theorem c195_34 : mc_cd 195 34 = some (.aload_n 0, 1) := by decide +kernel
theorem c195_35 : mc_cd 195 35 = some (.getfield 75, 3) := by decide +kernel
theorem c195_38 : mc_cd 195 38 = some (.iconst 5, 1) := by decide +kernel
theorem c195_39 : mc_cd 195 39 = some (.if_icmp .ne 7, 3) := by decide +kernel
theorem c195_42 : mc_cd 195 42 = some (.iconst 0, 1) := by decide +kernel
theorem c195_43 : mc_cd 195 43 = some (.goto 4, 3) := by decide +kernel
theorem c195_46 : mc_cd 195 46 = some (.iload_n 1, 1) := by decide +kernel
theorem c195_47 : mc_cd 195 47 = some (.ireturn, 1) := by decide +kernel
abbrev q_195 (r0 : Nat) (rp : Nat) (T : wq_T) (H : wq_H) : Option Value → wq_T → wq_H → Prop := fun r T' H' => T = T' ∧ WT T H' ∧ wfr [(42, 9), (42, 13), (42, 14)] T H H' ∧ ∃ z : Int, some (vI z) = r ∧ (0 ≤ z ∧ z ≤ 5) ∧ (wJ H' r0 = 1) ∧ (H r0 10 ≤ H' r0 10) ∧ (wOV H r0 ≤ wOV H' r0) ∧ (wOV H' r0 ≤ 1)
set_option maxHeartbeats 4000000 in
theorem s_195 {kt : Nat → Option mc_E} {T : wq_T} {H : wq_H} {r0 : Nat} {rp : Nat} (hW : WT T H) (g0 : T.2.2.2 r0 = some 42) (qrp : H r0 4 = (rp : Int)) (grp : T.2.2.2 rp = some 54) (p0 : wJ H r0 = 1) : wpc kt 4 195 [.ref r0] T H (q_195 r0 rp T H) := by
  refine wp_enter e195 (Nat.le_of_ble_eq_true rfl) rfl ?_
  have f0 : wfr [(42, 9), (42, 13), (42, 14)] T H H := wfr.rf
  show wp _ _ 195 0 [(0, .ref r0)] [] _ H _
  have hb0 := wOV_b (H := H) (m := r0)
  refine wp_of e195 c195_0 (rw_aload_n (pc' := 1) (v := .ref r0) rfl rfl rfl ?_)
  refine wp_of e195 c195_1 (xc_V (pc' := 4) (r := r0) (as := []) (st := []) (lm_9_162) rfl rfl (Nat.le_of_ble_eq_true rfl) hW g0 sh_42 (by decide) rfl (by decide) (s_189 hW g0) (fun R87635 T87636 H87637 p87638 => ?_))
  obtain ⟨e87639, e87641, z87642, e87640, b87643⟩ := p87638
  subst e87639
  subst e87640
  subst e87641
  show wp _ _ 195 4 [(0, .ref r0)] [vI z87642] _ H _
  refine wp_of e195 c195_4 (rw_if_ne (p1 := 12) (p2 := 7) (by decide) rfl ⟨by omega, by omega⟩ (fun c87644 => ?_) (fun c87644 => ?_))
  · refine wp_of e195 c195_12 (rw_aload_n (pc' := 13) (v := .ref r0) rfl rfl rfl ?_)
    refine wp_of e195 c195_13 (xg_K (pc' := 16) lf_9_166 hW g0 sh_42 (by decide) (by decide) rfl qrp rfl ?_)
    refine wp_of e195 c195_16 (rw_aload_n (pc' := 17) (v := .ref r0) rfl rfl rfl ?_)
    refine wp_of e195 c195_17 (xg_L (pc' := 20) lf_9_94 hW g0 sh_42 (by decide) (by decide) ty_42_15 rfl rfl (fun b87645 b87646 => ?_))
    refine wp_of e195 c195_20 (xc_V (pc' := 23) (r := rp) (as := [vL (H r0 15)]) (st := []) (lm_9_170) rfl rfl (Nat.le_of_ble_eq_true rfl) hW grp sh_54 (by decide) rfl (by decide) (s_190 hW grp ⟨by omega, by omega⟩) (fun R87647 T87648 H87649 p87650 => ?_))
    obtain ⟨e87651, e87653, z87654, e87652, b87655⟩ := p87650
    subst e87651
    subst e87652
    subst e87653
    show wp _ _ 195 23 [(0, .ref r0)] [vI z87654] _ H _
    refine wp_of e195 c195_23 (rw_istore_n (pc' := 24) (z := z87654) (L' := [(1, vI z87654), (0, .ref r0)]) rfl rfl rfl ?_)
    refine wp_of e195 c195_24 (rw_iload_n (pc' := 25) (z := z87654) rfl rfl ?_)
    refine wp_of e195 c195_25 (rw_iconst (pc' := 26) rfl ?_)
    refine wp_of e195 c195_26 (rw_icmp_ne (p1 := 34) (p2 := 29) (by decide) rfl ⟨by omega, by omega⟩ ⟨by omega, by omega⟩ (fun c87656 => ?_) (fun c87656 => ?_))
    · refine wp_of e195 c195_34 (rw_aload_n (pc' := 35) (v := .ref r0) rfl rfl rfl ?_)
      refine wp_of e195 c195_35 (xg_I (pc' := 38) lf_9_75 hW g0 sh_42 (by decide) (by decide) ty_42_9 rfl rfl (fun b87657 b87658 => ?_))
      have k87659 := wOV_e (H := H) (m := r0)
      refine wp_of e195 c195_38 (rw_iconst (pc' := 39) rfl ?_)
      refine wp_of e195 c195_39 (rw_icmp_ne (p1 := 46) (p2 := 42) (by decide) rfl ⟨by omega, by omega⟩ ⟨by omega, by omega⟩ (fun c87660 => ?_) (fun c87660 => ?_))
      · refine wp_of e195 c195_46 (rw_iload_n (pc' := 47) (z := z87654) rfl rfl ?_)
        exact wp_ireturn e195 c195_47 rfl ⟨rfl, hW, f0, z87654, rfl, ⟨by omega, by omega⟩, by omega, by omega, by omega, by omega⟩
      · refine wp_of e195 c195_42 (rw_iconst (pc' := 43) rfl ?_)
        refine wp_of e195 c195_43 (rw_goto (p1 := 47) (by decide) ?_)
        exact wp_ireturn e195 c195_47 rfl ⟨rfl, hW, f0, 0, rfl, ⟨by omega, by omega⟩, by omega, by omega, by omega, by omega⟩
    · refine wp_of e195 c195_29 (rw_aload_n (pc' := 30) (v := .ref r0) rfl rfl rfl ?_)
      refine wp_of e195 c195_30 (rw_iconst (pc' := 31) rfl ?_)
      refine wp_of e195 c195_31 (xc_V (pc' := 34) (r := r0) (as := [vI 2]) (st := []) (lm_9_121) rfl rfl (Nat.le_of_ble_eq_true rfl) hW g0 sh_42 (by decide) rfl (by decide) (s_181 hW g0 ⟨by omega, by omega⟩ (by omega)) (fun R87661 T87662 H87663 p87664 => ?_))
      obtain ⟨e87665, w87667, f87668, e87666, p87669, p87670, p87671, p87672, p87673, p87674⟩ := p87664
      subst e87665
      subst e87666
      have f87675 := f0.tr f87668 rfl
      show wp _ _ 195 34 [(1, vI z87654), (0, .ref r0)] [] _ H87663 _
      refine wp_of e195 c195_34 (rw_aload_n (pc' := 35) (v := .ref r0) rfl rfl rfl ?_)
      refine wp_of e195 c195_35 (xg_I (pc' := 38) lf_9_75 w87667 g0 sh_42 (by decide) (by decide) ty_42_9 rfl rfl (fun b87676 b87677 => ?_))
      have k87678 := wOV_e (H := H87663) (m := r0)
      refine wp_of e195 c195_38 (rw_iconst (pc' := 39) rfl ?_)
      refine wp_of e195 c195_39 (rw_icmp_ne (p1 := 46) (p2 := 42) (by decide) rfl ⟨by omega, by omega⟩ ⟨by omega, by omega⟩ (fun c87679 => ?_) (fun c87679 => ?_))
      · refine wp_of e195 c195_46 (rw_iload_n (pc' := 47) (z := z87654) rfl rfl ?_)
        have k87680 : H87663 r0 8 = H r0 8 := (f87668 r0 8 _ g0 rfl)
        exact wp_ireturn e195 c195_47 rfl ⟨rfl, w87667, f87675, z87654, rfl, ⟨by omega, by omega⟩, by omega, by omega, by omega, by omega⟩
      · refine wp_of e195 c195_42 (rw_iconst (pc' := 43) rfl ?_)
        refine wp_of e195 c195_43 (rw_goto (p1 := 47) (by decide) ?_)
        have k87681 : H87663 r0 8 = H r0 8 := (f87668 r0 8 _ g0 rfl)
        exact wp_ireturn e195 c195_47 rfl ⟨rfl, w87667, f87675, 0, rfl, ⟨by omega, by omega⟩, by omega, by omega, by omega, by omega⟩
  · refine wp_of e195 c195_7 (rw_aload_n (pc' := 8) (v := .ref r0) rfl rfl rfl ?_)
    refine wp_of e195 c195_8 (rw_iconst (pc' := 9) rfl ?_)
    refine wp_of e195 c195_9 (xc_V (pc' := 12) (r := r0) (as := [vI 1]) (st := []) (lm_9_121) rfl rfl (Nat.le_of_ble_eq_true rfl) hW g0 sh_42 (by decide) rfl (by decide) (s_181 hW g0 ⟨by omega, by omega⟩ (by omega)) (fun R87682 T87683 H87684 p87685 => ?_))
    obtain ⟨e87686, w87688, f87689, e87687, p87690, p87691, p87692, p87693, p87694, p87695⟩ := p87685
    subst e87686
    subst e87687
    have f87696 := f0.tr f87689 rfl
    show wp _ _ 195 12 [(0, .ref r0)] [] _ H87684 _
    refine wp_of e195 c195_12 (rw_aload_n (pc' := 13) (v := .ref r0) rfl rfl rfl ?_)
    have k87697 : H87684 r0 4 = H r0 4 := (f87689 r0 4 _ g0 rfl)
    have q87698 : H87684 r0 4 = (rp : Int) := k87697.trans qrp
    refine wp_of e195 c195_13 (xg_K (pc' := 16) lf_9_166 w87688 g0 sh_42 (by decide) (by decide) rfl q87698 rfl ?_)
    refine wp_of e195 c195_16 (rw_aload_n (pc' := 17) (v := .ref r0) rfl rfl rfl ?_)
    refine wp_of e195 c195_17 (xg_L (pc' := 20) lf_9_94 w87688 g0 sh_42 (by decide) (by decide) ty_42_15 rfl rfl (fun b87699 b87700 => ?_))
    refine wp_of e195 c195_20 (xc_V (pc' := 23) (r := rp) (as := [vL (H87684 r0 15)]) (st := []) (lm_9_170) rfl rfl (Nat.le_of_ble_eq_true rfl) w87688 grp sh_54 (by decide) rfl (by decide) (s_190 w87688 grp ⟨by omega, by omega⟩) (fun R87701 T87702 H87703 p87704 => ?_))
    obtain ⟨e87705, e87707, z87708, e87706, b87709⟩ := p87704
    subst e87705
    subst e87706
    subst e87707
    show wp _ _ 195 23 [(0, .ref r0)] [vI z87708] _ H87684 _
    refine wp_of e195 c195_23 (rw_istore_n (pc' := 24) (z := z87708) (L' := [(1, vI z87708), (0, .ref r0)]) rfl rfl rfl ?_)
    refine wp_of e195 c195_24 (rw_iload_n (pc' := 25) (z := z87708) rfl rfl ?_)
    refine wp_of e195 c195_25 (rw_iconst (pc' := 26) rfl ?_)
    refine wp_of e195 c195_26 (rw_icmp_ne (p1 := 34) (p2 := 29) (by decide) rfl ⟨by omega, by omega⟩ ⟨by omega, by omega⟩ (fun c87710 => ?_) (fun c87710 => ?_))
    · refine wp_of e195 c195_34 (rw_aload_n (pc' := 35) (v := .ref r0) rfl rfl rfl ?_)
      refine wp_of e195 c195_35 (xg_I (pc' := 38) lf_9_75 w87688 g0 sh_42 (by decide) (by decide) ty_42_9 rfl rfl (fun b87711 b87712 => ?_))
      have k87713 := wOV_e (H := H87684) (m := r0)
      refine wp_of e195 c195_38 (rw_iconst (pc' := 39) rfl ?_)
      refine wp_of e195 c195_39 (rw_icmp_ne (p1 := 46) (p2 := 42) (by decide) rfl ⟨by omega, by omega⟩ ⟨by omega, by omega⟩ (fun c87714 => ?_) (fun c87714 => ?_))
      · refine wp_of e195 c195_46 (rw_iload_n (pc' := 47) (z := z87708) rfl rfl ?_)
        have k87715 : H87684 r0 8 = H r0 8 := (f87689 r0 8 _ g0 rfl)
        exact wp_ireturn e195 c195_47 rfl ⟨rfl, w87688, f87696, z87708, rfl, ⟨by omega, by omega⟩, by omega, by omega, by omega, by omega⟩
      · refine wp_of e195 c195_42 (rw_iconst (pc' := 43) rfl ?_)
        refine wp_of e195 c195_43 (rw_goto (p1 := 47) (by decide) ?_)
        have k87716 : H87684 r0 8 = H r0 8 := (f87689 r0 8 _ g0 rfl)
        exact wp_ireturn e195 c195_47 rfl ⟨rfl, w87688, f87696, 0, rfl, ⟨by omega, by omega⟩, by omega, by omega, by omega, by omega⟩
    · refine wp_of e195 c195_29 (rw_aload_n (pc' := 30) (v := .ref r0) rfl rfl rfl ?_)
      refine wp_of e195 c195_30 (rw_iconst (pc' := 31) rfl ?_)
      refine wp_of e195 c195_31 (xc_V (pc' := 34) (r := r0) (as := [vI 2]) (st := []) (lm_9_121) rfl rfl (Nat.le_of_ble_eq_true rfl) w87688 g0 sh_42 (by decide) rfl (by decide) (s_181 w87688 g0 ⟨by omega, by omega⟩ (by omega)) (fun R87717 T87718 H87719 p87720 => ?_))
      obtain ⟨e87721, w87723, f87724, e87722, p87725, p87726, p87727, p87728, p87729, p87730⟩ := p87720
      subst e87721
      subst e87722
      have f87731 := f87696.tr f87724 rfl
      show wp _ _ 195 34 [(1, vI z87708), (0, .ref r0)] [] _ H87719 _
      refine wp_of e195 c195_34 (rw_aload_n (pc' := 35) (v := .ref r0) rfl rfl rfl ?_)
      refine wp_of e195 c195_35 (xg_I (pc' := 38) lf_9_75 w87723 g0 sh_42 (by decide) (by decide) ty_42_9 rfl rfl (fun b87732 b87733 => ?_))
      have k87734 := wOV_e (H := H87719) (m := r0)
      refine wp_of e195 c195_38 (rw_iconst (pc' := 39) rfl ?_)
      refine wp_of e195 c195_39 (rw_icmp_ne (p1 := 46) (p2 := 42) (by decide) rfl ⟨by omega, by omega⟩ ⟨by omega, by omega⟩ (fun c87735 => ?_) (fun c87735 => ?_))
      · refine wp_of e195 c195_46 (rw_iload_n (pc' := 47) (z := z87708) rfl rfl ?_)
        have k87736 : H87719 r0 8 = H r0 8 := ((f87724 r0 8 _ g0 rfl).trans (f87689 r0 8 _ g0 rfl))
        exact wp_ireturn e195 c195_47 rfl ⟨rfl, w87723, f87731, z87708, rfl, ⟨by omega, by omega⟩, by omega, by omega, by omega, by omega⟩
      · refine wp_of e195 c195_42 (rw_iconst (pc' := 43) rfl ?_)
        refine wp_of e195 c195_43 (rw_goto (p1 := 47) (by decide) ?_)
        have k87737 : H87719 r0 8 = H r0 8 := ((f87724 r0 8 _ g0 rfl).trans (f87689 r0 8 _ g0 rfl))
        exact wp_ireturn e195 c195_47 rfl ⟨rfl, w87723, f87731, 0, rfl, ⟨by omega, by omega⟩, by omega, by omega, by omega, by omega⟩
/-! StrikeAwakeModel.readKnown()I -/
theorem e194 : wq_en 194 = some (9, 2, false, some FieldType.int) := rfl
theorem c194_0 : mc_cd 194 0 = some (.aload_n 0, 1) := by decide +kernel
theorem c194_1 : mc_cd 194 1 = some (.invokevirtual 176, 3) := by decide +kernel
theorem c194_4 : mc_cd 194 4 = some (.istore_n 1, 1) := by decide +kernel
theorem c194_5 : mc_cd 194 5 = some (.aload_n 0, 1) := by decide +kernel
theorem c194_6 : mc_cd 194 6 = some (.invokevirtual 118, 3) := by decide +kernel
theorem c194_9 : mc_cd 194 9 = some (.iload_n 1, 1) := by decide +kernel
theorem c194_10 : mc_cd 194 10 = some (.ireturn, 1) := by decide +kernel
abbrev q_194 (r0 : Nat) (rp : Nat) (T : wq_T) (H : wq_H) : Option Value → wq_T → wq_H → Prop := fun r T' H' => T = T' ∧ WT T H' ∧ wfr [(42, 8), (42, 9), (42, 10), (42, 11), (42, 12), (42, 13), (42, 14), (42, 15)] T H H' ∧ ∃ z : Int, some (vI z) = r ∧ (0 ≤ z ∧ z ≤ 5) ∧ (wJ H' r0 = 1) ∧ (H r0 10 ≤ H' r0 10) ∧ (wOV H r0 ≤ wOV H' r0) ∧ (wOV H' r0 ≤ 1)
set_option maxHeartbeats 4000000 in
theorem s_194 {kt : Nat → Option mc_E} {T : wq_T} {H : wq_H} {r0 : Nat} {rp : Nat} (hW : WT T H) (g0 : T.2.2.2 r0 = some 42) (qrp : H r0 4 = (rp : Int)) (grp : T.2.2.2 rp = some 54) (p0 : wJ H r0 = 1) : wpc kt 5 194 [.ref r0] T H (q_194 r0 rp T H) := by
  refine wp_enter e194 (Nat.le_of_ble_eq_true rfl) rfl ?_
  have f0 : wfr [(42, 8), (42, 9), (42, 10), (42, 11), (42, 12), (42, 13), (42, 14), (42, 15)] T H H := wfr.rf
  show wp _ _ 194 0 [(0, .ref r0)] [] _ H _
  have hb0 := wOV_b (H := H) (m := r0)
  refine wp_of e194 c194_0 (rw_aload_n (pc' := 1) (v := .ref r0) rfl rfl rfl ?_)
  refine wp_of e194 c194_1 (xc_V (pc' := 4) (r := r0) (as := []) (st := []) (lm_9_176) rfl rfl (Nat.le_of_ble_eq_true rfl) hW g0 sh_42 (by decide) rfl (by decide) (s_195 hW g0 qrp grp (by omega)) (fun R87768 T87769 H87770 p87771 => ?_))
  obtain ⟨e87772, w87774, f87775, z87780, e87773, b87781, p87776, p87777, p87778, p87779⟩ := p87771
  subst e87772
  subst e87773
  have f87782 := f0.tr f87775 rfl
  show wp _ _ 194 4 [(0, .ref r0)] [vI z87780] _ H87770 _
  refine wp_of e194 c194_4 (rw_istore_n (pc' := 5) (z := z87780) (L' := [(1, vI z87780), (0, .ref r0)]) rfl rfl rfl ?_)
  refine wp_of e194 c194_5 (rw_aload_n (pc' := 6) (v := .ref r0) rfl rfl rfl ?_)
  refine wp_of e194 c194_6 (xc_V (pc' := 9) (r := r0) (as := []) (st := []) (lm_9_118) rfl rfl (Nat.le_of_ble_eq_true rfl) w87774 g0 sh_42 (by decide) rfl (by decide) (s_172 w87774 g0 (by omega)) (fun R87783 T87784 H87785 p87786 => ?_))
  obtain ⟨e87787, w87789, f87790, e87788, p87791, p87792, p87793, p87794, p87795, p87796⟩ := p87786
  subst e87787
  subst e87788
  have f87797 := f87782.tr f87790 rfl
  show wp _ _ 194 9 [(1, vI z87780), (0, .ref r0)] [] _ H87785 _
  refine wp_of e194 c194_9 (rw_iload_n (pc' := 10) (z := z87780) rfl rfl ?_)
  exact wp_ireturn e194 c194_10 rfl ⟨rfl, w87789, f87797, z87780, rfl, ⟨by omega, by omega⟩, by omega, by omega, by omega, by omega⟩
/-! StrikeAwakeModel.readSexton()V -/
theorem e193 : wq_en 193 = some (9, 2, false, none) := rfl
theorem c193_0 : mc_cd 193 0 = some (.aload_n 0, 1) := by decide +kernel
theorem c193_1 : mc_cd 193 1 = some (.getfield 166, 3) := by decide +kernel
theorem c193_4 : mc_cd 193 4 = some (.getfield 271, 3) := by decide +kernel
theorem c193_7 : mc_cd 193 7 = some (.iconst (-1), 1) := by decide +kernel
theorem c193_8 : mc_cd 193 8 = some (.if_icmp .eq 8, 3) := by decide +kernel
theorem c193_11 : mc_cd 193 11 = some (.aload_n 0, 1) := by decide +kernel
theorem c193_12 : mc_cd 193 12 = some (.iconst 3, 1) := by decide +kernel
theorem c193_13 : mc_cd 193 13 = some (.invokevirtual 121, 3) := by decide +kernel
theorem c193_16 : mc_cd 193 16 = some (.aload_n 0, 1) := by decide +kernel
theorem c193_17 : mc_cd 193 17 = some (.invokevirtual 118, 3) := by decide +kernel
theorem c193_20 : mc_cd 193 20 = some (.aload_n 0, 1) := by decide +kernel
theorem c193_21 : mc_cd 193 21 = some (.invokevirtual 273, 3) := by decide +kernel
theorem c193_24 : mc_cd 193 24 = some (.istore_n 1, 1) := by decide +kernel
theorem c193_25 : mc_cd 193 25 = some (.aload_n 0, 1) := by decide +kernel
theorem c193_26 : mc_cd 193 26 = some (.getfield 75, 3) := by decide +kernel
theorem c193_29 : mc_cd 193 29 = some (.iconst 5, 1) := by decide +kernel
theorem c193_30 : mc_cd 193 30 = some (.if_icmp .eq 11, 3) := by decide +kernel
theorem c193_33 : mc_cd 193 33 = some (.aload_n 0, 1) := by decide +kernel
theorem c193_34 : mc_cd 193 34 = some (.getfield 166, 3) := by decide +kernel
theorem c193_37 : mc_cd 193 37 = some (.iload_n 1, 1) := by decide +kernel
theorem c193_38 : mc_cd 193 38 = some (.putfield 271, 3) := by decide +kernel
theorem c193_41 : mc_cd 193 41 = some (.return_, 1) := by decide +kernel
abbrev q_193 (r0 : Nat) (rp : Nat) (T : wq_T) (H : wq_H) : Option Value → wq_T → wq_H → Prop := fun r T' H' => T = T' ∧ WT T H' ∧ wfr [(54, 8), (42, 8), (42, 9), (42, 10), (42, 11), (42, 12), (42, 13), (42, 14), (42, 15)] T H H' ∧ none = r ∧ (wJ H' r0 = 1) ∧ (H r0 10 ≤ H' r0 10) ∧ (wOV H r0 ≤ wOV H' r0) ∧ (wOV H' r0 ≤ 1)
set_option maxHeartbeats 4000000 in
theorem s_193 {kt : Nat → Option mc_E} {T : wq_T} {H : wq_H} {r0 : Nat} {rp : Nat} (hW : WT T H) (g0 : T.2.2.2 r0 = some 42) (qrp : H r0 4 = (rp : Int)) (grp : T.2.2.2 rp = some 54) (p0 : wJ H r0 = 1) : wpc kt 6 193 [.ref r0] T H (q_193 r0 rp T H) := by
  refine wp_enter e193 (Nat.le_of_ble_eq_true rfl) rfl ?_
  have f0 : wfr [(54, 8), (42, 8), (42, 9), (42, 10), (42, 11), (42, 12), (42, 13), (42, 14), (42, 15)] T H H := wfr.rf
  show wp _ _ 193 0 [(0, .ref r0)] [] _ H _
  have hb0 := wOV_b (H := H) (m := r0)
  refine wp_of e193 c193_0 (rw_aload_n (pc' := 1) (v := .ref r0) rfl rfl rfl ?_)
  refine wp_of e193 c193_1 (xg_K (pc' := 4) lf_9_166 hW g0 sh_42 (by decide) (by decide) rfl qrp rfl ?_)
  refine wp_of e193 c193_4 (xg_I (pc' := 7) lf_9_271 hW grp sh_54 (by decide) (by decide) ty_54_8 rfl rfl (fun b87910 b87911 => ?_))
  refine wp_of e193 c193_7 (rw_iconst (pc' := 8) rfl ?_)
  refine wp_of e193 c193_8 (rw_icmp_eq (p1 := 16) (p2 := 11) (by decide) rfl ⟨by omega, by omega⟩ ⟨by omega, by omega⟩ (fun c87912 => ?_) (fun c87912 => ?_))
  · refine wp_of e193 c193_16 (rw_aload_n (pc' := 17) (v := .ref r0) rfl rfl rfl ?_)
    refine wp_of e193 c193_17 (xc_V (pc' := 20) (r := r0) (as := []) (st := []) (lm_9_118) rfl rfl (Nat.le_of_ble_eq_true rfl) hW g0 sh_42 (by decide) rfl (by decide) (s_172 hW g0 (by omega)) (fun R87913 T87914 H87915 p87916 => ?_))
    obtain ⟨e87917, w87919, f87920, e87918, p87921, p87922, p87923, p87924, p87925, p87926⟩ := p87916
    subst e87917
    subst e87918
    have f87927 := f0.tr f87920 rfl
    show wp _ _ 193 20 [(0, .ref r0)] [] _ H87915 _
    refine wp_of e193 c193_20 (rw_aload_n (pc' := 21) (v := .ref r0) rfl rfl rfl ?_)
    have k87928 : H87915 r0 4 = H r0 4 := (f87920 r0 4 _ g0 rfl)
    have q87929 : H87915 r0 4 = (rp : Int) := k87928.trans qrp
    refine wp_of e193 c193_21 (xc_V (pc' := 24) (r := r0) (as := []) (st := []) (lm_9_273) rfl rfl (Nat.le_of_ble_eq_true rfl) w87919 g0 sh_42 (by decide) rfl (by decide) (s_194 w87919 g0 q87929 grp (by omega)) (fun R87930 T87931 H87932 p87933 => ?_))
    obtain ⟨e87934, w87936, f87937, z87942, e87935, b87943, p87938, p87939, p87940, p87941⟩ := p87933
    subst e87934
    subst e87935
    have f87944 := f87927.tr f87937 rfl
    show wp _ _ 193 24 [(0, .ref r0)] [vI z87942] _ H87932 _
    refine wp_of e193 c193_24 (rw_istore_n (pc' := 25) (z := z87942) (L' := [(1, vI z87942), (0, .ref r0)]) rfl rfl rfl ?_)
    refine wp_of e193 c193_25 (rw_aload_n (pc' := 26) (v := .ref r0) rfl rfl rfl ?_)
    refine wp_of e193 c193_26 (xg_I (pc' := 29) lf_9_75 w87936 g0 sh_42 (by decide) (by decide) ty_42_9 rfl rfl (fun b87945 b87946 => ?_))
    have k87947 := wOV_e (H := H87932) (m := r0)
    refine wp_of e193 c193_29 (rw_iconst (pc' := 30) rfl ?_)
    refine wp_of e193 c193_30 (rw_icmp_eq (p1 := 41) (p2 := 33) (by decide) rfl ⟨by omega, by omega⟩ ⟨by omega, by omega⟩ (fun c87948 => ?_) (fun c87948 => ?_))
    · exact wp_return e193 c193_41 rfl ⟨rfl, w87936, f87944, rfl, by omega, by omega, by omega, by omega⟩
    · refine wp_of e193 c193_33 (rw_aload_n (pc' := 34) (v := .ref r0) rfl rfl rfl ?_)
      have k87949 : H87932 r0 4 = H87915 r0 4 := (f87937 r0 4 _ g0 rfl)
      have q87950 : H87932 r0 4 = (rp : Int) := k87949.trans q87929
      refine wp_of e193 c193_34 (xg_K (pc' := 37) lf_9_166 w87936 g0 sh_42 (by decide) (by decide) rfl q87950 rfl ?_)
      refine wp_of e193 c193_37 (rw_iload_n (pc' := 38) (z := z87942) rfl rfl ?_)
      refine wp_of e193 c193_38 (xp_I (pc' := 41) lf_9_271 w87936 grp sh_54 (by decide) (by decide) ty_54_8 rfl rfl (by omega) (by omega) ⟨by omega, by omega⟩ rfl (fun H87951 e87952 w87953 => ?_))
      have f87954 := f87944.put' e87952 grp rfl
      have k87955 : H87951 rp 8 = z87942 := wq_u_s e87952
      have k87956 : H87951 r0 9 = H87932 r0 9 := (wq_u_t e87952 grp g0 rfl 9)
      have k87957 : H87951 r0 10 = H87932 r0 10 := (wq_u_t e87952 grp g0 rfl 10)
      have k87958 : wOV H87951 r0 = wOV H87932 r0 := (wOV_fr w87936 g0 ((wfr.rf (l := [(54, 8)])).put' e87952 grp rfl) rfl)
      have k87959 : wJ H87951 r0 = wJ H87932 r0 := (wJ_fr w87936 g0 ((wfr.rf (l := [(54, 8)])).put' e87952 grp rfl) rfl)
      exact wp_return e193 c193_41 rfl ⟨rfl, w87953, f87954, rfl, by omega, by omega, by omega, by omega⟩
  · refine wp_of e193 c193_11 (rw_aload_n (pc' := 12) (v := .ref r0) rfl rfl rfl ?_)
    refine wp_of e193 c193_12 (rw_iconst (pc' := 13) rfl ?_)
    refine wp_of e193 c193_13 (xc_V (pc' := 16) (r := r0) (as := [vI 3]) (st := []) (lm_9_121) rfl rfl (Nat.le_of_ble_eq_true rfl) hW g0 sh_42 (by decide) rfl (by decide) (s_181 hW g0 ⟨by omega, by omega⟩ (by omega)) (fun R87960 T87961 H87962 p87963 => ?_))
    obtain ⟨e87964, w87966, f87967, e87965, p87968, p87969, p87970, p87971, p87972, p87973⟩ := p87963
    subst e87964
    subst e87965
    have f87974 := f0.tr f87967 rfl
    show wp _ _ 193 16 [(0, .ref r0)] [] _ H87962 _
    refine wp_of e193 c193_16 (rw_aload_n (pc' := 17) (v := .ref r0) rfl rfl rfl ?_)
    refine wp_of e193 c193_17 (xc_V (pc' := 20) (r := r0) (as := []) (st := []) (lm_9_118) rfl rfl (Nat.le_of_ble_eq_true rfl) w87966 g0 sh_42 (by decide) rfl (by decide) (s_172 w87966 g0 (by omega)) (fun R87975 T87976 H87977 p87978 => ?_))
    obtain ⟨e87979, w87981, f87982, e87980, p87983, p87984, p87985, p87986, p87987, p87988⟩ := p87978
    subst e87979
    subst e87980
    have f87989 := f87974.tr f87982 rfl
    show wp _ _ 193 20 [(0, .ref r0)] [] _ H87977 _
    refine wp_of e193 c193_20 (rw_aload_n (pc' := 21) (v := .ref r0) rfl rfl rfl ?_)
    have k87990 : H87977 r0 4 = H r0 4 := ((f87982 r0 4 _ g0 rfl).trans (f87967 r0 4 _ g0 rfl))
    have q87991 : H87977 r0 4 = (rp : Int) := k87990.trans qrp
    refine wp_of e193 c193_21 (xc_V (pc' := 24) (r := r0) (as := []) (st := []) (lm_9_273) rfl rfl (Nat.le_of_ble_eq_true rfl) w87981 g0 sh_42 (by decide) rfl (by decide) (s_194 w87981 g0 q87991 grp (by omega)) (fun R87992 T87993 H87994 p87995 => ?_))
    obtain ⟨e87996, w87998, f87999, z88004, e87997, b88005, p88000, p88001, p88002, p88003⟩ := p87995
    subst e87996
    subst e87997
    have f88006 := f87989.tr f87999 rfl
    show wp _ _ 193 24 [(0, .ref r0)] [vI z88004] _ H87994 _
    refine wp_of e193 c193_24 (rw_istore_n (pc' := 25) (z := z88004) (L' := [(1, vI z88004), (0, .ref r0)]) rfl rfl rfl ?_)
    refine wp_of e193 c193_25 (rw_aload_n (pc' := 26) (v := .ref r0) rfl rfl rfl ?_)
    refine wp_of e193 c193_26 (xg_I (pc' := 29) lf_9_75 w87998 g0 sh_42 (by decide) (by decide) ty_42_9 rfl rfl (fun b88007 b88008 => ?_))
    have k88009 := wOV_e (H := H87994) (m := r0)
    refine wp_of e193 c193_29 (rw_iconst (pc' := 30) rfl ?_)
    refine wp_of e193 c193_30 (rw_icmp_eq (p1 := 41) (p2 := 33) (by decide) rfl ⟨by omega, by omega⟩ ⟨by omega, by omega⟩ (fun c88010 => ?_) (fun c88010 => ?_))
    · exact wp_return e193 c193_41 rfl ⟨rfl, w87998, f88006, rfl, by omega, by omega, by omega, by omega⟩
    · refine wp_of e193 c193_33 (rw_aload_n (pc' := 34) (v := .ref r0) rfl rfl rfl ?_)
      have k88011 : H87994 r0 4 = H87977 r0 4 := (f87999 r0 4 _ g0 rfl)
      have q88012 : H87994 r0 4 = (rp : Int) := k88011.trans q87991
      refine wp_of e193 c193_34 (xg_K (pc' := 37) lf_9_166 w87998 g0 sh_42 (by decide) (by decide) rfl q88012 rfl ?_)
      refine wp_of e193 c193_37 (rw_iload_n (pc' := 38) (z := z88004) rfl rfl ?_)
      refine wp_of e193 c193_38 (xp_I (pc' := 41) lf_9_271 w87998 grp sh_54 (by decide) (by decide) ty_54_8 rfl rfl (by omega) (by omega) ⟨by omega, by omega⟩ rfl (fun H88013 e88014 w88015 => ?_))
      have f88016 := f88006.put' e88014 grp rfl
      have k88017 : H88013 rp 8 = z88004 := wq_u_s e88014
      have k88018 : H88013 r0 9 = H87994 r0 9 := (wq_u_t e88014 grp g0 rfl 9)
      have k88019 : H88013 r0 10 = H87994 r0 10 := (wq_u_t e88014 grp g0 rfl 10)
      have k88020 : wOV H88013 r0 = wOV H87994 r0 := (wOV_fr w87998 g0 ((wfr.rf (l := [(54, 8)])).put' e88014 grp rfl) rfl)
      have k88021 : wJ H88013 r0 = wJ H87994 r0 := (wJ_fr w87998 g0 ((wfr.rf (l := [(54, 8)])).put' e88014 grp rfl) rfl)
      exact wp_return e193 c193_41 rfl ⟨rfl, w88015, f88016, rfl, by omega, by omega, by omega, by omega⟩
/-! StrikeAwakeModel.needsSign(I)V -/
theorem e197 : wq_en 197 = some (9, 2, false, none) := rfl
theorem c197_0 : mc_cd 197 0 = some (.aload_n 0, 1) := by decide +kernel
theorem c197_1 : mc_cd 197 1 = some (.getfield 75, 3) := by decide +kernel
theorem c197_4 : mc_cd 197 4 = some (.iconst 4, 1) := by decide +kernel
theorem c197_5 : mc_cd 197 5 = some (.if_icmp .ne 11, 3) := by decide +kernel
theorem c197_8 : mc_cd 197 8 = some (.aload_n 0, 1) := by decide +kernel
theorem c197_9 : mc_cd 197 9 = some (.getfield 87, 3) := by decide +kernel
theorem c197_12 : mc_cd 197 12 = some (.iload_n 1, 1) := by decide +kernel
theorem c197_13 : mc_cd 197 13 = some (.if_icmp .eq 8, 3) := by decide +kernel
theorem c197_16 : mc_cd 197 16 = some (.aload_n 0, 1) := by decide +kernel
theorem c197_17 : mc_cd 197 17 = some (.iconst 1, 1) := by decide +kernel
theorem c197_18 : mc_cd 197 18 = some (.invokevirtual 121, 3) := by decide +kernel
theorem c197_21 : mc_cd 197 21 = some (.aload_n 0, 1) := by decide +kernel
theorem c197_22 : mc_cd 197 22 = some (.invokevirtual 118, 3) := by decide +kernel
theorem c197_25 : mc_cd 197 25 = some (.return_, 1) := by decide +kernel
abbrev q_197 (r0 : Nat) (a1 : Int) (T : wq_T) (H : wq_H) : Option Value → wq_T → wq_H → Prop := fun r T' H' => T = T' ∧ WT T H' ∧ wfr [(42, 8), (42, 9), (42, 10), (42, 11), (42, 12), (42, 13), (42, 14), (42, 15)] T H H' ∧ none = r ∧ (wJ H' r0 = 1) ∧ (H r0 10 ≤ H' r0 10) ∧ (wOV H r0 ≤ wOV H' r0) ∧ (wOV H' r0 ≤ 1)
set_option maxHeartbeats 4000000 in
theorem s_197 {kt : Nat → Option mc_E} {T : wq_T} {H : wq_H} {r0 : Nat} {a1 : Int} (hW : WT T H) (g0 : T.2.2.2 r0 = some 42) (i1 : (-2147483648) ≤ a1 ∧ a1 ≤ 2147483647) (p0 : wJ H r0 = 1) : wpc kt 3 197 [.ref r0, vI a1] T H (q_197 r0 a1 T H) := by
  refine wp_enter e197 (Nat.le_of_ble_eq_true rfl) rfl ?_
  have f0 : wfr [(42, 8), (42, 9), (42, 10), (42, 11), (42, 12), (42, 13), (42, 14), (42, 15)] T H H := wfr.rf
  show wp _ _ 197 0 [(0, .ref r0), (1, vI a1)] [] _ H _
  have hb0 := wOV_b (H := H) (m := r0)
  refine wp_of e197 c197_0 (rw_aload_n (pc' := 1) (v := .ref r0) rfl rfl rfl ?_)
  refine wp_of e197 c197_1 (xg_I (pc' := 4) lf_9_75 hW g0 sh_42 (by decide) (by decide) ty_42_9 rfl rfl (fun b88104 b88105 => ?_))
  have k88106 := wOV_e (H := H) (m := r0)
  refine wp_of e197 c197_4 (rw_iconst (pc' := 5) rfl ?_)
  refine wp_of e197 c197_5 (rw_icmp_ne (p1 := 16) (p2 := 8) (by decide) rfl ⟨by omega, by omega⟩ ⟨by omega, by omega⟩ (fun c88107 => ?_) (fun c88107 => ?_))
  · refine wp_of e197 c197_16 (rw_aload_n (pc' := 17) (v := .ref r0) rfl rfl rfl ?_)
    refine wp_of e197 c197_17 (rw_iconst (pc' := 18) rfl ?_)
    refine wp_of e197 c197_18 (xc_V (pc' := 21) (r := r0) (as := [vI 1]) (st := []) (lm_9_121) rfl rfl (Nat.le_of_ble_eq_true rfl) hW g0 sh_42 (by decide) rfl (by decide) (s_181 hW g0 ⟨by omega, by omega⟩ (by omega)) (fun R88108 T88109 H88110 p88111 => ?_))
    obtain ⟨e88112, w88114, f88115, e88113, p88116, p88117, p88118, p88119, p88120, p88121⟩ := p88111
    subst e88112
    subst e88113
    have f88122 := f0.tr f88115 rfl
    show wp _ _ 197 21 [(0, .ref r0), (1, vI a1)] [] _ H88110 _
    refine wp_of e197 c197_21 (rw_aload_n (pc' := 22) (v := .ref r0) rfl rfl rfl ?_)
    refine wp_of e197 c197_22 (xc_V (pc' := 25) (r := r0) (as := []) (st := []) (lm_9_118) rfl rfl (Nat.le_of_ble_eq_true rfl) w88114 g0 sh_42 (by decide) rfl (by decide) (s_172 w88114 g0 (by omega)) (fun R88123 T88124 H88125 p88126 => ?_))
    obtain ⟨e88127, w88129, f88130, e88128, p88131, p88132, p88133, p88134, p88135, p88136⟩ := p88126
    subst e88127
    subst e88128
    have f88137 := f88122.tr f88130 rfl
    show wp _ _ 197 25 [(0, .ref r0), (1, vI a1)] [] _ H88125 _
    exact wp_return e197 c197_25 rfl ⟨rfl, w88129, f88137, rfl, by omega, by omega, by omega, by omega⟩
  · refine wp_of e197 c197_8 (rw_aload_n (pc' := 9) (v := .ref r0) rfl rfl rfl ?_)
    refine wp_of e197 c197_9 (xg_I (pc' := 12) lf_9_87 hW g0 sh_42 (by decide) (by decide) ty_42_11 rfl rfl (fun b88138 b88139 => ?_))
    refine wp_of e197 c197_12 (rw_iload_n (pc' := 13) (z := a1) rfl rfl ?_)
    refine wp_of e197 c197_13 (rw_icmp_eq (p1 := 21) (p2 := 16) (by decide) rfl ⟨by omega, by omega⟩ ⟨by omega, by omega⟩ (fun c88140 => ?_) (fun c88140 => ?_))
    · refine wp_of e197 c197_21 (rw_aload_n (pc' := 22) (v := .ref r0) rfl rfl rfl ?_)
      refine wp_of e197 c197_22 (xc_V (pc' := 25) (r := r0) (as := []) (st := []) (lm_9_118) rfl rfl (Nat.le_of_ble_eq_true rfl) hW g0 sh_42 (by decide) rfl (by decide) (s_172 hW g0 (by omega)) (fun R88141 T88142 H88143 p88144 => ?_))
      obtain ⟨e88145, w88147, f88148, e88146, p88149, p88150, p88151, p88152, p88153, p88154⟩ := p88144
      subst e88145
      subst e88146
      have f88155 := f0.tr f88148 rfl
      show wp _ _ 197 25 [(0, .ref r0), (1, vI a1)] [] _ H88143 _
      exact wp_return e197 c197_25 rfl ⟨rfl, w88147, f88155, rfl, by omega, by omega, by omega, by omega⟩
    · refine wp_of e197 c197_16 (rw_aload_n (pc' := 17) (v := .ref r0) rfl rfl rfl ?_)
      refine wp_of e197 c197_17 (rw_iconst (pc' := 18) rfl ?_)
      refine wp_of e197 c197_18 (xc_V (pc' := 21) (r := r0) (as := [vI 1]) (st := []) (lm_9_121) rfl rfl (Nat.le_of_ble_eq_true rfl) hW g0 sh_42 (by decide) rfl (by decide) (s_181 hW g0 ⟨by omega, by omega⟩ (by omega)) (fun R88156 T88157 H88158 p88159 => ?_))
      obtain ⟨e88160, w88162, f88163, e88161, p88164, p88165, p88166, p88167, p88168, p88169⟩ := p88159
      subst e88160
      subst e88161
      have f88170 := f0.tr f88163 rfl
      show wp _ _ 197 21 [(0, .ref r0), (1, vI a1)] [] _ H88158 _
      refine wp_of e197 c197_21 (rw_aload_n (pc' := 22) (v := .ref r0) rfl rfl rfl ?_)
      refine wp_of e197 c197_22 (xc_V (pc' := 25) (r := r0) (as := []) (st := []) (lm_9_118) rfl rfl (Nat.le_of_ble_eq_true rfl) w88162 g0 sh_42 (by decide) rfl (by decide) (s_172 w88162 g0 (by omega)) (fun R88171 T88172 H88173 p88174 => ?_))
      obtain ⟨e88175, w88177, f88178, e88176, p88179, p88180, p88181, p88182, p88183, p88184⟩ := p88174
      subst e88175
      subst e88176
      have f88185 := f88170.tr f88178 rfl
      show wp _ _ 197 25 [(0, .ref r0), (1, vI a1)] [] _ H88173 _
      exact wp_return e197 c197_25 rfl ⟨rfl, w88177, f88185, rfl, by omega, by omega, by omega, by omega⟩
/-! StrikeAwakeModel.readApart()V -/
theorem e196 : wq_en 196 = some (9, 5, false, none) := rfl
theorem c196_0 : mc_cd 196 0 = some (.aload_n 0, 1) := by decide +kernel
theorem c196_1 : mc_cd 196 1 = some (.aload_n 0, 1) := by decide +kernel
theorem c196_2 : mc_cd 196 2 = some (.getfield 166, 3) := by decide +kernel
theorem c196_5 : mc_cd 196 5 = some (.getfield 276, 3) := by decide +kernel
theorem c196_8 : mc_cd 196 8 = some (.iconst 3, 1) := by decide +kernel
theorem c196_9 : mc_cd 196 9 = some (.invokevirtual 228, 3) := by decide +kernel
theorem c196_12 : mc_cd 196 12 = some (.aload_n 0, 1) := by decide +kernel
theorem c196_13 : mc_cd 196 13 = some (.invokevirtual 273, 3) := by decide +kernel
theorem c196_16 : mc_cd 196 16 = some (.istore_n 1, 1) := by decide +kernel
theorem c196_17 : mc_cd 196 17 = some (.aload_n 0, 1) := by decide +kernel
theorem c196_18 : mc_cd 196 18 = some (.bipush 44, 2) := by decide +kernel
theorem c196_20 : mc_cd 196 20 = some (.invokevirtual 279, 3) := by decide +kernel
theorem c196_23 : mc_cd 196 23 = some (.aload_n 0, 1) := by decide +kernel
theorem c196_24 : mc_cd 196 24 = some (.invokevirtual 176, 3) := by decide +kernel
theorem c196_27 : mc_cd 196 27 = some (.istore_n 2, 1) := by decide +kernel
theorem c196_28 : mc_cd 196 28 = some (.iload_n 1, 1) := by decide +kernel
theorem c196_29 : mc_cd 196 29 = some (.iload_n 2, 1) := by decide +kernel
theorem c196_30 : mc_cd 196 30 = some (.if_icmp .ne 7, 3) := by decide +kernel
theorem c196_33 : mc_cd 196 33 = some (.iconst 1, 1) := by decide +kernel
theorem c196_34 : mc_cd 196 34 = some (.goto 4, 3) := by decide +kernel
theorem c196_37 : mc_cd 196 37 = some (.iconst 0, 1) := by decide +kernel
theorem c196_38 : mc_cd 196 38 = some (.istore_n 3, 1) := by decide +kernel
theorem c196_39 : mc_cd 196 39 = some (.iconst 0, 1) := by decide +kernel
theorem c196_40 : mc_cd 196 40 = some (.istore 4, 2) := by decide +kernel
theorem c196_42 : mc_cd 196 42 = some (.iload 4, 2) := by decide +kernel
theorem c196_44 : mc_cd 196 44 = some (.aload_n 0, 1) := by decide +kernel
theorem c196_45 : mc_cd 196 45 = some (.getfield 166, 3) := by decide +kernel
theorem c196_48 : mc_cd 196 48 = some (.getfield 276, 3) := by decide +kernel
theorem c196_51 : mc_cd 196 51 = some (.if_icmp .ge 75, 3) := by decide +kernel
theorem c196_54 : mc_cd 196 54 = some (.iload_n 3, 1) := by decide +kernel
theorem c196_55 : mc_cd 196 55 = some (.ifCond .ne 59, 3) := by decide +kernel
theorem c196_58 : mc_cd 196 58 = some (.aload_n 0, 1) := by decide +kernel
theorem c196_59 : mc_cd 196 59 = some (.getfield 166, 3) := by decide +kernel
theorem c196_62 : mc_cd 196 62 = some (.getfield 282, 3) := by decide +kernel
theorem c196_65 : mc_cd 196 65 = some (.iload 4, 2) := by decide +kernel
theorem c196_67 : mc_cd 196 67 = some (.iaload, 1) := by decide +kernel
theorem c196_68 : mc_cd 196 68 = some (.iload_n 1, 1) := by decide +kernel
theorem c196_69 : mc_cd 196 69 = some (.if_icmp .ne 17, 3) := by decide +kernel
theorem c196_72 : mc_cd 196 72 = some (.aload_n 0, 1) := by decide +kernel
theorem c196_73 : mc_cd 196 73 = some (.getfield 166, 3) := by decide +kernel
theorem c196_76 : mc_cd 196 76 = some (.getfield 285, 3) := by decide +kernel
theorem c196_79 : mc_cd 196 79 = some (.iload 4, 2) := by decide +kernel
theorem c196_81 : mc_cd 196 81 = some (.iaload, 1) := by decide +kernel
theorem c196_82 : mc_cd 196 82 = some (.iload_n 2, 1) := by decide +kernel
theorem c196_83 : mc_cd 196 83 = some (.if_icmp .eq 31, 3) := by decide +kernel
theorem c196_86 : mc_cd 196 86 = some (.aload_n 0, 1) := by decide +kernel
theorem c196_87 : mc_cd 196 87 = some (.getfield 166, 3) := by decide +kernel
theorem c196_90 : mc_cd 196 90 = some (.getfield 282, 3) := by decide +kernel
theorem c196_93 : mc_cd 196 93 = some (.iload 4, 2) := by decide +kernel
theorem c196_95 : mc_cd 196 95 = some (.iaload, 1) := by decide +kernel
theorem c196_96 : mc_cd 196 96 = some (.iload_n 2, 1) := by decide +kernel
theorem c196_97 : mc_cd 196 97 = some (.if_icmp .ne 21, 3) := by decide +kernel
theorem c196_100 : mc_cd 196 100 = some (.aload_n 0, 1) := by decide +kernel
theorem c196_101 : mc_cd 196 101 = some (.getfield 166, 3) := by decide +kernel
theorem c196_104 : mc_cd 196 104 = some (.getfield 285, 3) := by decide +kernel
theorem c196_107 : mc_cd 196 107 = some (.iload 4, 2) := by decide +kernel
theorem c196_109 : mc_cd 196 109 = some (.iaload, 1) := by decide +kernel
theorem c196_110 : mc_cd 196 110 = some (.iload_n 1, 1) := by decide +kernel
theorem c196_111 : mc_cd 196 111 = some (.if_icmp .ne 7, 3) := by decide +kernel
theorem c196_114 : mc_cd 196 114 = some (.iconst 1, 1) := by decide +kernel
theorem c196_115 : mc_cd 196 115 = some (.goto 4, 3) := by decide +kernel
theorem c196_118 : mc_cd 196 118 = some (.iconst 0, 1) := by decide +kernel
theorem c196_119 : mc_cd 196 119 = some (.istore_n 3, 1) := by decide +kernel
theorem c196_120 : mc_cd 196 120 = some (.iinc 4 1, 3) := by decide +kernel
theorem c196_123 : mc_cd 196 123 = some (.goto (-81), 3) := by decide +kernel
theorem c196_126 : mc_cd 196 126 = some (.iload_n 3, 1) := by decide +kernel
theorem c196_127 : mc_cd 196 127 = some (.ifCond .eq 8, 3) := by decide +kernel
theorem c196_130 : mc_cd 196 130 = some (.aload_n 0, 1) := by decide +kernel
theorem c196_131 : mc_cd 196 131 = some (.iconst 3, 1) := by decide +kernel
theorem c196_132 : mc_cd 196 132 = some (.invokevirtual 121, 3) := by decide +kernel
theorem c196_135 : mc_cd 196 135 = some (.aload_n 0, 1) := by decide +kernel
theorem c196_136 : mc_cd 196 136 = some (.invokevirtual 118, 3) := by decide +kernel
theorem c196_139 : mc_cd 196 139 = some (.aload_n 0, 1) := by decide +kernel
theorem c196_140 : mc_cd 196 140 = some (.getfield 75, 3) := by decide +kernel
theorem c196_143 : mc_cd 196 143 = some (.iconst 5, 1) := by decide +kernel
theorem c196_144 : mc_cd 196 144 = some (.if_icmp .ne 4, 3) := by decide +kernel
theorem c196_147 : mc_cd 196 147 = some (.return_, 1) := by decide +kernel
theorem c196_148 : mc_cd 196 148 = some (.aload_n 0, 1) := by decide +kernel
theorem c196_149 : mc_cd 196 149 = some (.getfield 166, 3) := by decide +kernel
theorem c196_152 : mc_cd 196 152 = some (.getfield 282, 3) := by decide +kernel
theorem c196_155 : mc_cd 196 155 = some (.aload_n 0, 1) := by decide +kernel
theorem c196_156 : mc_cd 196 156 = some (.getfield 166, 3) := by decide +kernel
theorem c196_159 : mc_cd 196 159 = some (.getfield 276, 3) := by decide +kernel
theorem c196_162 : mc_cd 196 162 = some (.iload_n 1, 1) := by decide +kernel
theorem c196_163 : mc_cd 196 163 = some (.iastore, 1) := by decide +kernel
theorem c196_164 : mc_cd 196 164 = some (.aload_n 0, 1) := by decide +kernel
theorem c196_165 : mc_cd 196 165 = some (.getfield 166, 3) := by decide +kernel
theorem c196_168 : mc_cd 196 168 = some (.getfield 285, 3) := by decide +kernel
theorem c196_171 : mc_cd 196 171 = some (.aload_n 0, 1) := by decide +kernel
theorem c196_172 : mc_cd 196 172 = some (.getfield 166, 3) := by decide +kernel
theorem c196_175 : mc_cd 196 175 = some (.getfield 276, 3) := by decide +kernel
theorem c196_178 : mc_cd 196 178 = some (.iload_n 2, 1) := by decide +kernel
theorem c196_179 : mc_cd 196 179 = some (.iastore, 1) := by decide +kernel
theorem c196_180 : mc_cd 196 180 = some (.aload_n 0, 1) := by decide +kernel
theorem c196_181 : mc_cd 196 181 = some (.getfield 166, 3) := by decide +kernel
theorem c196_184 : mc_cd 196 184 = some (.dup, 1) := by decide +kernel
theorem c196_185 : mc_cd 196 185 = some (.getfield 276, 3) := by decide +kernel
theorem c196_188 : mc_cd 196 188 = some (.iconst 1, 1) := by decide +kernel
theorem c196_189 : mc_cd 196 189 = some (.iadd, 1) := by decide +kernel
theorem c196_190 : mc_cd 196 190 = some (.putfield 276, 3) := by decide +kernel
theorem c196_193 : mc_cd 196 193 = some (.return_, 1) := by decide +kernel
abbrev q_196 (r0 : Nat) (rp : Nat) (T : wq_T) (H : wq_H) : Option Value → wq_T → wq_H → Prop := fun r T' H' => T = T' ∧ WT T H' ∧ wfr [(54, 4), (42, 8), (42, 9), (42, 10), (42, 11), (42, 12), (42, 13), (42, 14), (42, 15), (64, 999), (65, 999)] T H H' ∧ none = r ∧ (wJ H' r0 = 1) ∧ (H r0 10 ≤ H' r0 10) ∧ (wOV H r0 ≤ wOV H' r0) ∧ (wOV H' r0 ≤ 1)
set_option maxHeartbeats 4000000 in
theorem s_196 {kt : Nat → Option mc_E} {T : wq_T} {H : wq_H} {r0 : Nat} {rp : Nat} (hW : WT T H) (g0 : T.2.2.2 r0 = some 42) (qrp : H r0 4 = (rp : Int)) (grp : T.2.2.2 rp = some 54) (p0 : wJ H r0 = 1) : wpc kt 6 196 [.ref r0] T H (q_196 r0 rp T H) := by
  refine wp_enter e196 (Nat.le_of_ble_eq_true rfl) rfl ?_
  have f0 : wfr [(54, 4), (42, 8), (42, 9), (42, 10), (42, 11), (42, 12), (42, 13), (42, 14), (42, 15), (64, 999), (65, 999)] T H H := wfr.rf
  show wp _ _ 196 0 [(0, .ref r0)] [] _ H _
  have hb0 := wOV_b (H := H) (m := r0)
  refine wp_of e196 c196_0 (rw_aload_n (pc' := 1) (v := .ref r0) rfl rfl rfl ?_)
  refine wp_of e196 c196_1 (rw_aload_n (pc' := 2) (v := .ref r0) rfl rfl rfl ?_)
  refine wp_of e196 c196_2 (xg_K (pc' := 5) lf_9_166 hW g0 sh_42 (by decide) (by decide) rfl qrp rfl ?_)
  refine wp_of e196 c196_5 (xg_I (pc' := 8) lf_9_276 hW grp sh_54 (by decide) (by decide) ty_54_4 rfl rfl (fun b88660 b88661 => ?_))
  refine wp_of e196 c196_8 (rw_iconst (pc' := 9) rfl ?_)
  refine wp_of e196 c196_9 (xc_V (pc' := 12) (r := r0) (as := [vI (H rp 4), vI 3]) (st := []) (lm_9_228) rfl rfl (Nat.le_of_ble_eq_true rfl) hW g0 sh_42 (by decide) rfl (by decide) (s_188 hW g0 ⟨by omega, by omega⟩ ⟨by omega, by omega⟩ (by omega)) (fun R88662 T88663 H88664 p88665 => ?_))
  obtain ⟨e88666, w88668, f88669, e88667, p88670, p88671, p88672, p88673, p88674⟩ := p88665
  subst e88666
  subst e88667
  have f88675 := f0.tr f88669 rfl
  show wp _ _ 196 12 [(0, .ref r0)] [] _ H88664 _
  refine wp_of e196 c196_12 (rw_aload_n (pc' := 13) (v := .ref r0) rfl rfl rfl ?_)
  have k88676 : H88664 r0 4 = H r0 4 := (f88669 r0 4 _ g0 rfl)
  have q88677 : H88664 r0 4 = (rp : Int) := k88676.trans qrp
  refine wp_of e196 c196_13 (xc_V (pc' := 16) (r := r0) (as := []) (st := []) (lm_9_273) rfl rfl (Nat.le_of_ble_eq_true rfl) w88668 g0 sh_42 (by decide) rfl (by decide) (s_194 w88668 g0 q88677 grp (by omega)) (fun R88678 T88679 H88680 p88681 => ?_))
  obtain ⟨e88682, w88684, f88685, z88690, e88683, b88691, p88686, p88687, p88688, p88689⟩ := p88681
  subst e88682
  subst e88683
  have f88692 := f88675.tr f88685 rfl
  show wp _ _ 196 16 [(0, .ref r0)] [vI z88690] _ H88680 _
  refine wp_of e196 c196_16 (rw_istore_n (pc' := 17) (z := z88690) (L' := [(1, vI z88690), (0, .ref r0)]) rfl rfl rfl ?_)
  refine wp_of e196 c196_17 (rw_aload_n (pc' := 18) (v := .ref r0) rfl rfl rfl ?_)
  refine wp_of e196 c196_18 (rw_bipush (pc' := 20) (z := 44) rfl (by decide) ?_)
  refine wp_of e196 c196_20 (xc_V (pc' := 23) (r := r0) (as := [vI 44]) (st := []) (lm_9_279) rfl rfl (Nat.le_of_ble_eq_true rfl) w88684 g0 sh_42 (by decide) rfl (by decide) (s_197 w88684 g0 ⟨by omega, by omega⟩ (by omega)) (fun R88693 T88694 H88695 p88696 => ?_))
  obtain ⟨e88697, w88699, f88700, e88698, p88701, p88702, p88703, p88704⟩ := p88696
  subst e88697
  subst e88698
  have f88705 := f88692.tr f88700 rfl
  show wp _ _ 196 23 [(1, vI z88690), (0, .ref r0)] [] _ H88695 _
  refine wp_of e196 c196_23 (rw_aload_n (pc' := 24) (v := .ref r0) rfl rfl rfl ?_)
  have k88706 : H88695 r0 4 = H88664 r0 4 := ((f88700 r0 4 _ g0 rfl).trans (f88685 r0 4 _ g0 rfl))
  have q88707 : H88695 r0 4 = (rp : Int) := k88706.trans q88677
  refine wp_of e196 c196_24 (xc_V (pc' := 27) (r := r0) (as := []) (st := []) (lm_9_176) rfl rfl (Nat.le_of_ble_eq_true rfl) w88699 g0 sh_42 (by decide) rfl (by decide) (s_195 w88699 g0 q88707 grp (by omega)) (fun R88708 T88709 H88710 p88711 => ?_))
  obtain ⟨e88712, w88714, f88715, z88720, e88713, b88721, p88716, p88717, p88718, p88719⟩ := p88711
  subst e88712
  subst e88713
  have f88722 := f88705.tr f88715 rfl
  show wp _ _ 196 27 [(1, vI z88690), (0, .ref r0)] [vI z88720] _ H88710 _
  refine wp_of e196 c196_27 (rw_istore_n (pc' := 28) (z := z88720) (L' := [(2, vI z88720), (1, vI z88690), (0, .ref r0)]) rfl rfl rfl ?_)
  refine wp_of e196 c196_28 (rw_iload_n (pc' := 29) (z := z88690) rfl rfl ?_)
  refine wp_of e196 c196_29 (rw_iload_n (pc' := 30) (z := z88720) rfl rfl ?_)
  refine wp_of e196 c196_30 (rw_icmp_ne (p1 := 37) (p2 := 33) (by decide) rfl ⟨by omega, by omega⟩ ⟨by omega, by omega⟩ (fun c88723 => ?_) (fun c88723 => ?_))
  · refine wp_of e196 c196_37 (rw_iconst (pc' := 38) rfl ?_)
    refine wp_of e196 c196_38 (rw_istore_n (pc' := 39) (z := 0) (L' := [(3, vI 0), (2, vI z88720), (1, vI z88690), (0, .ref r0)]) rfl rfl rfl ?_)
    refine wp_of e196 c196_39 (rw_iconst (pc' := 40) rfl ?_)
    refine wp_of e196 c196_40 (rw_istore (pc' := 42) (z := 0) (L' := [(4, vI 0), (3, vI 0), (2, vI z88720), (1, vI z88690), (0, .ref r0)]) rfl rfl rfl ?_)
    have lp88860 : ∀ (n88861 : Nat) (v88863 : Int) (v88864 : Int), (0 ≤ v88863 ∧ v88863 ≤ 3) → (0 ≤ v88864 ∧ v88864 ≤ 1) → (3 - v88863).toNat = n88861 → wp kt 5 196 42 [(4, vI v88863), (3, vI v88864), (2, vI z88720), (1, vI z88690), (0, .ref r0)] [] T H88710 (q_196 r0 rp T H) := by
      intro n88861
      induction n88861 using Nat.strongRecOn with
      | _ n88861 ih88862 =>
        intro v88863 v88864 b88867 b88868 m88869
        refine wp_of e196 c196_42 (rw_iload (pc' := 44) (z := v88863) rfl rfl ?_)
        refine wp_of e196 c196_44 (rw_aload_n (pc' := 45) (v := .ref r0) rfl rfl rfl ?_)
        have k88870 : H88710 r0 4 = H88695 r0 4 := (f88715 r0 4 _ g0 rfl)
        have q88871 : H88710 r0 4 = (rp : Int) := k88870.trans q88707
        refine wp_of e196 c196_45 (xg_K (pc' := 48) lf_9_166 w88714 g0 sh_42 (by decide) (by decide) rfl q88871 rfl ?_)
        have k88872 : H88710 rp 4 = H rp 4 := ((f88715 rp 4 _ grp rfl).trans ((f88700 rp 4 _ grp rfl).trans ((f88685 rp 4 _ grp rfl).trans (f88669 rp 4 _ grp rfl))))
        refine wp_of e196 c196_48 (xg_I (pc' := 51) lf_9_276 w88714 grp sh_54 (by decide) (by decide) ty_54_4 rfl rfl (fun b88873 b88874 => ?_))
        refine wp_of e196 c196_51 (rw_icmp_ge (p1 := 126) (p2 := 54) (by decide) rfl ⟨by omega, by omega⟩ ⟨by omega, by omega⟩ (fun c88875 => ?_) (fun c88875 => ?_))
        · refine wp_of e196 c196_126 (rw_iload_n (pc' := 127) (z := v88864) rfl rfl ?_)
          refine wp_of e196 c196_127 (rw_if_eq (p1 := 135) (p2 := 130) (by decide) rfl ⟨by omega, by omega⟩ (fun c88876 => ?_) (fun c88876 => ?_))
          · refine wp_of e196 c196_135 (rw_aload_n (pc' := 136) (v := .ref r0) rfl rfl rfl ?_)
            refine wp_of e196 c196_136 (xc_V (pc' := 139) (r := r0) (as := []) (st := []) (lm_9_118) rfl rfl (Nat.le_of_ble_eq_true rfl) w88714 g0 sh_42 (by decide) rfl (by decide) (s_172 w88714 g0 (by omega)) (fun R88877 T88878 H88879 p88880 => ?_))
            obtain ⟨e88881, w88883, f88884, e88882, p88885, p88886, p88887, p88888, p88889, p88890⟩ := p88880
            subst e88881
            subst e88882
            have f88891 := f88722.tr f88884 rfl
            show wp _ _ 196 139 [(4, vI v88863), (3, vI v88864), (2, vI z88720), (1, vI z88690), (0, .ref r0)] [] _ H88879 _
            refine wp_of e196 c196_139 (rw_aload_n (pc' := 140) (v := .ref r0) rfl rfl rfl ?_)
            refine wp_of e196 c196_140 (xg_I (pc' := 143) lf_9_75 w88883 g0 sh_42 (by decide) (by decide) ty_42_9 rfl rfl (fun b88892 b88893 => ?_))
            have k88894 := wOV_e (H := H88879) (m := r0)
            refine wp_of e196 c196_143 (rw_iconst (pc' := 144) rfl ?_)
            refine wp_of e196 c196_144 (rw_icmp_ne (p1 := 148) (p2 := 147) (by decide) rfl ⟨by omega, by omega⟩ ⟨by omega, by omega⟩ (fun c88895 => ?_) (fun c88895 => ?_))
            · refine wp_of e196 c196_148 (rw_aload_n (pc' := 149) (v := .ref r0) rfl rfl rfl ?_)
              have k88896 : H88879 r0 4 = H88710 r0 4 := (f88884 r0 4 _ g0 rfl)
              have q88897 : H88879 r0 4 = (rp : Int) := k88896.trans q88871
              refine wp_of e196 c196_149 (xg_K (pc' := 152) lf_9_166 w88883 g0 sh_42 (by decide) (by decide) rfl q88897 rfl ?_)
              refine wp_of e196 c196_152 (xg_R (pc' := 155) lf_9_282 w88883 grp sh_54 (by decide) (by decide) ty_54_18 rfl rfl (fun r88898 q88899 g88900 => ?_))
              refine wp_of e196 c196_155 (rw_aload_n (pc' := 156) (v := .ref r0) rfl rfl rfl ?_)
              refine wp_of e196 c196_156 (xg_K (pc' := 159) lf_9_166 w88883 g0 sh_42 (by decide) (by decide) rfl q88897 rfl ?_)
              have k88901 : H88879 rp 4 = H88710 rp 4 := (f88884 rp 4 _ grp rfl)
              refine wp_of e196 c196_159 (xg_I (pc' := 162) lf_9_276 w88883 grp sh_54 (by decide) (by decide) ty_54_4 rfl rfl (fun b88902 b88903 => ?_))
              refine wp_of e196 c196_162 (rw_iload_n (pc' := 163) (z := z88690) rfl rfl ?_)
              refine wp_of e196 c196_163 (xs_I (pc' := 164) w88883 g88900 (by decide) sh_64 (by decide) (ty_64 _) (by omega) (by omega) ⟨by omega, by omega⟩ (by omega) (by omega) rfl (fun H88904 e88905 w88906 => ?_))
              have f88907 := f88891.put' e88905 g88900 rfl
              refine wp_of e196 c196_164 (rw_aload_n (pc' := 165) (v := .ref r0) rfl rfl rfl ?_)
              have k88908 : H88904 r0 4 = H88879 r0 4 := (wq_u_t e88905 g88900 g0 rfl 4)
              have q88909 : H88904 r0 4 = (rp : Int) := k88908.trans q88897
              refine wp_of e196 c196_165 (xg_K (pc' := 168) lf_9_166 w88906 g0 sh_42 (by decide) (by decide) rfl q88909 rfl ?_)
              refine wp_of e196 c196_168 (xg_R (pc' := 171) lf_9_285 w88906 grp sh_54 (by decide) (by decide) ty_54_19 rfl rfl (fun r88910 q88911 g88912 => ?_))
              refine wp_of e196 c196_171 (rw_aload_n (pc' := 172) (v := .ref r0) rfl rfl rfl ?_)
              refine wp_of e196 c196_172 (xg_K (pc' := 175) lf_9_166 w88906 g0 sh_42 (by decide) (by decide) rfl q88909 rfl ?_)
              have k88913 : H88904 rp 4 = H88879 rp 4 := (wq_u_t e88905 g88900 grp rfl 4)
              refine wp_of e196 c196_175 (xg_I (pc' := 178) lf_9_276 w88906 grp sh_54 (by decide) (by decide) ty_54_4 rfl rfl (fun b88914 b88915 => ?_))
              refine wp_of e196 c196_178 (rw_iload_n (pc' := 179) (z := z88720) rfl rfl ?_)
              refine wp_of e196 c196_179 (xs_I (pc' := 180) w88906 g88912 (by decide) sh_65 (by decide) (ty_65 _) (by omega) (by omega) ⟨by omega, by omega⟩ (by omega) (by omega) rfl (fun H88916 e88917 w88918 => ?_))
              have f88919 := f88907.put' e88917 g88912 rfl
              refine wp_of e196 c196_180 (rw_aload_n (pc' := 181) (v := .ref r0) rfl rfl rfl ?_)
              have k88920 : H88916 r0 4 = H88904 r0 4 := (wq_u_t e88917 g88912 g0 rfl 4)
              have q88921 : H88916 r0 4 = (rp : Int) := k88920.trans q88909
              refine wp_of e196 c196_181 (xg_K (pc' := 184) lf_9_166 w88918 g0 sh_42 (by decide) (by decide) rfl q88921 rfl ?_)
              refine wp_of e196 c196_184 (rw_dup (pc' := 185) rfl rfl ?_)
              have k88922 : H88916 rp 4 = H88904 rp 4 := (wq_u_t e88917 g88912 grp rfl 4)
              refine wp_of e196 c196_185 (xg_I (pc' := 188) lf_9_276 w88918 grp sh_54 (by decide) (by decide) ty_54_4 rfl rfl (fun b88923 b88924 => ?_))
              refine wp_of e196 c196_188 (rw_iconst (pc' := 189) rfl ?_)
              refine wp_of e196 c196_189 (rw_iadd (pc' := 190) rfl ?_)
              refine wp_of e196 c196_190 (xp_I (pc' := 193) lf_9_276 w88918 grp sh_54 (by decide) (by decide) ty_54_4 rfl rfl (by omega) (by omega) ⟨by omega, by omega⟩ rfl (fun H88925 e88926 w88927 => ?_))
              have f88928 := f88919.put' e88926 grp rfl
              have k88929 : H88925 rp 4 = (H88916 rp 4) + 1 := wq_u_s e88926
              have k88930 : H88925 r0 9 = H88879 r0 9 := ((wq_u_t e88926 grp g0 rfl 9).trans ((wq_u_t e88917 g88912 g0 rfl 9).trans (wq_u_t e88905 g88900 g0 rfl 9)))
              have k88931 : H88925 r0 10 = H88879 r0 10 := ((wq_u_t e88926 grp g0 rfl 10).trans ((wq_u_t e88917 g88912 g0 rfl 10).trans (wq_u_t e88905 g88900 g0 rfl 10)))
              have k88932 : wOV H88925 r0 = wOV H88879 r0 := ((wOV_fr w88918 g0 ((wfr.rf (l := [(54, 4)])).put' e88926 grp rfl) rfl).trans ((wOV_fr w88906 g0 ((wfr.rf (l := [(65, 999)])).put' e88917 g88912 rfl) rfl).trans (wOV_fr w88883 g0 ((wfr.rf (l := [(64, 999)])).put' e88905 g88900 rfl) rfl)))
              have k88933 : wJ H88925 r0 = wJ H88879 r0 := ((wJ_fr w88918 g0 ((wfr.rf (l := [(54, 4)])).put' e88926 grp rfl) rfl).trans ((wJ_fr w88906 g0 ((wfr.rf (l := [(65, 999)])).put' e88917 g88912 rfl) rfl).trans (wJ_fr w88883 g0 ((wfr.rf (l := [(64, 999)])).put' e88905 g88900 rfl) rfl)))
              exact wp_return e196 c196_193 rfl ⟨rfl, w88927, f88928, rfl, by omega, by omega, by omega, by omega⟩
            · exact wp_return e196 c196_147 rfl ⟨rfl, w88883, f88891, rfl, by omega, by omega, by omega, by omega⟩
          · refine wp_of e196 c196_130 (rw_aload_n (pc' := 131) (v := .ref r0) rfl rfl rfl ?_)
            refine wp_of e196 c196_131 (rw_iconst (pc' := 132) rfl ?_)
            refine wp_of e196 c196_132 (xc_V (pc' := 135) (r := r0) (as := [vI 3]) (st := []) (lm_9_121) rfl rfl (Nat.le_of_ble_eq_true rfl) w88714 g0 sh_42 (by decide) rfl (by decide) (s_181 w88714 g0 ⟨by omega, by omega⟩ (by omega)) (fun R88934 T88935 H88936 p88937 => ?_))
            obtain ⟨e88938, w88940, f88941, e88939, p88942, p88943, p88944, p88945, p88946, p88947⟩ := p88937
            subst e88938
            subst e88939
            have f88948 := f88722.tr f88941 rfl
            show wp _ _ 196 135 [(4, vI v88863), (3, vI v88864), (2, vI z88720), (1, vI z88690), (0, .ref r0)] [] _ H88936 _
            refine wp_of e196 c196_135 (rw_aload_n (pc' := 136) (v := .ref r0) rfl rfl rfl ?_)
            refine wp_of e196 c196_136 (xc_V (pc' := 139) (r := r0) (as := []) (st := []) (lm_9_118) rfl rfl (Nat.le_of_ble_eq_true rfl) w88940 g0 sh_42 (by decide) rfl (by decide) (s_172 w88940 g0 (by omega)) (fun R88949 T88950 H88951 p88952 => ?_))
            obtain ⟨e88953, w88955, f88956, e88954, p88957, p88958, p88959, p88960, p88961, p88962⟩ := p88952
            subst e88953
            subst e88954
            have f88963 := f88948.tr f88956 rfl
            show wp _ _ 196 139 [(4, vI v88863), (3, vI v88864), (2, vI z88720), (1, vI z88690), (0, .ref r0)] [] _ H88951 _
            refine wp_of e196 c196_139 (rw_aload_n (pc' := 140) (v := .ref r0) rfl rfl rfl ?_)
            refine wp_of e196 c196_140 (xg_I (pc' := 143) lf_9_75 w88955 g0 sh_42 (by decide) (by decide) ty_42_9 rfl rfl (fun b88964 b88965 => ?_))
            have k88966 := wOV_e (H := H88951) (m := r0)
            refine wp_of e196 c196_143 (rw_iconst (pc' := 144) rfl ?_)
            refine wp_of e196 c196_144 (rw_icmp_ne (p1 := 148) (p2 := 147) (by decide) rfl ⟨by omega, by omega⟩ ⟨by omega, by omega⟩ (fun c88967 => ?_) (fun c88967 => ?_))
            · refine wp_of e196 c196_148 (rw_aload_n (pc' := 149) (v := .ref r0) rfl rfl rfl ?_)
              have k88968 : H88951 r0 4 = H88710 r0 4 := ((f88956 r0 4 _ g0 rfl).trans (f88941 r0 4 _ g0 rfl))
              have q88969 : H88951 r0 4 = (rp : Int) := k88968.trans q88871
              refine wp_of e196 c196_149 (xg_K (pc' := 152) lf_9_166 w88955 g0 sh_42 (by decide) (by decide) rfl q88969 rfl ?_)
              refine wp_of e196 c196_152 (xg_R (pc' := 155) lf_9_282 w88955 grp sh_54 (by decide) (by decide) ty_54_18 rfl rfl (fun r88970 q88971 g88972 => ?_))
              refine wp_of e196 c196_155 (rw_aload_n (pc' := 156) (v := .ref r0) rfl rfl rfl ?_)
              refine wp_of e196 c196_156 (xg_K (pc' := 159) lf_9_166 w88955 g0 sh_42 (by decide) (by decide) rfl q88969 rfl ?_)
              have k88973 : H88951 rp 4 = H88710 rp 4 := ((f88956 rp 4 _ grp rfl).trans (f88941 rp 4 _ grp rfl))
              refine wp_of e196 c196_159 (xg_I (pc' := 162) lf_9_276 w88955 grp sh_54 (by decide) (by decide) ty_54_4 rfl rfl (fun b88974 b88975 => ?_))
              refine wp_of e196 c196_162 (rw_iload_n (pc' := 163) (z := z88690) rfl rfl ?_)
              refine wp_of e196 c196_163 (xs_I (pc' := 164) w88955 g88972 (by decide) sh_64 (by decide) (ty_64 _) (by omega) (by omega) ⟨by omega, by omega⟩ (by omega) (by omega) rfl (fun H88976 e88977 w88978 => ?_))
              have f88979 := f88963.put' e88977 g88972 rfl
              refine wp_of e196 c196_164 (rw_aload_n (pc' := 165) (v := .ref r0) rfl rfl rfl ?_)
              have k88980 : H88976 r0 4 = H88951 r0 4 := (wq_u_t e88977 g88972 g0 rfl 4)
              have q88981 : H88976 r0 4 = (rp : Int) := k88980.trans q88969
              refine wp_of e196 c196_165 (xg_K (pc' := 168) lf_9_166 w88978 g0 sh_42 (by decide) (by decide) rfl q88981 rfl ?_)
              refine wp_of e196 c196_168 (xg_R (pc' := 171) lf_9_285 w88978 grp sh_54 (by decide) (by decide) ty_54_19 rfl rfl (fun r88982 q88983 g88984 => ?_))
              refine wp_of e196 c196_171 (rw_aload_n (pc' := 172) (v := .ref r0) rfl rfl rfl ?_)
              refine wp_of e196 c196_172 (xg_K (pc' := 175) lf_9_166 w88978 g0 sh_42 (by decide) (by decide) rfl q88981 rfl ?_)
              have k88985 : H88976 rp 4 = H88951 rp 4 := (wq_u_t e88977 g88972 grp rfl 4)
              refine wp_of e196 c196_175 (xg_I (pc' := 178) lf_9_276 w88978 grp sh_54 (by decide) (by decide) ty_54_4 rfl rfl (fun b88986 b88987 => ?_))
              refine wp_of e196 c196_178 (rw_iload_n (pc' := 179) (z := z88720) rfl rfl ?_)
              refine wp_of e196 c196_179 (xs_I (pc' := 180) w88978 g88984 (by decide) sh_65 (by decide) (ty_65 _) (by omega) (by omega) ⟨by omega, by omega⟩ (by omega) (by omega) rfl (fun H88988 e88989 w88990 => ?_))
              have f88991 := f88979.put' e88989 g88984 rfl
              refine wp_of e196 c196_180 (rw_aload_n (pc' := 181) (v := .ref r0) rfl rfl rfl ?_)
              have k88992 : H88988 r0 4 = H88976 r0 4 := (wq_u_t e88989 g88984 g0 rfl 4)
              have q88993 : H88988 r0 4 = (rp : Int) := k88992.trans q88981
              refine wp_of e196 c196_181 (xg_K (pc' := 184) lf_9_166 w88990 g0 sh_42 (by decide) (by decide) rfl q88993 rfl ?_)
              refine wp_of e196 c196_184 (rw_dup (pc' := 185) rfl rfl ?_)
              have k88994 : H88988 rp 4 = H88976 rp 4 := (wq_u_t e88989 g88984 grp rfl 4)
              refine wp_of e196 c196_185 (xg_I (pc' := 188) lf_9_276 w88990 grp sh_54 (by decide) (by decide) ty_54_4 rfl rfl (fun b88995 b88996 => ?_))
              refine wp_of e196 c196_188 (rw_iconst (pc' := 189) rfl ?_)
              refine wp_of e196 c196_189 (rw_iadd (pc' := 190) rfl ?_)
              refine wp_of e196 c196_190 (xp_I (pc' := 193) lf_9_276 w88990 grp sh_54 (by decide) (by decide) ty_54_4 rfl rfl (by omega) (by omega) ⟨by omega, by omega⟩ rfl (fun H88997 e88998 w88999 => ?_))
              have f89000 := f88991.put' e88998 grp rfl
              have k89001 : H88997 rp 4 = (H88988 rp 4) + 1 := wq_u_s e88998
              have k89002 : H88997 r0 9 = H88951 r0 9 := ((wq_u_t e88998 grp g0 rfl 9).trans ((wq_u_t e88989 g88984 g0 rfl 9).trans (wq_u_t e88977 g88972 g0 rfl 9)))
              have k89003 : H88997 r0 10 = H88951 r0 10 := ((wq_u_t e88998 grp g0 rfl 10).trans ((wq_u_t e88989 g88984 g0 rfl 10).trans (wq_u_t e88977 g88972 g0 rfl 10)))
              have k89004 : wOV H88997 r0 = wOV H88951 r0 := ((wOV_fr w88990 g0 ((wfr.rf (l := [(54, 4)])).put' e88998 grp rfl) rfl).trans ((wOV_fr w88978 g0 ((wfr.rf (l := [(65, 999)])).put' e88989 g88984 rfl) rfl).trans (wOV_fr w88955 g0 ((wfr.rf (l := [(64, 999)])).put' e88977 g88972 rfl) rfl)))
              have k89005 : wJ H88997 r0 = wJ H88951 r0 := ((wJ_fr w88990 g0 ((wfr.rf (l := [(54, 4)])).put' e88998 grp rfl) rfl).trans ((wJ_fr w88978 g0 ((wfr.rf (l := [(65, 999)])).put' e88989 g88984 rfl) rfl).trans (wJ_fr w88955 g0 ((wfr.rf (l := [(64, 999)])).put' e88977 g88972 rfl) rfl)))
              exact wp_return e196 c196_193 rfl ⟨rfl, w88999, f89000, rfl, by omega, by omega, by omega, by omega⟩
            · exact wp_return e196 c196_147 rfl ⟨rfl, w88955, f88963, rfl, by omega, by omega, by omega, by omega⟩
        · refine wp_of e196 c196_54 (rw_iload_n (pc' := 55) (z := v88864) rfl rfl ?_)
          refine wp_of e196 c196_55 (rw_if_ne (p1 := 114) (p2 := 58) (by decide) rfl ⟨by omega, by omega⟩ (fun c89006 => ?_) (fun c89006 => ?_))
          · refine wp_of e196 c196_114 (rw_iconst (pc' := 115) rfl ?_)
            refine wp_of e196 c196_115 (rw_goto (p1 := 119) (by decide) ?_)
            refine wp_of e196 c196_119 (rw_istore_n (pc' := 120) (z := 1) (L' := [(3, vI 1), (4, vI v88863), (2, vI z88720), (1, vI z88690), (0, .ref r0)]) rfl rfl rfl ?_)
            refine wp_of e196 c196_120 (rw_iinc (pc' := 123) (z := v88863) (L' := [(4, vI (v88863 + 1)), (3, vI 1), (2, vI z88720), (1, vI z88690), (0, .ref r0)]) rfl rfl rfl rfl ?_)
            refine wp_of e196 c196_123 (rw_goto (p1 := 42) (by decide) ?_)
            exact wp_lc (ks := [4, 3, 2, 1, 0]) (wl_c rfl (wl_c rfl (wl_c rfl (wl_c rfl (wl_c rfl wl_n))))) rfl (by decide) (ih88862 _ (by omega) (v88863 + 1) 1 ⟨by omega, by omega⟩ ⟨by omega, by omega⟩ rfl)
          · refine wp_of e196 c196_58 (rw_aload_n (pc' := 59) (v := .ref r0) rfl rfl rfl ?_)
            refine wp_of e196 c196_59 (xg_K (pc' := 62) lf_9_166 w88714 g0 sh_42 (by decide) (by decide) rfl q88871 rfl ?_)
            refine wp_of e196 c196_62 (xg_R (pc' := 65) lf_9_282 w88714 grp sh_54 (by decide) (by decide) ty_54_18 rfl rfl (fun r89007 q89008 g89009 => ?_))
            refine wp_of e196 c196_65 (rw_iload (pc' := 67) (z := v88863) rfl rfl ?_)
            refine wp_of e196 c196_67 (xa_I (so := 0) (pc' := 68) w88714 g89009 sh_64 (by decide) (ty_64 _) (by omega) (by omega) rfl (fun b89010 b89011 => ?_))
            refine wp_of e196 c196_68 (rw_iload_n (pc' := 69) (z := z88690) rfl rfl ?_)
            refine wp_of e196 c196_69 (rw_icmp_ne (p1 := 86) (p2 := 72) (by decide) rfl ⟨by omega, by omega⟩ ⟨by omega, by omega⟩ (fun c89012 => ?_) (fun c89012 => ?_))
            · refine wp_of e196 c196_86 (rw_aload_n (pc' := 87) (v := .ref r0) rfl rfl rfl ?_)
              refine wp_of e196 c196_87 (xg_K (pc' := 90) lf_9_166 w88714 g0 sh_42 (by decide) (by decide) rfl q88871 rfl ?_)
              refine wp_of e196 c196_90 (xg_K (pc' := 93) lf_9_282 w88714 grp sh_54 (by decide) (by decide) rfl q89008 rfl ?_)
              refine wp_of e196 c196_93 (rw_iload (pc' := 95) (z := v88863) rfl rfl ?_)
              refine wp_of e196 c196_95 (xa_I (so := 0) (pc' := 96) w88714 g89009 sh_64 (by decide) (ty_64 _) (by omega) (by omega) rfl (fun b89013 b89014 => ?_))
              refine wp_of e196 c196_96 (rw_iload_n (pc' := 97) (z := z88720) rfl rfl ?_)
              refine wp_of e196 c196_97 (rw_icmp_ne (p1 := 118) (p2 := 100) (by decide) rfl ⟨by omega, by omega⟩ ⟨by omega, by omega⟩ (fun c89015 => ?_) (fun c89015 => ?_))
              · refine wp_of e196 c196_118 (rw_iconst (pc' := 119) rfl ?_)
                refine wp_of e196 c196_119 (rw_istore_n (pc' := 120) (z := 0) (L' := [(3, vI 0), (4, vI v88863), (2, vI z88720), (1, vI z88690), (0, .ref r0)]) rfl rfl rfl ?_)
                refine wp_of e196 c196_120 (rw_iinc (pc' := 123) (z := v88863) (L' := [(4, vI (v88863 + 1)), (3, vI 0), (2, vI z88720), (1, vI z88690), (0, .ref r0)]) rfl rfl rfl rfl ?_)
                refine wp_of e196 c196_123 (rw_goto (p1 := 42) (by decide) ?_)
                exact wp_lc (ks := [4, 3, 2, 1, 0]) (wl_c rfl (wl_c rfl (wl_c rfl (wl_c rfl (wl_c rfl wl_n))))) rfl (by decide) (ih88862 _ (by omega) (v88863 + 1) 0 ⟨by omega, by omega⟩ ⟨by omega, by omega⟩ rfl)
              · refine wp_of e196 c196_100 (rw_aload_n (pc' := 101) (v := .ref r0) rfl rfl rfl ?_)
                refine wp_of e196 c196_101 (xg_K (pc' := 104) lf_9_166 w88714 g0 sh_42 (by decide) (by decide) rfl q88871 rfl ?_)
                refine wp_of e196 c196_104 (xg_R (pc' := 107) lf_9_285 w88714 grp sh_54 (by decide) (by decide) ty_54_19 rfl rfl (fun r89016 q89017 g89018 => ?_))
                refine wp_of e196 c196_107 (rw_iload (pc' := 109) (z := v88863) rfl rfl ?_)
                refine wp_of e196 c196_109 (xa_I (so := 0) (pc' := 110) w88714 g89018 sh_65 (by decide) (ty_65 _) (by omega) (by omega) rfl (fun b89019 b89020 => ?_))
                refine wp_of e196 c196_110 (rw_iload_n (pc' := 111) (z := z88690) rfl rfl ?_)
                refine wp_of e196 c196_111 (rw_icmp_ne (p1 := 118) (p2 := 114) (by decide) rfl ⟨by omega, by omega⟩ ⟨by omega, by omega⟩ (fun c89021 => ?_) (fun c89021 => ?_))
                · refine wp_of e196 c196_118 (rw_iconst (pc' := 119) rfl ?_)
                  refine wp_of e196 c196_119 (rw_istore_n (pc' := 120) (z := 0) (L' := [(3, vI 0), (4, vI v88863), (2, vI z88720), (1, vI z88690), (0, .ref r0)]) rfl rfl rfl ?_)
                  refine wp_of e196 c196_120 (rw_iinc (pc' := 123) (z := v88863) (L' := [(4, vI (v88863 + 1)), (3, vI 0), (2, vI z88720), (1, vI z88690), (0, .ref r0)]) rfl rfl rfl rfl ?_)
                  refine wp_of e196 c196_123 (rw_goto (p1 := 42) (by decide) ?_)
                  exact wp_lc (ks := [4, 3, 2, 1, 0]) (wl_c rfl (wl_c rfl (wl_c rfl (wl_c rfl (wl_c rfl wl_n))))) rfl (by decide) (ih88862 _ (by omega) (v88863 + 1) 0 ⟨by omega, by omega⟩ ⟨by omega, by omega⟩ rfl)
                · refine wp_of e196 c196_114 (rw_iconst (pc' := 115) rfl ?_)
                  refine wp_of e196 c196_115 (rw_goto (p1 := 119) (by decide) ?_)
                  refine wp_of e196 c196_119 (rw_istore_n (pc' := 120) (z := 1) (L' := [(3, vI 1), (4, vI v88863), (2, vI z88720), (1, vI z88690), (0, .ref r0)]) rfl rfl rfl ?_)
                  refine wp_of e196 c196_120 (rw_iinc (pc' := 123) (z := v88863) (L' := [(4, vI (v88863 + 1)), (3, vI 1), (2, vI z88720), (1, vI z88690), (0, .ref r0)]) rfl rfl rfl rfl ?_)
                  refine wp_of e196 c196_123 (rw_goto (p1 := 42) (by decide) ?_)
                  exact wp_lc (ks := [4, 3, 2, 1, 0]) (wl_c rfl (wl_c rfl (wl_c rfl (wl_c rfl (wl_c rfl wl_n))))) rfl (by decide) (ih88862 _ (by omega) (v88863 + 1) 1 ⟨by omega, by omega⟩ ⟨by omega, by omega⟩ rfl)
            · refine wp_of e196 c196_72 (rw_aload_n (pc' := 73) (v := .ref r0) rfl rfl rfl ?_)
              refine wp_of e196 c196_73 (xg_K (pc' := 76) lf_9_166 w88714 g0 sh_42 (by decide) (by decide) rfl q88871 rfl ?_)
              refine wp_of e196 c196_76 (xg_R (pc' := 79) lf_9_285 w88714 grp sh_54 (by decide) (by decide) ty_54_19 rfl rfl (fun r89022 q89023 g89024 => ?_))
              refine wp_of e196 c196_79 (rw_iload (pc' := 81) (z := v88863) rfl rfl ?_)
              refine wp_of e196 c196_81 (xa_I (so := 0) (pc' := 82) w88714 g89024 sh_65 (by decide) (ty_65 _) (by omega) (by omega) rfl (fun b89025 b89026 => ?_))
              refine wp_of e196 c196_82 (rw_iload_n (pc' := 83) (z := z88720) rfl rfl ?_)
              refine wp_of e196 c196_83 (rw_icmp_eq (p1 := 114) (p2 := 86) (by decide) rfl ⟨by omega, by omega⟩ ⟨by omega, by omega⟩ (fun c89027 => ?_) (fun c89027 => ?_))
              · refine wp_of e196 c196_114 (rw_iconst (pc' := 115) rfl ?_)
                refine wp_of e196 c196_115 (rw_goto (p1 := 119) (by decide) ?_)
                refine wp_of e196 c196_119 (rw_istore_n (pc' := 120) (z := 1) (L' := [(3, vI 1), (4, vI v88863), (2, vI z88720), (1, vI z88690), (0, .ref r0)]) rfl rfl rfl ?_)
                refine wp_of e196 c196_120 (rw_iinc (pc' := 123) (z := v88863) (L' := [(4, vI (v88863 + 1)), (3, vI 1), (2, vI z88720), (1, vI z88690), (0, .ref r0)]) rfl rfl rfl rfl ?_)
                refine wp_of e196 c196_123 (rw_goto (p1 := 42) (by decide) ?_)
                exact wp_lc (ks := [4, 3, 2, 1, 0]) (wl_c rfl (wl_c rfl (wl_c rfl (wl_c rfl (wl_c rfl wl_n))))) rfl (by decide) (ih88862 _ (by omega) (v88863 + 1) 1 ⟨by omega, by omega⟩ ⟨by omega, by omega⟩ rfl)
              · refine wp_of e196 c196_86 (rw_aload_n (pc' := 87) (v := .ref r0) rfl rfl rfl ?_)
                refine wp_of e196 c196_87 (xg_K (pc' := 90) lf_9_166 w88714 g0 sh_42 (by decide) (by decide) rfl q88871 rfl ?_)
                refine wp_of e196 c196_90 (xg_K (pc' := 93) lf_9_282 w88714 grp sh_54 (by decide) (by decide) rfl q89008 rfl ?_)
                refine wp_of e196 c196_93 (rw_iload (pc' := 95) (z := v88863) rfl rfl ?_)
                refine wp_of e196 c196_95 (xa_I (so := 0) (pc' := 96) w88714 g89009 sh_64 (by decide) (ty_64 _) (by omega) (by omega) rfl (fun b89028 b89029 => ?_))
                refine wp_of e196 c196_96 (rw_iload_n (pc' := 97) (z := z88720) rfl rfl ?_)
                refine wp_of e196 c196_97 (rw_icmp_ne (p1 := 118) (p2 := 100) (by decide) rfl ⟨by omega, by omega⟩ ⟨by omega, by omega⟩ (fun c89030 => ?_) (fun c89030 => ?_))
                · refine wp_of e196 c196_118 (rw_iconst (pc' := 119) rfl ?_)
                  refine wp_of e196 c196_119 (rw_istore_n (pc' := 120) (z := 0) (L' := [(3, vI 0), (4, vI v88863), (2, vI z88720), (1, vI z88690), (0, .ref r0)]) rfl rfl rfl ?_)
                  refine wp_of e196 c196_120 (rw_iinc (pc' := 123) (z := v88863) (L' := [(4, vI (v88863 + 1)), (3, vI 0), (2, vI z88720), (1, vI z88690), (0, .ref r0)]) rfl rfl rfl rfl ?_)
                  refine wp_of e196 c196_123 (rw_goto (p1 := 42) (by decide) ?_)
                  exact wp_lc (ks := [4, 3, 2, 1, 0]) (wl_c rfl (wl_c rfl (wl_c rfl (wl_c rfl (wl_c rfl wl_n))))) rfl (by decide) (ih88862 _ (by omega) (v88863 + 1) 0 ⟨by omega, by omega⟩ ⟨by omega, by omega⟩ rfl)
                · refine wp_of e196 c196_100 (rw_aload_n (pc' := 101) (v := .ref r0) rfl rfl rfl ?_)
                  refine wp_of e196 c196_101 (xg_K (pc' := 104) lf_9_166 w88714 g0 sh_42 (by decide) (by decide) rfl q88871 rfl ?_)
                  refine wp_of e196 c196_104 (xg_K (pc' := 107) lf_9_285 w88714 grp sh_54 (by decide) (by decide) rfl q89023 rfl ?_)
                  refine wp_of e196 c196_107 (rw_iload (pc' := 109) (z := v88863) rfl rfl ?_)
                  refine wp_of e196 c196_109 (xa_I (so := 0) (pc' := 110) w88714 g89024 sh_65 (by decide) (ty_65 _) (by omega) (by omega) rfl (fun b89031 b89032 => ?_))
                  refine wp_of e196 c196_110 (rw_iload_n (pc' := 111) (z := z88690) rfl rfl ?_)
                  refine wp_of e196 c196_111 (rw_icmp_ne (p1 := 118) (p2 := 114) (by decide) rfl ⟨by omega, by omega⟩ ⟨by omega, by omega⟩ (fun c89033 => ?_) (fun c89033 => ?_))
                  · refine wp_of e196 c196_118 (rw_iconst (pc' := 119) rfl ?_)
                    refine wp_of e196 c196_119 (rw_istore_n (pc' := 120) (z := 0) (L' := [(3, vI 0), (4, vI v88863), (2, vI z88720), (1, vI z88690), (0, .ref r0)]) rfl rfl rfl ?_)
                    refine wp_of e196 c196_120 (rw_iinc (pc' := 123) (z := v88863) (L' := [(4, vI (v88863 + 1)), (3, vI 0), (2, vI z88720), (1, vI z88690), (0, .ref r0)]) rfl rfl rfl rfl ?_)
                    refine wp_of e196 c196_123 (rw_goto (p1 := 42) (by decide) ?_)
                    exact wp_lc (ks := [4, 3, 2, 1, 0]) (wl_c rfl (wl_c rfl (wl_c rfl (wl_c rfl (wl_c rfl wl_n))))) rfl (by decide) (ih88862 _ (by omega) (v88863 + 1) 0 ⟨by omega, by omega⟩ ⟨by omega, by omega⟩ rfl)
                  · refine wp_of e196 c196_114 (rw_iconst (pc' := 115) rfl ?_)
                    refine wp_of e196 c196_115 (rw_goto (p1 := 119) (by decide) ?_)
                    refine wp_of e196 c196_119 (rw_istore_n (pc' := 120) (z := 1) (L' := [(3, vI 1), (4, vI v88863), (2, vI z88720), (1, vI z88690), (0, .ref r0)]) rfl rfl rfl ?_)
                    refine wp_of e196 c196_120 (rw_iinc (pc' := 123) (z := v88863) (L' := [(4, vI (v88863 + 1)), (3, vI 1), (2, vI z88720), (1, vI z88690), (0, .ref r0)]) rfl rfl rfl rfl ?_)
                    refine wp_of e196 c196_123 (rw_goto (p1 := 42) (by decide) ?_)
                    exact wp_lc (ks := [4, 3, 2, 1, 0]) (wl_c rfl (wl_c rfl (wl_c rfl (wl_c rfl (wl_c rfl wl_n))))) rfl (by decide) (ih88862 _ (by omega) (v88863 + 1) 1 ⟨by omega, by omega⟩ ⟨by omega, by omega⟩ rfl)
    exact wp_lc (ks := [4, 3, 2, 1, 0]) (wl_c rfl (wl_c rfl (wl_c rfl (wl_c rfl (wl_c rfl wl_n))))) rfl (by decide) (lp88860 _ 0 0 ⟨by omega, by omega⟩ ⟨by omega, by omega⟩ rfl)
  · refine wp_of e196 c196_33 (rw_iconst (pc' := 34) rfl ?_)
    refine wp_of e196 c196_34 (rw_goto (p1 := 38) (by decide) ?_)
    refine wp_of e196 c196_38 (rw_istore_n (pc' := 39) (z := 1) (L' := [(3, vI 1), (2, vI z88720), (1, vI z88690), (0, .ref r0)]) rfl rfl rfl ?_)
    refine wp_of e196 c196_39 (rw_iconst (pc' := 40) rfl ?_)
    refine wp_of e196 c196_40 (rw_istore (pc' := 42) (z := 0) (L' := [(4, vI 0), (3, vI 1), (2, vI z88720), (1, vI z88690), (0, .ref r0)]) rfl rfl rfl ?_)
    have lp89062 : ∀ (n89063 : Nat) (v89065 : Int) (v89066 : Int), (0 ≤ v89065 ∧ v89065 ≤ 3) → (1 ≤ v89066 ∧ v89066 ≤ 1) → (3 - v89065).toNat = n89063 → wp kt 5 196 42 [(4, vI v89065), (3, vI v89066), (2, vI z88720), (1, vI z88690), (0, .ref r0)] [] T H88710 (q_196 r0 rp T H) := by
      intro n89063
      induction n89063 using Nat.strongRecOn with
      | _ n89063 ih89064 =>
        intro v89065 v89066 b89069 b89070 m89071
        refine wp_of e196 c196_42 (rw_iload (pc' := 44) (z := v89065) rfl rfl ?_)
        refine wp_of e196 c196_44 (rw_aload_n (pc' := 45) (v := .ref r0) rfl rfl rfl ?_)
        have k89072 : H88710 r0 4 = H88695 r0 4 := (f88715 r0 4 _ g0 rfl)
        have q89073 : H88710 r0 4 = (rp : Int) := k89072.trans q88707
        refine wp_of e196 c196_45 (xg_K (pc' := 48) lf_9_166 w88714 g0 sh_42 (by decide) (by decide) rfl q89073 rfl ?_)
        have k89074 : H88710 rp 4 = H rp 4 := ((f88715 rp 4 _ grp rfl).trans ((f88700 rp 4 _ grp rfl).trans ((f88685 rp 4 _ grp rfl).trans (f88669 rp 4 _ grp rfl))))
        refine wp_of e196 c196_48 (xg_I (pc' := 51) lf_9_276 w88714 grp sh_54 (by decide) (by decide) ty_54_4 rfl rfl (fun b89075 b89076 => ?_))
        refine wp_of e196 c196_51 (rw_icmp_ge (p1 := 126) (p2 := 54) (by decide) rfl ⟨by omega, by omega⟩ ⟨by omega, by omega⟩ (fun c89077 => ?_) (fun c89077 => ?_))
        · refine wp_of e196 c196_126 (rw_iload_n (pc' := 127) (z := v89066) rfl rfl ?_)
          refine wp_of e196 c196_127 (rw_if_eq (p1 := 135) (p2 := 130) (by decide) rfl ⟨by omega, by omega⟩ (fun c89078 => ?_) (fun c89078 => ?_))
          · exfalso
            omega
          · refine wp_of e196 c196_130 (rw_aload_n (pc' := 131) (v := .ref r0) rfl rfl rfl ?_)
            refine wp_of e196 c196_131 (rw_iconst (pc' := 132) rfl ?_)
            refine wp_of e196 c196_132 (xc_V (pc' := 135) (r := r0) (as := [vI 3]) (st := []) (lm_9_121) rfl rfl (Nat.le_of_ble_eq_true rfl) w88714 g0 sh_42 (by decide) rfl (by decide) (s_181 w88714 g0 ⟨by omega, by omega⟩ (by omega)) (fun R89079 T89080 H89081 p89082 => ?_))
            obtain ⟨e89083, w89085, f89086, e89084, p89087, p89088, p89089, p89090, p89091, p89092⟩ := p89082
            subst e89083
            subst e89084
            have f89093 := f88722.tr f89086 rfl
            show wp _ _ 196 135 [(4, vI v89065), (3, vI v89066), (2, vI z88720), (1, vI z88690), (0, .ref r0)] [] _ H89081 _
            refine wp_of e196 c196_135 (rw_aload_n (pc' := 136) (v := .ref r0) rfl rfl rfl ?_)
            refine wp_of e196 c196_136 (xc_V (pc' := 139) (r := r0) (as := []) (st := []) (lm_9_118) rfl rfl (Nat.le_of_ble_eq_true rfl) w89085 g0 sh_42 (by decide) rfl (by decide) (s_172 w89085 g0 (by omega)) (fun R89094 T89095 H89096 p89097 => ?_))
            obtain ⟨e89098, w89100, f89101, e89099, p89102, p89103, p89104, p89105, p89106, p89107⟩ := p89097
            subst e89098
            subst e89099
            have f89108 := f89093.tr f89101 rfl
            show wp _ _ 196 139 [(4, vI v89065), (3, vI v89066), (2, vI z88720), (1, vI z88690), (0, .ref r0)] [] _ H89096 _
            refine wp_of e196 c196_139 (rw_aload_n (pc' := 140) (v := .ref r0) rfl rfl rfl ?_)
            refine wp_of e196 c196_140 (xg_I (pc' := 143) lf_9_75 w89100 g0 sh_42 (by decide) (by decide) ty_42_9 rfl rfl (fun b89109 b89110 => ?_))
            have k89111 := wOV_e (H := H89096) (m := r0)
            refine wp_of e196 c196_143 (rw_iconst (pc' := 144) rfl ?_)
            refine wp_of e196 c196_144 (rw_icmp_ne (p1 := 148) (p2 := 147) (by decide) rfl ⟨by omega, by omega⟩ ⟨by omega, by omega⟩ (fun c89112 => ?_) (fun c89112 => ?_))
            · refine wp_of e196 c196_148 (rw_aload_n (pc' := 149) (v := .ref r0) rfl rfl rfl ?_)
              have k89113 : H89096 r0 4 = H88710 r0 4 := ((f89101 r0 4 _ g0 rfl).trans (f89086 r0 4 _ g0 rfl))
              have q89114 : H89096 r0 4 = (rp : Int) := k89113.trans q89073
              refine wp_of e196 c196_149 (xg_K (pc' := 152) lf_9_166 w89100 g0 sh_42 (by decide) (by decide) rfl q89114 rfl ?_)
              refine wp_of e196 c196_152 (xg_R (pc' := 155) lf_9_282 w89100 grp sh_54 (by decide) (by decide) ty_54_18 rfl rfl (fun r89115 q89116 g89117 => ?_))
              refine wp_of e196 c196_155 (rw_aload_n (pc' := 156) (v := .ref r0) rfl rfl rfl ?_)
              refine wp_of e196 c196_156 (xg_K (pc' := 159) lf_9_166 w89100 g0 sh_42 (by decide) (by decide) rfl q89114 rfl ?_)
              have k89118 : H89096 rp 4 = H88710 rp 4 := ((f89101 rp 4 _ grp rfl).trans (f89086 rp 4 _ grp rfl))
              refine wp_of e196 c196_159 (xg_I (pc' := 162) lf_9_276 w89100 grp sh_54 (by decide) (by decide) ty_54_4 rfl rfl (fun b89119 b89120 => ?_))
              refine wp_of e196 c196_162 (rw_iload_n (pc' := 163) (z := z88690) rfl rfl ?_)
              refine wp_of e196 c196_163 (xs_I (pc' := 164) w89100 g89117 (by decide) sh_64 (by decide) (ty_64 _) (by omega) (by omega) ⟨by omega, by omega⟩ (by omega) (by omega) rfl (fun H89121 e89122 w89123 => ?_))
              have f89124 := f89108.put' e89122 g89117 rfl
              refine wp_of e196 c196_164 (rw_aload_n (pc' := 165) (v := .ref r0) rfl rfl rfl ?_)
              have k89125 : H89121 r0 4 = H89096 r0 4 := (wq_u_t e89122 g89117 g0 rfl 4)
              have q89126 : H89121 r0 4 = (rp : Int) := k89125.trans q89114
              refine wp_of e196 c196_165 (xg_K (pc' := 168) lf_9_166 w89123 g0 sh_42 (by decide) (by decide) rfl q89126 rfl ?_)
              refine wp_of e196 c196_168 (xg_R (pc' := 171) lf_9_285 w89123 grp sh_54 (by decide) (by decide) ty_54_19 rfl rfl (fun r89127 q89128 g89129 => ?_))
              refine wp_of e196 c196_171 (rw_aload_n (pc' := 172) (v := .ref r0) rfl rfl rfl ?_)
              refine wp_of e196 c196_172 (xg_K (pc' := 175) lf_9_166 w89123 g0 sh_42 (by decide) (by decide) rfl q89126 rfl ?_)
              have k89130 : H89121 rp 4 = H89096 rp 4 := (wq_u_t e89122 g89117 grp rfl 4)
              refine wp_of e196 c196_175 (xg_I (pc' := 178) lf_9_276 w89123 grp sh_54 (by decide) (by decide) ty_54_4 rfl rfl (fun b89131 b89132 => ?_))
              refine wp_of e196 c196_178 (rw_iload_n (pc' := 179) (z := z88720) rfl rfl ?_)
              refine wp_of e196 c196_179 (xs_I (pc' := 180) w89123 g89129 (by decide) sh_65 (by decide) (ty_65 _) (by omega) (by omega) ⟨by omega, by omega⟩ (by omega) (by omega) rfl (fun H89133 e89134 w89135 => ?_))
              have f89136 := f89124.put' e89134 g89129 rfl
              refine wp_of e196 c196_180 (rw_aload_n (pc' := 181) (v := .ref r0) rfl rfl rfl ?_)
              have k89137 : H89133 r0 4 = H89121 r0 4 := (wq_u_t e89134 g89129 g0 rfl 4)
              have q89138 : H89133 r0 4 = (rp : Int) := k89137.trans q89126
              refine wp_of e196 c196_181 (xg_K (pc' := 184) lf_9_166 w89135 g0 sh_42 (by decide) (by decide) rfl q89138 rfl ?_)
              refine wp_of e196 c196_184 (rw_dup (pc' := 185) rfl rfl ?_)
              have k89139 : H89133 rp 4 = H89121 rp 4 := (wq_u_t e89134 g89129 grp rfl 4)
              refine wp_of e196 c196_185 (xg_I (pc' := 188) lf_9_276 w89135 grp sh_54 (by decide) (by decide) ty_54_4 rfl rfl (fun b89140 b89141 => ?_))
              refine wp_of e196 c196_188 (rw_iconst (pc' := 189) rfl ?_)
              refine wp_of e196 c196_189 (rw_iadd (pc' := 190) rfl ?_)
              refine wp_of e196 c196_190 (xp_I (pc' := 193) lf_9_276 w89135 grp sh_54 (by decide) (by decide) ty_54_4 rfl rfl (by omega) (by omega) ⟨by omega, by omega⟩ rfl (fun H89142 e89143 w89144 => ?_))
              have f89145 := f89136.put' e89143 grp rfl
              have k89146 : H89142 rp 4 = (H89133 rp 4) + 1 := wq_u_s e89143
              have k89147 : H89142 r0 9 = H89096 r0 9 := ((wq_u_t e89143 grp g0 rfl 9).trans ((wq_u_t e89134 g89129 g0 rfl 9).trans (wq_u_t e89122 g89117 g0 rfl 9)))
              have k89148 : H89142 r0 10 = H89096 r0 10 := ((wq_u_t e89143 grp g0 rfl 10).trans ((wq_u_t e89134 g89129 g0 rfl 10).trans (wq_u_t e89122 g89117 g0 rfl 10)))
              have k89149 : wOV H89142 r0 = wOV H89096 r0 := ((wOV_fr w89135 g0 ((wfr.rf (l := [(54, 4)])).put' e89143 grp rfl) rfl).trans ((wOV_fr w89123 g0 ((wfr.rf (l := [(65, 999)])).put' e89134 g89129 rfl) rfl).trans (wOV_fr w89100 g0 ((wfr.rf (l := [(64, 999)])).put' e89122 g89117 rfl) rfl)))
              have k89150 : wJ H89142 r0 = wJ H89096 r0 := ((wJ_fr w89135 g0 ((wfr.rf (l := [(54, 4)])).put' e89143 grp rfl) rfl).trans ((wJ_fr w89123 g0 ((wfr.rf (l := [(65, 999)])).put' e89134 g89129 rfl) rfl).trans (wJ_fr w89100 g0 ((wfr.rf (l := [(64, 999)])).put' e89122 g89117 rfl) rfl)))
              exact wp_return e196 c196_193 rfl ⟨rfl, w89144, f89145, rfl, by omega, by omega, by omega, by omega⟩
            · exact wp_return e196 c196_147 rfl ⟨rfl, w89100, f89108, rfl, by omega, by omega, by omega, by omega⟩
        · refine wp_of e196 c196_54 (rw_iload_n (pc' := 55) (z := v89066) rfl rfl ?_)
          refine wp_of e196 c196_55 (rw_if_ne (p1 := 114) (p2 := 58) (by decide) rfl ⟨by omega, by omega⟩ (fun c89151 => ?_) (fun c89151 => ?_))
          · refine wp_of e196 c196_114 (rw_iconst (pc' := 115) rfl ?_)
            refine wp_of e196 c196_115 (rw_goto (p1 := 119) (by decide) ?_)
            refine wp_of e196 c196_119 (rw_istore_n (pc' := 120) (z := 1) (L' := [(3, vI 1), (4, vI v89065), (2, vI z88720), (1, vI z88690), (0, .ref r0)]) rfl rfl rfl ?_)
            refine wp_of e196 c196_120 (rw_iinc (pc' := 123) (z := v89065) (L' := [(4, vI (v89065 + 1)), (3, vI 1), (2, vI z88720), (1, vI z88690), (0, .ref r0)]) rfl rfl rfl rfl ?_)
            refine wp_of e196 c196_123 (rw_goto (p1 := 42) (by decide) ?_)
            exact wp_lc (ks := [4, 3, 2, 1, 0]) (wl_c rfl (wl_c rfl (wl_c rfl (wl_c rfl (wl_c rfl wl_n))))) rfl (by decide) (ih89064 _ (by omega) (v89065 + 1) 1 ⟨by omega, by omega⟩ ⟨by omega, by omega⟩ rfl)
          · exfalso
            omega
    exact wp_lc (ks := [4, 3, 2, 1, 0]) (wl_c rfl (wl_c rfl (wl_c rfl (wl_c rfl (wl_c rfl wl_n))))) rfl (by decide) (lp89062 _ 0 1 ⟨by omega, by omega⟩ ⟨by omega, by omega⟩ rfl)
/-! StrikeAwakeModel.readBorn()V -/
theorem e198 : wq_en 198 = some (9, 2, false, none) := rfl
theorem c198_0 : mc_cd 198 0 = some (.aload_n 0, 1) := by decide +kernel
theorem c198_1 : mc_cd 198 1 = some (.aload_n 0, 1) := by decide +kernel
theorem c198_2 : mc_cd 198 2 = some (.getfield 166, 3) := by decide +kernel
theorem c198_5 : mc_cd 198 5 = some (.getfield 288, 3) := by decide +kernel
theorem c198_8 : mc_cd 198 8 = some (.iconst 3, 1) := by decide +kernel
theorem c198_9 : mc_cd 198 9 = some (.invokevirtual 228, 3) := by decide +kernel
theorem c198_12 : mc_cd 198 12 = some (.aload_n 0, 1) := by decide +kernel
theorem c198_13 : mc_cd 198 13 = some (.iconst 0, 1) := by decide +kernel
theorem c198_14 : mc_cd 198 14 = some (.bipush 23, 2) := by decide +kernel
theorem c198_16 : mc_cd 198 16 = some (.invokevirtual 137, 3) := by decide +kernel
theorem c198_19 : mc_cd 198 19 = some (.istore_n 1, 1) := by decide +kernel
theorem c198_20 : mc_cd 198 20 = some (.aload_n 0, 1) := by decide +kernel
theorem c198_21 : mc_cd 198 21 = some (.getfield 75, 3) := by decide +kernel
theorem c198_24 : mc_cd 198 24 = some (.iconst 5, 1) := by decide +kernel
theorem c198_25 : mc_cd 198 25 = some (.if_icmp .ne 4, 3) := by decide +kernel
theorem c198_28 : mc_cd 198 28 = some (.return_, 1) := by decide +kernel
theorem c198_29 : mc_cd 198 29 = some (.aload_n 0, 1) := by decide +kernel
theorem c198_30 : mc_cd 198 30 = some (.getfield 166, 3) := by decide +kernel
theorem c198_33 : mc_cd 198 33 = some (.getfield 291, 3) := by decide +kernel
theorem c198_36 : mc_cd 198 36 = some (.aload_n 0, 1) := by decide +kernel
theorem c198_37 : mc_cd 198 37 = some (.getfield 166, 3) := by decide +kernel
theorem c198_40 : mc_cd 198 40 = some (.getfield 288, 3) := by decide +kernel
theorem c198_43 : mc_cd 198 43 = some (.iload_n 1, 1) := by decide +kernel
theorem c198_44 : mc_cd 198 44 = some (.iastore, 1) := by decide +kernel
theorem c198_45 : mc_cd 198 45 = some (.aload_n 0, 1) := by decide +kernel
theorem c198_46 : mc_cd 198 46 = some (.getfield 166, 3) := by decide +kernel
theorem c198_49 : mc_cd 198 49 = some (.dup, 1) := by decide +kernel
theorem c198_50 : mc_cd 198 50 = some (.getfield 288, 3) := by decide +kernel
theorem c198_53 : mc_cd 198 53 = some (.iconst 1, 1) := by decide +kernel
theorem c198_54 : mc_cd 198 54 = some (.iadd, 1) := by decide +kernel
theorem c198_55 : mc_cd 198 55 = some (.putfield 288, 3) := by decide +kernel
theorem c198_58 : mc_cd 198 58 = some (.return_, 1) := by decide +kernel
abbrev q_198 (r0 : Nat) (rp : Nat) (T : wq_T) (H : wq_H) : Option Value → wq_T → wq_H → Prop := fun r T' H' => T = T' ∧ WT T H' ∧ wfr [(54, 5), (42, 8), (42, 9), (42, 10), (42, 11), (42, 12), (42, 13), (42, 14), (42, 15), (66, 999)] T H H' ∧ none = r ∧ (wJ H' r0 = 1) ∧ (H r0 10 ≤ H' r0 10) ∧ (wOV H r0 ≤ wOV H' r0) ∧ (wOV H' r0 ≤ 1)
set_option maxHeartbeats 4000000 in
theorem s_198 {kt : Nat → Option mc_E} {T : wq_T} {H : wq_H} {r0 : Nat} {rp : Nat} (hW : WT T H) (g0 : T.2.2.2 r0 = some 42) (qrp : H r0 4 = (rp : Int)) (grp : T.2.2.2 rp = some 54) (p0 : wJ H r0 = 1) : wpc kt 4 198 [.ref r0] T H (q_198 r0 rp T H) := by
  refine wp_enter e198 (Nat.le_of_ble_eq_true rfl) rfl ?_
  have f0 : wfr [(54, 5), (42, 8), (42, 9), (42, 10), (42, 11), (42, 12), (42, 13), (42, 14), (42, 15), (66, 999)] T H H := wfr.rf
  show wp _ _ 198 0 [(0, .ref r0)] [] _ H _
  have hb0 := wOV_b (H := H) (m := r0)
  refine wp_of e198 c198_0 (rw_aload_n (pc' := 1) (v := .ref r0) rfl rfl rfl ?_)
  refine wp_of e198 c198_1 (rw_aload_n (pc' := 2) (v := .ref r0) rfl rfl rfl ?_)
  refine wp_of e198 c198_2 (xg_K (pc' := 5) lf_9_166 hW g0 sh_42 (by decide) (by decide) rfl qrp rfl ?_)
  refine wp_of e198 c198_5 (xg_I (pc' := 8) lf_9_288 hW grp sh_54 (by decide) (by decide) ty_54_5 rfl rfl (fun b89214 b89215 => ?_))
  refine wp_of e198 c198_8 (rw_iconst (pc' := 9) rfl ?_)
  refine wp_of e198 c198_9 (xc_V (pc' := 12) (r := r0) (as := [vI (H rp 5), vI 3]) (st := []) (lm_9_228) rfl rfl (Nat.le_of_ble_eq_true rfl) hW g0 sh_42 (by decide) rfl (by decide) (s_188 hW g0 ⟨by omega, by omega⟩ ⟨by omega, by omega⟩ (by omega)) (fun R89216 T89217 H89218 p89219 => ?_))
  obtain ⟨e89220, w89222, f89223, e89221, p89224, p89225, p89226, p89227, p89228⟩ := p89219
  subst e89220
  subst e89221
  have f89229 := f0.tr f89223 rfl
  show wp _ _ 198 12 [(0, .ref r0)] [] _ H89218 _
  refine wp_of e198 c198_12 (rw_aload_n (pc' := 13) (v := .ref r0) rfl rfl rfl ?_)
  refine wp_of e198 c198_13 (rw_iconst (pc' := 14) rfl ?_)
  refine wp_of e198 c198_14 (rw_bipush (pc' := 16) (z := 23) rfl (by decide) ?_)
  refine wp_of e198 c198_16 (xc_V (pc' := 19) (r := r0) (as := [vI 0, vI 23]) (st := []) (lm_9_137) rfl rfl (Nat.le_of_ble_eq_true rfl) w89222 g0 sh_42 (by decide) rfl (by decide) (s_184 w89222 g0 ⟨by omega, by omega⟩ ⟨by omega, by omega⟩ (by omega)) (fun R89230 T89231 H89232 p89233 => ?_))
  obtain ⟨e89234, w89236, f89237, z89243, e89235, b89244, p89238, p89239, p89240, p89241, p89242⟩ := p89233
  subst e89234
  subst e89235
  have f89245 := f89229.tr f89237 rfl
  show wp _ _ 198 19 [(0, .ref r0)] [vI z89243] _ H89232 _
  refine wp_of e198 c198_19 (rw_istore_n (pc' := 20) (z := z89243) (L' := [(1, vI z89243), (0, .ref r0)]) rfl rfl rfl ?_)
  refine wp_of e198 c198_20 (rw_aload_n (pc' := 21) (v := .ref r0) rfl rfl rfl ?_)
  refine wp_of e198 c198_21 (xg_I (pc' := 24) lf_9_75 w89236 g0 sh_42 (by decide) (by decide) ty_42_9 rfl rfl (fun b89246 b89247 => ?_))
  have k89248 := wOV_e (H := H89232) (m := r0)
  refine wp_of e198 c198_24 (rw_iconst (pc' := 25) rfl ?_)
  refine wp_of e198 c198_25 (rw_icmp_ne (p1 := 29) (p2 := 28) (by decide) rfl ⟨by omega, by omega⟩ ⟨by omega, by omega⟩ (fun c89249 => ?_) (fun c89249 => ?_))
  · refine wp_of e198 c198_29 (rw_aload_n (pc' := 30) (v := .ref r0) rfl rfl rfl ?_)
    have k89250 : H89232 r0 4 = H r0 4 := ((f89237 r0 4 _ g0 rfl).trans (f89223 r0 4 _ g0 rfl))
    have q89251 : H89232 r0 4 = (rp : Int) := k89250.trans qrp
    refine wp_of e198 c198_30 (xg_K (pc' := 33) lf_9_166 w89236 g0 sh_42 (by decide) (by decide) rfl q89251 rfl ?_)
    refine wp_of e198 c198_33 (xg_R (pc' := 36) lf_9_291 w89236 grp sh_54 (by decide) (by decide) ty_54_20 rfl rfl (fun r89252 q89253 g89254 => ?_))
    refine wp_of e198 c198_36 (rw_aload_n (pc' := 37) (v := .ref r0) rfl rfl rfl ?_)
    refine wp_of e198 c198_37 (xg_K (pc' := 40) lf_9_166 w89236 g0 sh_42 (by decide) (by decide) rfl q89251 rfl ?_)
    have k89255 : H89232 rp 5 = H rp 5 := ((f89237 rp 5 _ grp rfl).trans (f89223 rp 5 _ grp rfl))
    refine wp_of e198 c198_40 (xg_I (pc' := 43) lf_9_288 w89236 grp sh_54 (by decide) (by decide) ty_54_5 rfl rfl (fun b89256 b89257 => ?_))
    refine wp_of e198 c198_43 (rw_iload_n (pc' := 44) (z := z89243) rfl rfl ?_)
    refine wp_of e198 c198_44 (xs_I (pc' := 45) w89236 g89254 (by decide) sh_66 (by decide) (ty_66 _) (by omega) (by omega) ⟨by omega, by omega⟩ (by omega) (by omega) rfl (fun H89258 e89259 w89260 => ?_))
    have f89261 := f89245.put' e89259 g89254 rfl
    refine wp_of e198 c198_45 (rw_aload_n (pc' := 46) (v := .ref r0) rfl rfl rfl ?_)
    have k89262 : H89258 r0 4 = H89232 r0 4 := (wq_u_t e89259 g89254 g0 rfl 4)
    have q89263 : H89258 r0 4 = (rp : Int) := k89262.trans q89251
    refine wp_of e198 c198_46 (xg_K (pc' := 49) lf_9_166 w89260 g0 sh_42 (by decide) (by decide) rfl q89263 rfl ?_)
    refine wp_of e198 c198_49 (rw_dup (pc' := 50) rfl rfl ?_)
    have k89264 : H89258 rp 5 = H89232 rp 5 := (wq_u_t e89259 g89254 grp rfl 5)
    refine wp_of e198 c198_50 (xg_I (pc' := 53) lf_9_288 w89260 grp sh_54 (by decide) (by decide) ty_54_5 rfl rfl (fun b89265 b89266 => ?_))
    refine wp_of e198 c198_53 (rw_iconst (pc' := 54) rfl ?_)
    refine wp_of e198 c198_54 (rw_iadd (pc' := 55) rfl ?_)
    refine wp_of e198 c198_55 (xp_I (pc' := 58) lf_9_288 w89260 grp sh_54 (by decide) (by decide) ty_54_5 rfl rfl (by omega) (by omega) ⟨by omega, by omega⟩ rfl (fun H89267 e89268 w89269 => ?_))
    have f89270 := f89261.put' e89268 grp rfl
    have k89271 : H89267 rp 5 = (H89258 rp 5) + 1 := wq_u_s e89268
    have k89272 : H89267 r0 9 = H89232 r0 9 := ((wq_u_t e89268 grp g0 rfl 9).trans (wq_u_t e89259 g89254 g0 rfl 9))
    have k89273 : H89267 r0 10 = H89232 r0 10 := ((wq_u_t e89268 grp g0 rfl 10).trans (wq_u_t e89259 g89254 g0 rfl 10))
    have k89274 : wOV H89267 r0 = wOV H89232 r0 := ((wOV_fr w89260 g0 ((wfr.rf (l := [(54, 5)])).put' e89268 grp rfl) rfl).trans (wOV_fr w89236 g0 ((wfr.rf (l := [(66, 999)])).put' e89259 g89254 rfl) rfl))
    have k89275 : wJ H89267 r0 = wJ H89232 r0 := ((wJ_fr w89260 g0 ((wfr.rf (l := [(54, 5)])).put' e89268 grp rfl) rfl).trans (wJ_fr w89236 g0 ((wfr.rf (l := [(66, 999)])).put' e89259 g89254 rfl) rfl))
    exact wp_return e198 c198_58 rfl ⟨rfl, w89269, f89270, rfl, by omega, by omega, by omega, by omega⟩
  · exact wp_return e198 c198_28 rfl ⟨rfl, w89236, f89245, rfl, by omega, by omega, by omega, by omega⟩
/-! StrikeAwakeModel.readStruck()V -/
theorem e199 : wq_en 199 = some (9, 3, false, none) := rfl
theorem c199_0 : mc_cd 199 0 = some (.aload_n 0, 1) := by decide +kernel
theorem c199_1 : mc_cd 199 1 = some (.aload_n 0, 1) := by decide +kernel
theorem c199_2 : mc_cd 199 2 = some (.getfield 293, 3) := by decide +kernel
theorem c199_5 : mc_cd 199 5 = some (.bipush 24, 2) := by decide +kernel
theorem c199_7 : mc_cd 199 7 = some (.invokevirtual 228, 3) := by decide +kernel
theorem c199_10 : mc_cd 199 10 = some (.aload_n 0, 1) := by decide +kernel
theorem c199_11 : mc_cd 199 11 = some (.iconst 0, 1) := by decide +kernel
theorem c199_12 : mc_cd 199 12 = some (.bipush 23, 2) := by decide +kernel
theorem c199_14 : mc_cd 199 14 = some (.invokevirtual 129, 3) := by decide +kernel
theorem c199_17 : mc_cd 199 17 = some (.istore_n 1, 1) := by decide +kernel
theorem c199_18 : mc_cd 199 18 = some (.aload_n 0, 1) := by decide +kernel
theorem c199_19 : mc_cd 199 19 = some (.getfield 75, 3) := by decide +kernel
theorem c199_22 : mc_cd 199 22 = some (.iconst 5, 1) := by decide +kernel
theorem c199_23 : mc_cd 199 23 = some (.if_icmp .eq 20, 3) := by decide +kernel
theorem c199_26 : mc_cd 199 26 = some (.aload_n 0, 1) := by decide +kernel
theorem c199_27 : mc_cd 199 27 = some (.getfield 166, 3) := by decide +kernel
theorem c199_30 : mc_cd 199 30 = some (.getfield 296, 3) := by decide +kernel
theorem c199_33 : mc_cd 199 33 = some (.iload_n 1, 1) := by decide +kernel
theorem c199_34 : mc_cd 199 34 = some (.iaload, 1) := by decide +kernel
theorem c199_35 : mc_cd 199 35 = some (.ifCond .le 8, 3) := by decide +kernel
theorem c199_38 : mc_cd 199 38 = some (.aload_n 0, 1) := by decide +kernel
theorem c199_39 : mc_cd 199 39 = some (.iconst 3, 1) := by decide +kernel
theorem c199_40 : mc_cd 199 40 = some (.invokevirtual 121, 3) := by decide +kernel
theorem c199_43 : mc_cd 199 43 = some (.aload_n 0, 1) := by decide +kernel
theorem c199_44 : mc_cd 199 44 = some (.invokevirtual 118, 3) := by decide +kernel
theorem c199_47 : mc_cd 199 47 = some (.aload_n 0, 1) := by decide +kernel
theorem c199_48 : mc_cd 199 48 = some (.ldc_w 298, 3) := by decide +kernel
theorem c199_51 : mc_cd 199 51 = some (.iconst 0, 1) := by decide +kernel
theorem c199_52 : mc_cd 199 52 = some (.bipush 99, 2) := by decide +kernel
theorem c199_54 : mc_cd 199 54 = some (.invokevirtual 216, 3) := by decide +kernel
theorem c199_57 : mc_cd 199 57 = some (.istore_n 2, 1) := by decide +kernel
theorem c199_58 : mc_cd 199 58 = some (.aload_n 0, 1) := by decide +kernel
theorem c199_59 : mc_cd 199 59 = some (.getfield 75, 3) := by decide +kernel
theorem c199_62 : mc_cd 199 62 = some (.iconst 5, 1) := by decide +kernel
theorem c199_63 : mc_cd 199 63 = some (.if_icmp .ne 4, 3) := by decide +kernel
theorem c199_66 : mc_cd 199 66 = some (.return_, 1) := by decide +kernel
theorem c199_67 : mc_cd 199 67 = some (.aload_n 0, 1) := by decide +kernel
theorem c199_68 : mc_cd 199 68 = some (.getfield 166, 3) := by decide +kernel
theorem c199_71 : mc_cd 199 71 = some (.getfield 296, 3) := by decide +kernel
theorem c199_74 : mc_cd 199 74 = some (.iload_n 1, 1) := by decide +kernel
theorem c199_75 : mc_cd 199 75 = some (.iload_n 2, 1) := by decide +kernel
theorem c199_76 : mc_cd 199 76 = some (.iconst 1, 1) := by decide +kernel
theorem c199_77 : mc_cd 199 77 = some (.iadd, 1) := by decide +kernel
theorem c199_78 : mc_cd 199 78 = some (.iastore, 1) := by decide +kernel
theorem c199_79 : mc_cd 199 79 = some (.aload_n 0, 1) := by decide +kernel
theorem c199_80 : mc_cd 199 80 = some (.dup, 1) := by decide +kernel
theorem c199_81 : mc_cd 199 81 = some (.getfield 293, 3) := by decide +kernel
theorem c199_84 : mc_cd 199 84 = some (.iconst 1, 1) := by decide +kernel
theorem c199_85 : mc_cd 199 85 = some (.iadd, 1) := by decide +kernel
theorem c199_86 : mc_cd 199 86 = some (.putfield 293, 3) := by decide +kernel
theorem c199_89 : mc_cd 199 89 = some (.return_, 1) := by decide +kernel
abbrev q_199 (r0 : Nat) (rp : Nat) (T : wq_T) (H : wq_H) : Option Value → wq_T → wq_H → Prop := fun r T' H' => T = T' ∧ WT T H' ∧ wfr [(42, 8), (42, 9), (42, 10), (42, 11), (42, 12), (42, 13), (42, 14), (42, 15), (42, 16), (67, 999)] T H H' ∧ none = r ∧ (wJ H' r0 = 1) ∧ (H r0 10 ≤ H' r0 10) ∧ (wOV H r0 ≤ wOV H' r0) ∧ (wOV H' r0 ≤ 1)
set_option maxHeartbeats 4000000 in
theorem s_199 {kt : Nat → Option mc_E} {T : wq_T} {H : wq_H} {r0 : Nat} {rp : Nat} (hW : WT T H) (g0 : T.2.2.2 r0 = some 42) (qrp : H r0 4 = (rp : Int)) (grp : T.2.2.2 rp = some 54) (p0 : wJ H r0 = 1) : wpc kt 5 199 [.ref r0] T H (q_199 r0 rp T H) := by
  refine wp_enter e199 (Nat.le_of_ble_eq_true rfl) rfl ?_
  have f0 : wfr [(42, 8), (42, 9), (42, 10), (42, 11), (42, 12), (42, 13), (42, 14), (42, 15), (42, 16), (67, 999)] T H H := wfr.rf
  show wp _ _ 199 0 [(0, .ref r0)] [] _ H _
  have hb0 := wOV_b (H := H) (m := r0)
  refine wp_of e199 c199_0 (rw_aload_n (pc' := 1) (v := .ref r0) rfl rfl rfl ?_)
  refine wp_of e199 c199_1 (rw_aload_n (pc' := 2) (v := .ref r0) rfl rfl rfl ?_)
  refine wp_of e199 c199_2 (xg_I (pc' := 5) lf_9_293 hW g0 sh_42 (by decide) (by decide) ty_42_16 rfl rfl (fun b89501 b89502 => ?_))
  refine wp_of e199 c199_5 (rw_bipush (pc' := 7) (z := 24) rfl (by decide) ?_)
  refine wp_of e199 c199_7 (xc_V (pc' := 10) (r := r0) (as := [vI (H r0 16), vI 24]) (st := []) (lm_9_228) rfl rfl (Nat.le_of_ble_eq_true rfl) hW g0 sh_42 (by decide) rfl (by decide) (s_188 hW g0 ⟨by omega, by omega⟩ ⟨by omega, by omega⟩ (by omega)) (fun R89503 T89504 H89505 p89506 => ?_))
  obtain ⟨e89507, w89509, f89510, e89508, p89511, p89512, p89513, p89514, p89515⟩ := p89506
  subst e89507
  subst e89508
  have f89516 := f0.tr f89510 rfl
  show wp _ _ 199 10 [(0, .ref r0)] [] _ H89505 _
  refine wp_of e199 c199_10 (rw_aload_n (pc' := 11) (v := .ref r0) rfl rfl rfl ?_)
  refine wp_of e199 c199_11 (rw_iconst (pc' := 12) rfl ?_)
  refine wp_of e199 c199_12 (rw_bipush (pc' := 14) (z := 23) rfl (by decide) ?_)
  refine wp_of e199 c199_14 (xc_V (pc' := 17) (r := r0) (as := [vI 0, vI 23]) (st := []) (lm_9_129) rfl rfl (Nat.le_of_ble_eq_true rfl) w89509 g0 sh_42 (by decide) rfl (by decide) (s_185 w89509 g0 ⟨by omega, by omega⟩ ⟨by omega, by omega⟩ (by omega)) (fun R89517 T89518 H89519 p89520 => ?_))
  obtain ⟨e89521, w89523, f89524, z89530, e89522, b89531, p89525, p89526, p89527, p89528, p89529⟩ := p89520
  subst e89521
  subst e89522
  have f89532 := f89516.tr f89524 rfl
  show wp _ _ 199 17 [(0, .ref r0)] [vI z89530] _ H89519 _
  refine wp_of e199 c199_17 (rw_istore_n (pc' := 18) (z := z89530) (L' := [(1, vI z89530), (0, .ref r0)]) rfl rfl rfl ?_)
  refine wp_of e199 c199_18 (rw_aload_n (pc' := 19) (v := .ref r0) rfl rfl rfl ?_)
  refine wp_of e199 c199_19 (xg_I (pc' := 22) lf_9_75 w89523 g0 sh_42 (by decide) (by decide) ty_42_9 rfl rfl (fun b89533 b89534 => ?_))
  have k89535 := wOV_e (H := H89519) (m := r0)
  refine wp_of e199 c199_22 (rw_iconst (pc' := 23) rfl ?_)
  refine wp_of e199 c199_23 (rw_icmp_eq (p1 := 43) (p2 := 26) (by decide) rfl ⟨by omega, by omega⟩ ⟨by omega, by omega⟩ (fun c89536 => ?_) (fun c89536 => ?_))
  · refine wp_of e199 c199_43 (rw_aload_n (pc' := 44) (v := .ref r0) rfl rfl rfl ?_)
    refine wp_of e199 c199_44 (xc_V (pc' := 47) (r := r0) (as := []) (st := []) (lm_9_118) rfl rfl (Nat.le_of_ble_eq_true rfl) w89523 g0 sh_42 (by decide) rfl (by decide) (s_172 w89523 g0 (by omega)) (fun R89537 T89538 H89539 p89540 => ?_))
    obtain ⟨e89541, w89543, f89544, e89542, p89545, p89546, p89547, p89548, p89549, p89550⟩ := p89540
    subst e89541
    subst e89542
    have f89551 := f89532.tr f89544 rfl
    show wp _ _ 199 47 [(1, vI z89530), (0, .ref r0)] [] _ H89539 _
    refine wp_of e199 c199_47 (rw_aload_n (pc' := 48) (v := .ref r0) rfl rfl rfl ?_)
    refine wp_of e199 c199_48 (rw_ldc_wS (pc' := 51) (k := 89) rfl rfl rfl rfl ?_)
    refine wp_of e199 c199_51 (rw_iconst (pc' := 52) rfl ?_)
    refine wp_of e199 c199_52 (rw_bipush (pc' := 54) (z := 99) rfl (by decide) ?_)
    refine wp_of e199 c199_54 (xc_V (pc' := 57) (r := r0) (as := [.ref 89, vI 0, vI 99]) (st := []) (lm_9_216) rfl rfl (Nat.le_of_ble_eq_true rfl) w89543 g0 sh_42 (by decide) rfl (by decide) (s_182 w89543 g0 rfl ⟨by omega, by omega⟩ ⟨by omega, by omega⟩ (by omega)) (fun R89552 T89553 H89554 p89555 => ?_))
    obtain ⟨e89556, w89558, f89559, z89565, e89557, b89566, p89560, p89561, p89562, p89563, p89564⟩ := p89555
    subst e89556
    subst e89557
    have f89567 := f89551.tr f89559 rfl
    show wp _ _ 199 57 [(1, vI z89530), (0, .ref r0)] [vI z89565] _ H89554 _
    refine wp_of e199 c199_57 (rw_istore_n (pc' := 58) (z := z89565) (L' := [(2, vI z89565), (1, vI z89530), (0, .ref r0)]) rfl rfl rfl ?_)
    refine wp_of e199 c199_58 (rw_aload_n (pc' := 59) (v := .ref r0) rfl rfl rfl ?_)
    refine wp_of e199 c199_59 (xg_I (pc' := 62) lf_9_75 w89558 g0 sh_42 (by decide) (by decide) ty_42_9 rfl rfl (fun b89568 b89569 => ?_))
    have k89570 := wOV_e (H := H89554) (m := r0)
    refine wp_of e199 c199_62 (rw_iconst (pc' := 63) rfl ?_)
    refine wp_of e199 c199_63 (rw_icmp_ne (p1 := 67) (p2 := 66) (by decide) rfl ⟨by omega, by omega⟩ ⟨by omega, by omega⟩ (fun c89571 => ?_) (fun c89571 => ?_))
    · refine wp_of e199 c199_67 (rw_aload_n (pc' := 68) (v := .ref r0) rfl rfl rfl ?_)
      have k89572 : H89554 r0 4 = H r0 4 := ((f89559 r0 4 _ g0 rfl).trans ((f89544 r0 4 _ g0 rfl).trans ((f89524 r0 4 _ g0 rfl).trans (f89510 r0 4 _ g0 rfl))))
      have q89573 : H89554 r0 4 = (rp : Int) := k89572.trans qrp
      refine wp_of e199 c199_68 (xg_K (pc' := 71) lf_9_166 w89558 g0 sh_42 (by decide) (by decide) rfl q89573 rfl ?_)
      refine wp_of e199 c199_71 (xg_R (pc' := 74) lf_9_296 w89558 grp sh_54 (by decide) (by decide) ty_54_21 rfl rfl (fun r89574 q89575 g89576 => ?_))
      refine wp_of e199 c199_74 (rw_iload_n (pc' := 75) (z := z89530) rfl rfl ?_)
      refine wp_of e199 c199_75 (rw_iload_n (pc' := 76) (z := z89565) rfl rfl ?_)
      refine wp_of e199 c199_76 (rw_iconst (pc' := 77) rfl ?_)
      refine wp_of e199 c199_77 (rw_iadd (pc' := 78) rfl ?_)
      refine wp_of e199 c199_78 (xs_I (pc' := 79) w89558 g89576 (by decide) sh_67 (by decide) (ty_67 _) (by omega) (by omega) ⟨by omega, by omega⟩ (by omega) (by omega) rfl (fun H89577 e89578 w89579 => ?_))
      have f89580 := f89567.put' e89578 g89576 rfl
      refine wp_of e199 c199_79 (rw_aload_n (pc' := 80) (v := .ref r0) rfl rfl rfl ?_)
      refine wp_of e199 c199_80 (rw_dup (pc' := 81) rfl rfl ?_)
      have k89581 : H89577 r0 16 = H r0 16 := ((wq_u_t e89578 g89576 g0 rfl 16).trans ((f89559 r0 16 _ g0 rfl).trans ((f89544 r0 16 _ g0 rfl).trans ((f89524 r0 16 _ g0 rfl).trans (f89510 r0 16 _ g0 rfl)))))
      refine wp_of e199 c199_81 (xg_I (pc' := 84) lf_9_293 w89579 g0 sh_42 (by decide) (by decide) ty_42_16 rfl rfl (fun b89582 b89583 => ?_))
      refine wp_of e199 c199_84 (rw_iconst (pc' := 85) rfl ?_)
      refine wp_of e199 c199_85 (rw_iadd (pc' := 86) rfl ?_)
      refine wp_of e199 c199_86 (xp_I (pc' := 89) lf_9_293 w89579 g0 sh_42 (by decide) (by decide) ty_42_16 rfl rfl (by omega) (by omega) ⟨by omega, by omega⟩ rfl (fun H89584 e89585 w89586 => ?_))
      have f89587 := f89580.put' e89585 g0 rfl
      have k89588 : H89584 r0 16 = (H89577 r0 16) + 1 := wq_u_s e89585
      have k89589 : H89584 r0 9 = H89554 r0 9 := ((wq_u_j e89585 rfl).trans (wq_u_t e89578 g89576 g0 rfl 9))
      have k89590 : H89584 r0 10 = H89554 r0 10 := ((wq_u_j e89585 rfl).trans (wq_u_t e89578 g89576 g0 rfl 10))
      have k89591 : wOV H89584 r0 = wOV H89554 r0 := ((wOV_fr w89579 g0 ((wfr.rf (l := [(42, 16)])).put' e89585 g0 rfl) rfl).trans (wOV_fr w89558 g0 ((wfr.rf (l := [(67, 999)])).put' e89578 g89576 rfl) rfl))
      have k89592 : wJ H89584 r0 = wJ H89554 r0 := ((wJ_fr w89579 g0 ((wfr.rf (l := [(42, 16)])).put' e89585 g0 rfl) rfl).trans (wJ_fr w89558 g0 ((wfr.rf (l := [(67, 999)])).put' e89578 g89576 rfl) rfl))
      exact wp_return e199 c199_89 rfl ⟨rfl, w89586, f89587, rfl, by omega, by omega, by omega, by omega⟩
    · exact wp_return e199 c199_66 rfl ⟨rfl, w89558, f89567, rfl, by omega, by omega, by omega, by omega⟩
  · refine wp_of e199 c199_26 (rw_aload_n (pc' := 27) (v := .ref r0) rfl rfl rfl ?_)
    have k89593 : H89519 r0 4 = H r0 4 := ((f89524 r0 4 _ g0 rfl).trans (f89510 r0 4 _ g0 rfl))
    have q89594 : H89519 r0 4 = (rp : Int) := k89593.trans qrp
    refine wp_of e199 c199_27 (xg_K (pc' := 30) lf_9_166 w89523 g0 sh_42 (by decide) (by decide) rfl q89594 rfl ?_)
    refine wp_of e199 c199_30 (xg_R (pc' := 33) lf_9_296 w89523 grp sh_54 (by decide) (by decide) ty_54_21 rfl rfl (fun r89595 q89596 g89597 => ?_))
    refine wp_of e199 c199_33 (rw_iload_n (pc' := 34) (z := z89530) rfl rfl ?_)
    refine wp_of e199 c199_34 (xa_I (so := 0) (pc' := 35) w89523 g89597 sh_67 (by decide) (ty_67 _) (by omega) (by omega) rfl (fun b89598 b89599 => ?_))
    refine wp_of e199 c199_35 (rw_if_le (p1 := 43) (p2 := 38) (by decide) rfl ⟨by omega, by omega⟩ (fun c89600 => ?_) (fun c89600 => ?_))
    · refine wp_of e199 c199_43 (rw_aload_n (pc' := 44) (v := .ref r0) rfl rfl rfl ?_)
      refine wp_of e199 c199_44 (xc_V (pc' := 47) (r := r0) (as := []) (st := []) (lm_9_118) rfl rfl (Nat.le_of_ble_eq_true rfl) w89523 g0 sh_42 (by decide) rfl (by decide) (s_172 w89523 g0 (by omega)) (fun R89601 T89602 H89603 p89604 => ?_))
      obtain ⟨e89605, w89607, f89608, e89606, p89609, p89610, p89611, p89612, p89613, p89614⟩ := p89604
      subst e89605
      subst e89606
      have f89615 := f89532.tr f89608 rfl
      show wp _ _ 199 47 [(1, vI z89530), (0, .ref r0)] [] _ H89603 _
      refine wp_of e199 c199_47 (rw_aload_n (pc' := 48) (v := .ref r0) rfl rfl rfl ?_)
      refine wp_of e199 c199_48 (rw_ldc_wS (pc' := 51) (k := 89) rfl rfl rfl rfl ?_)
      refine wp_of e199 c199_51 (rw_iconst (pc' := 52) rfl ?_)
      refine wp_of e199 c199_52 (rw_bipush (pc' := 54) (z := 99) rfl (by decide) ?_)
      refine wp_of e199 c199_54 (xc_V (pc' := 57) (r := r0) (as := [.ref 89, vI 0, vI 99]) (st := []) (lm_9_216) rfl rfl (Nat.le_of_ble_eq_true rfl) w89607 g0 sh_42 (by decide) rfl (by decide) (s_182 w89607 g0 rfl ⟨by omega, by omega⟩ ⟨by omega, by omega⟩ (by omega)) (fun R89616 T89617 H89618 p89619 => ?_))
      obtain ⟨e89620, w89622, f89623, z89629, e89621, b89630, p89624, p89625, p89626, p89627, p89628⟩ := p89619
      subst e89620
      subst e89621
      have f89631 := f89615.tr f89623 rfl
      show wp _ _ 199 57 [(1, vI z89530), (0, .ref r0)] [vI z89629] _ H89618 _
      refine wp_of e199 c199_57 (rw_istore_n (pc' := 58) (z := z89629) (L' := [(2, vI z89629), (1, vI z89530), (0, .ref r0)]) rfl rfl rfl ?_)
      refine wp_of e199 c199_58 (rw_aload_n (pc' := 59) (v := .ref r0) rfl rfl rfl ?_)
      refine wp_of e199 c199_59 (xg_I (pc' := 62) lf_9_75 w89622 g0 sh_42 (by decide) (by decide) ty_42_9 rfl rfl (fun b89632 b89633 => ?_))
      have k89634 := wOV_e (H := H89618) (m := r0)
      refine wp_of e199 c199_62 (rw_iconst (pc' := 63) rfl ?_)
      refine wp_of e199 c199_63 (rw_icmp_ne (p1 := 67) (p2 := 66) (by decide) rfl ⟨by omega, by omega⟩ ⟨by omega, by omega⟩ (fun c89635 => ?_) (fun c89635 => ?_))
      · refine wp_of e199 c199_67 (rw_aload_n (pc' := 68) (v := .ref r0) rfl rfl rfl ?_)
        have k89636 : H89618 r0 4 = H89519 r0 4 := ((f89623 r0 4 _ g0 rfl).trans (f89608 r0 4 _ g0 rfl))
        have q89637 : H89618 r0 4 = (rp : Int) := k89636.trans q89594
        refine wp_of e199 c199_68 (xg_K (pc' := 71) lf_9_166 w89622 g0 sh_42 (by decide) (by decide) rfl q89637 rfl ?_)
        have k89638 : H89618 rp 21 = H89519 rp 21 := ((f89623 rp 21 _ grp rfl).trans (f89608 rp 21 _ grp rfl))
        have q89639 : H89618 rp 21 = (r89595 : Int) := k89638.trans q89596
        refine wp_of e199 c199_71 (xg_K (pc' := 74) lf_9_296 w89622 grp sh_54 (by decide) (by decide) rfl q89639 rfl ?_)
        refine wp_of e199 c199_74 (rw_iload_n (pc' := 75) (z := z89530) rfl rfl ?_)
        refine wp_of e199 c199_75 (rw_iload_n (pc' := 76) (z := z89629) rfl rfl ?_)
        refine wp_of e199 c199_76 (rw_iconst (pc' := 77) rfl ?_)
        refine wp_of e199 c199_77 (rw_iadd (pc' := 78) rfl ?_)
        refine wp_of e199 c199_78 (xs_I (pc' := 79) w89622 g89597 (by decide) sh_67 (by decide) (ty_67 _) (by omega) (by omega) ⟨by omega, by omega⟩ (by omega) (by omega) rfl (fun H89640 e89641 w89642 => ?_))
        have f89643 := f89631.put' e89641 g89597 rfl
        refine wp_of e199 c199_79 (rw_aload_n (pc' := 80) (v := .ref r0) rfl rfl rfl ?_)
        refine wp_of e199 c199_80 (rw_dup (pc' := 81) rfl rfl ?_)
        have k89644 : H89640 r0 16 = H r0 16 := ((wq_u_t e89641 g89597 g0 rfl 16).trans ((f89623 r0 16 _ g0 rfl).trans ((f89608 r0 16 _ g0 rfl).trans ((f89524 r0 16 _ g0 rfl).trans (f89510 r0 16 _ g0 rfl)))))
        refine wp_of e199 c199_81 (xg_I (pc' := 84) lf_9_293 w89642 g0 sh_42 (by decide) (by decide) ty_42_16 rfl rfl (fun b89645 b89646 => ?_))
        refine wp_of e199 c199_84 (rw_iconst (pc' := 85) rfl ?_)
        refine wp_of e199 c199_85 (rw_iadd (pc' := 86) rfl ?_)
        refine wp_of e199 c199_86 (xp_I (pc' := 89) lf_9_293 w89642 g0 sh_42 (by decide) (by decide) ty_42_16 rfl rfl (by omega) (by omega) ⟨by omega, by omega⟩ rfl (fun H89647 e89648 w89649 => ?_))
        have f89650 := f89643.put' e89648 g0 rfl
        have k89651 : H89647 r0 16 = (H89640 r0 16) + 1 := wq_u_s e89648
        have k89652 : H89647 r0 9 = H89618 r0 9 := ((wq_u_j e89648 rfl).trans (wq_u_t e89641 g89597 g0 rfl 9))
        have k89653 : H89647 r0 10 = H89618 r0 10 := ((wq_u_j e89648 rfl).trans (wq_u_t e89641 g89597 g0 rfl 10))
        have k89654 : wOV H89647 r0 = wOV H89618 r0 := ((wOV_fr w89642 g0 ((wfr.rf (l := [(42, 16)])).put' e89648 g0 rfl) rfl).trans (wOV_fr w89622 g0 ((wfr.rf (l := [(67, 999)])).put' e89641 g89597 rfl) rfl))
        have k89655 : wJ H89647 r0 = wJ H89618 r0 := ((wJ_fr w89642 g0 ((wfr.rf (l := [(42, 16)])).put' e89648 g0 rfl) rfl).trans (wJ_fr w89622 g0 ((wfr.rf (l := [(67, 999)])).put' e89641 g89597 rfl) rfl))
        exact wp_return e199 c199_89 rfl ⟨rfl, w89649, f89650, rfl, by omega, by omega, by omega, by omega⟩
      · exact wp_return e199 c199_66 rfl ⟨rfl, w89622, f89631, rfl, by omega, by omega, by omega, by omega⟩
    · refine wp_of e199 c199_38 (rw_aload_n (pc' := 39) (v := .ref r0) rfl rfl rfl ?_)
      refine wp_of e199 c199_39 (rw_iconst (pc' := 40) rfl ?_)
      refine wp_of e199 c199_40 (xc_V (pc' := 43) (r := r0) (as := [vI 3]) (st := []) (lm_9_121) rfl rfl (Nat.le_of_ble_eq_true rfl) w89523 g0 sh_42 (by decide) rfl (by decide) (s_181 w89523 g0 ⟨by omega, by omega⟩ (by omega)) (fun R89656 T89657 H89658 p89659 => ?_))
      obtain ⟨e89660, w89662, f89663, e89661, p89664, p89665, p89666, p89667, p89668, p89669⟩ := p89659
      subst e89660
      subst e89661
      have f89670 := f89532.tr f89663 rfl
      show wp _ _ 199 43 [(1, vI z89530), (0, .ref r0)] [] _ H89658 _
      refine wp_of e199 c199_43 (rw_aload_n (pc' := 44) (v := .ref r0) rfl rfl rfl ?_)
      refine wp_of e199 c199_44 (xc_V (pc' := 47) (r := r0) (as := []) (st := []) (lm_9_118) rfl rfl (Nat.le_of_ble_eq_true rfl) w89662 g0 sh_42 (by decide) rfl (by decide) (s_172 w89662 g0 (by omega)) (fun R89671 T89672 H89673 p89674 => ?_))
      obtain ⟨e89675, w89677, f89678, e89676, p89679, p89680, p89681, p89682, p89683, p89684⟩ := p89674
      subst e89675
      subst e89676
      have f89685 := f89670.tr f89678 rfl
      show wp _ _ 199 47 [(1, vI z89530), (0, .ref r0)] [] _ H89673 _
      refine wp_of e199 c199_47 (rw_aload_n (pc' := 48) (v := .ref r0) rfl rfl rfl ?_)
      refine wp_of e199 c199_48 (rw_ldc_wS (pc' := 51) (k := 89) rfl rfl rfl rfl ?_)
      refine wp_of e199 c199_51 (rw_iconst (pc' := 52) rfl ?_)
      refine wp_of e199 c199_52 (rw_bipush (pc' := 54) (z := 99) rfl (by decide) ?_)
      refine wp_of e199 c199_54 (xc_V (pc' := 57) (r := r0) (as := [.ref 89, vI 0, vI 99]) (st := []) (lm_9_216) rfl rfl (Nat.le_of_ble_eq_true rfl) w89677 g0 sh_42 (by decide) rfl (by decide) (s_182 w89677 g0 rfl ⟨by omega, by omega⟩ ⟨by omega, by omega⟩ (by omega)) (fun R89686 T89687 H89688 p89689 => ?_))
      obtain ⟨e89690, w89692, f89693, z89699, e89691, b89700, p89694, p89695, p89696, p89697, p89698⟩ := p89689
      subst e89690
      subst e89691
      have f89701 := f89685.tr f89693 rfl
      show wp _ _ 199 57 [(1, vI z89530), (0, .ref r0)] [vI z89699] _ H89688 _
      refine wp_of e199 c199_57 (rw_istore_n (pc' := 58) (z := z89699) (L' := [(2, vI z89699), (1, vI z89530), (0, .ref r0)]) rfl rfl rfl ?_)
      refine wp_of e199 c199_58 (rw_aload_n (pc' := 59) (v := .ref r0) rfl rfl rfl ?_)
      refine wp_of e199 c199_59 (xg_I (pc' := 62) lf_9_75 w89692 g0 sh_42 (by decide) (by decide) ty_42_9 rfl rfl (fun b89702 b89703 => ?_))
      have k89704 := wOV_e (H := H89688) (m := r0)
      refine wp_of e199 c199_62 (rw_iconst (pc' := 63) rfl ?_)
      refine wp_of e199 c199_63 (rw_icmp_ne (p1 := 67) (p2 := 66) (by decide) rfl ⟨by omega, by omega⟩ ⟨by omega, by omega⟩ (fun c89705 => ?_) (fun c89705 => ?_))
      · refine wp_of e199 c199_67 (rw_aload_n (pc' := 68) (v := .ref r0) rfl rfl rfl ?_)
        have k89706 : H89688 r0 4 = H89519 r0 4 := ((f89693 r0 4 _ g0 rfl).trans ((f89678 r0 4 _ g0 rfl).trans (f89663 r0 4 _ g0 rfl)))
        have q89707 : H89688 r0 4 = (rp : Int) := k89706.trans q89594
        refine wp_of e199 c199_68 (xg_K (pc' := 71) lf_9_166 w89692 g0 sh_42 (by decide) (by decide) rfl q89707 rfl ?_)
        have k89708 : H89688 rp 21 = H89519 rp 21 := ((f89693 rp 21 _ grp rfl).trans ((f89678 rp 21 _ grp rfl).trans (f89663 rp 21 _ grp rfl)))
        have q89709 : H89688 rp 21 = (r89595 : Int) := k89708.trans q89596
        refine wp_of e199 c199_71 (xg_K (pc' := 74) lf_9_296 w89692 grp sh_54 (by decide) (by decide) rfl q89709 rfl ?_)
        refine wp_of e199 c199_74 (rw_iload_n (pc' := 75) (z := z89530) rfl rfl ?_)
        refine wp_of e199 c199_75 (rw_iload_n (pc' := 76) (z := z89699) rfl rfl ?_)
        refine wp_of e199 c199_76 (rw_iconst (pc' := 77) rfl ?_)
        refine wp_of e199 c199_77 (rw_iadd (pc' := 78) rfl ?_)
        refine wp_of e199 c199_78 (xs_I (pc' := 79) w89692 g89597 (by decide) sh_67 (by decide) (ty_67 _) (by omega) (by omega) ⟨by omega, by omega⟩ (by omega) (by omega) rfl (fun H89710 e89711 w89712 => ?_))
        have f89713 := f89701.put' e89711 g89597 rfl
        refine wp_of e199 c199_79 (rw_aload_n (pc' := 80) (v := .ref r0) rfl rfl rfl ?_)
        refine wp_of e199 c199_80 (rw_dup (pc' := 81) rfl rfl ?_)
        have k89714 : H89710 r0 16 = H r0 16 := ((wq_u_t e89711 g89597 g0 rfl 16).trans ((f89693 r0 16 _ g0 rfl).trans ((f89678 r0 16 _ g0 rfl).trans ((f89663 r0 16 _ g0 rfl).trans ((f89524 r0 16 _ g0 rfl).trans (f89510 r0 16 _ g0 rfl))))))
        refine wp_of e199 c199_81 (xg_I (pc' := 84) lf_9_293 w89712 g0 sh_42 (by decide) (by decide) ty_42_16 rfl rfl (fun b89715 b89716 => ?_))
        refine wp_of e199 c199_84 (rw_iconst (pc' := 85) rfl ?_)
        refine wp_of e199 c199_85 (rw_iadd (pc' := 86) rfl ?_)
        refine wp_of e199 c199_86 (xp_I (pc' := 89) lf_9_293 w89712 g0 sh_42 (by decide) (by decide) ty_42_16 rfl rfl (by omega) (by omega) ⟨by omega, by omega⟩ rfl (fun H89717 e89718 w89719 => ?_))
        have f89720 := f89713.put' e89718 g0 rfl
        have k89721 : H89717 r0 16 = (H89710 r0 16) + 1 := wq_u_s e89718
        have k89722 : H89717 r0 9 = H89688 r0 9 := ((wq_u_j e89718 rfl).trans (wq_u_t e89711 g89597 g0 rfl 9))
        have k89723 : H89717 r0 10 = H89688 r0 10 := ((wq_u_j e89718 rfl).trans (wq_u_t e89711 g89597 g0 rfl 10))
        have k89724 : wOV H89717 r0 = wOV H89688 r0 := ((wOV_fr w89712 g0 ((wfr.rf (l := [(42, 16)])).put' e89718 g0 rfl) rfl).trans (wOV_fr w89692 g0 ((wfr.rf (l := [(67, 999)])).put' e89711 g89597 rfl) rfl))
        have k89725 : wJ H89717 r0 = wJ H89688 r0 := ((wJ_fr w89712 g0 ((wfr.rf (l := [(42, 16)])).put' e89718 g0 rfl) rfl).trans (wJ_fr w89692 g0 ((wfr.rf (l := [(67, 999)])).put' e89711 g89597 rfl) rfl))
        exact wp_return e199 c199_89 rfl ⟨rfl, w89719, f89720, rfl, by omega, by omega, by omega, by omega⟩
      · exact wp_return e199 c199_66 rfl ⟨rfl, w89692, f89701, rfl, by omega, by omega, by omega, by omega⟩
