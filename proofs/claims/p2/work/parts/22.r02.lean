/-! methods of the reference (own work, written by wip/gen2/sx.py) -/
/-! StrikeAwakeModel.known()I -/
theorem e195 : wq_en 195 = some (9, 2, false, some FieldType.int) := rfl
theorem c195_0 : mc_cd 195 0 = some (.aload_n 0, 1) := by decide +kernel
theorem c195_1 : mc_cd 195 1 = some (.invokevirtual 162, 3) := by decide +kernel
theorem c195_4 : mc_cd 195 4 = some (.ifCond .ne 8, 3) := by decide +kernel
theorem c195_7 : mc_cd 195 7 = some (.aload_n 0, 1) := by decide +kernel
theorem c195_8 : mc_cd 195 8 = some (.iconst 1, 1) := by decide +kernel
theorem c195_9 : mc_cd 195 9 = some (.invokevirtual 121, 3) := by decide +kernel
theorem c195_12 : mc_cd 195 12 = some (.aload_n 0, 1) := by decide +kernel
theorem c195_13 : mc_cd 195 13 = some (.getfield 166, 3) := by decide +kernel
theorem c195_16 : mc_cd 195 16 = some (.aload_n 0, 1) := by decide +kernel
theorem c195_17 : mc_cd 195 17 = some (.getfield 94, 3) := by decide +kernel
theorem c195_20 : mc_cd 195 20 = some (.invokevirtual 170, 3) := by decide +kernel
theorem c195_23 : mc_cd 195 23 = some (.istore_n 1, 1) := by decide +kernel
theorem c195_24 : mc_cd 195 24 = some (.iload_n 1, 1) := by decide +kernel
theorem c195_25 : mc_cd 195 25 = some (.iconst (-1), 1) := by decide +kernel
theorem c195_26 : mc_cd 195 26 = some (.if_icmp .ne 8, 3) := by decide +kernel
theorem c195_29 : mc_cd 195 29 = some (.aload_n 0, 1) := by decide +kernel
theorem c195_30 : mc_cd 195 30 = some (.iconst 2, 1) := by decide +kernel
theorem c195_31 : mc_cd 195 31 = some (.invokevirtual 121, 3) := by decide +kernel
theorem c195_34 : mc_cd 195 34 = some (.aload_n 0, 1) := by decide +kernel
theorem c195_35 : mc_cd 195 35 = some (.getfield 75, 3) := by decide +kernel
theorem c195_38 : mc_cd 195 38 = some (.iconst 5, 1) := by decide +kernel
theorem c195_39 : mc_cd 195 39 = some (.if_icmp .ne 7, 3) := by decide +kernel
theorem c195_42 : mc_cd 195 42 = some (.iconst 0, 1) := by decide +kernel
theorem c195_43 : mc_cd 195 43 = some (.goto 4, 3) := by decide +kernel
theorem c195_46 : mc_cd 195 46 = some (.iload_n 1, 1) := by decide +kernel
theorem c195_47 : mc_cd 195 47 = some (.ireturn, 1) := by decide +kernel
abbrev q_195 (r0 : Nat) (rp : Nat) (T : wq_T) (H : wq_H) : Option Value → wq_T → wq_H → Prop := fun r T' H' => T = T' ∧ WT T H' ∧ wfr [(42, 9), (42, 13), (42, 14)] T H H' ∧ ∃ z : Int, some (vI z) = r ∧ (0 ≤ z ∧ z ≤ 5) ∧ (wJ H' r0 = 1) ∧ (H r0 10 ≤ H' r0 10) ∧ (wOV H r0 ≤ wOV H' r0) ∧ (wOV H' r0 ≤ 1)
set_option maxHeartbeats 4000000 in
theorem s_195 {kt : Nat → Option mc_E} {T : wq_T} {H : wq_H} {r0 : Nat} {rp : Nat} (hW : WT T H) (g0 : T.2.2.2 r0 = some 42) (qrp : H r0 4 = (rp : Int)) (grp : T.2.2.2 rp = some 54) (p0 : wJ H r0 = 1) : wpc kt 4 195 [.ref r0] T H (q_195 r0 rp T H) := by
  refine wp_enter e195 (Nat.le_of_ble_eq_true rfl) rfl ?_
  have f0 : wfr [(42, 9), (42, 13), (42, 14)] T H H := wfr.rf
  show wp _ _ 195 0 [(0, .ref r0)] [] _ H _
  have b87666 : (-2147483648) ≤ H r0 10 ∧ H r0 10 ≤ 2147483647 := hW.box g0 (n := 33) rfl (by decide) rfl
  have b87667 : 0 ≤ H r0 9 ∧ H r0 9 ≤ 5 := hW.box g0 (n := 33) rfl (by decide) rfl
  have b87668 : 0 ≤ H r0 8 ∧ H r0 8 ≤ 900 := hW.box g0 (n := 33) rfl (by decide) rfl
  have hb0 := wOV_b (H := H) (m := r0)
  refine wp_of e195 c195_0 (rw_aload_n (pc' := 1) (v := .ref r0) rfl rfl rfl ?_)
  refine wp_of e195 c195_1 (xc_V (pc' := 4) (r := r0) (as := []) (st := []) (lm_9_162) rfl rfl (Nat.le_of_ble_eq_true rfl) hW g0 sh_42 (by decide) rfl (by decide) (s_189 hW g0) (fun R87669 T87670 H87671 p87672 => ?_))
  obtain ⟨e87673, e87675, z87676, e87674, b87677⟩ := p87672
  subst e87673
  subst e87674
  subst e87675
  show wp _ _ 195 4 [(0, .ref r0)] [vI z87676] _ H _
  refine wp_of e195 c195_4 (rw_if_ne (p1 := 12) (p2 := 7) (by decide) rfl ⟨by omega, by omega⟩ (fun c87678 => ?_) (fun c87678 => ?_))
  · refine wp_of e195 c195_12 (rw_aload_n (pc' := 13) (v := .ref r0) rfl rfl rfl ?_)
    refine wp_of e195 c195_13 (xg_K (pc' := 16) lf_9_166 hW g0 sh_42 (by decide) (by decide) rfl qrp rfl ?_)
    refine wp_of e195 c195_16 (rw_aload_n (pc' := 17) (v := .ref r0) rfl rfl rfl ?_)
    refine wp_of e195 c195_17 (xg_L (pc' := 20) lf_9_94 hW g0 sh_42 (by decide) (by decide) ty_42_15 rfl rfl (fun b87679 b87680 => ?_))
    refine wp_of e195 c195_20 (xc_V (pc' := 23) (r := rp) (as := [vL (H r0 15)]) (st := []) (lm_9_170) rfl rfl (Nat.le_of_ble_eq_true rfl) hW grp sh_54 (by decide) rfl (by decide) (s_190 hW grp ⟨by omega, by omega⟩) (fun R87681 T87682 H87683 p87684 => ?_))
    obtain ⟨e87685, e87687, z87688, e87686, b87689⟩ := p87684
    subst e87685
    subst e87686
    subst e87687
    show wp _ _ 195 23 [(0, .ref r0)] [vI z87688] _ H _
    refine wp_of e195 c195_23 (rw_istore_n (pc' := 24) (z := z87688) (L' := [(1, vI z87688), (0, .ref r0)]) rfl rfl rfl ?_)
    refine wp_of e195 c195_24 (rw_iload_n (pc' := 25) (z := z87688) rfl rfl ?_)
    refine wp_of e195 c195_25 (rw_iconst (pc' := 26) rfl ?_)
    refine wp_of e195 c195_26 (rw_icmp_ne (p1 := 34) (p2 := 29) (by decide) rfl ⟨by omega, by omega⟩ ⟨by omega, by omega⟩ (fun c87690 => ?_) (fun c87690 => ?_))
    · refine wp_of e195 c195_34 (rw_aload_n (pc' := 35) (v := .ref r0) rfl rfl rfl ?_)
      refine wp_of e195 c195_35 (xg_I (pc' := 38) lf_9_75 hW g0 sh_42 (by decide) (by decide) ty_42_9 rfl rfl (fun b87691 b87692 => ?_))
      have k87693 := wOV_e (H := H) (m := r0)
      refine wp_of e195 c195_38 (rw_iconst (pc' := 39) rfl ?_)
      refine wp_of e195 c195_39 (rw_icmp_ne (p1 := 46) (p2 := 42) (by decide) rfl ⟨by omega, by omega⟩ ⟨by omega, by omega⟩ (fun c87694 => ?_) (fun c87694 => ?_))
      · refine wp_of e195 c195_46 (rw_iload_n (pc' := 47) (z := z87688) rfl rfl ?_)
        exact wp_ireturn e195 c195_47 rfl ⟨rfl, hW, f0, z87688, rfl, ⟨by omega, by omega⟩, by omega, by omega, by omega, by omega⟩
      · refine wp_of e195 c195_42 (rw_iconst (pc' := 43) rfl ?_)
        refine wp_of e195 c195_43 (rw_goto (p1 := 47) (by decide) ?_)
        exact wp_ireturn e195 c195_47 rfl ⟨rfl, hW, f0, 0, rfl, ⟨by omega, by omega⟩, by omega, by omega, by omega, by omega⟩
    · refine wp_of e195 c195_29 (rw_aload_n (pc' := 30) (v := .ref r0) rfl rfl rfl ?_)
      refine wp_of e195 c195_30 (rw_iconst (pc' := 31) rfl ?_)
      refine wp_of e195 c195_31 (xc_V (pc' := 34) (r := r0) (as := [vI 2]) (st := []) (lm_9_121) rfl rfl (Nat.le_of_ble_eq_true rfl) hW g0 sh_42 (by decide) rfl (by decide) (s_181 hW g0 ⟨by omega, by omega⟩ (by omega)) (fun R87695 T87696 H87697 p87698 => ?_))
      obtain ⟨e87699, w87701, f87702, e87700, p87703, p87704, p87705, p87706, p87707, p87708⟩ := p87698
      subst e87699
      subst e87700
      have f87709 := f0.tr f87702 rfl
      show wp _ _ 195 34 [(1, vI z87688), (0, .ref r0)] [] _ H87697 _
      refine wp_of e195 c195_34 (rw_aload_n (pc' := 35) (v := .ref r0) rfl rfl rfl ?_)
      refine wp_of e195 c195_35 (xg_I (pc' := 38) lf_9_75 w87701 g0 sh_42 (by decide) (by decide) ty_42_9 rfl rfl (fun b87710 b87711 => ?_))
      have k87712 := wOV_e (H := H87697) (m := r0)
      refine wp_of e195 c195_38 (rw_iconst (pc' := 39) rfl ?_)
      refine wp_of e195 c195_39 (rw_icmp_ne (p1 := 46) (p2 := 42) (by decide) rfl ⟨by omega, by omega⟩ ⟨by omega, by omega⟩ (fun c87713 => ?_) (fun c87713 => ?_))
      · refine wp_of e195 c195_46 (rw_iload_n (pc' := 47) (z := z87688) rfl rfl ?_)
        have k87714 : H87697 r0 8 = H r0 8 := (f87702 r0 8 _ g0 rfl)
        exact wp_ireturn e195 c195_47 rfl ⟨rfl, w87701, f87709, z87688, rfl, ⟨by omega, by omega⟩, by omega, by omega, by omega, by omega⟩
      · refine wp_of e195 c195_42 (rw_iconst (pc' := 43) rfl ?_)
        refine wp_of e195 c195_43 (rw_goto (p1 := 47) (by decide) ?_)
        have k87715 : H87697 r0 8 = H r0 8 := (f87702 r0 8 _ g0 rfl)
        exact wp_ireturn e195 c195_47 rfl ⟨rfl, w87701, f87709, 0, rfl, ⟨by omega, by omega⟩, by omega, by omega, by omega, by omega⟩
  · refine wp_of e195 c195_7 (rw_aload_n (pc' := 8) (v := .ref r0) rfl rfl rfl ?_)
    refine wp_of e195 c195_8 (rw_iconst (pc' := 9) rfl ?_)
    refine wp_of e195 c195_9 (xc_V (pc' := 12) (r := r0) (as := [vI 1]) (st := []) (lm_9_121) rfl rfl (Nat.le_of_ble_eq_true rfl) hW g0 sh_42 (by decide) rfl (by decide) (s_181 hW g0 ⟨by omega, by omega⟩ (by omega)) (fun R87716 T87717 H87718 p87719 => ?_))
    obtain ⟨e87720, w87722, f87723, e87721, p87724, p87725, p87726, p87727, p87728, p87729⟩ := p87719
    subst e87720
    subst e87721
    have f87730 := f0.tr f87723 rfl
    show wp _ _ 195 12 [(0, .ref r0)] [] _ H87718 _
    refine wp_of e195 c195_12 (rw_aload_n (pc' := 13) (v := .ref r0) rfl rfl rfl ?_)
    have k87731 : H87718 r0 4 = H r0 4 := (f87723 r0 4 _ g0 rfl)
    have q87732 : H87718 r0 4 = (rp : Int) := k87731.trans qrp
    refine wp_of e195 c195_13 (xg_K (pc' := 16) lf_9_166 w87722 g0 sh_42 (by decide) (by decide) rfl q87732 rfl ?_)
    refine wp_of e195 c195_16 (rw_aload_n (pc' := 17) (v := .ref r0) rfl rfl rfl ?_)
    refine wp_of e195 c195_17 (xg_L (pc' := 20) lf_9_94 w87722 g0 sh_42 (by decide) (by decide) ty_42_15 rfl rfl (fun b87733 b87734 => ?_))
    refine wp_of e195 c195_20 (xc_V (pc' := 23) (r := rp) (as := [vL (H87718 r0 15)]) (st := []) (lm_9_170) rfl rfl (Nat.le_of_ble_eq_true rfl) w87722 grp sh_54 (by decide) rfl (by decide) (s_190 w87722 grp ⟨by omega, by omega⟩) (fun R87735 T87736 H87737 p87738 => ?_))
    obtain ⟨e87739, e87741, z87742, e87740, b87743⟩ := p87738
    subst e87739
    subst e87740
    subst e87741
    show wp _ _ 195 23 [(0, .ref r0)] [vI z87742] _ H87718 _
    refine wp_of e195 c195_23 (rw_istore_n (pc' := 24) (z := z87742) (L' := [(1, vI z87742), (0, .ref r0)]) rfl rfl rfl ?_)
    refine wp_of e195 c195_24 (rw_iload_n (pc' := 25) (z := z87742) rfl rfl ?_)
    refine wp_of e195 c195_25 (rw_iconst (pc' := 26) rfl ?_)
    refine wp_of e195 c195_26 (rw_icmp_ne (p1 := 34) (p2 := 29) (by decide) rfl ⟨by omega, by omega⟩ ⟨by omega, by omega⟩ (fun c87744 => ?_) (fun c87744 => ?_))
    · refine wp_of e195 c195_34 (rw_aload_n (pc' := 35) (v := .ref r0) rfl rfl rfl ?_)
      refine wp_of e195 c195_35 (xg_I (pc' := 38) lf_9_75 w87722 g0 sh_42 (by decide) (by decide) ty_42_9 rfl rfl (fun b87745 b87746 => ?_))
      have k87747 := wOV_e (H := H87718) (m := r0)
      refine wp_of e195 c195_38 (rw_iconst (pc' := 39) rfl ?_)
      refine wp_of e195 c195_39 (rw_icmp_ne (p1 := 46) (p2 := 42) (by decide) rfl ⟨by omega, by omega⟩ ⟨by omega, by omega⟩ (fun c87748 => ?_) (fun c87748 => ?_))
      · refine wp_of e195 c195_46 (rw_iload_n (pc' := 47) (z := z87742) rfl rfl ?_)
        have k87749 : H87718 r0 8 = H r0 8 := (f87723 r0 8 _ g0 rfl)
        exact wp_ireturn e195 c195_47 rfl ⟨rfl, w87722, f87730, z87742, rfl, ⟨by omega, by omega⟩, by omega, by omega, by omega, by omega⟩
      · refine wp_of e195 c195_42 (rw_iconst (pc' := 43) rfl ?_)
        refine wp_of e195 c195_43 (rw_goto (p1 := 47) (by decide) ?_)
        have k87750 : H87718 r0 8 = H r0 8 := (f87723 r0 8 _ g0 rfl)
        exact wp_ireturn e195 c195_47 rfl ⟨rfl, w87722, f87730, 0, rfl, ⟨by omega, by omega⟩, by omega, by omega, by omega, by omega⟩
    · refine wp_of e195 c195_29 (rw_aload_n (pc' := 30) (v := .ref r0) rfl rfl rfl ?_)
      refine wp_of e195 c195_30 (rw_iconst (pc' := 31) rfl ?_)
      refine wp_of e195 c195_31 (xc_V (pc' := 34) (r := r0) (as := [vI 2]) (st := []) (lm_9_121) rfl rfl (Nat.le_of_ble_eq_true rfl) w87722 g0 sh_42 (by decide) rfl (by decide) (s_181 w87722 g0 ⟨by omega, by omega⟩ (by omega)) (fun R87751 T87752 H87753 p87754 => ?_))
      obtain ⟨e87755, w87757, f87758, e87756, p87759, p87760, p87761, p87762, p87763, p87764⟩ := p87754
      subst e87755
      subst e87756
      have f87765 := f87730.tr f87758 rfl
      show wp _ _ 195 34 [(1, vI z87742), (0, .ref r0)] [] _ H87753 _
      refine wp_of e195 c195_34 (rw_aload_n (pc' := 35) (v := .ref r0) rfl rfl rfl ?_)
      refine wp_of e195 c195_35 (xg_I (pc' := 38) lf_9_75 w87757 g0 sh_42 (by decide) (by decide) ty_42_9 rfl rfl (fun b87766 b87767 => ?_))
      have k87768 := wOV_e (H := H87753) (m := r0)
      refine wp_of e195 c195_38 (rw_iconst (pc' := 39) rfl ?_)
      refine wp_of e195 c195_39 (rw_icmp_ne (p1 := 46) (p2 := 42) (by decide) rfl ⟨by omega, by omega⟩ ⟨by omega, by omega⟩ (fun c87769 => ?_) (fun c87769 => ?_))
      · refine wp_of e195 c195_46 (rw_iload_n (pc' := 47) (z := z87742) rfl rfl ?_)
        have k87770 : H87753 r0 8 = H r0 8 := ((f87758 r0 8 _ g0 rfl).trans (f87723 r0 8 _ g0 rfl))
        exact wp_ireturn e195 c195_47 rfl ⟨rfl, w87757, f87765, z87742, rfl, ⟨by omega, by omega⟩, by omega, by omega, by omega, by omega⟩
      · refine wp_of e195 c195_42 (rw_iconst (pc' := 43) rfl ?_)
        refine wp_of e195 c195_43 (rw_goto (p1 := 47) (by decide) ?_)
        have k87771 : H87753 r0 8 = H r0 8 := ((f87758 r0 8 _ g0 rfl).trans (f87723 r0 8 _ g0 rfl))
        exact wp_ireturn e195 c195_47 rfl ⟨rfl, w87757, f87765, 0, rfl, ⟨by omega, by omega⟩, by omega, by omega, by omega, by omega⟩
/-! StrikeAwakeModel.readKnown()I -/
theorem e194 : wq_en 194 = some (9, 2, false, some FieldType.int) := rfl
theorem c194_0 : mc_cd 194 0 = some (.aload_n 0, 1) := by decide +kernel
theorem c194_1 : mc_cd 194 1 = some (.invokevirtual 176, 3) := by decide +kernel
theorem c194_4 : mc_cd 194 4 = some (.istore_n 1, 1) := by decide +kernel
theorem c194_5 : mc_cd 194 5 = some (.aload_n 0, 1) := by decide +kernel
theorem c194_6 : mc_cd 194 6 = some (.invokevirtual 118, 3) := by decide +kernel
theorem c194_9 : mc_cd 194 9 = some (.iload_n 1, 1) := by decide +kernel
theorem c194_10 : mc_cd 194 10 = some (.ireturn, 1) := by decide +kernel
abbrev q_194 (r0 : Nat) (rp : Nat) (T : wq_T) (H : wq_H) : Option Value → wq_T → wq_H → Prop := fun r T' H' => T = T' ∧ WT T H' ∧ wfr [(42, 8), (42, 9), (42, 10), (42, 11), (42, 12), (42, 13), (42, 14), (42, 15)] T H H' ∧ ∃ z : Int, some (vI z) = r ∧ (0 ≤ z ∧ z ≤ 5) ∧ (wJ H' r0 = 1) ∧ (H r0 10 ≤ H' r0 10) ∧ (wOV H r0 ≤ wOV H' r0) ∧ (wOV H' r0 ≤ 1)
set_option maxHeartbeats 4000000 in
theorem s_194 {kt : Nat → Option mc_E} {T : wq_T} {H : wq_H} {r0 : Nat} {rp : Nat} (hW : WT T H) (g0 : T.2.2.2 r0 = some 42) (qrp : H r0 4 = (rp : Int)) (grp : T.2.2.2 rp = some 54) (p0 : wJ H r0 = 1) : wpc kt 5 194 [.ref r0] T H (q_194 r0 rp T H) := by
  refine wp_enter e194 (Nat.le_of_ble_eq_true rfl) rfl ?_
  have f0 : wfr [(42, 8), (42, 9), (42, 10), (42, 11), (42, 12), (42, 13), (42, 14), (42, 15)] T H H := wfr.rf
  show wp _ _ 194 0 [(0, .ref r0)] [] _ H _
  have b87802 : (-2147483648) ≤ H r0 10 ∧ H r0 10 ≤ 2147483647 := hW.box g0 (n := 33) rfl (by decide) rfl
  have b87803 : 0 ≤ H r0 9 ∧ H r0 9 ≤ 5 := hW.box g0 (n := 33) rfl (by decide) rfl
  have b87804 : 0 ≤ H r0 8 ∧ H r0 8 ≤ 900 := hW.box g0 (n := 33) rfl (by decide) rfl
  have hb0 := wOV_b (H := H) (m := r0)
  refine wp_of e194 c194_0 (rw_aload_n (pc' := 1) (v := .ref r0) rfl rfl rfl ?_)
  refine wp_of e194 c194_1 (xc_V (pc' := 4) (r := r0) (as := []) (st := []) (lm_9_176) rfl rfl (Nat.le_of_ble_eq_true rfl) hW g0 sh_42 (by decide) rfl (by decide) (s_195 hW g0 qrp grp (by omega)) (fun R87805 T87806 H87807 p87808 => ?_))
  obtain ⟨e87809, w87811, f87812, z87817, e87810, b87818, p87813, p87814, p87815, p87816⟩ := p87808
  subst e87809
  subst e87810
  have f87819 := f0.tr f87812 rfl
  show wp _ _ 194 4 [(0, .ref r0)] [vI z87817] _ H87807 _
  refine wp_of e194 c194_4 (rw_istore_n (pc' := 5) (z := z87817) (L' := [(1, vI z87817), (0, .ref r0)]) rfl rfl rfl ?_)
  refine wp_of e194 c194_5 (rw_aload_n (pc' := 6) (v := .ref r0) rfl rfl rfl ?_)
  refine wp_of e194 c194_6 (xc_V (pc' := 9) (r := r0) (as := []) (st := []) (lm_9_118) rfl rfl (Nat.le_of_ble_eq_true rfl) w87811 g0 sh_42 (by decide) rfl (by decide) (s_172 w87811 g0 (by omega)) (fun R87820 T87821 H87822 p87823 => ?_))
  obtain ⟨e87824, w87826, f87827, e87825, p87828, p87829, p87830, p87831, p87832, p87833⟩ := p87823
  subst e87824
  subst e87825
  have f87834 := f87819.tr f87827 rfl
  show wp _ _ 194 9 [(1, vI z87817), (0, .ref r0)] [] _ H87822 _
  refine wp_of e194 c194_9 (rw_iload_n (pc' := 10) (z := z87817) rfl rfl ?_)
  exact wp_ireturn e194 c194_10 rfl ⟨rfl, w87826, f87834, z87817, rfl, ⟨by omega, by omega⟩, by omega, by omega, by omega, by omega⟩
/-! StrikeAwakeModel.readSexton()V -/
theorem e193 : wq_en 193 = some (9, 2, false, none) := rfl
theorem c193_0 : mc_cd 193 0 = some (.aload_n 0, 1) := by decide +kernel
theorem c193_1 : mc_cd 193 1 = some (.getfield 166, 3) := by decide +kernel
theorem c193_4 : mc_cd 193 4 = some (.getfield 271, 3) := by decide +kernel
theorem c193_7 : mc_cd 193 7 = some (.iconst (-1), 1) := by decide +kernel
theorem c193_8 : mc_cd 193 8 = some (.if_icmp .eq 8, 3) := by decide +kernel
theorem c193_11 : mc_cd 193 11 = some (.aload_n 0, 1) := by decide +kernel
theorem c193_12 : mc_cd 193 12 = some (.iconst 3, 1) := by decide +kernel
theorem c193_13 : mc_cd 193 13 = some (.invokevirtual 121, 3) := by decide +kernel
theorem c193_16 : mc_cd 193 16 = some (.aload_n 0, 1) := by decide +kernel
theorem c193_17 : mc_cd 193 17 = some (.invokevirtual 118, 3) := by decide +kernel
theorem c193_20 : mc_cd 193 20 = some (.aload_n 0, 1) := by decide +kernel
theorem c193_21 : mc_cd 193 21 = some (.invokevirtual 273, 3) := by decide +kernel
theorem c193_24 : mc_cd 193 24 = some (.istore_n 1, 1) := by decide +kernel
theorem c193_25 : mc_cd 193 25 = some (.aload_n 0, 1) := by decide +kernel
theorem c193_26 : mc_cd 193 26 = some (.getfield 75, 3) := by decide +kernel
theorem c193_29 : mc_cd 193 29 = some (.iconst 5, 1) := by decide +kernel
theorem c193_30 : mc_cd 193 30 = some (.if_icmp .eq 11, 3) := by decide +kernel
theorem c193_33 : mc_cd 193 33 = some (.aload_n 0, 1) := by decide +kernel
theorem c193_34 : mc_cd 193 34 = some (.getfield 166, 3) := by decide +kernel
theorem c193_37 : mc_cd 193 37 = some (.iload_n 1, 1) := by decide +kernel
theorem c193_38 : mc_cd 193 38 = some (.putfield 271, 3) := by decide +kernel
theorem c193_41 : mc_cd 193 41 = some (.return_, 1) := by decide +kernel
abbrev q_193 (r0 : Nat) (rp : Nat) (T : wq_T) (H : wq_H) : Option Value → wq_T → wq_H → Prop := fun r T' H' => T = T' ∧ WT T H' ∧ wfr [(54, 8), (42, 8), (42, 9), (42, 10), (42, 11), (42, 12), (42, 13), (42, 14), (42, 15)] T H H' ∧ none = r ∧ (wJ H' r0 = 1) ∧ (H r0 10 ≤ H' r0 10) ∧ (wOV H r0 ≤ wOV H' r0) ∧ (wOV H' r0 ≤ 1)
set_option maxHeartbeats 4000000 in
theorem s_193 {kt : Nat → Option mc_E} {T : wq_T} {H : wq_H} {r0 : Nat} {rp : Nat} (hW : WT T H) (g0 : T.2.2.2 r0 = some 42) (qrp : H r0 4 = (rp : Int)) (grp : T.2.2.2 rp = some 54) (p0 : wJ H r0 = 1) : wpc kt 6 193 [.ref r0] T H (q_193 r0 rp T H) := by
  refine wp_enter e193 (Nat.le_of_ble_eq_true rfl) rfl ?_
  have f0 : wfr [(54, 8), (42, 8), (42, 9), (42, 10), (42, 11), (42, 12), (42, 13), (42, 14), (42, 15)] T H H := wfr.rf
  show wp _ _ 193 0 [(0, .ref r0)] [] _ H _
  have b87947 : (-2147483648) ≤ H r0 10 ∧ H r0 10 ≤ 2147483647 := hW.box g0 (n := 33) rfl (by decide) rfl
  have b87948 : 0 ≤ H r0 9 ∧ H r0 9 ≤ 5 := hW.box g0 (n := 33) rfl (by decide) rfl
  have b87949 : 0 ≤ H r0 8 ∧ H r0 8 ≤ 900 := hW.box g0 (n := 33) rfl (by decide) rfl
  have hb0 := wOV_b (H := H) (m := r0)
  refine wp_of e193 c193_0 (rw_aload_n (pc' := 1) (v := .ref r0) rfl rfl rfl ?_)
  refine wp_of e193 c193_1 (xg_K (pc' := 4) lf_9_166 hW g0 sh_42 (by decide) (by decide) rfl qrp rfl ?_)
  refine wp_of e193 c193_4 (xg_I (pc' := 7) lf_9_271 hW grp sh_54 (by decide) (by decide) ty_54_8 rfl rfl (fun b87950 b87951 => ?_))
  refine wp_of e193 c193_7 (rw_iconst (pc' := 8) rfl ?_)
  refine wp_of e193 c193_8 (rw_icmp_eq (p1 := 16) (p2 := 11) (by decide) rfl ⟨by omega, by omega⟩ ⟨by omega, by omega⟩ (fun c87952 => ?_) (fun c87952 => ?_))
  · refine wp_of e193 c193_16 (rw_aload_n (pc' := 17) (v := .ref r0) rfl rfl rfl ?_)
    refine wp_of e193 c193_17 (xc_V (pc' := 20) (r := r0) (as := []) (st := []) (lm_9_118) rfl rfl (Nat.le_of_ble_eq_true rfl) hW g0 sh_42 (by decide) rfl (by decide) (s_172 hW g0 (by omega)) (fun R87953 T87954 H87955 p87956 => ?_))
    obtain ⟨e87957, w87959, f87960, e87958, p87961, p87962, p87963, p87964, p87965, p87966⟩ := p87956
    subst e87957
    subst e87958
    have f87967 := f0.tr f87960 rfl
    show wp _ _ 193 20 [(0, .ref r0)] [] _ H87955 _
    refine wp_of e193 c193_20 (rw_aload_n (pc' := 21) (v := .ref r0) rfl rfl rfl ?_)
    have k87968 : H87955 r0 4 = H r0 4 := (f87960 r0 4 _ g0 rfl)
    have q87969 : H87955 r0 4 = (rp : Int) := k87968.trans qrp
    refine wp_of e193 c193_21 (xc_V (pc' := 24) (r := r0) (as := []) (st := []) (lm_9_273) rfl rfl (Nat.le_of_ble_eq_true rfl) w87959 g0 sh_42 (by decide) rfl (by decide) (s_194 w87959 g0 q87969 grp (by omega)) (fun R87970 T87971 H87972 p87973 => ?_))
    obtain ⟨e87974, w87976, f87977, z87982, e87975, b87983, p87978, p87979, p87980, p87981⟩ := p87973
    subst e87974
    subst e87975
    have f87984 := f87967.tr f87977 rfl
    show wp _ _ 193 24 [(0, .ref r0)] [vI z87982] _ H87972 _
    refine wp_of e193 c193_24 (rw_istore_n (pc' := 25) (z := z87982) (L' := [(1, vI z87982), (0, .ref r0)]) rfl rfl rfl ?_)
    refine wp_of e193 c193_25 (rw_aload_n (pc' := 26) (v := .ref r0) rfl rfl rfl ?_)
    refine wp_of e193 c193_26 (xg_I (pc' := 29) lf_9_75 w87976 g0 sh_42 (by decide) (by decide) ty_42_9 rfl rfl (fun b87985 b87986 => ?_))
    have k87987 := wOV_e (H := H87972) (m := r0)
    refine wp_of e193 c193_29 (rw_iconst (pc' := 30) rfl ?_)
    refine wp_of e193 c193_30 (rw_icmp_eq (p1 := 41) (p2 := 33) (by decide) rfl ⟨by omega, by omega⟩ ⟨by omega, by omega⟩ (fun c87988 => ?_) (fun c87988 => ?_))
    · exact wp_return e193 c193_41 rfl ⟨rfl, w87976, f87984, rfl, by omega, by omega, by omega, by omega⟩
    · refine wp_of e193 c193_33 (rw_aload_n (pc' := 34) (v := .ref r0) rfl rfl rfl ?_)
      have k87989 : H87972 r0 4 = H87955 r0 4 := (f87977 r0 4 _ g0 rfl)
      have q87990 : H87972 r0 4 = (rp : Int) := k87989.trans q87969
      refine wp_of e193 c193_34 (xg_K (pc' := 37) lf_9_166 w87976 g0 sh_42 (by decide) (by decide) rfl q87990 rfl ?_)
      refine wp_of e193 c193_37 (rw_iload_n (pc' := 38) (z := z87982) rfl rfl ?_)
      refine wp_of e193 c193_38 (xp_I (pc' := 41) lf_9_271 w87976 grp sh_54 (by decide) (by decide) ty_54_8 rfl rfl (by omega) (by omega) ⟨by omega, by omega⟩ rfl (fun H87991 e87992 w87993 => ?_))
      have f87994 := f87984.put' e87992 grp rfl
      have k87995 : H87991 rp 8 = z87982 := wq_u_s e87992
      have k87996 : H87991 r0 9 = H87972 r0 9 := (wq_u_t e87992 grp g0 rfl 9)
      have k87997 : H87991 r0 10 = H87972 r0 10 := (wq_u_t e87992 grp g0 rfl 10)
      have k87998 : wOV H87991 r0 = wOV H87972 r0 := (wOV_fr w87976 g0 ((wfr.rf (l := [(54, 8)])).put' e87992 grp rfl) rfl)
      have k87999 : wJ H87991 r0 = wJ H87972 r0 := (wJ_fr w87976 g0 ((wfr.rf (l := [(54, 8)])).put' e87992 grp rfl) rfl)
      exact wp_return e193 c193_41 rfl ⟨rfl, w87993, f87994, rfl, by omega, by omega, by omega, by omega⟩
  · refine wp_of e193 c193_11 (rw_aload_n (pc' := 12) (v := .ref r0) rfl rfl rfl ?_)
    refine wp_of e193 c193_12 (rw_iconst (pc' := 13) rfl ?_)
    refine wp_of e193 c193_13 (xc_V (pc' := 16) (r := r0) (as := [vI 3]) (st := []) (lm_9_121) rfl rfl (Nat.le_of_ble_eq_true rfl) hW g0 sh_42 (by decide) rfl (by decide) (s_181 hW g0 ⟨by omega, by omega⟩ (by omega)) (fun R88000 T88001 H88002 p88003 => ?_))
    obtain ⟨e88004, w88006, f88007, e88005, p88008, p88009, p88010, p88011, p88012, p88013⟩ := p88003
    subst e88004
    subst e88005
    have f88014 := f0.tr f88007 rfl
    show wp _ _ 193 16 [(0, .ref r0)] [] _ H88002 _
    refine wp_of e193 c193_16 (rw_aload_n (pc' := 17) (v := .ref r0) rfl rfl rfl ?_)
    refine wp_of e193 c193_17 (xc_V (pc' := 20) (r := r0) (as := []) (st := []) (lm_9_118) rfl rfl (Nat.le_of_ble_eq_true rfl) w88006 g0 sh_42 (by decide) rfl (by decide) (s_172 w88006 g0 (by omega)) (fun R88015 T88016 H88017 p88018 => ?_))
    obtain ⟨e88019, w88021, f88022, e88020, p88023, p88024, p88025, p88026, p88027, p88028⟩ := p88018
    subst e88019
    subst e88020
    have f88029 := f88014.tr f88022 rfl
    show wp _ _ 193 20 [(0, .ref r0)] [] _ H88017 _
    refine wp_of e193 c193_20 (rw_aload_n (pc' := 21) (v := .ref r0) rfl rfl rfl ?_)
    have k88030 : H88017 r0 4 = H r0 4 := ((f88022 r0 4 _ g0 rfl).trans (f88007 r0 4 _ g0 rfl))
    have q88031 : H88017 r0 4 = (rp : Int) := k88030.trans qrp
    refine wp_of e193 c193_21 (xc_V (pc' := 24) (r := r0) (as := []) (st := []) (lm_9_273) rfl rfl (Nat.le_of_ble_eq_true rfl) w88021 g0 sh_42 (by decide) rfl (by decide) (s_194 w88021 g0 q88031 grp (by omega)) (fun R88032 T88033 H88034 p88035 => ?_))
    obtain ⟨e88036, w88038, f88039, z88044, e88037, b88045, p88040, p88041, p88042, p88043⟩ := p88035
    subst e88036
    subst e88037
    have f88046 := f88029.tr f88039 rfl
    show wp _ _ 193 24 [(0, .ref r0)] [vI z88044] _ H88034 _
    refine wp_of e193 c193_24 (rw_istore_n (pc' := 25) (z := z88044) (L' := [(1, vI z88044), (0, .ref r0)]) rfl rfl rfl ?_)
    refine wp_of e193 c193_25 (rw_aload_n (pc' := 26) (v := .ref r0) rfl rfl rfl ?_)
    refine wp_of e193 c193_26 (xg_I (pc' := 29) lf_9_75 w88038 g0 sh_42 (by decide) (by decide) ty_42_9 rfl rfl (fun b88047 b88048 => ?_))
    have k88049 := wOV_e (H := H88034) (m := r0)
    refine wp_of e193 c193_29 (rw_iconst (pc' := 30) rfl ?_)
    refine wp_of e193 c193_30 (rw_icmp_eq (p1 := 41) (p2 := 33) (by decide) rfl ⟨by omega, by omega⟩ ⟨by omega, by omega⟩ (fun c88050 => ?_) (fun c88050 => ?_))
    · exact wp_return e193 c193_41 rfl ⟨rfl, w88038, f88046, rfl, by omega, by omega, by omega, by omega⟩
    · refine wp_of e193 c193_33 (rw_aload_n (pc' := 34) (v := .ref r0) rfl rfl rfl ?_)
      have k88051 : H88034 r0 4 = H88017 r0 4 := (f88039 r0 4 _ g0 rfl)
      have q88052 : H88034 r0 4 = (rp : Int) := k88051.trans q88031
      refine wp_of e193 c193_34 (xg_K (pc' := 37) lf_9_166 w88038 g0 sh_42 (by decide) (by decide) rfl q88052 rfl ?_)
      refine wp_of e193 c193_37 (rw_iload_n (pc' := 38) (z := z88044) rfl rfl ?_)
      refine wp_of e193 c193_38 (xp_I (pc' := 41) lf_9_271 w88038 grp sh_54 (by decide) (by decide) ty_54_8 rfl rfl (by omega) (by omega) ⟨by omega, by omega⟩ rfl (fun H88053 e88054 w88055 => ?_))
      have f88056 := f88046.put' e88054 grp rfl
      have k88057 : H88053 rp 8 = z88044 := wq_u_s e88054
      have k88058 : H88053 r0 9 = H88034 r0 9 := (wq_u_t e88054 grp g0 rfl 9)
      have k88059 : H88053 r0 10 = H88034 r0 10 := (wq_u_t e88054 grp g0 rfl 10)
      have k88060 : wOV H88053 r0 = wOV H88034 r0 := (wOV_fr w88038 g0 ((wfr.rf (l := [(54, 8)])).put' e88054 grp rfl) rfl)
      have k88061 : wJ H88053 r0 = wJ H88034 r0 := (wJ_fr w88038 g0 ((wfr.rf (l := [(54, 8)])).put' e88054 grp rfl) rfl)
      exact wp_return e193 c193_41 rfl ⟨rfl, w88055, f88056, rfl, by omega, by omega, by omega, by omega⟩
/-! StrikeAwakeModel.needsSign(I)V -/
theorem e197 : wq_en 197 = some (9, 2, false, none) := rfl
theorem c197_0 : mc_cd 197 0 = some (.aload_n 0, 1) := by decide +kernel
theorem c197_1 : mc_cd 197 1 = some (.getfield 75, 3) := by decide +kernel
theorem c197_4 : mc_cd 197 4 = some (.iconst 4, 1) := by decide +kernel
theorem c197_5 : mc_cd 197 5 = some (.if_icmp .ne 11, 3) := by decide +kernel
theorem c197_8 : mc_cd 197 8 = some (.aload_n 0, 1) := by decide +kernel
theorem c197_9 : mc_cd 197 9 = some (.getfield 87, 3) := by decide +kernel
theorem c197_12 : mc_cd 197 12 = some (.iload_n 1, 1) := by decide +kernel
theorem c197_13 : mc_cd 197 13 = some (.if_icmp .eq 8, 3) := by decide +kernel
theorem c197_16 : mc_cd 197 16 = some (.aload_n 0, 1) := by decide +kernel
theorem c197_17 : mc_cd 197 17 = some (.iconst 1, 1) := by decide +kernel
theorem c197_18 : mc_cd 197 18 = some (.invokevirtual 121, 3) := by decide +kernel
theorem c197_21 : mc_cd 197 21 = some (.aload_n 0, 1) := by decide +kernel
theorem c197_22 : mc_cd 197 22 = some (.invokevirtual 118, 3) := by decide +kernel
theorem c197_25 : mc_cd 197 25 = some (.return_, 1) := by decide +kernel
abbrev q_197 (r0 : Nat) (a1 : Int) (T : wq_T) (H : wq_H) : Option Value → wq_T → wq_H → Prop := fun r T' H' => T = T' ∧ WT T H' ∧ wfr [(42, 8), (42, 9), (42, 10), (42, 11), (42, 12), (42, 13), (42, 14), (42, 15)] T H H' ∧ none = r ∧ (wJ H' r0 = 1) ∧ (H r0 10 ≤ H' r0 10) ∧ (wOV H r0 ≤ wOV H' r0) ∧ (wOV H' r0 ≤ 1)
set_option maxHeartbeats 4000000 in
theorem s_197 {kt : Nat → Option mc_E} {T : wq_T} {H : wq_H} {r0 : Nat} {a1 : Int} (hW : WT T H) (g0 : T.2.2.2 r0 = some 42) (i1 : (-2147483648) ≤ a1 ∧ a1 ≤ 2147483647) (p0 : wJ H r0 = 1) : wpc kt 3 197 [.ref r0, vI a1] T H (q_197 r0 a1 T H) := by
  refine wp_enter e197 (Nat.le_of_ble_eq_true rfl) rfl ?_
  have f0 : wfr [(42, 8), (42, 9), (42, 10), (42, 11), (42, 12), (42, 13), (42, 14), (42, 15)] T H H := wfr.rf
  show wp _ _ 197 0 [(0, .ref r0), (1, vI a1)] [] _ H _
  have b88144 : (-2147483648) ≤ H r0 10 ∧ H r0 10 ≤ 2147483647 := hW.box g0 (n := 33) rfl (by decide) rfl
  have b88145 : 0 ≤ H r0 9 ∧ H r0 9 ≤ 5 := hW.box g0 (n := 33) rfl (by decide) rfl
  have b88146 : 0 ≤ H r0 8 ∧ H r0 8 ≤ 900 := hW.box g0 (n := 33) rfl (by decide) rfl
  have hb0 := wOV_b (H := H) (m := r0)
  refine wp_of e197 c197_0 (rw_aload_n (pc' := 1) (v := .ref r0) rfl rfl rfl ?_)
  refine wp_of e197 c197_1 (xg_I (pc' := 4) lf_9_75 hW g0 sh_42 (by decide) (by decide) ty_42_9 rfl rfl (fun b88147 b88148 => ?_))
  have k88149 := wOV_e (H := H) (m := r0)
  refine wp_of e197 c197_4 (rw_iconst (pc' := 5) rfl ?_)
  refine wp_of e197 c197_5 (rw_icmp_ne (p1 := 16) (p2 := 8) (by decide) rfl ⟨by omega, by omega⟩ ⟨by omega, by omega⟩ (fun c88150 => ?_) (fun c88150 => ?_))
  · refine wp_of e197 c197_16 (rw_aload_n (pc' := 17) (v := .ref r0) rfl rfl rfl ?_)
    refine wp_of e197 c197_17 (rw_iconst (pc' := 18) rfl ?_)
    refine wp_of e197 c197_18 (xc_V (pc' := 21) (r := r0) (as := [vI 1]) (st := []) (lm_9_121) rfl rfl (Nat.le_of_ble_eq_true rfl) hW g0 sh_42 (by decide) rfl (by decide) (s_181 hW g0 ⟨by omega, by omega⟩ (by omega)) (fun R88151 T88152 H88153 p88154 => ?_))
    obtain ⟨e88155, w88157, f88158, e88156, p88159, p88160, p88161, p88162, p88163, p88164⟩ := p88154
    subst e88155
    subst e88156
    have f88165 := f0.tr f88158 rfl
    show wp _ _ 197 21 [(0, .ref r0), (1, vI a1)] [] _ H88153 _
    refine wp_of e197 c197_21 (rw_aload_n (pc' := 22) (v := .ref r0) rfl rfl rfl ?_)
    refine wp_of e197 c197_22 (xc_V (pc' := 25) (r := r0) (as := []) (st := []) (lm_9_118) rfl rfl (Nat.le_of_ble_eq_true rfl) w88157 g0 sh_42 (by decide) rfl (by decide) (s_172 w88157 g0 (by omega)) (fun R88166 T88167 H88168 p88169 => ?_))
    obtain ⟨e88170, w88172, f88173, e88171, p88174, p88175, p88176, p88177, p88178, p88179⟩ := p88169
    subst e88170
    subst e88171
    have f88180 := f88165.tr f88173 rfl
    show wp _ _ 197 25 [(0, .ref r0), (1, vI a1)] [] _ H88168 _
    exact wp_return e197 c197_25 rfl ⟨rfl, w88172, f88180, rfl, by omega, by omega, by omega, by omega⟩
  · refine wp_of e197 c197_8 (rw_aload_n (pc' := 9) (v := .ref r0) rfl rfl rfl ?_)
    refine wp_of e197 c197_9 (xg_I (pc' := 12) lf_9_87 hW g0 sh_42 (by decide) (by decide) ty_42_11 rfl rfl (fun b88181 b88182 => ?_))
    refine wp_of e197 c197_12 (rw_iload_n (pc' := 13) (z := a1) rfl rfl ?_)
    refine wp_of e197 c197_13 (rw_icmp_eq (p1 := 21) (p2 := 16) (by decide) rfl ⟨by omega, by omega⟩ ⟨by omega, by omega⟩ (fun c88183 => ?_) (fun c88183 => ?_))
    · refine wp_of e197 c197_21 (rw_aload_n (pc' := 22) (v := .ref r0) rfl rfl rfl ?_)
      refine wp_of e197 c197_22 (xc_V (pc' := 25) (r := r0) (as := []) (st := []) (lm_9_118) rfl rfl (Nat.le_of_ble_eq_true rfl) hW g0 sh_42 (by decide) rfl (by decide) (s_172 hW g0 (by omega)) (fun R88184 T88185 H88186 p88187 => ?_))
      obtain ⟨e88188, w88190, f88191, e88189, p88192, p88193, p88194, p88195, p88196, p88197⟩ := p88187
      subst e88188
      subst e88189
      have f88198 := f0.tr f88191 rfl
      show wp _ _ 197 25 [(0, .ref r0), (1, vI a1)] [] _ H88186 _
      exact wp_return e197 c197_25 rfl ⟨rfl, w88190, f88198, rfl, by omega, by omega, by omega, by omega⟩
    · refine wp_of e197 c197_16 (rw_aload_n (pc' := 17) (v := .ref r0) rfl rfl rfl ?_)
      refine wp_of e197 c197_17 (rw_iconst (pc' := 18) rfl ?_)
      refine wp_of e197 c197_18 (xc_V (pc' := 21) (r := r0) (as := [vI 1]) (st := []) (lm_9_121) rfl rfl (Nat.le_of_ble_eq_true rfl) hW g0 sh_42 (by decide) rfl (by decide) (s_181 hW g0 ⟨by omega, by omega⟩ (by omega)) (fun R88199 T88200 H88201 p88202 => ?_))
      obtain ⟨e88203, w88205, f88206, e88204, p88207, p88208, p88209, p88210, p88211, p88212⟩ := p88202
      subst e88203
      subst e88204
      have f88213 := f0.tr f88206 rfl
      show wp _ _ 197 21 [(0, .ref r0), (1, vI a1)] [] _ H88201 _
      refine wp_of e197 c197_21 (rw_aload_n (pc' := 22) (v := .ref r0) rfl rfl rfl ?_)
      refine wp_of e197 c197_22 (xc_V (pc' := 25) (r := r0) (as := []) (st := []) (lm_9_118) rfl rfl (Nat.le_of_ble_eq_true rfl) w88205 g0 sh_42 (by decide) rfl (by decide) (s_172 w88205 g0 (by omega)) (fun R88214 T88215 H88216 p88217 => ?_))
      obtain ⟨e88218, w88220, f88221, e88219, p88222, p88223, p88224, p88225, p88226, p88227⟩ := p88217
      subst e88218
      subst e88219
      have f88228 := f88213.tr f88221 rfl
      show wp _ _ 197 25 [(0, .ref r0), (1, vI a1)] [] _ H88216 _
      exact wp_return e197 c197_25 rfl ⟨rfl, w88220, f88228, rfl, by omega, by omega, by omega, by omega⟩
/-! StrikeAwakeModel.readApart()V -/
theorem e196 : wq_en 196 = some (9, 5, false, none) := rfl
theorem c196_0 : mc_cd 196 0 = some (.aload_n 0, 1) := by decide +kernel
theorem c196_1 : mc_cd 196 1 = some (.aload_n 0, 1) := by decide +kernel
theorem c196_2 : mc_cd 196 2 = some (.getfield 166, 3) := by decide +kernel
theorem c196_5 : mc_cd 196 5 = some (.getfield 276, 3) := by decide +kernel
theorem c196_8 : mc_cd 196 8 = some (.iconst 3, 1) := by decide +kernel
theorem c196_9 : mc_cd 196 9 = some (.invokevirtual 228, 3) := by decide +kernel
theorem c196_12 : mc_cd 196 12 = some (.aload_n 0, 1) := by decide +kernel
theorem c196_13 : mc_cd 196 13 = some (.invokevirtual 273, 3) := by decide +kernel
theorem c196_16 : mc_cd 196 16 = some (.istore_n 1, 1) := by decide +kernel
theorem c196_17 : mc_cd 196 17 = some (.aload_n 0, 1) := by decide +kernel
theorem c196_18 : mc_cd 196 18 = some (.bipush 44, 2) := by decide +kernel
theorem c196_20 : mc_cd 196 20 = some (.invokevirtual 279, 3) := by decide +kernel
theorem c196_23 : mc_cd 196 23 = some (.aload_n 0, 1) := by decide +kernel
theorem c196_24 : mc_cd 196 24 = some (.invokevirtual 176, 3) := by decide +kernel
theorem c196_27 : mc_cd 196 27 = some (.istore_n 2, 1) := by decide +kernel
theorem c196_28 : mc_cd 196 28 = some (.iload_n 1, 1) := by decide +kernel
theorem c196_29 : mc_cd 196 29 = some (.iload_n 2, 1) := by decide +kernel
theorem c196_30 : mc_cd 196 30 = some (.if_icmp .ne 7, 3) := by decide +kernel
theorem c196_33 : mc_cd 196 33 = some (.iconst 1, 1) := by decide +kernel
theorem c196_34 : mc_cd 196 34 = some (.goto 4, 3) := by decide +kernel
theorem c196_37 : mc_cd 196 37 = some (.iconst 0, 1) := by decide +kernel
theorem c196_38 : mc_cd 196 38 = some (.istore_n 3, 1) := by decide +kernel
theorem c196_39 : mc_cd 196 39 = some (.iconst 0, 1) := by decide +kernel
theorem c196_40 : mc_cd 196 40 = some (.istore 4, 2) := by decide +kernel
theorem c196_42 : mc_cd 196 42 = some (.iload 4, 2) := by decide +kernel
theorem c196_44 : mc_cd 196 44 = some (.aload_n 0, 1) := by decide +kernel
theorem c196_45 : mc_cd 196 45 = some (.getfield 166, 3) := by decide +kernel
theorem c196_48 : mc_cd 196 48 = some (.getfield 276, 3) := by decide +kernel
theorem c196_51 : mc_cd 196 51 = some (.if_icmp .ge 75, 3) := by decide +kernel
theorem c196_54 : mc_cd 196 54 = some (.iload_n 3, 1) := by decide +kernel
theorem c196_55 : mc_cd 196 55 = some (.ifCond .ne 59, 3) := by decide +kernel
theorem c196_58 : mc_cd 196 58 = some (.aload_n 0, 1) := by decide +kernel
theorem c196_59 : mc_cd 196 59 = some (.getfield 166, 3) := by decide +kernel
theorem c196_62 : mc_cd 196 62 = some (.getfield 282, 3) := by decide +kernel
theorem c196_65 : mc_cd 196 65 = some (.iload 4, 2) := by decide +kernel
theorem c196_67 : mc_cd 196 67 = some (.iaload, 1) := by decide +kernel
theorem c196_68 : mc_cd 196 68 = some (.iload_n 1, 1) := by decide +kernel
theorem c196_69 : mc_cd 196 69 = some (.if_icmp .ne 17, 3) := by decide +kernel
theorem c196_72 : mc_cd 196 72 = some (.aload_n 0, 1) := by decide +kernel
theorem c196_73 : mc_cd 196 73 = some (.getfield 166, 3) := by decide +kernel
theorem c196_76 : mc_cd 196 76 = some (.getfield 285, 3) := by decide +kernel
theorem c196_79 : mc_cd 196 79 = some (.iload 4, 2) := by decide +kernel
theorem c196_81 : mc_cd 196 81 = some (.iaload, 1) := by decide +kernel
theorem c196_82 : mc_cd 196 82 = some (.iload_n 2, 1) := by decide +kernel
theorem c196_83 : mc_cd 196 83 = some (.if_icmp .eq 31, 3) := by decide +kernel
theorem c196_86 : mc_cd 196 86 = some (.aload_n 0, 1) := by decide +kernel
theorem c196_87 : mc_cd 196 87 = some (.getfield 166, 3) := by decide +kernel
theorem c196_90 : mc_cd 196 90 = some (.getfield 282, 3) := by decide +kernel
theorem c196_93 : mc_cd 196 93 = some (.iload 4, 2) := by decide +kernel
theorem c196_95 : mc_cd 196 95 = some (.iaload, 1) := by decide +kernel
theorem c196_96 : mc_cd 196 96 = some (.iload_n 2, 1) := by decide +kernel
theorem c196_97 : mc_cd 196 97 = some (.if_icmp .ne 21, 3) := by decide +kernel
theorem c196_100 : mc_cd 196 100 = some (.aload_n 0, 1) := by decide +kernel
theorem c196_101 : mc_cd 196 101 = some (.getfield 166, 3) := by decide +kernel
theorem c196_104 : mc_cd 196 104 = some (.getfield 285, 3) := by decide +kernel
theorem c196_107 : mc_cd 196 107 = some (.iload 4, 2) := by decide +kernel
theorem c196_109 : mc_cd 196 109 = some (.iaload, 1) := by decide +kernel
theorem c196_110 : mc_cd 196 110 = some (.iload_n 1, 1) := by decide +kernel
theorem c196_111 : mc_cd 196 111 = some (.if_icmp .ne 7, 3) := by decide +kernel
theorem c196_114 : mc_cd 196 114 = some (.iconst 1, 1) := by decide +kernel
theorem c196_115 : mc_cd 196 115 = some (.goto 4, 3) := by decide +kernel
theorem c196_118 : mc_cd 196 118 = some (.iconst 0, 1) := by decide +kernel
theorem c196_119 : mc_cd 196 119 = some (.istore_n 3, 1) := by decide +kernel
theorem c196_120 : mc_cd 196 120 = some (.iinc 4 1, 3) := by decide +kernel
theorem c196_123 : mc_cd 196 123 = some (.goto (-81), 3) := by decide +kernel
theorem c196_126 : mc_cd 196 126 = some (.iload_n 3, 1) := by decide +kernel
theorem c196_127 : mc_cd 196 127 = some (.ifCond .eq 8, 3) := by decide +kernel
theorem c196_130 : mc_cd 196 130 = some (.aload_n 0, 1) := by decide +kernel
theorem c196_131 : mc_cd 196 131 = some (.iconst 3, 1) := by decide +kernel
theorem c196_132 : mc_cd 196 132 = some (.invokevirtual 121, 3) := by decide +kernel
theorem c196_135 : mc_cd 196 135 = some (.aload_n 0, 1) := by decide +kernel
theorem c196_136 : mc_cd 196 136 = some (.invokevirtual 118, 3) := by decide +kernel
theorem c196_139 : mc_cd 196 139 = some (.aload_n 0, 1) := by decide +kernel
theorem c196_140 : mc_cd 196 140 = some (.getfield 75, 3) := by decide +kernel
theorem c196_143 : mc_cd 196 143 = some (.iconst 5, 1) := by decide +kernel
theorem c196_144 : mc_cd 196 144 = some (.if_icmp .ne 4, 3) := by decide +kernel
theorem c196_147 : mc_cd 196 147 = some (.return_, 1) := by decide +kernel
theorem c196_148 : mc_cd 196 148 = some (.aload_n 0, 1) := by decide +kernel
theorem c196_149 : mc_cd 196 149 = some (.getfield 166, 3) := by decide +kernel
theorem c196_152 : mc_cd 196 152 = some (.getfield 282, 3) := by decide +kernel
theorem c196_155 : mc_cd 196 155 = some (.aload_n 0, 1) := by decide +kernel
theorem c196_156 : mc_cd 196 156 = some (.getfield 166, 3) := by decide +kernel
theorem c196_159 : mc_cd 196 159 = some (.getfield 276, 3) := by decide +kernel
theorem c196_162 : mc_cd 196 162 = some (.iload_n 1, 1) := by decide +kernel
theorem c196_163 : mc_cd 196 163 = some (.iastore, 1) := by decide +kernel
theorem c196_164 : mc_cd 196 164 = some (.aload_n 0, 1) := by decide +kernel
theorem c196_165 : mc_cd 196 165 = some (.getfield 166, 3) := by decide +kernel
theorem c196_168 : mc_cd 196 168 = some (.getfield 285, 3) := by decide +kernel
theorem c196_171 : mc_cd 196 171 = some (.aload_n 0, 1) := by decide +kernel
theorem c196_172 : mc_cd 196 172 = some (.getfield 166, 3) := by decide +kernel
theorem c196_175 : mc_cd 196 175 = some (.getfield 276, 3) := by decide +kernel
theorem c196_178 : mc_cd 196 178 = some (.iload_n 2, 1) := by decide +kernel
theorem c196_179 : mc_cd 196 179 = some (.iastore, 1) := by decide +kernel
theorem c196_180 : mc_cd 196 180 = some (.aload_n 0, 1) := by decide +kernel
theorem c196_181 : mc_cd 196 181 = some (.getfield 166, 3) := by decide +kernel
theorem c196_184 : mc_cd 196 184 = some (.dup, 1) := by decide +kernel
theorem c196_185 : mc_cd 196 185 = some (.getfield 276, 3) := by decide +kernel
theorem c196_188 : mc_cd 196 188 = some (.iconst 1, 1) := by decide +kernel
theorem c196_189 : mc_cd 196 189 = some (.iadd, 1) := by decide +kernel
theorem c196_190 : mc_cd 196 190 = some (.putfield 276, 3) := by decide +kernel
theorem c196_193 : mc_cd 196 193 = some (.return_, 1) := by decide +kernel
abbrev q_196 (r0 : Nat) (rp : Nat) (T : wq_T) (H : wq_H) : Option Value → wq_T → wq_H → Prop := fun r T' H' => T = T' ∧ WT T H' ∧ wfr [(54, 4), (42, 8), (42, 9), (42, 10), (42, 11), (42, 12), (42, 13), (42, 14), (42, 15), (64, 999), (65, 999)] T H H' ∧ none = r ∧ (wJ H' r0 = 1) ∧ (H r0 10 ≤ H' r0 10) ∧ (wOV H r0 ≤ wOV H' r0) ∧ (wOV H' r0 ≤ 1)
set_option maxHeartbeats 4000000 in
theorem s_196 {kt : Nat → Option mc_E} {T : wq_T} {H : wq_H} {r0 : Nat} {rp : Nat} (hW : WT T H) (g0 : T.2.2.2 r0 = some 42) (qrp : H r0 4 = (rp : Int)) (grp : T.2.2.2 rp = some 54) (p0 : wJ H r0 = 1) : wpc kt 6 196 [.ref r0] T H (q_196 r0 rp T H) := by
  refine wp_enter e196 (Nat.le_of_ble_eq_true rfl) rfl ?_
  have f0 : wfr [(54, 4), (42, 8), (42, 9), (42, 10), (42, 11), (42, 12), (42, 13), (42, 14), (42, 15), (64, 999), (65, 999)] T H H := wfr.rf
  show wp _ _ 196 0 [(0, .ref r0)] [] _ H _
  have b88703 : (-2147483648) ≤ H r0 10 ∧ H r0 10 ≤ 2147483647 := hW.box g0 (n := 33) rfl (by decide) rfl
  have b88704 : 0 ≤ H r0 9 ∧ H r0 9 ≤ 5 := hW.box g0 (n := 33) rfl (by decide) rfl
  have b88705 : 0 ≤ H r0 8 ∧ H r0 8 ≤ 900 := hW.box g0 (n := 33) rfl (by decide) rfl
  have hb0 := wOV_b (H := H) (m := r0)
  refine wp_of e196 c196_0 (rw_aload_n (pc' := 1) (v := .ref r0) rfl rfl rfl ?_)
  refine wp_of e196 c196_1 (rw_aload_n (pc' := 2) (v := .ref r0) rfl rfl rfl ?_)
  refine wp_of e196 c196_2 (xg_K (pc' := 5) lf_9_166 hW g0 sh_42 (by decide) (by decide) rfl qrp rfl ?_)
  refine wp_of e196 c196_5 (xg_I (pc' := 8) lf_9_276 hW grp sh_54 (by decide) (by decide) ty_54_4 rfl rfl (fun b88706 b88707 => ?_))
  refine wp_of e196 c196_8 (rw_iconst (pc' := 9) rfl ?_)
  refine wp_of e196 c196_9 (xc_V (pc' := 12) (r := r0) (as := [vI (H rp 4), vI 3]) (st := []) (lm_9_228) rfl rfl (Nat.le_of_ble_eq_true rfl) hW g0 sh_42 (by decide) rfl (by decide) (s_188 hW g0 ⟨by omega, by omega⟩ ⟨by omega, by omega⟩ (by omega)) (fun R88708 T88709 H88710 p88711 => ?_))
  obtain ⟨e88712, w88714, f88715, e88713, p88716, p88717, p88718, p88719, p88720⟩ := p88711
  subst e88712
  subst e88713
  have f88721 := f0.tr f88715 rfl
  show wp _ _ 196 12 [(0, .ref r0)] [] _ H88710 _
  refine wp_of e196 c196_12 (rw_aload_n (pc' := 13) (v := .ref r0) rfl rfl rfl ?_)
  have k88722 : H88710 r0 4 = H r0 4 := (f88715 r0 4 _ g0 rfl)
  have q88723 : H88710 r0 4 = (rp : Int) := k88722.trans qrp
  refine wp_of e196 c196_13 (xc_V (pc' := 16) (r := r0) (as := []) (st := []) (lm_9_273) rfl rfl (Nat.le_of_ble_eq_true rfl) w88714 g0 sh_42 (by decide) rfl (by decide) (s_194 w88714 g0 q88723 grp (by omega)) (fun R88724 T88725 H88726 p88727 => ?_))
  obtain ⟨e88728, w88730, f88731, z88736, e88729, b88737, p88732, p88733, p88734, p88735⟩ := p88727
  subst e88728
  subst e88729
  have f88738 := f88721.tr f88731 rfl
  show wp _ _ 196 16 [(0, .ref r0)] [vI z88736] _ H88726 _
  refine wp_of e196 c196_16 (rw_istore_n (pc' := 17) (z := z88736) (L' := [(1, vI z88736), (0, .ref r0)]) rfl rfl rfl ?_)
  refine wp_of e196 c196_17 (rw_aload_n (pc' := 18) (v := .ref r0) rfl rfl rfl ?_)
  refine wp_of e196 c196_18 (rw_bipush (pc' := 20) (z := 44) rfl (by decide) ?_)
  refine wp_of e196 c196_20 (xc_V (pc' := 23) (r := r0) (as := [vI 44]) (st := []) (lm_9_279) rfl rfl (Nat.le_of_ble_eq_true rfl) w88730 g0 sh_42 (by decide) rfl (by decide) (s_197 w88730 g0 ⟨by omega, by omega⟩ (by omega)) (fun R88739 T88740 H88741 p88742 => ?_))
  obtain ⟨e88743, w88745, f88746, e88744, p88747, p88748, p88749, p88750⟩ := p88742
  subst e88743
  subst e88744
  have f88751 := f88738.tr f88746 rfl
  show wp _ _ 196 23 [(1, vI z88736), (0, .ref r0)] [] _ H88741 _
  refine wp_of e196 c196_23 (rw_aload_n (pc' := 24) (v := .ref r0) rfl rfl rfl ?_)
  have k88752 : H88741 r0 4 = H88710 r0 4 := ((f88746 r0 4 _ g0 rfl).trans (f88731 r0 4 _ g0 rfl))
  have q88753 : H88741 r0 4 = (rp : Int) := k88752.trans q88723
  refine wp_of e196 c196_24 (xc_V (pc' := 27) (r := r0) (as := []) (st := []) (lm_9_176) rfl rfl (Nat.le_of_ble_eq_true rfl) w88745 g0 sh_42 (by decide) rfl (by decide) (s_195 w88745 g0 q88753 grp (by omega)) (fun R88754 T88755 H88756 p88757 => ?_))
  obtain ⟨e88758, w88760, f88761, z88766, e88759, b88767, p88762, p88763, p88764, p88765⟩ := p88757
  subst e88758
  subst e88759
  have f88768 := f88751.tr f88761 rfl
  show wp _ _ 196 27 [(1, vI z88736), (0, .ref r0)] [vI z88766] _ H88756 _
  refine wp_of e196 c196_27 (rw_istore_n (pc' := 28) (z := z88766) (L' := [(2, vI z88766), (1, vI z88736), (0, .ref r0)]) rfl rfl rfl ?_)
  refine wp_of e196 c196_28 (rw_iload_n (pc' := 29) (z := z88736) rfl rfl ?_)
  refine wp_of e196 c196_29 (rw_iload_n (pc' := 30) (z := z88766) rfl rfl ?_)
  refine wp_of e196 c196_30 (rw_icmp_ne (p1 := 37) (p2 := 33) (by decide) rfl ⟨by omega, by omega⟩ ⟨by omega, by omega⟩ (fun c88769 => ?_) (fun c88769 => ?_))
  · refine wp_of e196 c196_37 (rw_iconst (pc' := 38) rfl ?_)
    refine wp_of e196 c196_38 (rw_istore_n (pc' := 39) (z := 0) (L' := [(3, vI 0), (2, vI z88766), (1, vI z88736), (0, .ref r0)]) rfl rfl rfl ?_)
    refine wp_of e196 c196_39 (rw_iconst (pc' := 40) rfl ?_)
    refine wp_of e196 c196_40 (rw_istore (pc' := 42) (z := 0) (L' := [(4, vI 0), (3, vI 0), (2, vI z88766), (1, vI z88736), (0, .ref r0)]) rfl rfl rfl ?_)
    have lp88906 : ∀ (n88907 : Nat) (v88909 : Int) (v88910 : Int), (0 ≤ v88909 ∧ v88909 ≤ 3) → (0 ≤ v88910 ∧ v88910 ≤ 1) → (3 - v88909).toNat = n88907 → wp kt 5 196 42 [(4, vI v88909), (3, vI v88910), (2, vI z88766), (1, vI z88736), (0, .ref r0)] [] T H88756 (q_196 r0 rp T H) := by
      intro n88907
      induction n88907 using Nat.strongRecOn with
      | _ n88907 ih88908 =>
        intro v88909 v88910 b88913 b88914 m88915
        refine wp_of e196 c196_42 (rw_iload (pc' := 44) (z := v88909) rfl rfl ?_)
        refine wp_of e196 c196_44 (rw_aload_n (pc' := 45) (v := .ref r0) rfl rfl rfl ?_)
        have k88916 : H88756 r0 4 = H88741 r0 4 := (f88761 r0 4 _ g0 rfl)
        have q88917 : H88756 r0 4 = (rp : Int) := k88916.trans q88753
        refine wp_of e196 c196_45 (xg_K (pc' := 48) lf_9_166 w88760 g0 sh_42 (by decide) (by decide) rfl q88917 rfl ?_)
        have k88918 : H88756 rp 4 = H rp 4 := ((f88761 rp 4 _ grp rfl).trans ((f88746 rp 4 _ grp rfl).trans ((f88731 rp 4 _ grp rfl).trans (f88715 rp 4 _ grp rfl))))
        refine wp_of e196 c196_48 (xg_I (pc' := 51) lf_9_276 w88760 grp sh_54 (by decide) (by decide) ty_54_4 rfl rfl (fun b88919 b88920 => ?_))
        refine wp_of e196 c196_51 (rw_icmp_ge (p1 := 126) (p2 := 54) (by decide) rfl ⟨by omega, by omega⟩ ⟨by omega, by omega⟩ (fun c88921 => ?_) (fun c88921 => ?_))
        · refine wp_of e196 c196_126 (rw_iload_n (pc' := 127) (z := v88910) rfl rfl ?_)
          refine wp_of e196 c196_127 (rw_if_eq (p1 := 135) (p2 := 130) (by decide) rfl ⟨by omega, by omega⟩ (fun c88922 => ?_) (fun c88922 => ?_))
          · refine wp_of e196 c196_135 (rw_aload_n (pc' := 136) (v := .ref r0) rfl rfl rfl ?_)
            refine wp_of e196 c196_136 (xc_V (pc' := 139) (r := r0) (as := []) (st := []) (lm_9_118) rfl rfl (Nat.le_of_ble_eq_true rfl) w88760 g0 sh_42 (by decide) rfl (by decide) (s_172 w88760 g0 (by omega)) (fun R88923 T88924 H88925 p88926 => ?_))
            obtain ⟨e88927, w88929, f88930, e88928, p88931, p88932, p88933, p88934, p88935, p88936⟩ := p88926
            subst e88927
            subst e88928
            have f88937 := f88768.tr f88930 rfl
            show wp _ _ 196 139 [(4, vI v88909), (3, vI v88910), (2, vI z88766), (1, vI z88736), (0, .ref r0)] [] _ H88925 _
            refine wp_of e196 c196_139 (rw_aload_n (pc' := 140) (v := .ref r0) rfl rfl rfl ?_)
            refine wp_of e196 c196_140 (xg_I (pc' := 143) lf_9_75 w88929 g0 sh_42 (by decide) (by decide) ty_42_9 rfl rfl (fun b88938 b88939 => ?_))
            have k88940 := wOV_e (H := H88925) (m := r0)
            refine wp_of e196 c196_143 (rw_iconst (pc' := 144) rfl ?_)
            refine wp_of e196 c196_144 (rw_icmp_ne (p1 := 148) (p2 := 147) (by decide) rfl ⟨by omega, by omega⟩ ⟨by omega, by omega⟩ (fun c88941 => ?_) (fun c88941 => ?_))
            · refine wp_of e196 c196_148 (rw_aload_n (pc' := 149) (v := .ref r0) rfl rfl rfl ?_)
              have k88942 : H88925 r0 4 = H88756 r0 4 := (f88930 r0 4 _ g0 rfl)
              have q88943 : H88925 r0 4 = (rp : Int) := k88942.trans q88917
              refine wp_of e196 c196_149 (xg_K (pc' := 152) lf_9_166 w88929 g0 sh_42 (by decide) (by decide) rfl q88943 rfl ?_)
              refine wp_of e196 c196_152 (xg_R (pc' := 155) lf_9_282 w88929 grp sh_54 (by decide) (by decide) ty_54_18 rfl rfl (fun r88944 q88945 g88946 => ?_))
              refine wp_of e196 c196_155 (rw_aload_n (pc' := 156) (v := .ref r0) rfl rfl rfl ?_)
              refine wp_of e196 c196_156 (xg_K (pc' := 159) lf_9_166 w88929 g0 sh_42 (by decide) (by decide) rfl q88943 rfl ?_)
              have k88947 : H88925 rp 4 = H88756 rp 4 := (f88930 rp 4 _ grp rfl)
              refine wp_of e196 c196_159 (xg_I (pc' := 162) lf_9_276 w88929 grp sh_54 (by decide) (by decide) ty_54_4 rfl rfl (fun b88948 b88949 => ?_))
              refine wp_of e196 c196_162 (rw_iload_n (pc' := 163) (z := z88736) rfl rfl ?_)
              refine wp_of e196 c196_163 (xs_I (pc' := 164) w88929 g88946 (by decide) sh_64 (by decide) (ty_64 _) (by omega) (by omega) ⟨by omega, by omega⟩ (by omega) (by omega) rfl (fun H88950 e88951 w88952 => ?_))
              have f88953 := f88937.put' e88951 g88946 rfl
              refine wp_of e196 c196_164 (rw_aload_n (pc' := 165) (v := .ref r0) rfl rfl rfl ?_)
              have k88954 : H88950 r0 4 = H88925 r0 4 := (wq_u_t e88951 g88946 g0 rfl 4)
              have q88955 : H88950 r0 4 = (rp : Int) := k88954.trans q88943
              refine wp_of e196 c196_165 (xg_K (pc' := 168) lf_9_166 w88952 g0 sh_42 (by decide) (by decide) rfl q88955 rfl ?_)
              refine wp_of e196 c196_168 (xg_R (pc' := 171) lf_9_285 w88952 grp sh_54 (by decide) (by decide) ty_54_19 rfl rfl (fun r88956 q88957 g88958 => ?_))
              refine wp_of e196 c196_171 (rw_aload_n (pc' := 172) (v := .ref r0) rfl rfl rfl ?_)
              refine wp_of e196 c196_172 (xg_K (pc' := 175) lf_9_166 w88952 g0 sh_42 (by decide) (by decide) rfl q88955 rfl ?_)
              have k88959 : H88950 rp 4 = H88925 rp 4 := (wq_u_t e88951 g88946 grp rfl 4)
              refine wp_of e196 c196_175 (xg_I (pc' := 178) lf_9_276 w88952 grp sh_54 (by decide) (by decide) ty_54_4 rfl rfl (fun b88960 b88961 => ?_))
              refine wp_of e196 c196_178 (rw_iload_n (pc' := 179) (z := z88766) rfl rfl ?_)
              refine wp_of e196 c196_179 (xs_I (pc' := 180) w88952 g88958 (by decide) sh_65 (by decide) (ty_65 _) (by omega) (by omega) ⟨by omega, by omega⟩ (by omega) (by omega) rfl (fun H88962 e88963 w88964 => ?_))
              have f88965 := f88953.put' e88963 g88958 rfl
              refine wp_of e196 c196_180 (rw_aload_n (pc' := 181) (v := .ref r0) rfl rfl rfl ?_)
              have k88966 : H88962 r0 4 = H88950 r0 4 := (wq_u_t e88963 g88958 g0 rfl 4)
              have q88967 : H88962 r0 4 = (rp : Int) := k88966.trans q88955
              refine wp_of e196 c196_181 (xg_K (pc' := 184) lf_9_166 w88964 g0 sh_42 (by decide) (by decide) rfl q88967 rfl ?_)
              refine wp_of e196 c196_184 (rw_dup (pc' := 185) rfl rfl ?_)
              have k88968 : H88962 rp 4 = H88950 rp 4 := (wq_u_t e88963 g88958 grp rfl 4)
              refine wp_of e196 c196_185 (xg_I (pc' := 188) lf_9_276 w88964 grp sh_54 (by decide) (by decide) ty_54_4 rfl rfl (fun b88969 b88970 => ?_))
              refine wp_of e196 c196_188 (rw_iconst (pc' := 189) rfl ?_)
              refine wp_of e196 c196_189 (rw_iadd (pc' := 190) rfl ?_)
              refine wp_of e196 c196_190 (xp_I (pc' := 193) lf_9_276 w88964 grp sh_54 (by decide) (by decide) ty_54_4 rfl rfl (by omega) (by omega) ⟨by omega, by omega⟩ rfl (fun H88971 e88972 w88973 => ?_))
              have f88974 := f88965.put' e88972 grp rfl
              have k88975 : H88971 rp 4 = (H88962 rp 4) + 1 := wq_u_s e88972
              have k88976 : H88971 r0 9 = H88925 r0 9 := ((wq_u_t e88972 grp g0 rfl 9).trans ((wq_u_t e88963 g88958 g0 rfl 9).trans (wq_u_t e88951 g88946 g0 rfl 9)))
              have k88977 : H88971 r0 10 = H88925 r0 10 := ((wq_u_t e88972 grp g0 rfl 10).trans ((wq_u_t e88963 g88958 g0 rfl 10).trans (wq_u_t e88951 g88946 g0 rfl 10)))
              have k88978 : wOV H88971 r0 = wOV H88925 r0 := ((wOV_fr w88964 g0 ((wfr.rf (l := [(54, 4)])).put' e88972 grp rfl) rfl).trans ((wOV_fr w88952 g0 ((wfr.rf (l := [(65, 999)])).put' e88963 g88958 rfl) rfl).trans (wOV_fr w88929 g0 ((wfr.rf (l := [(64, 999)])).put' e88951 g88946 rfl) rfl)))
              have k88979 : wJ H88971 r0 = wJ H88925 r0 := ((wJ_fr w88964 g0 ((wfr.rf (l := [(54, 4)])).put' e88972 grp rfl) rfl).trans ((wJ_fr w88952 g0 ((wfr.rf (l := [(65, 999)])).put' e88963 g88958 rfl) rfl).trans (wJ_fr w88929 g0 ((wfr.rf (l := [(64, 999)])).put' e88951 g88946 rfl) rfl)))
              exact wp_return e196 c196_193 rfl ⟨rfl, w88973, f88974, rfl, by omega, by omega, by omega, by omega⟩
            · exact wp_return e196 c196_147 rfl ⟨rfl, w88929, f88937, rfl, by omega, by omega, by omega, by omega⟩
          · refine wp_of e196 c196_130 (rw_aload_n (pc' := 131) (v := .ref r0) rfl rfl rfl ?_)
            refine wp_of e196 c196_131 (rw_iconst (pc' := 132) rfl ?_)
            refine wp_of e196 c196_132 (xc_V (pc' := 135) (r := r0) (as := [vI 3]) (st := []) (lm_9_121) rfl rfl (Nat.le_of_ble_eq_true rfl) w88760 g0 sh_42 (by decide) rfl (by decide) (s_181 w88760 g0 ⟨by omega, by omega⟩ (by omega)) (fun R88980 T88981 H88982 p88983 => ?_))
            obtain ⟨e88984, w88986, f88987, e88985, p88988, p88989, p88990, p88991, p88992, p88993⟩ := p88983
            subst e88984
            subst e88985
            have f88994 := f88768.tr f88987 rfl
            show wp _ _ 196 135 [(4, vI v88909), (3, vI v88910), (2, vI z88766), (1, vI z88736), (0, .ref r0)] [] _ H88982 _
            refine wp_of e196 c196_135 (rw_aload_n (pc' := 136) (v := .ref r0) rfl rfl rfl ?_)
            refine wp_of e196 c196_136 (xc_V (pc' := 139) (r := r0) (as := []) (st := []) (lm_9_118) rfl rfl (Nat.le_of_ble_eq_true rfl) w88986 g0 sh_42 (by decide) rfl (by decide) (s_172 w88986 g0 (by omega)) (fun R88995 T88996 H88997 p88998 => ?_))
            obtain ⟨e88999, w89001, f89002, e89000, p89003, p89004, p89005, p89006, p89007, p89008⟩ := p88998
            subst e88999
            subst e89000
            have f89009 := f88994.tr f89002 rfl
            show wp _ _ 196 139 [(4, vI v88909), (3, vI v88910), (2, vI z88766), (1, vI z88736), (0, .ref r0)] [] _ H88997 _
            refine wp_of e196 c196_139 (rw_aload_n (pc' := 140) (v := .ref r0) rfl rfl rfl ?_)
            refine wp_of e196 c196_140 (xg_I (pc' := 143) lf_9_75 w89001 g0 sh_42 (by decide) (by decide) ty_42_9 rfl rfl (fun b89010 b89011 => ?_))
            have k89012 := wOV_e (H := H88997) (m := r0)
            refine wp_of e196 c196_143 (rw_iconst (pc' := 144) rfl ?_)
            refine wp_of e196 c196_144 (rw_icmp_ne (p1 := 148) (p2 := 147) (by decide) rfl ⟨by omega, by omega⟩ ⟨by omega, by omega⟩ (fun c89013 => ?_) (fun c89013 => ?_))
            · refine wp_of e196 c196_148 (rw_aload_n (pc' := 149) (v := .ref r0) rfl rfl rfl ?_)
              have k89014 : H88997 r0 4 = H88756 r0 4 := ((f89002 r0 4 _ g0 rfl).trans (f88987 r0 4 _ g0 rfl))
              have q89015 : H88997 r0 4 = (rp : Int) := k89014.trans q88917
              refine wp_of e196 c196_149 (xg_K (pc' := 152) lf_9_166 w89001 g0 sh_42 (by decide) (by decide) rfl q89015 rfl ?_)
              refine wp_of e196 c196_152 (xg_R (pc' := 155) lf_9_282 w89001 grp sh_54 (by decide) (by decide) ty_54_18 rfl rfl (fun r89016 q89017 g89018 => ?_))
              refine wp_of e196 c196_155 (rw_aload_n (pc' := 156) (v := .ref r0) rfl rfl rfl ?_)
              refine wp_of e196 c196_156 (xg_K (pc' := 159) lf_9_166 w89001 g0 sh_42 (by decide) (by decide) rfl q89015 rfl ?_)
              have k89019 : H88997 rp 4 = H88756 rp 4 := ((f89002 rp 4 _ grp rfl).trans (f88987 rp 4 _ grp rfl))
              refine wp_of e196 c196_159 (xg_I (pc' := 162) lf_9_276 w89001 grp sh_54 (by decide) (by decide) ty_54_4 rfl rfl (fun b89020 b89021 => ?_))
              refine wp_of e196 c196_162 (rw_iload_n (pc' := 163) (z := z88736) rfl rfl ?_)
              refine wp_of e196 c196_163 (xs_I (pc' := 164) w89001 g89018 (by decide) sh_64 (by decide) (ty_64 _) (by omega) (by omega) ⟨by omega, by omega⟩ (by omega) (by omega) rfl (fun H89022 e89023 w89024 => ?_))
              have f89025 := f89009.put' e89023 g89018 rfl
              refine wp_of e196 c196_164 (rw_aload_n (pc' := 165) (v := .ref r0) rfl rfl rfl ?_)
              have k89026 : H89022 r0 4 = H88997 r0 4 := (wq_u_t e89023 g89018 g0 rfl 4)
              have q89027 : H89022 r0 4 = (rp : Int) := k89026.trans q89015
              refine wp_of e196 c196_165 (xg_K (pc' := 168) lf_9_166 w89024 g0 sh_42 (by decide) (by decide) rfl q89027 rfl ?_)
              refine wp_of e196 c196_168 (xg_R (pc' := 171) lf_9_285 w89024 grp sh_54 (by decide) (by decide) ty_54_19 rfl rfl (fun r89028 q89029 g89030 => ?_))
              refine wp_of e196 c196_171 (rw_aload_n (pc' := 172) (v := .ref r0) rfl rfl rfl ?_)
              refine wp_of e196 c196_172 (xg_K (pc' := 175) lf_9_166 w89024 g0 sh_42 (by decide) (by decide) rfl q89027 rfl ?_)
              have k89031 : H89022 rp 4 = H88997 rp 4 := (wq_u_t e89023 g89018 grp rfl 4)
              refine wp_of e196 c196_175 (xg_I (pc' := 178) lf_9_276 w89024 grp sh_54 (by decide) (by decide) ty_54_4 rfl rfl (fun b89032 b89033 => ?_))
              refine wp_of e196 c196_178 (rw_iload_n (pc' := 179) (z := z88766) rfl rfl ?_)
              refine wp_of e196 c196_179 (xs_I (pc' := 180) w89024 g89030 (by decide) sh_65 (by decide) (ty_65 _) (by omega) (by omega) ⟨by omega, by omega⟩ (by omega) (by omega) rfl (fun H89034 e89035 w89036 => ?_))
              have f89037 := f89025.put' e89035 g89030 rfl
              refine wp_of e196 c196_180 (rw_aload_n (pc' := 181) (v := .ref r0) rfl rfl rfl ?_)
              have k89038 : H89034 r0 4 = H89022 r0 4 := (wq_u_t e89035 g89030 g0 rfl 4)
              have q89039 : H89034 r0 4 = (rp : Int) := k89038.trans q89027
              refine wp_of e196 c196_181 (xg_K (pc' := 184) lf_9_166 w89036 g0 sh_42 (by decide) (by decide) rfl q89039 rfl ?_)
              refine wp_of e196 c196_184 (rw_dup (pc' := 185) rfl rfl ?_)
              have k89040 : H89034 rp 4 = H89022 rp 4 := (wq_u_t e89035 g89030 grp rfl 4)
              refine wp_of e196 c196_185 (xg_I (pc' := 188) lf_9_276 w89036 grp sh_54 (by decide) (by decide) ty_54_4 rfl rfl (fun b89041 b89042 => ?_))
              refine wp_of e196 c196_188 (rw_iconst (pc' := 189) rfl ?_)
              refine wp_of e196 c196_189 (rw_iadd (pc' := 190) rfl ?_)
              refine wp_of e196 c196_190 (xp_I (pc' := 193) lf_9_276 w89036 grp sh_54 (by decide) (by decide) ty_54_4 rfl rfl (by omega) (by omega) ⟨by omega, by omega⟩ rfl (fun H89043 e89044 w89045 => ?_))
              have f89046 := f89037.put' e89044 grp rfl
              have k89047 : H89043 rp 4 = (H89034 rp 4) + 1 := wq_u_s e89044
              have k89048 : H89043 r0 9 = H88997 r0 9 := ((wq_u_t e89044 grp g0 rfl 9).trans ((wq_u_t e89035 g89030 g0 rfl 9).trans (wq_u_t e89023 g89018 g0 rfl 9)))
              have k89049 : H89043 r0 10 = H88997 r0 10 := ((wq_u_t e89044 grp g0 rfl 10).trans ((wq_u_t e89035 g89030 g0 rfl 10).trans (wq_u_t e89023 g89018 g0 rfl 10)))
              have k89050 : wOV H89043 r0 = wOV H88997 r0 := ((wOV_fr w89036 g0 ((wfr.rf (l := [(54, 4)])).put' e89044 grp rfl) rfl).trans ((wOV_fr w89024 g0 ((wfr.rf (l := [(65, 999)])).put' e89035 g89030 rfl) rfl).trans (wOV_fr w89001 g0 ((wfr.rf (l := [(64, 999)])).put' e89023 g89018 rfl) rfl)))
              have k89051 : wJ H89043 r0 = wJ H88997 r0 := ((wJ_fr w89036 g0 ((wfr.rf (l := [(54, 4)])).put' e89044 grp rfl) rfl).trans ((wJ_fr w89024 g0 ((wfr.rf (l := [(65, 999)])).put' e89035 g89030 rfl) rfl).trans (wJ_fr w89001 g0 ((wfr.rf (l := [(64, 999)])).put' e89023 g89018 rfl) rfl)))
              exact wp_return e196 c196_193 rfl ⟨rfl, w89045, f89046, rfl, by omega, by omega, by omega, by omega⟩
            · exact wp_return e196 c196_147 rfl ⟨rfl, w89001, f89009, rfl, by omega, by omega, by omega, by omega⟩
        · refine wp_of e196 c196_54 (rw_iload_n (pc' := 55) (z := v88910) rfl rfl ?_)
          refine wp_of e196 c196_55 (rw_if_ne (p1 := 114) (p2 := 58) (by decide) rfl ⟨by omega, by omega⟩ (fun c89052 => ?_) (fun c89052 => ?_))
          · refine wp_of e196 c196_114 (rw_iconst (pc' := 115) rfl ?_)
            refine wp_of e196 c196_115 (rw_goto (p1 := 119) (by decide) ?_)
            refine wp_of e196 c196_119 (rw_istore_n (pc' := 120) (z := 1) (L' := [(3, vI 1), (4, vI v88909), (2, vI z88766), (1, vI z88736), (0, .ref r0)]) rfl rfl rfl ?_)
            refine wp_of e196 c196_120 (rw_iinc (pc' := 123) (z := v88909) (L' := [(4, vI (v88909 + 1)), (3, vI 1), (2, vI z88766), (1, vI z88736), (0, .ref r0)]) rfl rfl rfl rfl ?_)
            refine wp_of e196 c196_123 (rw_goto (p1 := 42) (by decide) ?_)
            exact wp_lc (ks := [4, 3, 2, 1, 0]) (wl_c rfl (wl_c rfl (wl_c rfl (wl_c rfl (wl_c rfl wl_n))))) rfl (by decide) (ih88908 _ (by omega) (v88909 + 1) 1 ⟨by omega, by omega⟩ ⟨by omega, by omega⟩ rfl)
          · refine wp_of e196 c196_58 (rw_aload_n (pc' := 59) (v := .ref r0) rfl rfl rfl ?_)
            refine wp_of e196 c196_59 (xg_K (pc' := 62) lf_9_166 w88760 g0 sh_42 (by decide) (by decide) rfl q88917 rfl ?_)
            refine wp_of e196 c196_62 (xg_R (pc' := 65) lf_9_282 w88760 grp sh_54 (by decide) (by decide) ty_54_18 rfl rfl (fun r89053 q89054 g89055 => ?_))
            refine wp_of e196 c196_65 (rw_iload (pc' := 67) (z := v88909) rfl rfl ?_)
            refine wp_of e196 c196_67 (xa_I (so := 0) (pc' := 68) w88760 g89055 sh_64 (by decide) (ty_64 _) (by omega) (by omega) rfl (fun b89056 b89057 => ?_))
            refine wp_of e196 c196_68 (rw_iload_n (pc' := 69) (z := z88736) rfl rfl ?_)
            refine wp_of e196 c196_69 (rw_icmp_ne (p1 := 86) (p2 := 72) (by decide) rfl ⟨by omega, by omega⟩ ⟨by omega, by omega⟩ (fun c89058 => ?_) (fun c89058 => ?_))
            · refine wp_of e196 c196_86 (rw_aload_n (pc' := 87) (v := .ref r0) rfl rfl rfl ?_)
              refine wp_of e196 c196_87 (xg_K (pc' := 90) lf_9_166 w88760 g0 sh_42 (by decide) (by decide) rfl q88917 rfl ?_)
              refine wp_of e196 c196_90 (xg_K (pc' := 93) lf_9_282 w88760 grp sh_54 (by decide) (by decide) rfl q89054 rfl ?_)
              refine wp_of e196 c196_93 (rw_iload (pc' := 95) (z := v88909) rfl rfl ?_)
              refine wp_of e196 c196_95 (xa_I (so := 0) (pc' := 96) w88760 g89055 sh_64 (by decide) (ty_64 _) (by omega) (by omega) rfl (fun b89059 b89060 => ?_))
              refine wp_of e196 c196_96 (rw_iload_n (pc' := 97) (z := z88766) rfl rfl ?_)
              refine wp_of e196 c196_97 (rw_icmp_ne (p1 := 118) (p2 := 100) (by decide) rfl ⟨by omega, by omega⟩ ⟨by omega, by omega⟩ (fun c89061 => ?_) (fun c89061 => ?_))
              · refine wp_of e196 c196_118 (rw_iconst (pc' := 119) rfl ?_)
                refine wp_of e196 c196_119 (rw_istore_n (pc' := 120) (z := 0) (L' := [(3, vI 0), (4, vI v88909), (2, vI z88766), (1, vI z88736), (0, .ref r0)]) rfl rfl rfl ?_)
                refine wp_of e196 c196_120 (rw_iinc (pc' := 123) (z := v88909) (L' := [(4, vI (v88909 + 1)), (3, vI 0), (2, vI z88766), (1, vI z88736), (0, .ref r0)]) rfl rfl rfl rfl ?_)
                refine wp_of e196 c196_123 (rw_goto (p1 := 42) (by decide) ?_)
                exact wp_lc (ks := [4, 3, 2, 1, 0]) (wl_c rfl (wl_c rfl (wl_c rfl (wl_c rfl (wl_c rfl wl_n))))) rfl (by decide) (ih88908 _ (by omega) (v88909 + 1) 0 ⟨by omega, by omega⟩ ⟨by omega, by omega⟩ rfl)
              · refine wp_of e196 c196_100 (rw_aload_n (pc' := 101) (v := .ref r0) rfl rfl rfl ?_)
                refine wp_of e196 c196_101 (xg_K (pc' := 104) lf_9_166 w88760 g0 sh_42 (by decide) (by decide) rfl q88917 rfl ?_)
                refine wp_of e196 c196_104 (xg_R (pc' := 107) lf_9_285 w88760 grp sh_54 (by decide) (by decide) ty_54_19 rfl rfl (fun r89062 q89063 g89064 => ?_))
                refine wp_of e196 c196_107 (rw_iload (pc' := 109) (z := v88909) rfl rfl ?_)
                refine wp_of e196 c196_109 (xa_I (so := 0) (pc' := 110) w88760 g89064 sh_65 (by decide) (ty_65 _) (by omega) (by omega) rfl (fun b89065 b89066 => ?_))
                refine wp_of e196 c196_110 (rw_iload_n (pc' := 111) (z := z88736) rfl rfl ?_)
                refine wp_of e196 c196_111 (rw_icmp_ne (p1 := 118) (p2 := 114) (by decide) rfl ⟨by omega, by omega⟩ ⟨by omega, by omega⟩ (fun c89067 => ?_) (fun c89067 => ?_))
                · refine wp_of e196 c196_118 (rw_iconst (pc' := 119) rfl ?_)
                  refine wp_of e196 c196_119 (rw_istore_n (pc' := 120) (z := 0) (L' := [(3, vI 0), (4, vI v88909), (2, vI z88766), (1, vI z88736), (0, .ref r0)]) rfl rfl rfl ?_)
                  refine wp_of e196 c196_120 (rw_iinc (pc' := 123) (z := v88909) (L' := [(4, vI (v88909 + 1)), (3, vI 0), (2, vI z88766), (1, vI z88736), (0, .ref r0)]) rfl rfl rfl rfl ?_)
                  refine wp_of e196 c196_123 (rw_goto (p1 := 42) (by decide) ?_)
                  exact wp_lc (ks := [4, 3, 2, 1, 0]) (wl_c rfl (wl_c rfl (wl_c rfl (wl_c rfl (wl_c rfl wl_n))))) rfl (by decide) (ih88908 _ (by omega) (v88909 + 1) 0 ⟨by omega, by omega⟩ ⟨by omega, by omega⟩ rfl)
                · refine wp_of e196 c196_114 (rw_iconst (pc' := 115) rfl ?_)
                  refine wp_of e196 c196_115 (rw_goto (p1 := 119) (by decide) ?_)
                  refine wp_of e196 c196_119 (rw_istore_n (pc' := 120) (z := 1) (L' := [(3, vI 1), (4, vI v88909), (2, vI z88766), (1, vI z88736), (0, .ref r0)]) rfl rfl rfl ?_)
                  refine wp_of e196 c196_120 (rw_iinc (pc' := 123) (z := v88909) (L' := [(4, vI (v88909 + 1)), (3, vI 1), (2, vI z88766), (1, vI z88736), (0, .ref r0)]) rfl rfl rfl rfl ?_)
                  refine wp_of e196 c196_123 (rw_goto (p1 := 42) (by decide) ?_)
                  exact wp_lc (ks := [4, 3, 2, 1, 0]) (wl_c rfl (wl_c rfl (wl_c rfl (wl_c rfl (wl_c rfl wl_n))))) rfl (by decide) (ih88908 _ (by omega) (v88909 + 1) 1 ⟨by omega, by omega⟩ ⟨by omega, by omega⟩ rfl)
            · refine wp_of e196 c196_72 (rw_aload_n (pc' := 73) (v := .ref r0) rfl rfl rfl ?_)
              refine wp_of e196 c196_73 (xg_K (pc' := 76) lf_9_166 w88760 g0 sh_42 (by decide) (by decide) rfl q88917 rfl ?_)
              refine wp_of e196 c196_76 (xg_R (pc' := 79) lf_9_285 w88760 grp sh_54 (by decide) (by decide) ty_54_19 rfl rfl (fun r89068 q89069 g89070 => ?_))
              refine wp_of e196 c196_79 (rw_iload (pc' := 81) (z := v88909) rfl rfl ?_)
              refine wp_of e196 c196_81 (xa_I (so := 0) (pc' := 82) w88760 g89070 sh_65 (by decide) (ty_65 _) (by omega) (by omega) rfl (fun b89071 b89072 => ?_))
              refine wp_of e196 c196_82 (rw_iload_n (pc' := 83) (z := z88766) rfl rfl ?_)
              refine wp_of e196 c196_83 (rw_icmp_eq (p1 := 114) (p2 := 86) (by decide) rfl ⟨by omega, by omega⟩ ⟨by omega, by omega⟩ (fun c89073 => ?_) (fun c89073 => ?_))
              · refine wp_of e196 c196_114 (rw_iconst (pc' := 115) rfl ?_)
                refine wp_of e196 c196_115 (rw_goto (p1 := 119) (by decide) ?_)
                refine wp_of e196 c196_119 (rw_istore_n (pc' := 120) (z := 1) (L' := [(3, vI 1), (4, vI v88909), (2, vI z88766), (1, vI z88736), (0, .ref r0)]) rfl rfl rfl ?_)
                refine wp_of e196 c196_120 (rw_iinc (pc' := 123) (z := v88909) (L' := [(4, vI (v88909 + 1)), (3, vI 1), (2, vI z88766), (1, vI z88736), (0, .ref r0)]) rfl rfl rfl rfl ?_)
                refine wp_of e196 c196_123 (rw_goto (p1 := 42) (by decide) ?_)
                exact wp_lc (ks := [4, 3, 2, 1, 0]) (wl_c rfl (wl_c rfl (wl_c rfl (wl_c rfl (wl_c rfl wl_n))))) rfl (by decide) (ih88908 _ (by omega) (v88909 + 1) 1 ⟨by omega, by omega⟩ ⟨by omega, by omega⟩ rfl)
              · refine wp_of e196 c196_86 (rw_aload_n (pc' := 87) (v := .ref r0) rfl rfl rfl ?_)
                refine wp_of e196 c196_87 (xg_K (pc' := 90) lf_9_166 w88760 g0 sh_42 (by decide) (by decide) rfl q88917 rfl ?_)
                refine wp_of e196 c196_90 (xg_K (pc' := 93) lf_9_282 w88760 grp sh_54 (by decide) (by decide) rfl q89054 rfl ?_)
                refine wp_of e196 c196_93 (rw_iload (pc' := 95) (z := v88909) rfl rfl ?_)
                refine wp_of e196 c196_95 (xa_I (so := 0) (pc' := 96) w88760 g89055 sh_64 (by decide) (ty_64 _) (by omega) (by omega) rfl (fun b89074 b89075 => ?_))
                refine wp_of e196 c196_96 (rw_iload_n (pc' := 97) (z := z88766) rfl rfl ?_)
                refine wp_of e196 c196_97 (rw_icmp_ne (p1 := 118) (p2 := 100) (by decide) rfl ⟨by omega, by omega⟩ ⟨by omega, by omega⟩ (fun c89076 => ?_) (fun c89076 => ?_))
                · refine wp_of e196 c196_118 (rw_iconst (pc' := 119) rfl ?_)
                  refine wp_of e196 c196_119 (rw_istore_n (pc' := 120) (z := 0) (L' := [(3, vI 0), (4, vI v88909), (2, vI z88766), (1, vI z88736), (0, .ref r0)]) rfl rfl rfl ?_)
                  refine wp_of e196 c196_120 (rw_iinc (pc' := 123) (z := v88909) (L' := [(4, vI (v88909 + 1)), (3, vI 0), (2, vI z88766), (1, vI z88736), (0, .ref r0)]) rfl rfl rfl rfl ?_)
                  refine wp_of e196 c196_123 (rw_goto (p1 := 42) (by decide) ?_)
                  exact wp_lc (ks := [4, 3, 2, 1, 0]) (wl_c rfl (wl_c rfl (wl_c rfl (wl_c rfl (wl_c rfl wl_n))))) rfl (by decide) (ih88908 _ (by omega) (v88909 + 1) 0 ⟨by omega, by omega⟩ ⟨by omega, by omega⟩ rfl)
                · refine wp_of e196 c196_100 (rw_aload_n (pc' := 101) (v := .ref r0) rfl rfl rfl ?_)
                  refine wp_of e196 c196_101 (xg_K (pc' := 104) lf_9_166 w88760 g0 sh_42 (by decide) (by decide) rfl q88917 rfl ?_)
                  refine wp_of e196 c196_104 (xg_K (pc' := 107) lf_9_285 w88760 grp sh_54 (by decide) (by decide) rfl q89069 rfl ?_)
                  refine wp_of e196 c196_107 (rw_iload (pc' := 109) (z := v88909) rfl rfl ?_)
                  refine wp_of e196 c196_109 (xa_I (so := 0) (pc' := 110) w88760 g89070 sh_65 (by decide) (ty_65 _) (by omega) (by omega) rfl (fun b89077 b89078 => ?_))
                  refine wp_of e196 c196_110 (rw_iload_n (pc' := 111) (z := z88736) rfl rfl ?_)
                  refine wp_of e196 c196_111 (rw_icmp_ne (p1 := 118) (p2 := 114) (by decide) rfl ⟨by omega, by omega⟩ ⟨by omega, by omega⟩ (fun c89079 => ?_) (fun c89079 => ?_))
                  · refine wp_of e196 c196_118 (rw_iconst (pc' := 119) rfl ?_)
                    refine wp_of e196 c196_119 (rw_istore_n (pc' := 120) (z := 0) (L' := [(3, vI 0), (4, vI v88909), (2, vI z88766), (1, vI z88736), (0, .ref r0)]) rfl rfl rfl ?_)
                    refine wp_of e196 c196_120 (rw_iinc (pc' := 123) (z := v88909) (L' := [(4, vI (v88909 + 1)), (3, vI 0), (2, vI z88766), (1, vI z88736), (0, .ref r0)]) rfl rfl rfl rfl ?_)
                    refine wp_of e196 c196_123 (rw_goto (p1 := 42) (by decide) ?_)
                    exact wp_lc (ks := [4, 3, 2, 1, 0]) (wl_c rfl (wl_c rfl (wl_c rfl (wl_c rfl (wl_c rfl wl_n))))) rfl (by decide) (ih88908 _ (by omega) (v88909 + 1) 0 ⟨by omega, by omega⟩ ⟨by omega, by omega⟩ rfl)
                  · refine wp_of e196 c196_114 (rw_iconst (pc' := 115) rfl ?_)
                    refine wp_of e196 c196_115 (rw_goto (p1 := 119) (by decide) ?_)
                    refine wp_of e196 c196_119 (rw_istore_n (pc' := 120) (z := 1) (L' := [(3, vI 1), (4, vI v88909), (2, vI z88766), (1, vI z88736), (0, .ref r0)]) rfl rfl rfl ?_)
                    refine wp_of e196 c196_120 (rw_iinc (pc' := 123) (z := v88909) (L' := [(4, vI (v88909 + 1)), (3, vI 1), (2, vI z88766), (1, vI z88736), (0, .ref r0)]) rfl rfl rfl rfl ?_)
                    refine wp_of e196 c196_123 (rw_goto (p1 := 42) (by decide) ?_)
                    exact wp_lc (ks := [4, 3, 2, 1, 0]) (wl_c rfl (wl_c rfl (wl_c rfl (wl_c rfl (wl_c rfl wl_n))))) rfl (by decide) (ih88908 _ (by omega) (v88909 + 1) 1 ⟨by omega, by omega⟩ ⟨by omega, by omega⟩ rfl)
    exact wp_lc (ks := [4, 3, 2, 1, 0]) (wl_c rfl (wl_c rfl (wl_c rfl (wl_c rfl (wl_c rfl wl_n))))) rfl (by decide) (lp88906 _ 0 0 ⟨by omega, by omega⟩ ⟨by omega, by omega⟩ rfl)
  · refine wp_of e196 c196_33 (rw_iconst (pc' := 34) rfl ?_)
    refine wp_of e196 c196_34 (rw_goto (p1 := 38) (by decide) ?_)
    refine wp_of e196 c196_38 (rw_istore_n (pc' := 39) (z := 1) (L' := [(3, vI 1), (2, vI z88766), (1, vI z88736), (0, .ref r0)]) rfl rfl rfl ?_)
    refine wp_of e196 c196_39 (rw_iconst (pc' := 40) rfl ?_)
    refine wp_of e196 c196_40 (rw_istore (pc' := 42) (z := 0) (L' := [(4, vI 0), (3, vI 1), (2, vI z88766), (1, vI z88736), (0, .ref r0)]) rfl rfl rfl ?_)
    have lp89108 : ∀ (n89109 : Nat) (v89111 : Int) (v89112 : Int), (0 ≤ v89111 ∧ v89111 ≤ 3) → (1 ≤ v89112 ∧ v89112 ≤ 1) → (3 - v89111).toNat = n89109 → wp kt 5 196 42 [(4, vI v89111), (3, vI v89112), (2, vI z88766), (1, vI z88736), (0, .ref r0)] [] T H88756 (q_196 r0 rp T H) := by
      intro n89109
      induction n89109 using Nat.strongRecOn with
      | _ n89109 ih89110 =>
        intro v89111 v89112 b89115 b89116 m89117
        refine wp_of e196 c196_42 (rw_iload (pc' := 44) (z := v89111) rfl rfl ?_)
        refine wp_of e196 c196_44 (rw_aload_n (pc' := 45) (v := .ref r0) rfl rfl rfl ?_)
        have k89118 : H88756 r0 4 = H88741 r0 4 := (f88761 r0 4 _ g0 rfl)
        have q89119 : H88756 r0 4 = (rp : Int) := k89118.trans q88753
        refine wp_of e196 c196_45 (xg_K (pc' := 48) lf_9_166 w88760 g0 sh_42 (by decide) (by decide) rfl q89119 rfl ?_)
        have k89120 : H88756 rp 4 = H rp 4 := ((f88761 rp 4 _ grp rfl).trans ((f88746 rp 4 _ grp rfl).trans ((f88731 rp 4 _ grp rfl).trans (f88715 rp 4 _ grp rfl))))
        refine wp_of e196 c196_48 (xg_I (pc' := 51) lf_9_276 w88760 grp sh_54 (by decide) (by decide) ty_54_4 rfl rfl (fun b89121 b89122 => ?_))
        refine wp_of e196 c196_51 (rw_icmp_ge (p1 := 126) (p2 := 54) (by decide) rfl ⟨by omega, by omega⟩ ⟨by omega, by omega⟩ (fun c89123 => ?_) (fun c89123 => ?_))
        · refine wp_of e196 c196_126 (rw_iload_n (pc' := 127) (z := v89112) rfl rfl ?_)
          refine wp_of e196 c196_127 (rw_if_eq (p1 := 135) (p2 := 130) (by decide) rfl ⟨by omega, by omega⟩ (fun c89124 => ?_) (fun c89124 => ?_))
          · exfalso
            omega
          · refine wp_of e196 c196_130 (rw_aload_n (pc' := 131) (v := .ref r0) rfl rfl rfl ?_)
            refine wp_of e196 c196_131 (rw_iconst (pc' := 132) rfl ?_)
            refine wp_of e196 c196_132 (xc_V (pc' := 135) (r := r0) (as := [vI 3]) (st := []) (lm_9_121) rfl rfl (Nat.le_of_ble_eq_true rfl) w88760 g0 sh_42 (by decide) rfl (by decide) (s_181 w88760 g0 ⟨by omega, by omega⟩ (by omega)) (fun R89125 T89126 H89127 p89128 => ?_))
            obtain ⟨e89129, w89131, f89132, e89130, p89133, p89134, p89135, p89136, p89137, p89138⟩ := p89128
            subst e89129
            subst e89130
            have f89139 := f88768.tr f89132 rfl
            show wp _ _ 196 135 [(4, vI v89111), (3, vI v89112), (2, vI z88766), (1, vI z88736), (0, .ref r0)] [] _ H89127 _
            refine wp_of e196 c196_135 (rw_aload_n (pc' := 136) (v := .ref r0) rfl rfl rfl ?_)
            refine wp_of e196 c196_136 (xc_V (pc' := 139) (r := r0) (as := []) (st := []) (lm_9_118) rfl rfl (Nat.le_of_ble_eq_true rfl) w89131 g0 sh_42 (by decide) rfl (by decide) (s_172 w89131 g0 (by omega)) (fun R89140 T89141 H89142 p89143 => ?_))
            obtain ⟨e89144, w89146, f89147, e89145, p89148, p89149, p89150, p89151, p89152, p89153⟩ := p89143
            subst e89144
            subst e89145
            have f89154 := f89139.tr f89147 rfl
            show wp _ _ 196 139 [(4, vI v89111), (3, vI v89112), (2, vI z88766), (1, vI z88736), (0, .ref r0)] [] _ H89142 _
            refine wp_of e196 c196_139 (rw_aload_n (pc' := 140) (v := .ref r0) rfl rfl rfl ?_)
            refine wp_of e196 c196_140 (xg_I (pc' := 143) lf_9_75 w89146 g0 sh_42 (by decide) (by decide) ty_42_9 rfl rfl (fun b89155 b89156 => ?_))
            have k89157 := wOV_e (H := H89142) (m := r0)
            refine wp_of e196 c196_143 (rw_iconst (pc' := 144) rfl ?_)
            refine wp_of e196 c196_144 (rw_icmp_ne (p1 := 148) (p2 := 147) (by decide) rfl ⟨by omega, by omega⟩ ⟨by omega, by omega⟩ (fun c89158 => ?_) (fun c89158 => ?_))
            · refine wp_of e196 c196_148 (rw_aload_n (pc' := 149) (v := .ref r0) rfl rfl rfl ?_)
              have k89159 : H89142 r0 4 = H88756 r0 4 := ((f89147 r0 4 _ g0 rfl).trans (f89132 r0 4 _ g0 rfl))
              have q89160 : H89142 r0 4 = (rp : Int) := k89159.trans q89119
              refine wp_of e196 c196_149 (xg_K (pc' := 152) lf_9_166 w89146 g0 sh_42 (by decide) (by decide) rfl q89160 rfl ?_)
              refine wp_of e196 c196_152 (xg_R (pc' := 155) lf_9_282 w89146 grp sh_54 (by decide) (by decide) ty_54_18 rfl rfl (fun r89161 q89162 g89163 => ?_))
              refine wp_of e196 c196_155 (rw_aload_n (pc' := 156) (v := .ref r0) rfl rfl rfl ?_)
              refine wp_of e196 c196_156 (xg_K (pc' := 159) lf_9_166 w89146 g0 sh_42 (by decide) (by decide) rfl q89160 rfl ?_)
              have k89164 : H89142 rp 4 = H88756 rp 4 := ((f89147 rp 4 _ grp rfl).trans (f89132 rp 4 _ grp rfl))
              refine wp_of e196 c196_159 (xg_I (pc' := 162) lf_9_276 w89146 grp sh_54 (by decide) (by decide) ty_54_4 rfl rfl (fun b89165 b89166 => ?_))
              refine wp_of e196 c196_162 (rw_iload_n (pc' := 163) (z := z88736) rfl rfl ?_)
              refine wp_of e196 c196_163 (xs_I (pc' := 164) w89146 g89163 (by decide) sh_64 (by decide) (ty_64 _) (by omega) (by omega) ⟨by omega, by omega⟩ (by omega) (by omega) rfl (fun H89167 e89168 w89169 => ?_))
              have f89170 := f89154.put' e89168 g89163 rfl
              refine wp_of e196 c196_164 (rw_aload_n (pc' := 165) (v := .ref r0) rfl rfl rfl ?_)
              have k89171 : H89167 r0 4 = H89142 r0 4 := (wq_u_t e89168 g89163 g0 rfl 4)
              have q89172 : H89167 r0 4 = (rp : Int) := k89171.trans q89160
              refine wp_of e196 c196_165 (xg_K (pc' := 168) lf_9_166 w89169 g0 sh_42 (by decide) (by decide) rfl q89172 rfl ?_)
              refine wp_of e196 c196_168 (xg_R (pc' := 171) lf_9_285 w89169 grp sh_54 (by decide) (by decide) ty_54_19 rfl rfl (fun r89173 q89174 g89175 => ?_))
              refine wp_of e196 c196_171 (rw_aload_n (pc' := 172) (v := .ref r0) rfl rfl rfl ?_)
              refine wp_of e196 c196_172 (xg_K (pc' := 175) lf_9_166 w89169 g0 sh_42 (by decide) (by decide) rfl q89172 rfl ?_)
              have k89176 : H89167 rp 4 = H89142 rp 4 := (wq_u_t e89168 g89163 grp rfl 4)
              refine wp_of e196 c196_175 (xg_I (pc' := 178) lf_9_276 w89169 grp sh_54 (by decide) (by decide) ty_54_4 rfl rfl (fun b89177 b89178 => ?_))
              refine wp_of e196 c196_178 (rw_iload_n (pc' := 179) (z := z88766) rfl rfl ?_)
              refine wp_of e196 c196_179 (xs_I (pc' := 180) w89169 g89175 (by decide) sh_65 (by decide) (ty_65 _) (by omega) (by omega) ⟨by omega, by omega⟩ (by omega) (by omega) rfl (fun H89179 e89180 w89181 => ?_))
              have f89182 := f89170.put' e89180 g89175 rfl
              refine wp_of e196 c196_180 (rw_aload_n (pc' := 181) (v := .ref r0) rfl rfl rfl ?_)
              have k89183 : H89179 r0 4 = H89167 r0 4 := (wq_u_t e89180 g89175 g0 rfl 4)
              have q89184 : H89179 r0 4 = (rp : Int) := k89183.trans q89172
              refine wp_of e196 c196_181 (xg_K (pc' := 184) lf_9_166 w89181 g0 sh_42 (by decide) (by decide) rfl q89184 rfl ?_)
              refine wp_of e196 c196_184 (rw_dup (pc' := 185) rfl rfl ?_)
              have k89185 : H89179 rp 4 = H89167 rp 4 := (wq_u_t e89180 g89175 grp rfl 4)
              refine wp_of e196 c196_185 (xg_I (pc' := 188) lf_9_276 w89181 grp sh_54 (by decide) (by decide) ty_54_4 rfl rfl (fun b89186 b89187 => ?_))
              refine wp_of e196 c196_188 (rw_iconst (pc' := 189) rfl ?_)
              refine wp_of e196 c196_189 (rw_iadd (pc' := 190) rfl ?_)
              refine wp_of e196 c196_190 (xp_I (pc' := 193) lf_9_276 w89181 grp sh_54 (by decide) (by decide) ty_54_4 rfl rfl (by omega) (by omega) ⟨by omega, by omega⟩ rfl (fun H89188 e89189 w89190 => ?_))
              have f89191 := f89182.put' e89189 grp rfl
              have k89192 : H89188 rp 4 = (H89179 rp 4) + 1 := wq_u_s e89189
              have k89193 : H89188 r0 9 = H89142 r0 9 := ((wq_u_t e89189 grp g0 rfl 9).trans ((wq_u_t e89180 g89175 g0 rfl 9).trans (wq_u_t e89168 g89163 g0 rfl 9)))
              have k89194 : H89188 r0 10 = H89142 r0 10 := ((wq_u_t e89189 grp g0 rfl 10).trans ((wq_u_t e89180 g89175 g0 rfl 10).trans (wq_u_t e89168 g89163 g0 rfl 10)))
              have k89195 : wOV H89188 r0 = wOV H89142 r0 := ((wOV_fr w89181 g0 ((wfr.rf (l := [(54, 4)])).put' e89189 grp rfl) rfl).trans ((wOV_fr w89169 g0 ((wfr.rf (l := [(65, 999)])).put' e89180 g89175 rfl) rfl).trans (wOV_fr w89146 g0 ((wfr.rf (l := [(64, 999)])).put' e89168 g89163 rfl) rfl)))
              have k89196 : wJ H89188 r0 = wJ H89142 r0 := ((wJ_fr w89181 g0 ((wfr.rf (l := [(54, 4)])).put' e89189 grp rfl) rfl).trans ((wJ_fr w89169 g0 ((wfr.rf (l := [(65, 999)])).put' e89180 g89175 rfl) rfl).trans (wJ_fr w89146 g0 ((wfr.rf (l := [(64, 999)])).put' e89168 g89163 rfl) rfl)))
              exact wp_return e196 c196_193 rfl ⟨rfl, w89190, f89191, rfl, by omega, by omega, by omega, by omega⟩
            · exact wp_return e196 c196_147 rfl ⟨rfl, w89146, f89154, rfl, by omega, by omega, by omega, by omega⟩
        · refine wp_of e196 c196_54 (rw_iload_n (pc' := 55) (z := v89112) rfl rfl ?_)
          refine wp_of e196 c196_55 (rw_if_ne (p1 := 114) (p2 := 58) (by decide) rfl ⟨by omega, by omega⟩ (fun c89197 => ?_) (fun c89197 => ?_))
          · refine wp_of e196 c196_114 (rw_iconst (pc' := 115) rfl ?_)
            refine wp_of e196 c196_115 (rw_goto (p1 := 119) (by decide) ?_)
            refine wp_of e196 c196_119 (rw_istore_n (pc' := 120) (z := 1) (L' := [(3, vI 1), (4, vI v89111), (2, vI z88766), (1, vI z88736), (0, .ref r0)]) rfl rfl rfl ?_)
            refine wp_of e196 c196_120 (rw_iinc (pc' := 123) (z := v89111) (L' := [(4, vI (v89111 + 1)), (3, vI 1), (2, vI z88766), (1, vI z88736), (0, .ref r0)]) rfl rfl rfl rfl ?_)
            refine wp_of e196 c196_123 (rw_goto (p1 := 42) (by decide) ?_)
            exact wp_lc (ks := [4, 3, 2, 1, 0]) (wl_c rfl (wl_c rfl (wl_c rfl (wl_c rfl (wl_c rfl wl_n))))) rfl (by decide) (ih89110 _ (by omega) (v89111 + 1) 1 ⟨by omega, by omega⟩ ⟨by omega, by omega⟩ rfl)
          · exfalso
            omega
    exact wp_lc (ks := [4, 3, 2, 1, 0]) (wl_c rfl (wl_c rfl (wl_c rfl (wl_c rfl (wl_c rfl wl_n))))) rfl (by decide) (lp89108 _ 0 1 ⟨by omega, by omega⟩ ⟨by omega, by omega⟩ rfl)
/-! StrikeAwakeModel.readBorn()V -/
theorem e198 : wq_en 198 = some (9, 2, false, none) := rfl
theorem c198_0 : mc_cd 198 0 = some (.aload_n 0, 1) := by decide +kernel
theorem c198_1 : mc_cd 198 1 = some (.aload_n 0, 1) := by decide +kernel
theorem c198_2 : mc_cd 198 2 = some (.getfield 166, 3) := by decide +kernel
theorem c198_5 : mc_cd 198 5 = some (.getfield 288, 3) := by decide +kernel
theorem c198_8 : mc_cd 198 8 = some (.iconst 3, 1) := by decide +kernel
theorem c198_9 : mc_cd 198 9 = some (.invokevirtual 228, 3) := by decide +kernel
theorem c198_12 : mc_cd 198 12 = some (.aload_n 0, 1) := by decide +kernel
theorem c198_13 : mc_cd 198 13 = some (.iconst 0, 1) := by decide +kernel
theorem c198_14 : mc_cd 198 14 = some (.bipush 23, 2) := by decide +kernel
theorem c198_16 : mc_cd 198 16 = some (.invokevirtual 137, 3) := by decide +kernel
theorem c198_19 : mc_cd 198 19 = some (.istore_n 1, 1) := by decide +kernel
theorem c198_20 : mc_cd 198 20 = some (.aload_n 0, 1) := by decide +kernel
theorem c198_21 : mc_cd 198 21 = some (.getfield 75, 3) := by decide +kernel
theorem c198_24 : mc_cd 198 24 = some (.iconst 5, 1) := by decide +kernel
theorem c198_25 : mc_cd 198 25 = some (.if_icmp .ne 4, 3) := by decide +kernel
theorem c198_28 : mc_cd 198 28 = some (.return_, 1) := by decide +kernel
theorem c198_29 : mc_cd 198 29 = some (.aload_n 0, 1) := by decide +kernel
theorem c198_30 : mc_cd 198 30 = some (.getfield 166, 3) := by decide +kernel
theorem c198_33 : mc_cd 198 33 = some (.getfield 291, 3) := by decide +kernel
theorem c198_36 : mc_cd 198 36 = some (.aload_n 0, 1) := by decide +kernel
theorem c198_37 : mc_cd 198 37 = some (.getfield 166, 3) := by decide +kernel
theorem c198_40 : mc_cd 198 40 = some (.getfield 288, 3) := by decide +kernel
theorem c198_43 : mc_cd 198 43 = some (.iload_n 1, 1) := by decide +kernel
theorem c198_44 : mc_cd 198 44 = some (.iastore, 1) := by decide +kernel
theorem c198_45 : mc_cd 198 45 = some (.aload_n 0, 1) := by decide +kernel
theorem c198_46 : mc_cd 198 46 = some (.getfield 166, 3) := by decide +kernel
theorem c198_49 : mc_cd 198 49 = some (.dup, 1) := by decide +kernel
theorem c198_50 : mc_cd 198 50 = some (.getfield 288, 3) := by decide +kernel
theorem c198_53 : mc_cd 198 53 = some (.iconst 1, 1) := by decide +kernel
theorem c198_54 : mc_cd 198 54 = some (.iadd, 1) := by decide +kernel
theorem c198_55 : mc_cd 198 55 = some (.putfield 288, 3) := by decide +kernel
theorem c198_58 : mc_cd 198 58 = some (.return_, 1) := by decide +kernel
abbrev q_198 (r0 : Nat) (rp : Nat) (T : wq_T) (H : wq_H) : Option Value → wq_T → wq_H → Prop := fun r T' H' => T = T' ∧ WT T H' ∧ wfr [(54, 5), (42, 8), (42, 9), (42, 10), (42, 11), (42, 12), (42, 13), (42, 14), (42, 15), (66, 999)] T H H' ∧ none = r ∧ (wJ H' r0 = 1) ∧ (H r0 10 ≤ H' r0 10) ∧ (wOV H r0 ≤ wOV H' r0) ∧ (wOV H' r0 ≤ 1)
set_option maxHeartbeats 4000000 in
theorem s_198 {kt : Nat → Option mc_E} {T : wq_T} {H : wq_H} {r0 : Nat} {rp : Nat} (hW : WT T H) (g0 : T.2.2.2 r0 = some 42) (qrp : H r0 4 = (rp : Int)) (grp : T.2.2.2 rp = some 54) (p0 : wJ H r0 = 1) : wpc kt 4 198 [.ref r0] T H (q_198 r0 rp T H) := by
  refine wp_enter e198 (Nat.le_of_ble_eq_true rfl) rfl ?_
  have f0 : wfr [(54, 5), (42, 8), (42, 9), (42, 10), (42, 11), (42, 12), (42, 13), (42, 14), (42, 15), (66, 999)] T H H := wfr.rf
  show wp _ _ 198 0 [(0, .ref r0)] [] _ H _
  have b89260 : (-2147483648) ≤ H r0 10 ∧ H r0 10 ≤ 2147483647 := hW.box g0 (n := 33) rfl (by decide) rfl
  have b89261 : 0 ≤ H r0 9 ∧ H r0 9 ≤ 5 := hW.box g0 (n := 33) rfl (by decide) rfl
  have b89262 : 0 ≤ H r0 8 ∧ H r0 8 ≤ 900 := hW.box g0 (n := 33) rfl (by decide) rfl
  have hb0 := wOV_b (H := H) (m := r0)
  refine wp_of e198 c198_0 (rw_aload_n (pc' := 1) (v := .ref r0) rfl rfl rfl ?_)
  refine wp_of e198 c198_1 (rw_aload_n (pc' := 2) (v := .ref r0) rfl rfl rfl ?_)
  refine wp_of e198 c198_2 (xg_K (pc' := 5) lf_9_166 hW g0 sh_42 (by decide) (by decide) rfl qrp rfl ?_)
  refine wp_of e198 c198_5 (xg_I (pc' := 8) lf_9_288 hW grp sh_54 (by decide) (by decide) ty_54_5 rfl rfl (fun b89263 b89264 => ?_))
  refine wp_of e198 c198_8 (rw_iconst (pc' := 9) rfl ?_)
  refine wp_of e198 c198_9 (xc_V (pc' := 12) (r := r0) (as := [vI (H rp 5), vI 3]) (st := []) (lm_9_228) rfl rfl (Nat.le_of_ble_eq_true rfl) hW g0 sh_42 (by decide) rfl (by decide) (s_188 hW g0 ⟨by omega, by omega⟩ ⟨by omega, by omega⟩ (by omega)) (fun R89265 T89266 H89267 p89268 => ?_))
  obtain ⟨e89269, w89271, f89272, e89270, p89273, p89274, p89275, p89276, p89277⟩ := p89268
  subst e89269
  subst e89270
  have f89278 := f0.tr f89272 rfl
  show wp _ _ 198 12 [(0, .ref r0)] [] _ H89267 _
  refine wp_of e198 c198_12 (rw_aload_n (pc' := 13) (v := .ref r0) rfl rfl rfl ?_)
  refine wp_of e198 c198_13 (rw_iconst (pc' := 14) rfl ?_)
  refine wp_of e198 c198_14 (rw_bipush (pc' := 16) (z := 23) rfl (by decide) ?_)
  refine wp_of e198 c198_16 (xc_V (pc' := 19) (r := r0) (as := [vI 0, vI 23]) (st := []) (lm_9_137) rfl rfl (Nat.le_of_ble_eq_true rfl) w89271 g0 sh_42 (by decide) rfl (by decide) (s_184 w89271 g0 ⟨by omega, by omega⟩ ⟨by omega, by omega⟩ (by omega)) (fun R89279 T89280 H89281 p89282 => ?_))
  obtain ⟨e89283, w89285, f89286, z89292, e89284, b89293, p89287, p89288, p89289, p89290, p89291⟩ := p89282
  subst e89283
  subst e89284
  have f89294 := f89278.tr f89286 rfl
  show wp _ _ 198 19 [(0, .ref r0)] [vI z89292] _ H89281 _
  refine wp_of e198 c198_19 (rw_istore_n (pc' := 20) (z := z89292) (L' := [(1, vI z89292), (0, .ref r0)]) rfl rfl rfl ?_)
  refine wp_of e198 c198_20 (rw_aload_n (pc' := 21) (v := .ref r0) rfl rfl rfl ?_)
  refine wp_of e198 c198_21 (xg_I (pc' := 24) lf_9_75 w89285 g0 sh_42 (by decide) (by decide) ty_42_9 rfl rfl (fun b89295 b89296 => ?_))
  have k89297 := wOV_e (H := H89281) (m := r0)
  refine wp_of e198 c198_24 (rw_iconst (pc' := 25) rfl ?_)
  refine wp_of e198 c198_25 (rw_icmp_ne (p1 := 29) (p2 := 28) (by decide) rfl ⟨by omega, by omega⟩ ⟨by omega, by omega⟩ (fun c89298 => ?_) (fun c89298 => ?_))
  · refine wp_of e198 c198_29 (rw_aload_n (pc' := 30) (v := .ref r0) rfl rfl rfl ?_)
    have k89299 : H89281 r0 4 = H r0 4 := ((f89286 r0 4 _ g0 rfl).trans (f89272 r0 4 _ g0 rfl))
    have q89300 : H89281 r0 4 = (rp : Int) := k89299.trans qrp
    refine wp_of e198 c198_30 (xg_K (pc' := 33) lf_9_166 w89285 g0 sh_42 (by decide) (by decide) rfl q89300 rfl ?_)
    refine wp_of e198 c198_33 (xg_R (pc' := 36) lf_9_291 w89285 grp sh_54 (by decide) (by decide) ty_54_20 rfl rfl (fun r89301 q89302 g89303 => ?_))
    refine wp_of e198 c198_36 (rw_aload_n (pc' := 37) (v := .ref r0) rfl rfl rfl ?_)
    refine wp_of e198 c198_37 (xg_K (pc' := 40) lf_9_166 w89285 g0 sh_42 (by decide) (by decide) rfl q89300 rfl ?_)
    have k89304 : H89281 rp 5 = H rp 5 := ((f89286 rp 5 _ grp rfl).trans (f89272 rp 5 _ grp rfl))
    refine wp_of e198 c198_40 (xg_I (pc' := 43) lf_9_288 w89285 grp sh_54 (by decide) (by decide) ty_54_5 rfl rfl (fun b89305 b89306 => ?_))
    refine wp_of e198 c198_43 (rw_iload_n (pc' := 44) (z := z89292) rfl rfl ?_)
    refine wp_of e198 c198_44 (xs_I (pc' := 45) w89285 g89303 (by decide) sh_66 (by decide) (ty_66 _) (by omega) (by omega) ⟨by omega, by omega⟩ (by omega) (by omega) rfl (fun H89307 e89308 w89309 => ?_))
    have f89310 := f89294.put' e89308 g89303 rfl
    refine wp_of e198 c198_45 (rw_aload_n (pc' := 46) (v := .ref r0) rfl rfl rfl ?_)
    have k89311 : H89307 r0 4 = H89281 r0 4 := (wq_u_t e89308 g89303 g0 rfl 4)
    have q89312 : H89307 r0 4 = (rp : Int) := k89311.trans q89300
    refine wp_of e198 c198_46 (xg_K (pc' := 49) lf_9_166 w89309 g0 sh_42 (by decide) (by decide) rfl q89312 rfl ?_)
    refine wp_of e198 c198_49 (rw_dup (pc' := 50) rfl rfl ?_)
    have k89313 : H89307 rp 5 = H89281 rp 5 := (wq_u_t e89308 g89303 grp rfl 5)
    refine wp_of e198 c198_50 (xg_I (pc' := 53) lf_9_288 w89309 grp sh_54 (by decide) (by decide) ty_54_5 rfl rfl (fun b89314 b89315 => ?_))
    refine wp_of e198 c198_53 (rw_iconst (pc' := 54) rfl ?_)
    refine wp_of e198 c198_54 (rw_iadd (pc' := 55) rfl ?_)
    refine wp_of e198 c198_55 (xp_I (pc' := 58) lf_9_288 w89309 grp sh_54 (by decide) (by decide) ty_54_5 rfl rfl (by omega) (by omega) ⟨by omega, by omega⟩ rfl (fun H89316 e89317 w89318 => ?_))
    have f89319 := f89310.put' e89317 grp rfl
    have k89320 : H89316 rp 5 = (H89307 rp 5) + 1 := wq_u_s e89317
    have k89321 : H89316 r0 9 = H89281 r0 9 := ((wq_u_t e89317 grp g0 rfl 9).trans (wq_u_t e89308 g89303 g0 rfl 9))
    have k89322 : H89316 r0 10 = H89281 r0 10 := ((wq_u_t e89317 grp g0 rfl 10).trans (wq_u_t e89308 g89303 g0 rfl 10))
    have k89323 : wOV H89316 r0 = wOV H89281 r0 := ((wOV_fr w89309 g0 ((wfr.rf (l := [(54, 5)])).put' e89317 grp rfl) rfl).trans (wOV_fr w89285 g0 ((wfr.rf (l := [(66, 999)])).put' e89308 g89303 rfl) rfl))
    have k89324 : wJ H89316 r0 = wJ H89281 r0 := ((wJ_fr w89309 g0 ((wfr.rf (l := [(54, 5)])).put' e89317 grp rfl) rfl).trans (wJ_fr w89285 g0 ((wfr.rf (l := [(66, 999)])).put' e89308 g89303 rfl) rfl))
    exact wp_return e198 c198_58 rfl ⟨rfl, w89318, f89319, rfl, by omega, by omega, by omega, by omega⟩
  · exact wp_return e198 c198_28 rfl ⟨rfl, w89285, f89294, rfl, by omega, by omega, by omega, by omega⟩
/-! StrikeAwakeModel.readStruck()V -/
theorem e199 : wq_en 199 = some (9, 3, false, none) := rfl
theorem c199_0 : mc_cd 199 0 = some (.aload_n 0, 1) := by decide +kernel
theorem c199_1 : mc_cd 199 1 = some (.aload_n 0, 1) := by decide +kernel
theorem c199_2 : mc_cd 199 2 = some (.getfield 293, 3) := by decide +kernel
theorem c199_5 : mc_cd 199 5 = some (.bipush 24, 2) := by decide +kernel
theorem c199_7 : mc_cd 199 7 = some (.invokevirtual 228, 3) := by decide +kernel
theorem c199_10 : mc_cd 199 10 = some (.aload_n 0, 1) := by decide +kernel
theorem c199_11 : mc_cd 199 11 = some (.iconst 0, 1) := by decide +kernel
theorem c199_12 : mc_cd 199 12 = some (.bipush 23, 2) := by decide +kernel
theorem c199_14 : mc_cd 199 14 = some (.invokevirtual 129, 3) := by decide +kernel
theorem c199_17 : mc_cd 199 17 = some (.istore_n 1, 1) := by decide +kernel
theorem c199_18 : mc_cd 199 18 = some (.aload_n 0, 1) := by decide +kernel
theorem c199_19 : mc_cd 199 19 = some (.getfield 75, 3) := by decide +kernel
theorem c199_22 : mc_cd 199 22 = some (.iconst 5, 1) := by decide +kernel
theorem c199_23 : mc_cd 199 23 = some (.if_icmp .eq 20, 3) := by decide +kernel
theorem c199_26 : mc_cd 199 26 = some (.aload_n 0, 1) := by decide +kernel
theorem c199_27 : mc_cd 199 27 = some (.getfield 166, 3) := by decide +kernel
theorem c199_30 : mc_cd 199 30 = some (.getfield 296, 3) := by decide +kernel
theorem c199_33 : mc_cd 199 33 = some (.iload_n 1, 1) := by decide +kernel
theorem c199_34 : mc_cd 199 34 = some (.iaload, 1) := by decide +kernel
theorem c199_35 : mc_cd 199 35 = some (.ifCond .le 8, 3) := by decide +kernel
theorem c199_38 : mc_cd 199 38 = some (.aload_n 0, 1) := by decide +kernel
theorem c199_39 : mc_cd 199 39 = some (.iconst 3, 1) := by decide +kernel
theorem c199_40 : mc_cd 199 40 = some (.invokevirtual 121, 3) := by decide +kernel
theorem c199_43 : mc_cd 199 43 = some (.aload_n 0, 1) := by decide +kernel
theorem c199_44 : mc_cd 199 44 = some (.invokevirtual 118, 3) := by decide +kernel
theorem c199_47 : mc_cd 199 47 = some (.aload_n 0, 1) := by decide +kernel
theorem c199_48 : mc_cd 199 48 = some (.ldc_w 298, 3) := by decide +kernel
theorem c199_51 : mc_cd 199 51 = some (.iconst 0, 1) := by decide +kernel
theorem c199_52 : mc_cd 199 52 = some (.bipush 99, 2) := by decide +kernel
theorem c199_54 : mc_cd 199 54 = some (.invokevirtual 216, 3) := by decide +kernel
theorem c199_57 : mc_cd 199 57 = some (.istore_n 2, 1) := by decide +kernel
theorem c199_58 : mc_cd 199 58 = some (.aload_n 0, 1) := by decide +kernel
theorem c199_59 : mc_cd 199 59 = some (.getfield 75, 3) := by decide +kernel
theorem c199_62 : mc_cd 199 62 = some (.iconst 5, 1) := by decide +kernel
theorem c199_63 : mc_cd 199 63 = some (.if_icmp .ne 4, 3) := by decide +kernel
theorem c199_66 : mc_cd 199 66 = some (.return_, 1) := by decide +kernel
theorem c199_67 : mc_cd 199 67 = some (.aload_n 0, 1) := by decide +kernel
theorem c199_68 : mc_cd 199 68 = some (.getfield 166, 3) := by decide +kernel
theorem c199_71 : mc_cd 199 71 = some (.getfield 296, 3) := by decide +kernel
theorem c199_74 : mc_cd 199 74 = some (.iload_n 1, 1) := by decide +kernel
theorem c199_75 : mc_cd 199 75 = some (.iload_n 2, 1) := by decide +kernel
theorem c199_76 : mc_cd 199 76 = some (.iconst 1, 1) := by decide +kernel
theorem c199_77 : mc_cd 199 77 = some (.iadd, 1) := by decide +kernel
theorem c199_78 : mc_cd 199 78 = some (.iastore, 1) := by decide +kernel
theorem c199_79 : mc_cd 199 79 = some (.aload_n 0, 1) := by decide +kernel
theorem c199_80 : mc_cd 199 80 = some (.dup, 1) := by decide +kernel
theorem c199_81 : mc_cd 199 81 = some (.getfield 293, 3) := by decide +kernel
theorem c199_84 : mc_cd 199 84 = some (.iconst 1, 1) := by decide +kernel
theorem c199_85 : mc_cd 199 85 = some (.iadd, 1) := by decide +kernel
theorem c199_86 : mc_cd 199 86 = some (.putfield 293, 3) := by decide +kernel
theorem c199_89 : mc_cd 199 89 = some (.return_, 1) := by decide +kernel
abbrev q_199 (r0 : Nat) (rp : Nat) (T : wq_T) (H : wq_H) : Option Value → wq_T → wq_H → Prop := fun r T' H' => T = T' ∧ WT T H' ∧ wfr [(42, 8), (42, 9), (42, 10), (42, 11), (42, 12), (42, 13), (42, 14), (42, 15), (42, 16), (67, 999)] T H H' ∧ none = r ∧ (wJ H' r0 = 1) ∧ (H r0 10 ≤ H' r0 10) ∧ (wOV H r0 ≤ wOV H' r0) ∧ (wOV H' r0 ≤ 1)
set_option maxHeartbeats 4000000 in
theorem s_199 {kt : Nat → Option mc_E} {T : wq_T} {H : wq_H} {r0 : Nat} {rp : Nat} (hW : WT T H) (g0 : T.2.2.2 r0 = some 42) (qrp : H r0 4 = (rp : Int)) (grp : T.2.2.2 rp = some 54) (p0 : wJ H r0 = 1) : wpc kt 5 199 [.ref r0] T H (q_199 r0 rp T H) := by
  refine wp_enter e199 (Nat.le_of_ble_eq_true rfl) rfl ?_
  have f0 : wfr [(42, 8), (42, 9), (42, 10), (42, 11), (42, 12), (42, 13), (42, 14), (42, 15), (42, 16), (67, 999)] T H H := wfr.rf
  show wp _ _ 199 0 [(0, .ref r0)] [] _ H _
  have b89550 : (-2147483648) ≤ H r0 10 ∧ H r0 10 ≤ 2147483647 := hW.box g0 (n := 33) rfl (by decide) rfl
  have b89551 : 0 ≤ H r0 9 ∧ H r0 9 ≤ 5 := hW.box g0 (n := 33) rfl (by decide) rfl
  have b89552 : 0 ≤ H r0 8 ∧ H r0 8 ≤ 900 := hW.box g0 (n := 33) rfl (by decide) rfl
  have hb0 := wOV_b (H := H) (m := r0)
  refine wp_of e199 c199_0 (rw_aload_n (pc' := 1) (v := .ref r0) rfl rfl rfl ?_)
  refine wp_of e199 c199_1 (rw_aload_n (pc' := 2) (v := .ref r0) rfl rfl rfl ?_)
  refine wp_of e199 c199_2 (xg_I (pc' := 5) lf_9_293 hW g0 sh_42 (by decide) (by decide) ty_42_16 rfl rfl (fun b89553 b89554 => ?_))
  refine wp_of e199 c199_5 (rw_bipush (pc' := 7) (z := 24) rfl (by decide) ?_)
  refine wp_of e199 c199_7 (xc_V (pc' := 10) (r := r0) (as := [vI (H r0 16), vI 24]) (st := []) (lm_9_228) rfl rfl (Nat.le_of_ble_eq_true rfl) hW g0 sh_42 (by decide) rfl (by decide) (s_188 hW g0 ⟨by omega, by omega⟩ ⟨by omega, by omega⟩ (by omega)) (fun R89555 T89556 H89557 p89558 => ?_))
  obtain ⟨e89559, w89561, f89562, e89560, p89563, p89564, p89565, p89566, p89567⟩ := p89558
  subst e89559
  subst e89560
  have f89568 := f0.tr f89562 rfl
  show wp _ _ 199 10 [(0, .ref r0)] [] _ H89557 _
  refine wp_of e199 c199_10 (rw_aload_n (pc' := 11) (v := .ref r0) rfl rfl rfl ?_)
  refine wp_of e199 c199_11 (rw_iconst (pc' := 12) rfl ?_)
  refine wp_of e199 c199_12 (rw_bipush (pc' := 14) (z := 23) rfl (by decide) ?_)
  refine wp_of e199 c199_14 (xc_V (pc' := 17) (r := r0) (as := [vI 0, vI 23]) (st := []) (lm_9_129) rfl rfl (Nat.le_of_ble_eq_true rfl) w89561 g0 sh_42 (by decide) rfl (by decide) (s_185 w89561 g0 ⟨by omega, by omega⟩ ⟨by omega, by omega⟩ (by omega)) (fun R89569 T89570 H89571 p89572 => ?_))
  obtain ⟨e89573, w89575, f89576, z89582, e89574, b89583, p89577, p89578, p89579, p89580, p89581⟩ := p89572
  subst e89573
  subst e89574
  have f89584 := f89568.tr f89576 rfl
  show wp _ _ 199 17 [(0, .ref r0)] [vI z89582] _ H89571 _
  refine wp_of e199 c199_17 (rw_istore_n (pc' := 18) (z := z89582) (L' := [(1, vI z89582), (0, .ref r0)]) rfl rfl rfl ?_)
  refine wp_of e199 c199_18 (rw_aload_n (pc' := 19) (v := .ref r0) rfl rfl rfl ?_)
  refine wp_of e199 c199_19 (xg_I (pc' := 22) lf_9_75 w89575 g0 sh_42 (by decide) (by decide) ty_42_9 rfl rfl (fun b89585 b89586 => ?_))
  have k89587 := wOV_e (H := H89571) (m := r0)
  refine wp_of e199 c199_22 (rw_iconst (pc' := 23) rfl ?_)
  refine wp_of e199 c199_23 (rw_icmp_eq (p1 := 43) (p2 := 26) (by decide) rfl ⟨by omega, by omega⟩ ⟨by omega, by omega⟩ (fun c89588 => ?_) (fun c89588 => ?_))
  · refine wp_of e199 c199_43 (rw_aload_n (pc' := 44) (v := .ref r0) rfl rfl rfl ?_)
    refine wp_of e199 c199_44 (xc_V (pc' := 47) (r := r0) (as := []) (st := []) (lm_9_118) rfl rfl (Nat.le_of_ble_eq_true rfl) w89575 g0 sh_42 (by decide) rfl (by decide) (s_172 w89575 g0 (by omega)) (fun R89589 T89590 H89591 p89592 => ?_))
    obtain ⟨e89593, w89595, f89596, e89594, p89597, p89598, p89599, p89600, p89601, p89602⟩ := p89592
    subst e89593
    subst e89594
    have f89603 := f89584.tr f89596 rfl
    show wp _ _ 199 47 [(1, vI z89582), (0, .ref r0)] [] _ H89591 _
    refine wp_of e199 c199_47 (rw_aload_n (pc' := 48) (v := .ref r0) rfl rfl rfl ?_)
    refine wp_of e199 c199_48 (rw_ldc_wS (pc' := 51) (k := 89) rfl rfl rfl rfl ?_)
    refine wp_of e199 c199_51 (rw_iconst (pc' := 52) rfl ?_)
    refine wp_of e199 c199_52 (rw_bipush (pc' := 54) (z := 99) rfl (by decide) ?_)
    refine wp_of e199 c199_54 (xc_V (pc' := 57) (r := r0) (as := [.ref 89, vI 0, vI 99]) (st := []) (lm_9_216) rfl rfl (Nat.le_of_ble_eq_true rfl) w89595 g0 sh_42 (by decide) rfl (by decide) (s_182 w89595 g0 rfl ⟨by omega, by omega⟩ ⟨by omega, by omega⟩ (by omega)) (fun R89604 T89605 H89606 p89607 => ?_))
    obtain ⟨e89608, w89610, f89611, z89617, e89609, b89618, p89612, p89613, p89614, p89615, p89616⟩ := p89607
    subst e89608
    subst e89609
    have f89619 := f89603.tr f89611 rfl
    show wp _ _ 199 57 [(1, vI z89582), (0, .ref r0)] [vI z89617] _ H89606 _
    refine wp_of e199 c199_57 (rw_istore_n (pc' := 58) (z := z89617) (L' := [(2, vI z89617), (1, vI z89582), (0, .ref r0)]) rfl rfl rfl ?_)
    refine wp_of e199 c199_58 (rw_aload_n (pc' := 59) (v := .ref r0) rfl rfl rfl ?_)
    refine wp_of e199 c199_59 (xg_I (pc' := 62) lf_9_75 w89610 g0 sh_42 (by decide) (by decide) ty_42_9 rfl rfl (fun b89620 b89621 => ?_))
    have k89622 := wOV_e (H := H89606) (m := r0)
    refine wp_of e199 c199_62 (rw_iconst (pc' := 63) rfl ?_)
    refine wp_of e199 c199_63 (rw_icmp_ne (p1 := 67) (p2 := 66) (by decide) rfl ⟨by omega, by omega⟩ ⟨by omega, by omega⟩ (fun c89623 => ?_) (fun c89623 => ?_))
    · refine wp_of e199 c199_67 (rw_aload_n (pc' := 68) (v := .ref r0) rfl rfl rfl ?_)
      have k89624 : H89606 r0 4 = H r0 4 := ((f89611 r0 4 _ g0 rfl).trans ((f89596 r0 4 _ g0 rfl).trans ((f89576 r0 4 _ g0 rfl).trans (f89562 r0 4 _ g0 rfl))))
      have q89625 : H89606 r0 4 = (rp : Int) := k89624.trans qrp
      refine wp_of e199 c199_68 (xg_K (pc' := 71) lf_9_166 w89610 g0 sh_42 (by decide) (by decide) rfl q89625 rfl ?_)
      refine wp_of e199 c199_71 (xg_R (pc' := 74) lf_9_296 w89610 grp sh_54 (by decide) (by decide) ty_54_21 rfl rfl (fun r89626 q89627 g89628 => ?_))
      refine wp_of e199 c199_74 (rw_iload_n (pc' := 75) (z := z89582) rfl rfl ?_)
      refine wp_of e199 c199_75 (rw_iload_n (pc' := 76) (z := z89617) rfl rfl ?_)
      refine wp_of e199 c199_76 (rw_iconst (pc' := 77) rfl ?_)
      refine wp_of e199 c199_77 (rw_iadd (pc' := 78) rfl ?_)
      refine wp_of e199 c199_78 (xs_I (pc' := 79) w89610 g89628 (by decide) sh_67 (by decide) (ty_67 _) (by omega) (by omega) ⟨by omega, by omega⟩ (by omega) (by omega) rfl (fun H89629 e89630 w89631 => ?_))
      have f89632 := f89619.put' e89630 g89628 rfl
      refine wp_of e199 c199_79 (rw_aload_n (pc' := 80) (v := .ref r0) rfl rfl rfl ?_)
      refine wp_of e199 c199_80 (rw_dup (pc' := 81) rfl rfl ?_)
      have k89633 : H89629 r0 16 = H r0 16 := ((wq_u_t e89630 g89628 g0 rfl 16).trans ((f89611 r0 16 _ g0 rfl).trans ((f89596 r0 16 _ g0 rfl).trans ((f89576 r0 16 _ g0 rfl).trans (f89562 r0 16 _ g0 rfl)))))
      refine wp_of e199 c199_81 (xg_I (pc' := 84) lf_9_293 w89631 g0 sh_42 (by decide) (by decide) ty_42_16 rfl rfl (fun b89634 b89635 => ?_))
      refine wp_of e199 c199_84 (rw_iconst (pc' := 85) rfl ?_)
      refine wp_of e199 c199_85 (rw_iadd (pc' := 86) rfl ?_)
      refine wp_of e199 c199_86 (xp_I (pc' := 89) lf_9_293 w89631 g0 sh_42 (by decide) (by decide) ty_42_16 rfl rfl (by omega) (by omega) ⟨by omega, by omega⟩ rfl (fun H89636 e89637 w89638 => ?_))
      have f89639 := f89632.put' e89637 g0 rfl
      have k89640 : H89636 r0 16 = (H89629 r0 16) + 1 := wq_u_s e89637
      have k89641 : H89636 r0 9 = H89606 r0 9 := ((wq_u_j e89637 rfl).trans (wq_u_t e89630 g89628 g0 rfl 9))
      have k89642 : H89636 r0 10 = H89606 r0 10 := ((wq_u_j e89637 rfl).trans (wq_u_t e89630 g89628 g0 rfl 10))
      have k89643 : wOV H89636 r0 = wOV H89606 r0 := ((wOV_fr w89631 g0 ((wfr.rf (l := [(42, 16)])).put' e89637 g0 rfl) rfl).trans (wOV_fr w89610 g0 ((wfr.rf (l := [(67, 999)])).put' e89630 g89628 rfl) rfl))
      have k89644 : wJ H89636 r0 = wJ H89606 r0 := ((wJ_fr w89631 g0 ((wfr.rf (l := [(42, 16)])).put' e89637 g0 rfl) rfl).trans (wJ_fr w89610 g0 ((wfr.rf (l := [(67, 999)])).put' e89630 g89628 rfl) rfl))
      exact wp_return e199 c199_89 rfl ⟨rfl, w89638, f89639, rfl, by omega, by omega, by omega, by omega⟩
    · exact wp_return e199 c199_66 rfl ⟨rfl, w89610, f89619, rfl, by omega, by omega, by omega, by omega⟩
  · refine wp_of e199 c199_26 (rw_aload_n (pc' := 27) (v := .ref r0) rfl rfl rfl ?_)
    have k89645 : H89571 r0 4 = H r0 4 := ((f89576 r0 4 _ g0 rfl).trans (f89562 r0 4 _ g0 rfl))
    have q89646 : H89571 r0 4 = (rp : Int) := k89645.trans qrp
    refine wp_of e199 c199_27 (xg_K (pc' := 30) lf_9_166 w89575 g0 sh_42 (by decide) (by decide) rfl q89646 rfl ?_)
    refine wp_of e199 c199_30 (xg_R (pc' := 33) lf_9_296 w89575 grp sh_54 (by decide) (by decide) ty_54_21 rfl rfl (fun r89647 q89648 g89649 => ?_))
    refine wp_of e199 c199_33 (rw_iload_n (pc' := 34) (z := z89582) rfl rfl ?_)
    refine wp_of e199 c199_34 (xa_I (so := 0) (pc' := 35) w89575 g89649 sh_67 (by decide) (ty_67 _) (by omega) (by omega) rfl (fun b89650 b89651 => ?_))
    refine wp_of e199 c199_35 (rw_if_le (p1 := 43) (p2 := 38) (by decide) rfl ⟨by omega, by omega⟩ (fun c89652 => ?_) (fun c89652 => ?_))
    · refine wp_of e199 c199_43 (rw_aload_n (pc' := 44) (v := .ref r0) rfl rfl rfl ?_)
      refine wp_of e199 c199_44 (xc_V (pc' := 47) (r := r0) (as := []) (st := []) (lm_9_118) rfl rfl (Nat.le_of_ble_eq_true rfl) w89575 g0 sh_42 (by decide) rfl (by decide) (s_172 w89575 g0 (by omega)) (fun R89653 T89654 H89655 p89656 => ?_))
      obtain ⟨e89657, w89659, f89660, e89658, p89661, p89662, p89663, p89664, p89665, p89666⟩ := p89656
      subst e89657
      subst e89658
      have f89667 := f89584.tr f89660 rfl
      show wp _ _ 199 47 [(1, vI z89582), (0, .ref r0)] [] _ H89655 _
      refine wp_of e199 c199_47 (rw_aload_n (pc' := 48) (v := .ref r0) rfl rfl rfl ?_)
      refine wp_of e199 c199_48 (rw_ldc_wS (pc' := 51) (k := 89) rfl rfl rfl rfl ?_)
      refine wp_of e199 c199_51 (rw_iconst (pc' := 52) rfl ?_)
      refine wp_of e199 c199_52 (rw_bipush (pc' := 54) (z := 99) rfl (by decide) ?_)
      refine wp_of e199 c199_54 (xc_V (pc' := 57) (r := r0) (as := [.ref 89, vI 0, vI 99]) (st := []) (lm_9_216) rfl rfl (Nat.le_of_ble_eq_true rfl) w89659 g0 sh_42 (by decide) rfl (by decide) (s_182 w89659 g0 rfl ⟨by omega, by omega⟩ ⟨by omega, by omega⟩ (by omega)) (fun R89668 T89669 H89670 p89671 => ?_))
      obtain ⟨e89672, w89674, f89675, z89681, e89673, b89682, p89676, p89677, p89678, p89679, p89680⟩ := p89671
      subst e89672
      subst e89673
      have f89683 := f89667.tr f89675 rfl
      show wp _ _ 199 57 [(1, vI z89582), (0, .ref r0)] [vI z89681] _ H89670 _
      refine wp_of e199 c199_57 (rw_istore_n (pc' := 58) (z := z89681) (L' := [(2, vI z89681), (1, vI z89582), (0, .ref r0)]) rfl rfl rfl ?_)
      refine wp_of e199 c199_58 (rw_aload_n (pc' := 59) (v := .ref r0) rfl rfl rfl ?_)
      refine wp_of e199 c199_59 (xg_I (pc' := 62) lf_9_75 w89674 g0 sh_42 (by decide) (by decide) ty_42_9 rfl rfl (fun b89684 b89685 => ?_))
      have k89686 := wOV_e (H := H89670) (m := r0)
      refine wp_of e199 c199_62 (rw_iconst (pc' := 63) rfl ?_)
      refine wp_of e199 c199_63 (rw_icmp_ne (p1 := 67) (p2 := 66) (by decide) rfl ⟨by omega, by omega⟩ ⟨by omega, by omega⟩ (fun c89687 => ?_) (fun c89687 => ?_))
      · refine wp_of e199 c199_67 (rw_aload_n (pc' := 68) (v := .ref r0) rfl rfl rfl ?_)
        have k89688 : H89670 r0 4 = H89571 r0 4 := ((f89675 r0 4 _ g0 rfl).trans (f89660 r0 4 _ g0 rfl))
        have q89689 : H89670 r0 4 = (rp : Int) := k89688.trans q89646
        refine wp_of e199 c199_68 (xg_K (pc' := 71) lf_9_166 w89674 g0 sh_42 (by decide) (by decide) rfl q89689 rfl ?_)
        have k89690 : H89670 rp 21 = H89571 rp 21 := ((f89675 rp 21 _ grp rfl).trans (f89660 rp 21 _ grp rfl))
        have q89691 : H89670 rp 21 = (r89647 : Int) := k89690.trans q89648
        refine wp_of e199 c199_71 (xg_K (pc' := 74) lf_9_296 w89674 grp sh_54 (by decide) (by decide) rfl q89691 rfl ?_)
        refine wp_of e199 c199_74 (rw_iload_n (pc' := 75) (z := z89582) rfl rfl ?_)
        refine wp_of e199 c199_75 (rw_iload_n (pc' := 76) (z := z89681) rfl rfl ?_)
        refine wp_of e199 c199_76 (rw_iconst (pc' := 77) rfl ?_)
        refine wp_of e199 c199_77 (rw_iadd (pc' := 78) rfl ?_)
        refine wp_of e199 c199_78 (xs_I (pc' := 79) w89674 g89649 (by decide) sh_67 (by decide) (ty_67 _) (by omega) (by omega) ⟨by omega, by omega⟩ (by omega) (by omega) rfl (fun H89692 e89693 w89694 => ?_))
        have f89695 := f89683.put' e89693 g89649 rfl
        refine wp_of e199 c199_79 (rw_aload_n (pc' := 80) (v := .ref r0) rfl rfl rfl ?_)
        refine wp_of e199 c199_80 (rw_dup (pc' := 81) rfl rfl ?_)
        have k89696 : H89692 r0 16 = H r0 16 := ((wq_u_t e89693 g89649 g0 rfl 16).trans ((f89675 r0 16 _ g0 rfl).trans ((f89660 r0 16 _ g0 rfl).trans ((f89576 r0 16 _ g0 rfl).trans (f89562 r0 16 _ g0 rfl)))))
        refine wp_of e199 c199_81 (xg_I (pc' := 84) lf_9_293 w89694 g0 sh_42 (by decide) (by decide) ty_42_16 rfl rfl (fun b89697 b89698 => ?_))
        refine wp_of e199 c199_84 (rw_iconst (pc' := 85) rfl ?_)
        refine wp_of e199 c199_85 (rw_iadd (pc' := 86) rfl ?_)
        refine wp_of e199 c199_86 (xp_I (pc' := 89) lf_9_293 w89694 g0 sh_42 (by decide) (by decide) ty_42_16 rfl rfl (by omega) (by omega) ⟨by omega, by omega⟩ rfl (fun H89699 e89700 w89701 => ?_))
        have f89702 := f89695.put' e89700 g0 rfl
        have k89703 : H89699 r0 16 = (H89692 r0 16) + 1 := wq_u_s e89700
        have k89704 : H89699 r0 9 = H89670 r0 9 := ((wq_u_j e89700 rfl).trans (wq_u_t e89693 g89649 g0 rfl 9))
        have k89705 : H89699 r0 10 = H89670 r0 10 := ((wq_u_j e89700 rfl).trans (wq_u_t e89693 g89649 g0 rfl 10))
        have k89706 : wOV H89699 r0 = wOV H89670 r0 := ((wOV_fr w89694 g0 ((wfr.rf (l := [(42, 16)])).put' e89700 g0 rfl) rfl).trans (wOV_fr w89674 g0 ((wfr.rf (l := [(67, 999)])).put' e89693 g89649 rfl) rfl))
        have k89707 : wJ H89699 r0 = wJ H89670 r0 := ((wJ_fr w89694 g0 ((wfr.rf (l := [(42, 16)])).put' e89700 g0 rfl) rfl).trans (wJ_fr w89674 g0 ((wfr.rf (l := [(67, 999)])).put' e89693 g89649 rfl) rfl))
        exact wp_return e199 c199_89 rfl ⟨rfl, w89701, f89702, rfl, by omega, by omega, by omega, by omega⟩
      · exact wp_return e199 c199_66 rfl ⟨rfl, w89674, f89683, rfl, by omega, by omega, by omega, by omega⟩
    · refine wp_of e199 c199_38 (rw_aload_n (pc' := 39) (v := .ref r0) rfl rfl rfl ?_)
      refine wp_of e199 c199_39 (rw_iconst (pc' := 40) rfl ?_)
      refine wp_of e199 c199_40 (xc_V (pc' := 43) (r := r0) (as := [vI 3]) (st := []) (lm_9_121) rfl rfl (Nat.le_of_ble_eq_true rfl) w89575 g0 sh_42 (by decide) rfl (by decide) (s_181 w89575 g0 ⟨by omega, by omega⟩ (by omega)) (fun R89708 T89709 H89710 p89711 => ?_))
      obtain ⟨e89712, w89714, f89715, e89713, p89716, p89717, p89718, p89719, p89720, p89721⟩ := p89711
      subst e89712
      subst e89713
      have f89722 := f89584.tr f89715 rfl
      show wp _ _ 199 43 [(1, vI z89582), (0, .ref r0)] [] _ H89710 _
      refine wp_of e199 c199_43 (rw_aload_n (pc' := 44) (v := .ref r0) rfl rfl rfl ?_)
      refine wp_of e199 c199_44 (xc_V (pc' := 47) (r := r0) (as := []) (st := []) (lm_9_118) rfl rfl (Nat.le_of_ble_eq_true rfl) w89714 g0 sh_42 (by decide) rfl (by decide) (s_172 w89714 g0 (by omega)) (fun R89723 T89724 H89725 p89726 => ?_))
      obtain ⟨e89727, w89729, f89730, e89728, p89731, p89732, p89733, p89734, p89735, p89736⟩ := p89726
      subst e89727
      subst e89728
      have f89737 := f89722.tr f89730 rfl
      show wp _ _ 199 47 [(1, vI z89582), (0, .ref r0)] [] _ H89725 _
      refine wp_of e199 c199_47 (rw_aload_n (pc' := 48) (v := .ref r0) rfl rfl rfl ?_)
      refine wp_of e199 c199_48 (rw_ldc_wS (pc' := 51) (k := 89) rfl rfl rfl rfl ?_)
      refine wp_of e199 c199_51 (rw_iconst (pc' := 52) rfl ?_)
      refine wp_of e199 c199_52 (rw_bipush (pc' := 54) (z := 99) rfl (by decide) ?_)
      refine wp_of e199 c199_54 (xc_V (pc' := 57) (r := r0) (as := [.ref 89, vI 0, vI 99]) (st := []) (lm_9_216) rfl rfl (Nat.le_of_ble_eq_true rfl) w89729 g0 sh_42 (by decide) rfl (by decide) (s_182 w89729 g0 rfl ⟨by omega, by omega⟩ ⟨by omega, by omega⟩ (by omega)) (fun R89738 T89739 H89740 p89741 => ?_))
      obtain ⟨e89742, w89744, f89745, z89751, e89743, b89752, p89746, p89747, p89748, p89749, p89750⟩ := p89741
      subst e89742
      subst e89743
      have f89753 := f89737.tr f89745 rfl
      show wp _ _ 199 57 [(1, vI z89582), (0, .ref r0)] [vI z89751] _ H89740 _
      refine wp_of e199 c199_57 (rw_istore_n (pc' := 58) (z := z89751) (L' := [(2, vI z89751), (1, vI z89582), (0, .ref r0)]) rfl rfl rfl ?_)
      refine wp_of e199 c199_58 (rw_aload_n (pc' := 59) (v := .ref r0) rfl rfl rfl ?_)
      refine wp_of e199 c199_59 (xg_I (pc' := 62) lf_9_75 w89744 g0 sh_42 (by decide) (by decide) ty_42_9 rfl rfl (fun b89754 b89755 => ?_))
      have k89756 := wOV_e (H := H89740) (m := r0)
      refine wp_of e199 c199_62 (rw_iconst (pc' := 63) rfl ?_)
      refine wp_of e199 c199_63 (rw_icmp_ne (p1 := 67) (p2 := 66) (by decide) rfl ⟨by omega, by omega⟩ ⟨by omega, by omega⟩ (fun c89757 => ?_) (fun c89757 => ?_))
      · refine wp_of e199 c199_67 (rw_aload_n (pc' := 68) (v := .ref r0) rfl rfl rfl ?_)
        have k89758 : H89740 r0 4 = H89571 r0 4 := ((f89745 r0 4 _ g0 rfl).trans ((f89730 r0 4 _ g0 rfl).trans (f89715 r0 4 _ g0 rfl)))
        have q89759 : H89740 r0 4 = (rp : Int) := k89758.trans q89646
        refine wp_of e199 c199_68 (xg_K (pc' := 71) lf_9_166 w89744 g0 sh_42 (by decide) (by decide) rfl q89759 rfl ?_)
        have k89760 : H89740 rp 21 = H89571 rp 21 := ((f89745 rp 21 _ grp rfl).trans ((f89730 rp 21 _ grp rfl).trans (f89715 rp 21 _ grp rfl)))
        have q89761 : H89740 rp 21 = (r89647 : Int) := k89760.trans q89648
        refine wp_of e199 c199_71 (xg_K (pc' := 74) lf_9_296 w89744 grp sh_54 (by decide) (by decide) rfl q89761 rfl ?_)
        refine wp_of e199 c199_74 (rw_iload_n (pc' := 75) (z := z89582) rfl rfl ?_)
        refine wp_of e199 c199_75 (rw_iload_n (pc' := 76) (z := z89751) rfl rfl ?_)
        refine wp_of e199 c199_76 (rw_iconst (pc' := 77) rfl ?_)
        refine wp_of e199 c199_77 (rw_iadd (pc' := 78) rfl ?_)
        refine wp_of e199 c199_78 (xs_I (pc' := 79) w89744 g89649 (by decide) sh_67 (by decide) (ty_67 _) (by omega) (by omega) ⟨by omega, by omega⟩ (by omega) (by omega) rfl (fun H89762 e89763 w89764 => ?_))
        have f89765 := f89753.put' e89763 g89649 rfl
        refine wp_of e199 c199_79 (rw_aload_n (pc' := 80) (v := .ref r0) rfl rfl rfl ?_)
        refine wp_of e199 c199_80 (rw_dup (pc' := 81) rfl rfl ?_)
        have k89766 : H89762 r0 16 = H r0 16 := ((wq_u_t e89763 g89649 g0 rfl 16).trans ((f89745 r0 16 _ g0 rfl).trans ((f89730 r0 16 _ g0 rfl).trans ((f89715 r0 16 _ g0 rfl).trans ((f89576 r0 16 _ g0 rfl).trans (f89562 r0 16 _ g0 rfl))))))
        refine wp_of e199 c199_81 (xg_I (pc' := 84) lf_9_293 w89764 g0 sh_42 (by decide) (by decide) ty_42_16 rfl rfl (fun b89767 b89768 => ?_))
        refine wp_of e199 c199_84 (rw_iconst (pc' := 85) rfl ?_)
        refine wp_of e199 c199_85 (rw_iadd (pc' := 86) rfl ?_)
        refine wp_of e199 c199_86 (xp_I (pc' := 89) lf_9_293 w89764 g0 sh_42 (by decide) (by decide) ty_42_16 rfl rfl (by omega) (by omega) ⟨by omega, by omega⟩ rfl (fun H89769 e89770 w89771 => ?_))
        have f89772 := f89765.put' e89770 g0 rfl
        have k89773 : H89769 r0 16 = (H89762 r0 16) + 1 := wq_u_s e89770
        have k89774 : H89769 r0 9 = H89740 r0 9 := ((wq_u_j e89770 rfl).trans (wq_u_t e89763 g89649 g0 rfl 9))
        have k89775 : H89769 r0 10 = H89740 r0 10 := ((wq_u_j e89770 rfl).trans (wq_u_t e89763 g89649 g0 rfl 10))
        have k89776 : wOV H89769 r0 = wOV H89740 r0 := ((wOV_fr w89764 g0 ((wfr.rf (l := [(42, 16)])).put' e89770 g0 rfl) rfl).trans (wOV_fr w89744 g0 ((wfr.rf (l := [(67, 999)])).put' e89763 g89649 rfl) rfl))
        have k89777 : wJ H89769 r0 = wJ H89740 r0 := ((wJ_fr w89764 g0 ((wfr.rf (l := [(42, 16)])).put' e89770 g0 rfl) rfl).trans (wJ_fr w89744 g0 ((wfr.rf (l := [(67, 999)])).put' e89763 g89649 rfl) rfl))
        exact wp_return e199 c199_89 rfl ⟨rfl, w89771, f89772, rfl, by omega, by omega, by omega, by omega⟩
      · exact wp_return e199 c199_66 rfl ⟨rfl, w89744, f89753, rfl, by omega, by omega, by omega, by omega⟩
