/-! methods of the reference (own work, written by wip/gen2/sx.py) -/
/-! StrikeAwakeModel.struck(I)I -/
theorem e287 : wq_en 287 = some (9, 2, false, some FieldType.int) := rfl
theorem c287_0 : mc_cd 287 0 = some (.aload_n 0, 1) := by decide +kernel
theorem c287_1 : mc_cd 287 1 = some (.iconst 0, 1) := by decide +kernel
theorem c287_2 : mc_cd 287 2 = some (.putfield 48, 3) := by decide +kernel
theorem c287_5 : mc_cd 287 5 = some (.aload_n 0, 1) := by decide +kernel
theorem c287_6 : mc_cd 287 6 = some (.iload_n 1, 1) := by decide +kernel
theorem c287_7 : mc_cd 287 7 = some (.invokevirtual 373, 3) := by decide +kernel
theorem c287_10 : mc_cd 287 10 = some (.ifCond .ne 9, 3) := by decide +kernel
theorem c287_13 : mc_cd 287 13 = some (.aload_n 0, 1) := by decide +kernel
theorem c287_14 : mc_cd 287 14 = some (.iconst 1, 1) := by decide +kernel
theorem c287_15 : mc_cd 287 15 = some (.invokevirtual 54, 3) := by decide +kernel
theorem c287_18 : mc_cd 287 18 = some (.ireturn, 1) := by decide +kernel
theorem c287_19 : mc_cd 287 19 = some (.aload_n 0, 1) := by decide +kernel
theorem c287_20 : mc_cd 287 20 = some (.aload_n 0, 1) := by decide +kernel
theorem c287_21 : mc_cd 287 21 = some (.getfield 17, 3) := by decide +kernel
theorem c287_24 : mc_cd 287 24 = some (.iload_n 1, 1) := by decide +kernel
theorem c287_25 : mc_cd 287 25 = some (.iaload, 1) := by decide +kernel
theorem c287_26 : mc_cd 287 26 = some (.ifCond .ne 8, 3) := by decide +kernel
theorem c287_29 : mc_cd 287 29 = some (.bipush (-2), 2) := by decide +kernel
theorem c287_31 : mc_cd 287 31 = some (.goto 11, 3) := by decide +kernel
theorem c287_34 : mc_cd 287 34 = some (.aload_n 0, 1) := by decide +kernel
theorem c287_35 : mc_cd 287 35 = some (.getfield 17, 3) := by decide +kernel
theorem c287_38 : mc_cd 287 38 = some (.iload_n 1, 1) := by decide +kernel
theorem c287_39 : mc_cd 287 39 = some (.iaload, 1) := by decide +kernel
theorem c287_40 : mc_cd 287 40 = some (.iconst 1, 1) := by decide +kernel
theorem c287_41 : mc_cd 287 41 = some (.isub, 1) := by decide +kernel
theorem c287_42 : mc_cd 287 42 = some (.invokevirtual 58, 3) := by decide +kernel
theorem c287_45 : mc_cd 287 45 = some (.ireturn, 1) := by decide +kernel
abbrev q_287 (r0 : Nat) (a1 : Int) (T : wq_T) (H : wq_H) : Option Value → wq_T → wq_H → Prop := fun r T' H' => T = T' ∧ WT T H' ∧ wfr [(42, 0), (42, 1), (42, 2)] T H H' ∧ ∃ z : Int, some (vI z) = r ∧ ((-2147483648) ≤ z ∧ z ≤ 2147483647) ∧ (wKI H' r0 = 1)
set_option maxHeartbeats 4000000 in
theorem s_287 {kt : Nat → Option mc_E} {T : wq_T} {H : wq_H} {r0 : Nat} {a1 : Int} (hW : WT T H) (g0 : T.2.2.2 r0 = some 42) (i1 : (-2147483648) ≤ a1 ∧ a1 ≤ 2147483647) (p0 : wKI H r0 = 1) : wpc kt 2 287 [.ref r0, vI a1] T H (q_287 r0 a1 T H) := by
  refine wp_enter e287 (Nat.le_of_ble_eq_true rfl) rfl ?_
  have f0 : wfr [(42, 0), (42, 1), (42, 2)] T H H := wfr.rf
  show wp _ _ 287 0 [(0, .ref r0), (1, vI a1)] [] _ H _
  refine wp_of e287 c287_0 (rw_aload_n (pc' := 1) (v := .ref r0) rfl rfl rfl ?_)
  refine wp_of e287 c287_1 (rw_iconst (pc' := 2) rfl ?_)
  refine wp_of e287 c287_2 (xp_I (pc' := 5) lf_9_48 hW g0 sh_42 (by decide) (by decide) ty_42_0 rfl rfl (by omega) (by omega) ⟨by omega, by omega⟩ rfl (fun H220753 e220754 w220755 => ?_))
  have f220756 := f0.put' e220754 g0 rfl
  have k220757 : H220753 r0 0 = 0 := wq_u_s e220754
  refine wp_of e287 c287_5 (rw_aload_n (pc' := 6) (v := .ref r0) rfl rfl rfl ?_)
  refine wp_of e287 c287_6 (rw_iload_n (pc' := 7) (z := a1) rfl rfl ?_)
  refine wp_of e287 c287_7 (xc_V (pc' := 10) (r := r0) (as := [vI a1]) (st := []) (lm_9_373) rfl rfl (Nat.le_of_ble_eq_true rfl) w220755 g0 sh_42 (by decide) rfl (by decide) (s_218 w220755 g0 ⟨by omega, by omega⟩) (fun R220758 T220759 H220760 p220761 => ?_))
  obtain ⟨e220762, e220764, z220766, e220763, b220767, p220765⟩ := p220761
  subst e220762
  subst e220763
  subst e220764
  show wp _ _ 287 10 [(0, .ref r0), (1, vI a1)] [vI z220766] _ H220753 _
  refine wp_of e287 c287_10 (rw_if_ne (p1 := 19) (p2 := 13) (by decide) rfl ⟨by omega, by omega⟩ (fun c220768 => ?_) (fun c220768 => ?_))
  · refine wp_of e287 c287_19 (rw_aload_n (pc' := 20) (v := .ref r0) rfl rfl rfl ?_)
    refine wp_of e287 c287_20 (rw_aload_n (pc' := 21) (v := .ref r0) rfl rfl rfl ?_)
    refine wp_of e287 c287_21 (xg_R (pc' := 24) lf_9_17 w220755 g0 sh_42 (by decide) (by decide) ty_42_20 rfl rfl (fun r220769 q220770 g220771 => ?_))
    refine wp_of e287 c287_24 (rw_iload_n (pc' := 25) (z := a1) rfl rfl ?_)
    refine wp_of e287 c287_25 (xa_I (so := 0) (pc' := 26) w220755 g220771 sh_44 (by decide) (ty_44 _) (by omega) (by omega) rfl (fun b220772 b220773 => ?_))
    refine wp_of e287 c287_26 (rw_if_ne (p1 := 34) (p2 := 29) (by decide) rfl ⟨by omega, by omega⟩ (fun c220774 => ?_) (fun c220774 => ?_))
    · refine wp_of e287 c287_34 (rw_aload_n (pc' := 35) (v := .ref r0) rfl rfl rfl ?_)
      refine wp_of e287 c287_35 (xg_K (pc' := 38) lf_9_17 w220755 g0 sh_42 (by decide) (by decide) rfl q220770 rfl ?_)
      refine wp_of e287 c287_38 (rw_iload_n (pc' := 39) (z := a1) rfl rfl ?_)
      refine wp_of e287 c287_39 (xa_I (so := 0) (pc' := 40) w220755 g220771 sh_44 (by decide) (ty_44 _) (by omega) (by omega) rfl (fun b220775 b220776 => ?_))
      refine wp_of e287 c287_40 (rw_iconst (pc' := 41) rfl ?_)
      refine wp_of e287 c287_41 (rw_isubw (pc' := 42) rfl ?_)
      obtain ⟨v220777, e220778⟩ : ∃ x : Int, x = wq_w ((H220753 r220769 (a1.toNat)) - 1) := ⟨_, rfl⟩
      rw [← e220778]
      have b220779 : -2147483648 ≤ v220777 ∧ v220777 ≤ 2147483647 := by
        rw [e220778]
        exact wI_w _
      refine wp_of e287 c287_42 (xc_V (pc' := 45) (r := r0) (as := [vI v220777]) (st := []) (lm_9_58) rfl rfl (Nat.le_of_ble_eq_true rfl) w220755 g0 sh_42 (by decide) rfl (by decide) (s_209 w220755 g0 ⟨by omega, by omega⟩) (fun R220780 T220781 H220782 p220783 => ?_))
      obtain ⟨e220784, w220786, f220787, z220788, e220785, b220789⟩ := p220783
      subst e220784
      subst e220785
      have f220790 := f220756.tr f220787 rfl
      show wp _ _ 287 45 [(0, .ref r0), (1, vI a1)] [vI z220788] _ H220782 _
      have k220791 : wKI H220782 r0 = wKI H r0 := ((wKI_fr w220755 g0 f220787 rfl).trans (wKI_fr hW g0 ((wfr.rf (l := [(42, 0)])).put' e220754 g0 rfl) rfl))
      exact wp_ireturn e287 c287_45 rfl ⟨rfl, w220786, f220790, z220788, rfl, ⟨by omega, by omega⟩, by omega⟩
    · refine wp_of e287 c287_29 (rw_bipush (pc' := 31) (z := -2) rfl (by decide) ?_)
      refine wp_of e287 c287_31 (rw_goto (p1 := 42) (by decide) ?_)
      refine wp_of e287 c287_42 (xc_V (pc' := 45) (r := r0) (as := [vI (-2)]) (st := []) (lm_9_58) rfl rfl (Nat.le_of_ble_eq_true rfl) w220755 g0 sh_42 (by decide) rfl (by decide) (s_209 w220755 g0 ⟨by omega, by omega⟩) (fun R220792 T220793 H220794 p220795 => ?_))
      obtain ⟨e220796, w220798, f220799, z220800, e220797, b220801⟩ := p220795
      subst e220796
      subst e220797
      have f220802 := f220756.tr f220799 rfl
      show wp _ _ 287 45 [(0, .ref r0), (1, vI a1)] [vI z220800] _ H220794 _
      have k220803 : wKI H220794 r0 = wKI H r0 := ((wKI_fr w220755 g0 f220799 rfl).trans (wKI_fr hW g0 ((wfr.rf (l := [(42, 0)])).put' e220754 g0 rfl) rfl))
      exact wp_ireturn e287 c287_45 rfl ⟨rfl, w220798, f220802, z220800, rfl, ⟨by omega, by omega⟩, by omega⟩
  · refine wp_of e287 c287_13 (rw_aload_n (pc' := 14) (v := .ref r0) rfl rfl rfl ?_)
    refine wp_of e287 c287_14 (rw_iconst (pc' := 15) rfl ?_)
    refine wp_of e287 c287_15 (xc_V (pc' := 18) (r := r0) (as := [vI 1]) (st := []) (lm_9_54) rfl rfl (Nat.le_of_ble_eq_true rfl) w220755 g0 sh_42 (by decide) rfl (by decide) (s_170 w220755 g0 ⟨by omega, by omega⟩) (fun R220804 T220805 H220806 p220807 => ?_))
    obtain ⟨e220808, w220810, f220811, z220812, e220809, b220813⟩ := p220807
    subst e220808
    subst e220809
    have f220814 := f220756.tr f220811 rfl
    show wp _ _ 287 18 [(0, .ref r0), (1, vI a1)] [vI z220812] _ H220806 _
    have k220815 : wKI H220806 r0 = wKI H r0 := ((wKI_fr w220755 g0 f220811 rfl).trans (wKI_fr hW g0 ((wfr.rf (l := [(42, 0)])).put' e220754 g0 rfl) rfl))
    exact wp_ireturn e287 c287_18 rfl ⟨rfl, w220810, f220814, z220812, rfl, ⟨by omega, by omega⟩, by omega⟩
/-! StrikeAwakeModel.seek()I -/
theorem e288 : wq_en 288 = some (9, 3, false, some FieldType.int) := rfl
theorem c288_0 : mc_cd 288 0 = some (.aload_n 0, 1) := by decide +kernel
theorem c288_1 : mc_cd 288 1 = some (.iconst 0, 1) := by decide +kernel
theorem c288_2 : mc_cd 288 2 = some (.putfield 48, 3) := by decide +kernel
theorem c288_5 : mc_cd 288 5 = some (.aload_n 0, 1) := by decide +kernel
theorem c288_6 : mc_cd 288 6 = some (.aload_n 0, 1) := by decide +kernel
theorem c288_7 : mc_cd 288 7 = some (.getfield 337, 3) := by decide +kernel
theorem c288_10 : mc_cd 288 10 = some (.ifnull 7, 3) := by decide +kernel
theorem c288_13 : mc_cd 288 13 = some (.iconst 1, 1) := by decide +kernel
theorem c288_14 : mc_cd 288 14 = some (.goto 4, 3) := by decide +kernel
theorem c288_17 : mc_cd 288 17 = some (.iconst 0, 1) := by decide +kernel
theorem c288_18 : mc_cd 288 18 = some (.invokevirtual 433, 3) := by decide +kernel
theorem c288_21 : mc_cd 288 21 = some (.istore_n 1, 1) := by decide +kernel
theorem c288_22 : mc_cd 288 22 = some (.iload_n 1, 1) := by decide +kernel
theorem c288_23 : mc_cd 288 23 = some (.ifCond .le 9, 3) := by decide +kernel
theorem c288_26 : mc_cd 288 26 = some (.aload_n 0, 1) := by decide +kernel
theorem c288_27 : mc_cd 288 27 = some (.iload_n 1, 1) := by decide +kernel
theorem c288_28 : mc_cd 288 28 = some (.invokevirtual 54, 3) := by decide +kernel
theorem c288_31 : mc_cd 288 31 = some (.ireturn, 1) := by decide +kernel
theorem c288_32 : mc_cd 288 32 = some (.iconst 0, 1) := by decide +kernel
theorem c288_33 : mc_cd 288 33 = some (.istore_n 2, 1) := by decide +kernel
theorem c288_34 : mc_cd 288 34 = some (.iload_n 2, 1) := by decide +kernel
theorem c288_35 : mc_cd 288 35 = some (.aload_n 0, 1) := by decide +kernel
theorem c288_36 : mc_cd 288 36 = some (.getfield 422, 3) := by decide +kernel
theorem c288_39 : mc_cd 288 39 = some (.if_icmp .ge 48, 3) := by decide +kernel
theorem c288_42 : mc_cd 288 42 = some (.aload_n 0, 1) := by decide +kernel
theorem c288_43 : mc_cd 288 43 = some (.getfield 42, 3) := by decide +kernel
theorem c288_46 : mc_cd 288 46 = some (.iload_n 2, 1) := by decide +kernel
theorem c288_47 : mc_cd 288 47 = some (.iaload, 1) := by decide +kernel
theorem c288_48 : mc_cd 288 48 = some (.aload_n 0, 1) := by decide +kernel
theorem c288_49 : mc_cd 288 49 = some (.getfield 340, 3) := by decide +kernel
theorem c288_52 : mc_cd 288 52 = some (.if_icmp .ge 6, 3) := by decide +kernel
theorem c288_55 : mc_cd 288 55 = some (.goto 26, 3) := by decide +kernel
theorem c288_58 : mc_cd 288 58 = some (.aload_n 0, 1) := by decide +kernel
theorem c288_59 : mc_cd 288 59 = some (.aload_n 0, 1) := by decide +kernel
theorem c288_60 : mc_cd 288 60 = some (.getfield 42, 3) := by decide +kernel
theorem c288_63 : mc_cd 288 63 = some (.iload_n 2, 1) := by decide +kernel
theorem c288_64 : mc_cd 288 64 = some (.iaload, 1) := by decide +kernel
theorem c288_65 : mc_cd 288 65 = some (.iconst 1, 1) := by decide +kernel
theorem c288_66 : mc_cd 288 66 = some (.iadd, 1) := by decide +kernel
theorem c288_67 : mc_cd 288 67 = some (.putfield 340, 3) := by decide +kernel
theorem c288_70 : mc_cd 288 70 = some (.aload_n 0, 1) := by decide +kernel
theorem c288_71 : mc_cd 288 71 = some (.aload_n 0, 1) := by decide +kernel
theorem c288_72 : mc_cd 288 72 = some (.getfield 42, 3) := by decide +kernel
theorem c288_75 : mc_cd 288 75 = some (.iload_n 2, 1) := by decide +kernel
theorem c288_76 : mc_cd 288 76 = some (.iaload, 1) := by decide +kernel
theorem c288_77 : mc_cd 288 77 = some (.invokevirtual 58, 3) := by decide +kernel
theorem c288_80 : mc_cd 288 80 = some (.ireturn, 1) := by decide +kernel
theorem c288_81 : mc_cd 288 81 = some (.iinc 2 1, 3) := by decide +kernel
theorem c288_84 : mc_cd 288 84 = some (.goto (-50), 3) := by decide +kernel
theorem c288_87 : mc_cd 288 87 = some (.aload_n 0, 1) := by decide +kernel
theorem c288_88 : mc_cd 288 88 = some (.bipush 6, 2) := by decide +kernel
theorem c288_90 : mc_cd 288 90 = some (.invokevirtual 54, 3) := by decide +kernel
theorem c288_93 : mc_cd 288 93 = some (.ireturn, 1) := by decide +kernel
abbrev q_288 (r0 : Nat) (T : wq_T) (H : wq_H) : Option Value → wq_T → wq_H → Prop := fun r T' H' => T = T' ∧ WT T H' ∧ wfr [(42, 0), (42, 1), (42, 2), (42, 28), (42, 29), (42, 32), (51, 999), (52, 999)] T H H' ∧ ∃ z : Int, some (vI z) = r ∧ ((-2147483648) ≤ z ∧ z ≤ 2147483647) ∧ (wKI H' r0 = 1)
set_option maxHeartbeats 4000000 in
theorem s_288 {kt : Nat → Option mc_E} {T : wq_T} {H : wq_H} {r0 : Nat} (hW : WT T H) (g0 : T.2.2.2 r0 = some 42) (p0 : wKI H r0 = 1) : wpc kt 8 288 [.ref r0] T H (q_288 r0 T H) := by
  refine wp_enter e288 (Nat.le_of_ble_eq_true rfl) rfl ?_
  have f0 : wfr [(42, 0), (42, 1), (42, 2), (42, 28), (42, 29), (42, 32), (51, 999), (52, 999)] T H H := wfr.rf
  show wp _ _ 288 0 [(0, .ref r0)] [] _ H _
  refine wp_of e288 c288_0 (rw_aload_n (pc' := 1) (v := .ref r0) rfl rfl rfl ?_)
  refine wp_of e288 c288_1 (rw_iconst (pc' := 2) rfl ?_)
  refine wp_of e288 c288_2 (xp_I (pc' := 5) lf_9_48 hW g0 sh_42 (by decide) (by decide) ty_42_0 rfl rfl (by omega) (by omega) ⟨by omega, by omega⟩ rfl (fun H221026 e221027 w221028 => ?_))
  have f221029 := f0.put' e221027 g0 rfl
  have k221030 : H221026 r0 0 = 0 := wq_u_s e221027
  refine wp_of e288 c288_5 (rw_aload_n (pc' := 6) (v := .ref r0) rfl rfl rfl ?_)
  refine wp_of e288 c288_6 (rw_aload_n (pc' := 7) (v := .ref r0) rfl rfl rfl ?_)
  refine wp_of e288 c288_7 (xg_O (pc' := 10) lf_9_337 w221028 g0 sh_42 (by decide) (by decide) ty_42_3 rfl rfl (fun q221032 => ?_) (fun r221031 q221032 g221033 => ?_))
  · refine wp_of e288 c288_10 (rw_ifnull_n (p1 := 17) (p2 := 13) (by decide) rfl ?_)
    refine wp_of e288 c288_17 (rw_iconst (pc' := 18) rfl ?_)
    have k221034 : wKI H221026 r0 = wKI H r0 := (wKI_fr hW g0 ((wfr.rf (l := [(42, 0)])).put' e221027 g0 rfl) rfl)
    refine wp_of e288 c288_18 (xc_V (pc' := 21) (r := r0) (as := [vI 0]) (st := []) (lm_9_433) rfl rfl (Nat.le_of_ble_eq_true rfl) w221028 g0 sh_42 (by decide) rfl (by decide) (s_241 w221028 g0 ⟨by omega, by omega⟩ (by omega) (by omega)) (fun R221035 T221036 H221037 p221038 => ?_))
    obtain ⟨e221039, w221041, f221042, z221047, e221040, b221048, p221043, p221044, p221045, p221046⟩ := p221038
    subst e221039
    subst e221040
    have f221049 := f221029.tr f221042 rfl
    show wp _ _ 288 21 [(0, .ref r0)] [vI z221047] _ H221037 _
    refine wp_of e288 c288_21 (rw_istore_n (pc' := 22) (z := z221047) (L' := [(1, vI z221047), (0, .ref r0)]) rfl rfl rfl ?_)
    refine wp_of e288 c288_22 (rw_iload_n (pc' := 23) (z := z221047) rfl rfl ?_)
    refine wp_of e288 c288_23 (rw_if_le (p1 := 32) (p2 := 26) (by decide) rfl ⟨by omega, by omega⟩ (fun c221050 => ?_) (fun c221050 => ?_))
    · exfalso
      omega
    · refine wp_of e288 c288_26 (rw_aload_n (pc' := 27) (v := .ref r0) rfl rfl rfl ?_)
      refine wp_of e288 c288_27 (rw_iload_n (pc' := 28) (z := z221047) rfl rfl ?_)
      refine wp_of e288 c288_28 (xc_V (pc' := 31) (r := r0) (as := [vI z221047]) (st := []) (lm_9_54) rfl rfl (Nat.le_of_ble_eq_true rfl) w221041 g0 sh_42 (by decide) rfl (by decide) (s_170 w221041 g0 ⟨by omega, by omega⟩) (fun R221051 T221052 H221053 p221054 => ?_))
      obtain ⟨e221055, w221057, f221058, z221059, e221056, b221060⟩ := p221054
      subst e221055
      subst e221056
      have f221061 := f221049.tr f221058 rfl
      show wp _ _ 288 31 [(1, vI z221047), (0, .ref r0)] [vI z221059] _ H221053 _
      have k221062 : wKI H221053 r0 = wKI H221037 r0 := (wKI_fr w221041 g0 f221058 rfl)
      exact wp_ireturn e288 c288_31 rfl ⟨rfl, w221057, f221061, z221059, rfl, ⟨by omega, by omega⟩, by omega⟩
  · refine wp_of e288 c288_10 (rw_ifnull_r (p1 := 17) (p2 := 13) (by decide) rfl ?_)
    refine wp_of e288 c288_13 (rw_iconst (pc' := 14) rfl ?_)
    refine wp_of e288 c288_14 (rw_goto (p1 := 18) (by decide) ?_)
    have k221063 : wKI H221026 r0 = wKI H r0 := (wKI_fr hW g0 ((wfr.rf (l := [(42, 0)])).put' e221027 g0 rfl) rfl)
    refine wp_of e288 c288_18 (xc_V (pc' := 21) (r := r0) (as := [vI 1]) (st := []) (lm_9_433) rfl rfl (Nat.le_of_ble_eq_true rfl) w221028 g0 sh_42 (by decide) rfl (by decide) (s_241 w221028 g0 ⟨by omega, by omega⟩ (by omega) (by omega)) (fun R221064 T221065 H221066 p221067 => ?_))
    obtain ⟨e221068, w221070, f221071, z221076, e221069, b221077, p221072, p221073, p221074, p221075⟩ := p221067
    subst e221068
    subst e221069
    have f221078 := f221029.tr f221071 rfl
    show wp _ _ 288 21 [(0, .ref r0)] [vI z221076] _ H221066 _
    refine wp_of e288 c288_21 (rw_istore_n (pc' := 22) (z := z221076) (L' := [(1, vI z221076), (0, .ref r0)]) rfl rfl rfl ?_)
    refine wp_of e288 c288_22 (rw_iload_n (pc' := 23) (z := z221076) rfl rfl ?_)
    refine wp_of e288 c288_23 (rw_if_le (p1 := 32) (p2 := 26) (by decide) rfl ⟨by omega, by omega⟩ (fun c221079 => ?_) (fun c221079 => ?_))
    · refine wp_of e288 c288_32 (rw_iconst (pc' := 33) rfl ?_)
      refine wp_of e288 c288_33 (rw_istore_n (pc' := 34) (z := 0) (L' := [(2, vI 0), (1, vI z221076), (0, .ref r0)]) rfl rfl rfl ?_)
      have lp221176 : ∀ (n221177 : Nat) (v221179 : Int), (0 ≤ v221179 ∧ v221179 ≤ 20000) → (20000 - v221179).toNat = n221177 → wp kt 7 288 34 [(2, vI v221179), (0, .ref r0)] [] T H221066 (q_288 r0 T H) := by
        intro n221177
        induction n221177 using Nat.strongRecOn with
        | _ n221177 ih221178 =>
          intro v221179 b221182 m221183
          refine wp_of e288 c288_34 (rw_iload_n (pc' := 35) (z := v221179) rfl rfl ?_)
          refine wp_of e288 c288_35 (rw_aload_n (pc' := 36) (v := .ref r0) rfl rfl rfl ?_)
          refine wp_of e288 c288_36 (xg_I (pc' := 39) lf_9_422 w221070 g0 sh_42 (by decide) (by decide) ty_42_29 rfl rfl (fun b221184 b221185 => ?_))
          refine wp_of e288 c288_39 (rw_icmp_ge (p1 := 87) (p2 := 42) (by decide) rfl ⟨by omega, by omega⟩ ⟨by omega, by omega⟩ (fun c221186 => ?_) (fun c221186 => ?_))
          · refine wp_of e288 c288_87 (rw_aload_n (pc' := 88) (v := .ref r0) rfl rfl rfl ?_)
            refine wp_of e288 c288_88 (rw_bipush (pc' := 90) (z := 6) rfl (by decide) ?_)
            refine wp_of e288 c288_90 (xc_V (pc' := 93) (r := r0) (as := [vI 6]) (st := []) (lm_9_54) rfl rfl (Nat.le_of_ble_eq_true rfl) w221070 g0 sh_42 (by decide) rfl (by decide) (s_170 w221070 g0 ⟨by omega, by omega⟩) (fun R221187 T221188 H221189 p221190 => ?_))
            obtain ⟨e221191, w221193, f221194, z221195, e221192, b221196⟩ := p221190
            subst e221191
            subst e221192
            have f221197 := f221078.tr f221194 rfl
            show wp _ _ 288 93 [(2, vI v221179), (0, .ref r0)] [vI z221195] _ H221189 _
            have k221198 : wKI H221189 r0 = wKI H221066 r0 := (wKI_fr w221070 g0 f221194 rfl)
            exact wp_ireturn e288 c288_93 rfl ⟨rfl, w221193, f221197, z221195, rfl, ⟨by omega, by omega⟩, by omega⟩
          · refine wp_of e288 c288_42 (rw_aload_n (pc' := 43) (v := .ref r0) rfl rfl rfl ?_)
            refine wp_of e288 c288_43 (xg_R (pc' := 46) lf_9_42 w221070 g0 sh_42 (by decide) (by decide) ty_42_30 rfl rfl (fun r221199 q221200 g221201 => ?_))
            refine wp_of e288 c288_46 (rw_iload_n (pc' := 47) (z := v221179) rfl rfl ?_)
            refine wp_of e288 c288_47 (xa_I (so := 0) (pc' := 48) w221070 g221201 sh_52 (by decide) (ty_52 _) (by omega) (by omega) rfl (fun b221202 b221203 => ?_))
            refine wp_of e288 c288_48 (rw_aload_n (pc' := 49) (v := .ref r0) rfl rfl rfl ?_)
            refine wp_of e288 c288_49 (xg_I (pc' := 52) lf_9_340 w221070 g0 sh_42 (by decide) (by decide) ty_42_32 rfl rfl (fun b221204 b221205 => ?_))
            refine wp_of e288 c288_52 (rw_icmp_ge (p1 := 58) (p2 := 55) (by decide) rfl ⟨by omega, by omega⟩ ⟨by omega, by omega⟩ (fun c221206 => ?_) (fun c221206 => ?_))
            · refine wp_of e288 c288_58 (rw_aload_n (pc' := 59) (v := .ref r0) rfl rfl rfl ?_)
              refine wp_of e288 c288_59 (rw_aload_n (pc' := 60) (v := .ref r0) rfl rfl rfl ?_)
              refine wp_of e288 c288_60 (xg_K (pc' := 63) lf_9_42 w221070 g0 sh_42 (by decide) (by decide) rfl q221200 rfl ?_)
              refine wp_of e288 c288_63 (rw_iload_n (pc' := 64) (z := v221179) rfl rfl ?_)
              refine wp_of e288 c288_64 (xa_I (so := 0) (pc' := 65) w221070 g221201 sh_52 (by decide) (ty_52 _) (by omega) (by omega) rfl (fun b221207 b221208 => ?_))
              refine wp_of e288 c288_65 (rw_iconst (pc' := 66) rfl ?_)
              refine wp_of e288 c288_66 (rw_iadd (pc' := 67) rfl ?_)
              refine wp_of e288 c288_67 (xp_I (pc' := 70) lf_9_340 w221070 g0 sh_42 (by decide) (by decide) ty_42_32 rfl rfl (by omega) (by omega) ⟨by omega, by omega⟩ rfl (fun H221209 e221210 w221211 => ?_))
              have f221212 := f221078.put' e221210 g0 rfl
              have k221213 : H221209 r0 32 = (H221066 r221199 (v221179.toNat)) + 1 := wq_u_s e221210
              refine wp_of e288 c288_70 (rw_aload_n (pc' := 71) (v := .ref r0) rfl rfl rfl ?_)
              refine wp_of e288 c288_71 (rw_aload_n (pc' := 72) (v := .ref r0) rfl rfl rfl ?_)
              have k221214 : H221209 r0 30 = H221066 r0 30 := (wq_u_j e221210 rfl)
              have q221215 : H221209 r0 30 = (r221199 : Int) := k221214.trans q221200
              refine wp_of e288 c288_72 (xg_K (pc' := 75) lf_9_42 w221211 g0 sh_42 (by decide) (by decide) rfl q221215 rfl ?_)
              refine wp_of e288 c288_75 (rw_iload_n (pc' := 76) (z := v221179) rfl rfl ?_)
              have k221216 : H221209 r221199 (v221179.toNat) = H221066 r221199 (v221179.toNat) := (wq_u_t e221210 g0 g221201 rfl (v221179.toNat))
              refine wp_of e288 c288_76 (xa_I (so := 0) (pc' := 77) w221211 g221201 sh_52 (by decide) (ty_52 _) (by omega) (by omega) rfl (fun b221217 b221218 => ?_))
              refine wp_of e288 c288_77 (xc_V (pc' := 80) (r := r0) (as := [vI (H221209 r221199 (v221179.toNat))]) (st := []) (lm_9_58) rfl rfl (Nat.le_of_ble_eq_true rfl) w221211 g0 sh_42 (by decide) rfl (by decide) (s_209 w221211 g0 ⟨by omega, by omega⟩) (fun R221219 T221220 H221221 p221222 => ?_))
              obtain ⟨e221223, w221225, f221226, z221227, e221224, b221228⟩ := p221222
              subst e221223
              subst e221224
              have f221229 := f221212.tr f221226 rfl
              show wp _ _ 288 80 [(2, vI v221179), (0, .ref r0)] [vI z221227] _ H221221 _
              have k221230 : wKI H221221 r0 = wKI H221066 r0 := ((wKI_fr w221211 g0 f221226 rfl).trans (wKI_fr w221070 g0 ((wfr.rf (l := [(42, 32)])).put' e221210 g0 rfl) rfl))
              exact wp_ireturn e288 c288_80 rfl ⟨rfl, w221225, f221229, z221227, rfl, ⟨by omega, by omega⟩, by omega⟩
            · refine wp_of e288 c288_55 (rw_goto (p1 := 81) (by decide) ?_)
              refine wp_of e288 c288_81 (rw_iinc (pc' := 84) (z := v221179) (L' := [(2, vI (v221179 + 1)), (0, .ref r0)]) rfl rfl rfl rfl ?_)
              refine wp_of e288 c288_84 (rw_goto (p1 := 34) (by decide) ?_)
              exact wp_lc (ks := [2, 0]) (wl_c rfl (wl_c rfl wl_n)) rfl (by decide) (ih221178 _ (by omega) (v221179 + 1) ⟨by omega, by omega⟩ rfl)
      exact wp_lc (ks := [2, 1, 0]) (wl_c rfl (wl_c rfl wl_n)) rfl (by decide) (lp221176 _ 0 ⟨by omega, by omega⟩ rfl)
    · refine wp_of e288 c288_26 (rw_aload_n (pc' := 27) (v := .ref r0) rfl rfl rfl ?_)
      refine wp_of e288 c288_27 (rw_iload_n (pc' := 28) (z := z221076) rfl rfl ?_)
      refine wp_of e288 c288_28 (xc_V (pc' := 31) (r := r0) (as := [vI z221076]) (st := []) (lm_9_54) rfl rfl (Nat.le_of_ble_eq_true rfl) w221070 g0 sh_42 (by decide) rfl (by decide) (s_170 w221070 g0 ⟨by omega, by omega⟩) (fun R221231 T221232 H221233 p221234 => ?_))
      obtain ⟨e221235, w221237, f221238, z221239, e221236, b221240⟩ := p221234
      subst e221235
      subst e221236
      have f221241 := f221078.tr f221238 rfl
      show wp _ _ 288 31 [(1, vI z221076), (0, .ref r0)] [vI z221239] _ H221233 _
      have k221242 : wKI H221233 r0 = wKI H221066 r0 := (wKI_fr w221070 g0 f221238 rfl)
      exact wp_ireturn e288 c288_31 rfl ⟨rfl, w221237, f221241, z221239, rfl, ⟨by omega, by omega⟩, by omega⟩
/-! StrikeAwakeModel.lot(II)I -/
theorem e289 : wq_en 289 = some (9, 3, false, some FieldType.int) := rfl
theorem c289_0 : mc_cd 289 0 = some (.aload_n 0, 1) := by decide +kernel
theorem c289_1 : mc_cd 289 1 = some (.iconst 0, 1) := by decide +kernel
theorem c289_2 : mc_cd 289 2 = some (.putfield 48, 3) := by decide +kernel
theorem c289_5 : mc_cd 289 5 = some (.aload_n 0, 1) := by decide +kernel
theorem c289_6 : mc_cd 289 6 = some (.iload_n 2, 1) := by decide +kernel
theorem c289_7 : mc_cd 289 7 = some (.invokevirtual 364, 3) := by decide +kernel
theorem c289_10 : mc_cd 289 10 = some (.ifCond .eq 7, 3) := by decide +kernel
theorem c289_13 : mc_cd 289 13 = some (.iload_n 1, 1) := by decide +kernel
theorem c289_14 : mc_cd 289 14 = some (.ifCond .ge 9, 3) := by decide +kernel
theorem c289_17 : mc_cd 289 17 = some (.aload_n 0, 1) := by decide +kernel
theorem c289_18 : mc_cd 289 18 = some (.iconst 1, 1) := by decide +kernel
theorem c289_19 : mc_cd 289 19 = some (.invokevirtual 54, 3) := by decide +kernel
theorem c289_22 : mc_cd 289 22 = some (.ireturn, 1) := by decide +kernel
theorem c289_23 : mc_cd 289 23 = some (.aload_n 0, 1) := by decide +kernel
theorem c289_24 : mc_cd 289 24 = some (.invokevirtual 376, 3) := by decide +kernel
theorem c289_27 : mc_cd 289 27 = some (.ldc2_w 428, 3) := by decide +kernel
theorem c289_30 : mc_cd 289 30 = some (.lcmp, 1) := by decide +kernel
theorem c289_31 : mc_cd 289 31 = some (.ifCond .le 9, 3) := by decide +kernel
theorem c289_34 : mc_cd 289 34 = some (.aload_n 0, 1) := by decide +kernel
theorem c289_35 : mc_cd 289 35 = some (.iconst 3, 1) := by decide +kernel
theorem c289_36 : mc_cd 289 36 = some (.invokevirtual 54, 3) := by decide +kernel
theorem c289_39 : mc_cd 289 39 = some (.ireturn, 1) := by decide +kernel
theorem c289_40 : mc_cd 289 40 = some (.iload_n 1, 1) := by decide +kernel
theorem c289_41 : mc_cd 289 41 = some (.i2l, 1) := by decide +kernel
theorem c289_42 : mc_cd 289 42 = some (.aload_n 0, 1) := by decide +kernel
theorem c289_43 : mc_cd 289 43 = some (.invokevirtual 376, 3) := by decide +kernel
theorem c289_46 : mc_cd 289 46 = some (.lcmp, 1) := by decide +kernel
theorem c289_47 : mc_cd 289 47 = some (.ifCond .lt 9, 3) := by decide +kernel
theorem c289_50 : mc_cd 289 50 = some (.aload_n 0, 1) := by decide +kernel
theorem c289_51 : mc_cd 289 51 = some (.iconst 1, 1) := by decide +kernel
theorem c289_52 : mc_cd 289 52 = some (.invokevirtual 54, 3) := by decide +kernel
theorem c289_55 : mc_cd 289 55 = some (.ireturn, 1) := by decide +kernel
theorem c289_56 : mc_cd 289 56 = some (.aload_n 0, 1) := by decide +kernel
theorem c289_57 : mc_cd 289 57 = some (.iload_n 1, 1) := by decide +kernel
theorem c289_58 : mc_cd 289 58 = some (.invokevirtual 425, 3) := by decide +kernel
theorem c289_61 : mc_cd 289 61 = some (.aload_n 0, 1) := by decide +kernel
theorem c289_62 : mc_cd 289 62 = some (.aload_n 0, 1) := by decide +kernel
theorem c289_63 : mc_cd 289 63 = some (.getfield 39, 3) := by decide +kernel
theorem c289_66 : mc_cd 289 66 = some (.iload_n 2, 1) := by decide +kernel
theorem c289_67 : mc_cd 289 67 = some (.iaload, 1) := by decide +kernel
theorem c289_68 : mc_cd 289 68 = some (.invokevirtual 58, 3) := by decide +kernel
theorem c289_71 : mc_cd 289 71 = some (.ireturn, 1) := by decide +kernel
abbrev q_289 (r0 : Nat) (a1 : Int) (a2 : Int) (T : wq_T) (H : wq_H) : Option Value → wq_T → wq_H → Prop := fun r T' H' => T = T' ∧ WT T H' ∧ wfr [(42, 0), (42, 1), (42, 2), (51, 999)] T H H' ∧ ∃ z : Int, some (vI z) = r ∧ ((-2147483648) ≤ z ∧ z ≤ 2147483647) ∧ (wKI H' r0 = 1)
set_option maxHeartbeats 4000000 in
theorem s_289 {kt : Nat → Option mc_E} {T : wq_T} {H : wq_H} {r0 : Nat} {a1 : Int} {a2 : Int} (hW : WT T H) (g0 : T.2.2.2 r0 = some 42) (i1 : (-2147483648) ≤ a1 ∧ a1 ≤ 2147483647) (i2 : (-2147483648) ≤ a2 ∧ a2 ≤ 2147483647) (p0 : wKI H r0 = 1) : wpc kt 2 289 [.ref r0, vI a1, vI a2] T H (q_289 r0 a1 a2 T H) := by
  refine wp_enter e289 (Nat.le_of_ble_eq_true rfl) rfl ?_
  have f0 : wfr [(42, 0), (42, 1), (42, 2), (51, 999)] T H H := wfr.rf
  show wp _ _ 289 0 [(0, .ref r0), (1, vI a1), (2, vI a2)] [] _ H _
  refine wp_of e289 c289_0 (rw_aload_n (pc' := 1) (v := .ref r0) rfl rfl rfl ?_)
  refine wp_of e289 c289_1 (rw_iconst (pc' := 2) rfl ?_)
  refine wp_of e289 c289_2 (xp_I (pc' := 5) lf_9_48 hW g0 sh_42 (by decide) (by decide) ty_42_0 rfl rfl (by omega) (by omega) ⟨by omega, by omega⟩ rfl (fun H221362 e221363 w221364 => ?_))
  have f221365 := f0.put' e221363 g0 rfl
  have k221366 : H221362 r0 0 = 0 := wq_u_s e221363
  refine wp_of e289 c289_5 (rw_aload_n (pc' := 6) (v := .ref r0) rfl rfl rfl ?_)
  refine wp_of e289 c289_6 (rw_iload_n (pc' := 7) (z := a2) rfl rfl ?_)
  refine wp_of e289 c289_7 (xc_V (pc' := 10) (r := r0) (as := [vI a2]) (st := []) (lm_9_364) rfl rfl (Nat.le_of_ble_eq_true rfl) w221364 g0 sh_42 (by decide) rfl (by decide) (s_213 w221364 g0 ⟨by omega, by omega⟩) (fun R221367 T221368 H221369 p221370 => ?_))
  obtain ⟨e221371, e221373, z221375, e221372, b221376, p221374⟩ := p221370
  subst e221371
  subst e221372
  subst e221373
  show wp _ _ 289 10 [(0, .ref r0), (1, vI a1), (2, vI a2)] [vI z221375] _ H221362 _
  refine wp_of e289 c289_10 (rw_if_eq (p1 := 17) (p2 := 13) (by decide) rfl ⟨by omega, by omega⟩ (fun c221377 => ?_) (fun c221377 => ?_))
  · refine wp_of e289 c289_17 (rw_aload_n (pc' := 18) (v := .ref r0) rfl rfl rfl ?_)
    refine wp_of e289 c289_18 (rw_iconst (pc' := 19) rfl ?_)
    refine wp_of e289 c289_19 (xc_V (pc' := 22) (r := r0) (as := [vI 1]) (st := []) (lm_9_54) rfl rfl (Nat.le_of_ble_eq_true rfl) w221364 g0 sh_42 (by decide) rfl (by decide) (s_170 w221364 g0 ⟨by omega, by omega⟩) (fun R221378 T221379 H221380 p221381 => ?_))
    obtain ⟨e221382, w221384, f221385, z221386, e221383, b221387⟩ := p221381
    subst e221382
    subst e221383
    have f221388 := f221365.tr f221385 rfl
    show wp _ _ 289 22 [(0, .ref r0), (1, vI a1), (2, vI a2)] [vI z221386] _ H221380 _
    have k221389 : wKI H221380 r0 = wKI H r0 := ((wKI_fr w221364 g0 f221385 rfl).trans (wKI_fr hW g0 ((wfr.rf (l := [(42, 0)])).put' e221363 g0 rfl) rfl))
    exact wp_ireturn e289 c289_22 rfl ⟨rfl, w221384, f221388, z221386, rfl, ⟨by omega, by omega⟩, by omega⟩
  · refine wp_of e289 c289_13 (rw_iload_n (pc' := 14) (z := a1) rfl rfl ?_)
    refine wp_of e289 c289_14 (rw_if_ge (p1 := 23) (p2 := 17) (by decide) rfl ⟨by omega, by omega⟩ (fun c221390 => ?_) (fun c221390 => ?_))
    · refine wp_of e289 c289_23 (rw_aload_n (pc' := 24) (v := .ref r0) rfl rfl rfl ?_)
      have k221391 : wLM H221362 r0 = wLM H r0 := (wLM_fr hW g0 ((wfr.rf (l := [(42, 0)])).put' e221363 g0 rfl) rfl)
      obtain ⟨r221392, q221393, g221394⟩ := (w221364.opt g0 (t' := 54) (n := 33) (j := 3) (p := 0) (q := 0) rfl (by decide) rfl).resolve_left (by omega)
      refine wp_of e289 c289_24 (xc_V (pc' := 27) (r := r0) (as := []) (st := []) (lm_9_376) rfl rfl (Nat.le_of_ble_eq_true rfl) w221364 g0 sh_42 (by decide) rfl (by decide) (s_220 w221364 g0 q221393 g221394) (fun R221395 T221396 H221397 p221398 => ?_))
      obtain ⟨e221399, e221401, z221403, e221400, b221404, p221402⟩ := p221398
      subst e221399
      subst e221400
      subst e221401
      show wp _ _ 289 27 [(0, .ref r0), (1, vI a1), (2, vI a2)] [vL z221403] _ H221362 _
      refine wp_of e289 c289_27 (rw_ldc2 (pc' := 30) (z := 20000) rfl rfl rfl ?_)
      refine wp_of e289 c289_30 (rw_lcmp (pc' := 31) rfl ⟨by omega, by omega⟩ ⟨by omega, by omega⟩ ?_)
      have b221405 := wq_cmp_b z221403 20000
      refine wp_of e289 c289_31 (rw_if_le (p1 := 40) (p2 := 34) (by decide) rfl ⟨by omega, by omega⟩ (fun c221406 => ?_) (fun c221406 => ?_))
      · refine wp_of e289 c289_40 (rw_iload_n (pc' := 41) (z := a1) rfl rfl ?_)
        refine wp_of e289 c289_41 (rw_i2l (pc' := 42) rfl ⟨by omega, by omega⟩ ?_)
        refine wp_of e289 c289_42 (rw_aload_n (pc' := 43) (v := .ref r0) rfl rfl rfl ?_)
        refine wp_of e289 c289_43 (xc_V (pc' := 46) (r := r0) (as := []) (st := [vL a1]) (lm_9_376) rfl rfl (Nat.le_of_ble_eq_true rfl) w221364 g0 sh_42 (by decide) rfl (by decide) (s_220 w221364 g0 q221393 g221394) (fun R221407 T221408 H221409 p221410 => ?_))
        obtain ⟨e221411, e221413, z221415, e221412, b221416, p221414⟩ := p221410
        subst e221411
        subst e221412
        subst e221413
        show wp _ _ 289 46 [(0, .ref r0), (1, vI a1), (2, vI a2)] [vL z221415, vL a1] _ H221362 _
        refine wp_of e289 c289_46 (rw_lcmp (pc' := 47) rfl ⟨by omega, by omega⟩ ⟨by omega, by omega⟩ ?_)
        have b221417 := wq_cmp_b a1 z221415
        refine wp_of e289 c289_47 (rw_if_lt (p1 := 56) (p2 := 50) (by decide) rfl ⟨by omega, by omega⟩ (fun c221418 => ?_) (fun c221418 => ?_))
        · refine wp_of e289 c289_56 (rw_aload_n (pc' := 57) (v := .ref r0) rfl rfl rfl ?_)
          refine wp_of e289 c289_57 (rw_iload_n (pc' := 58) (z := a1) rfl rfl ?_)
          refine wp_of e289 c289_58 (xc_V (pc' := 61) (r := r0) (as := [vI a1]) (st := []) (lm_9_425) rfl rfl (Nat.le_of_ble_eq_true rfl) w221364 g0 sh_42 (by decide) rfl (by decide) (s_243 w221364 g0 ⟨by omega, by omega⟩ q221393 g221394 (by omega)) (fun R221419 T221420 H221421 p221422 => ?_))
          obtain ⟨e221423, w221425, f221426, e221424⟩ := p221422
          subst e221423
          subst e221424
          have f221427 := f221365.tr f221426 rfl
          show wp _ _ 289 61 [(0, .ref r0), (1, vI a1), (2, vI a2)] [] _ H221421 _
          refine wp_of e289 c289_61 (rw_aload_n (pc' := 62) (v := .ref r0) rfl rfl rfl ?_)
          refine wp_of e289 c289_62 (rw_aload_n (pc' := 63) (v := .ref r0) rfl rfl rfl ?_)
          refine wp_of e289 c289_63 (xg_R (pc' := 66) lf_9_39 w221425 g0 sh_42 (by decide) (by decide) ty_42_27 rfl rfl (fun r221428 q221429 g221430 => ?_))
          refine wp_of e289 c289_66 (rw_iload_n (pc' := 67) (z := a2) rfl rfl ?_)
          refine wp_of e289 c289_67 (xa_I (so := 0) (pc' := 68) w221425 g221430 sh_51 (by decide) (ty_51 _) (by omega) (by omega) rfl (fun b221431 b221432 => ?_))
          refine wp_of e289 c289_68 (xc_V (pc' := 71) (r := r0) (as := [vI (H221421 r221428 (a2.toNat))]) (st := []) (lm_9_58) rfl rfl (Nat.le_of_ble_eq_true rfl) w221425 g0 sh_42 (by decide) rfl (by decide) (s_209 w221425 g0 ⟨by omega, by omega⟩) (fun R221433 T221434 H221435 p221436 => ?_))
          obtain ⟨e221437, w221439, f221440, z221441, e221438, b221442⟩ := p221436
          subst e221437
          subst e221438
          have f221443 := f221427.tr f221440 rfl
          show wp _ _ 289 71 [(0, .ref r0), (1, vI a1), (2, vI a2)] [vI z221441] _ H221435 _
          have k221444 : wKI H221435 r0 = wKI H r0 := ((wKI_fr w221425 g0 f221440 rfl).trans ((wKI_fr w221364 g0 f221426 rfl).trans (wKI_fr hW g0 ((wfr.rf (l := [(42, 0)])).put' e221363 g0 rfl) rfl)))
          exact wp_ireturn e289 c289_71 rfl ⟨rfl, w221439, f221443, z221441, rfl, ⟨by omega, by omega⟩, by omega⟩
        · refine wp_of e289 c289_50 (rw_aload_n (pc' := 51) (v := .ref r0) rfl rfl rfl ?_)
          refine wp_of e289 c289_51 (rw_iconst (pc' := 52) rfl ?_)
          refine wp_of e289 c289_52 (xc_V (pc' := 55) (r := r0) (as := [vI 1]) (st := []) (lm_9_54) rfl rfl (Nat.le_of_ble_eq_true rfl) w221364 g0 sh_42 (by decide) rfl (by decide) (s_170 w221364 g0 ⟨by omega, by omega⟩) (fun R221445 T221446 H221447 p221448 => ?_))
          obtain ⟨e221449, w221451, f221452, z221453, e221450, b221454⟩ := p221448
          subst e221449
          subst e221450
          have f221455 := f221365.tr f221452 rfl
          show wp _ _ 289 55 [(0, .ref r0), (1, vI a1), (2, vI a2)] [vI z221453] _ H221447 _
          have k221456 : wKI H221447 r0 = wKI H r0 := ((wKI_fr w221364 g0 f221452 rfl).trans (wKI_fr hW g0 ((wfr.rf (l := [(42, 0)])).put' e221363 g0 rfl) rfl))
          exact wp_ireturn e289 c289_55 rfl ⟨rfl, w221451, f221455, z221453, rfl, ⟨by omega, by omega⟩, by omega⟩
      · refine wp_of e289 c289_34 (rw_aload_n (pc' := 35) (v := .ref r0) rfl rfl rfl ?_)
        refine wp_of e289 c289_35 (rw_iconst (pc' := 36) rfl ?_)
        refine wp_of e289 c289_36 (xc_V (pc' := 39) (r := r0) (as := [vI 3]) (st := []) (lm_9_54) rfl rfl (Nat.le_of_ble_eq_true rfl) w221364 g0 sh_42 (by decide) rfl (by decide) (s_170 w221364 g0 ⟨by omega, by omega⟩) (fun R221457 T221458 H221459 p221460 => ?_))
        obtain ⟨e221461, w221463, f221464, z221465, e221462, b221466⟩ := p221460
        subst e221461
        subst e221462
        have f221467 := f221365.tr f221464 rfl
        show wp _ _ 289 39 [(0, .ref r0), (1, vI a1), (2, vI a2)] [vI z221465] _ H221459 _
        have k221468 : wKI H221459 r0 = wKI H r0 := ((wKI_fr w221364 g0 f221464 rfl).trans (wKI_fr hW g0 ((wfr.rf (l := [(42, 0)])).put' e221363 g0 rfl) rfl))
        exact wp_ireturn e289 c289_39 rfl ⟨rfl, w221463, f221467, z221465, rfl, ⟨by omega, by omega⟩, by omega⟩
    · refine wp_of e289 c289_17 (rw_aload_n (pc' := 18) (v := .ref r0) rfl rfl rfl ?_)
      refine wp_of e289 c289_18 (rw_iconst (pc' := 19) rfl ?_)
      refine wp_of e289 c289_19 (xc_V (pc' := 22) (r := r0) (as := [vI 1]) (st := []) (lm_9_54) rfl rfl (Nat.le_of_ble_eq_true rfl) w221364 g0 sh_42 (by decide) rfl (by decide) (s_170 w221364 g0 ⟨by omega, by omega⟩) (fun R221469 T221470 H221471 p221472 => ?_))
      obtain ⟨e221473, w221475, f221476, z221477, e221474, b221478⟩ := p221472
      subst e221473
      subst e221474
      have f221479 := f221365.tr f221476 rfl
      show wp _ _ 289 22 [(0, .ref r0), (1, vI a1), (2, vI a2)] [vI z221477] _ H221471 _
      have k221480 : wKI H221471 r0 = wKI H r0 := ((wKI_fr w221364 g0 f221476 rfl).trans (wKI_fr hW g0 ((wfr.rf (l := [(42, 0)])).put' e221363 g0 rfl) rfl))
      exact wp_ireturn e289 c289_22 rfl ⟨rfl, w221475, f221479, z221477, rfl, ⟨by omega, by omega⟩, by omega⟩
/-! StrikeAwakeModel.again()Z -/
theorem e290 : wq_en 290 = some (9, 1, false, some FieldType.boolean) := rfl
theorem c290_0 : mc_cd 290 0 = some (.aload_n 0, 1) := by decide +kernel
theorem c290_1 : mc_cd 290 1 = some (.iconst 0, 1) := by decide +kernel
theorem c290_2 : mc_cd 290 2 = some (.putfield 48, 3) := by decide +kernel
theorem c290_5 : mc_cd 290 5 = some (.aload_n 0, 1) := by decide +kernel
theorem c290_6 : mc_cd 290 6 = some (.getfield 337, 3) := by decide +kernel
theorem c290_9 : mc_cd 290 9 = some (.ifnonnull 9, 3) := by decide +kernel
theorem c290_12 : mc_cd 290 12 = some (.aload_n 0, 1) := by decide +kernel
theorem c290_13 : mc_cd 290 13 = some (.iconst 1, 1) := by decide +kernel
theorem c290_14 : mc_cd 290 14 = some (.invokevirtual 400, 3) := by decide +kernel
theorem c290_17 : mc_cd 290 17 = some (.ireturn, 1) := by decide +kernel
theorem c290_18 : mc_cd 290 18 = some (.aload_n 0, 1) := by decide +kernel
theorem c290_19 : mc_cd 290 19 = some (.iconst 0, 1) := by decide +kernel
theorem c290_20 : mc_cd 290 20 = some (.putfield 340, 3) := by decide +kernel
theorem c290_23 : mc_cd 290 23 = some (.aload_n 0, 1) := by decide +kernel
theorem c290_24 : mc_cd 290 24 = some (.invokevirtual 403, 3) := by decide +kernel
theorem c290_27 : mc_cd 290 27 = some (.ireturn, 1) := by decide +kernel
abbrev q_290 (r0 : Nat) (T : wq_T) (H : wq_H) : Option Value → wq_T → wq_H → Prop := fun r T' H' => T = T' ∧ WT T H' ∧ wfr [(42, 0), (42, 1), (42, 2), (42, 32)] T H H' ∧ ∃ z : Int, some (vI z) = r ∧ (0 ≤ z ∧ z ≤ 1) ∧ (wKI H' r0 = 1)
set_option maxHeartbeats 4000000 in
theorem s_290 {kt : Nat → Option mc_E} {T : wq_T} {H : wq_H} {r0 : Nat} (hW : WT T H) (g0 : T.2.2.2 r0 = some 42) (p0 : wKI H r0 = 1) : wpc kt 3 290 [.ref r0] T H (q_290 r0 T H) := by
  refine wp_enter e290 (Nat.le_of_ble_eq_true rfl) rfl ?_
  have f0 : wfr [(42, 0), (42, 1), (42, 2), (42, 32)] T H H := wfr.rf
  show wp _ _ 290 0 [(0, .ref r0)] [] _ H _
  refine wp_of e290 c290_0 (rw_aload_n (pc' := 1) (v := .ref r0) rfl rfl rfl ?_)
  refine wp_of e290 c290_1 (rw_iconst (pc' := 2) rfl ?_)
  refine wp_of e290 c290_2 (xp_I (pc' := 5) lf_9_48 hW g0 sh_42 (by decide) (by decide) ty_42_0 rfl rfl (by omega) (by omega) ⟨by omega, by omega⟩ rfl (fun H221518 e221519 w221520 => ?_))
  have f221521 := f0.put' e221519 g0 rfl
  have k221522 : H221518 r0 0 = 0 := wq_u_s e221519
  refine wp_of e290 c290_5 (rw_aload_n (pc' := 6) (v := .ref r0) rfl rfl rfl ?_)
  refine wp_of e290 c290_6 (xg_O (pc' := 9) lf_9_337 w221520 g0 sh_42 (by decide) (by decide) ty_42_3 rfl rfl (fun q221524 => ?_) (fun r221523 q221524 g221525 => ?_))
  · refine wp_of e290 c290_9 (rw_ifnonnull_n (p1 := 18) (p2 := 12) (by decide) rfl ?_)
    refine wp_of e290 c290_12 (rw_aload_n (pc' := 13) (v := .ref r0) rfl rfl rfl ?_)
    refine wp_of e290 c290_13 (rw_iconst (pc' := 14) rfl ?_)
    refine wp_of e290 c290_14 (xc_V (pc' := 17) (r := r0) (as := [vI 1]) (st := []) (lm_9_400) rfl rfl (Nat.le_of_ble_eq_true rfl) w221520 g0 sh_42 (by decide) rfl (by decide) (s_223 w221520 g0 ⟨by omega, by omega⟩) (fun R221526 T221527 H221528 p221529 => ?_))
    obtain ⟨e221530, w221532, f221533, z221534, e221531, b221535⟩ := p221529
    subst e221530
    subst e221531
    have f221536 := f221521.tr f221533 rfl
    show wp _ _ 290 17 [(0, .ref r0)] [vI z221534] _ H221528 _
    have k221537 : wKI H221528 r0 = wKI H r0 := ((wKI_fr w221520 g0 f221533 rfl).trans (wKI_fr hW g0 ((wfr.rf (l := [(42, 0)])).put' e221519 g0 rfl) rfl))
    exact wp_zreturn e290 c290_17 rfl (by omega) ⟨rfl, w221532, f221536, z221534, rfl, ⟨by omega, by omega⟩, by omega⟩
  · refine wp_of e290 c290_9 (rw_ifnonnull_r (p1 := 18) (p2 := 12) (by decide) rfl ?_)
    refine wp_of e290 c290_18 (rw_aload_n (pc' := 19) (v := .ref r0) rfl rfl rfl ?_)
    refine wp_of e290 c290_19 (rw_iconst (pc' := 20) rfl ?_)
    refine wp_of e290 c290_20 (xp_I (pc' := 23) lf_9_340 w221520 g0 sh_42 (by decide) (by decide) ty_42_32 rfl rfl (by omega) (by omega) ⟨by omega, by omega⟩ rfl (fun H221538 e221539 w221540 => ?_))
    have f221541 := f221521.put' e221539 g0 rfl
    have k221542 : H221538 r0 32 = 0 := wq_u_s e221539
    refine wp_of e290 c290_23 (rw_aload_n (pc' := 24) (v := .ref r0) rfl rfl rfl ?_)
    refine wp_of e290 c290_24 (xc_V (pc' := 27) (r := r0) (as := []) (st := []) (lm_9_403) rfl rfl (Nat.le_of_ble_eq_true rfl) w221540 g0 sh_42 (by decide) rfl (by decide) (s_224 w221540 g0) (fun R221543 T221544 H221545 p221546 => ?_))
    obtain ⟨e221547, w221549, f221550, z221551, e221548, b221552⟩ := p221546
    subst e221547
    subst e221548
    have f221553 := f221541.tr f221550 rfl
    show wp _ _ 290 27 [(0, .ref r0)] [vI z221551] _ H221545 _
    have k221554 : wKI H221545 r0 = wKI H r0 := ((wKI_fr w221540 g0 f221550 rfl).trans ((wKI_fr w221520 g0 ((wfr.rf (l := [(42, 32)])).put' e221539 g0 rfl) rfl).trans (wKI_fr hW g0 ((wfr.rf (l := [(42, 0)])).put' e221519 g0 rfl) rfl)))
    exact wp_zreturn e290 c290_27 rfl (by omega) ⟨rfl, w221549, f221553, z221551, rfl, ⟨by omega, by omega⟩, by omega⟩
/-! StrikeAwakeModel.image()J -/
theorem e291 : wq_en 291 = some (9, 4, false, some FieldType.long) := rfl
theorem c291_0 : mc_cd 291 0 = some (.aload_n 0, 1) := by decide +kernel
theorem c291_1 : mc_cd 291 1 = some (.iconst 0, 1) := by decide +kernel
theorem c291_2 : mc_cd 291 2 = some (.putfield 48, 3) := by decide +kernel
theorem c291_5 : mc_cd 291 5 = some (.aload_n 0, 1) := by decide +kernel
theorem c291_6 : mc_cd 291 6 = some (.getfield 337, 3) := by decide +kernel
theorem c291_9 : mc_cd 291 9 = some (.ifnonnull 10, 3) := by decide +kernel
theorem c291_12 : mc_cd 291 12 = some (.aload_n 0, 1) := by decide +kernel
theorem c291_13 : mc_cd 291 13 = some (.iconst 1, 1) := by decide +kernel
theorem c291_14 : mc_cd 291 14 = some (.invokevirtual 54, 3) := by decide +kernel
theorem c291_17 : mc_cd 291 17 = some (.i2l, 1) := by decide +kernel
theorem c291_18 : mc_cd 291 18 = some (.lreturn, 1) := by decide +kernel
theorem c291_19 : mc_cd 291 19 = some (.aload_n 0, 1) := by decide +kernel
theorem c291_20 : mc_cd 291 20 = some (.getfield 340, 3) := by decide +kernel
theorem c291_23 : mc_cd 291 23 = some (.i2l, 1) := by decide +kernel
theorem c291_24 : mc_cd 291 24 = some (.lstore_n 1, 1) := by decide +kernel
theorem c291_25 : mc_cd 291 25 = some (.iconst 0, 1) := by decide +kernel
theorem c291_26 : mc_cd 291 26 = some (.istore_n 3, 1) := by decide +kernel
theorem c291_27 : mc_cd 291 27 = some (.iload_n 3, 1) := by decide +kernel
theorem c291_28 : mc_cd 291 28 = some (.aload_n 0, 1) := by decide +kernel
theorem c291_29 : mc_cd 291 29 = some (.getfield 337, 3) := by decide +kernel
theorem c291_32 : mc_cd 291 32 = some (.getfield 188, 3) := by decide +kernel
theorem c291_35 : mc_cd 291 35 = some (.if_icmp .ge 23, 3) := by decide +kernel
theorem c291_38 : mc_cd 291 38 = some (.ldc2_w 493, 3) := by decide +kernel
theorem c291_41 : mc_cd 291 41 = some (.lload_n 1, 1) := by decide +kernel
theorem c291_42 : mc_cd 291 42 = some (.lmul, 1) := by decide +kernel
theorem c291_43 : mc_cd 291 43 = some (.aload_n 0, 1) := by decide +kernel
theorem c291_44 : mc_cd 291 44 = some (.getfield 36, 3) := by decide +kernel
theorem c291_47 : mc_cd 291 47 = some (.iload_n 3, 1) := by decide +kernel
theorem c291_48 : mc_cd 291 48 = some (.iaload, 1) := by decide +kernel
theorem c291_49 : mc_cd 291 49 = some (.i2l, 1) := by decide +kernel
theorem c291_50 : mc_cd 291 50 = some (.ladd, 1) := by decide +kernel
theorem c291_51 : mc_cd 291 51 = some (.lstore_n 1, 1) := by decide +kernel
theorem c291_52 : mc_cd 291 52 = some (.iinc 3 1, 3) := by decide +kernel
theorem c291_55 : mc_cd 291 55 = some (.goto (-28), 3) := by decide +kernel
theorem c291_58 : mc_cd 291 58 = some (.aload_n 0, 1) := by decide +kernel
theorem c291_59 : mc_cd 291 59 = some (.lload_n 1, 1) := by decide +kernel
theorem c291_60 : mc_cd 291 60 = some (.invokevirtual 380, 3) := by decide +kernel
theorem c291_63 : mc_cd 291 63 = some (.lreturn, 1) := by decide +kernel
abbrev q_291 (r0 : Nat) (T : wq_T) (H : wq_H) : Option Value → wq_T → wq_H → Prop := fun r T' H' => T = T' ∧ WT T H' ∧ wfr [(42, 0), (42, 1), (42, 2)] T H H' ∧ ∃ z : Int, some (vL z) = r ∧ ((-9223372036854775808) ≤ z ∧ z ≤ 9223372036854775807) ∧ (wKI H' r0 = 1)
set_option maxHeartbeats 4000000 in
theorem s_291 {kt : Nat → Option mc_E} {T : wq_T} {H : wq_H} {r0 : Nat} (hW : WT T H) (g0 : T.2.2.2 r0 = some 42) (p0 : wKI H r0 = 1) : wpc kt 3 291 [.ref r0] T H (q_291 r0 T H) := by
  refine wp_enter e291 (Nat.le_of_ble_eq_true rfl) rfl ?_
  have f0 : wfr [(42, 0), (42, 1), (42, 2)] T H H := wfr.rf
  show wp _ _ 291 0 [(0, .ref r0)] [] _ H _
  refine wp_of e291 c291_0 (rw_aload_n (pc' := 1) (v := .ref r0) rfl rfl rfl ?_)
  refine wp_of e291 c291_1 (rw_iconst (pc' := 2) rfl ?_)
  refine wp_of e291 c291_2 (xp_I (pc' := 5) lf_9_48 hW g0 sh_42 (by decide) (by decide) ty_42_0 rfl rfl (by omega) (by omega) ⟨by omega, by omega⟩ rfl (fun H221688 e221689 w221690 => ?_))
  have f221691 := f0.put' e221689 g0 rfl
  have k221692 : H221688 r0 0 = 0 := wq_u_s e221689
  refine wp_of e291 c291_5 (rw_aload_n (pc' := 6) (v := .ref r0) rfl rfl rfl ?_)
  refine wp_of e291 c291_6 (xg_O (pc' := 9) lf_9_337 w221690 g0 sh_42 (by decide) (by decide) ty_42_3 rfl rfl (fun q221694 => ?_) (fun r221693 q221694 g221695 => ?_))
  · refine wp_of e291 c291_9 (rw_ifnonnull_n (p1 := 19) (p2 := 12) (by decide) rfl ?_)
    refine wp_of e291 c291_12 (rw_aload_n (pc' := 13) (v := .ref r0) rfl rfl rfl ?_)
    refine wp_of e291 c291_13 (rw_iconst (pc' := 14) rfl ?_)
    refine wp_of e291 c291_14 (xc_V (pc' := 17) (r := r0) (as := [vI 1]) (st := []) (lm_9_54) rfl rfl (Nat.le_of_ble_eq_true rfl) w221690 g0 sh_42 (by decide) rfl (by decide) (s_170 w221690 g0 ⟨by omega, by omega⟩) (fun R221696 T221697 H221698 p221699 => ?_))
    obtain ⟨e221700, w221702, f221703, z221704, e221701, b221705⟩ := p221699
    subst e221700
    subst e221701
    have f221706 := f221691.tr f221703 rfl
    show wp _ _ 291 17 [(0, .ref r0)] [vI z221704] _ H221698 _
    refine wp_of e291 c291_17 (rw_i2l (pc' := 18) rfl ⟨by omega, by omega⟩ ?_)
    have k221707 : wKI H221698 r0 = wKI H r0 := ((wKI_fr w221690 g0 f221703 rfl).trans (wKI_fr hW g0 ((wfr.rf (l := [(42, 0)])).put' e221689 g0 rfl) rfl))
    exact wp_lreturn e291 c291_18 rfl ⟨rfl, w221702, f221706, z221704, rfl, ⟨by omega, by omega⟩, by omega⟩
  · refine wp_of e291 c291_9 (rw_ifnonnull_r (p1 := 19) (p2 := 12) (by decide) rfl ?_)
    refine wp_of e291 c291_19 (rw_aload_n (pc' := 20) (v := .ref r0) rfl rfl rfl ?_)
    refine wp_of e291 c291_20 (xg_I (pc' := 23) lf_9_340 w221690 g0 sh_42 (by decide) (by decide) ty_42_32 rfl rfl (fun b221708 b221709 => ?_))
    refine wp_of e291 c291_23 (rw_i2l (pc' := 24) rfl ⟨by omega, by omega⟩ ?_)
    refine wp_of e291 c291_24 (rw_lstore_n (pc' := 25) (z := H221688 r0 32) (L' := [(1, vL (H221688 r0 32)), (0, .ref r0)]) rfl rfl rfl ?_)
    refine wp_of e291 c291_25 (rw_iconst (pc' := 26) rfl ?_)
    refine wp_of e291 c291_26 (rw_istore_n (pc' := 27) (z := 0) (L' := [(3, vI 0), (1, vL (H221688 r0 32)), (0, .ref r0)]) rfl rfl rfl ?_)
    have lp221796 : ∀ (n221797 : Nat) (v221799 : Int) (v221800 : Int), (0 ≤ v221799 ∧ v221799 ≤ 6) → ((-9223372036854775808) ≤ v221800 ∧ v221800 ≤ 9223372036854775807) → (6 - v221799).toNat = n221797 → wp kt 2 291 27 [(3, vI v221799), (1, vL v221800), (0, .ref r0)] [] T H221688 (q_291 r0 T H) := by
      intro n221797
      induction n221797 using Nat.strongRecOn with
      | _ n221797 ih221798 =>
        intro v221799 v221800 b221803 b221804 m221805
        refine wp_of e291 c291_27 (rw_iload_n (pc' := 28) (z := v221799) rfl rfl ?_)
        refine wp_of e291 c291_28 (rw_aload_n (pc' := 29) (v := .ref r0) rfl rfl rfl ?_)
        refine wp_of e291 c291_29 (xg_K (pc' := 32) lf_9_337 w221690 g0 sh_42 (by decide) (by decide) rfl q221694 rfl ?_)
        refine wp_of e291 c291_32 (xg_I (pc' := 35) lf_9_188 w221690 g221695 sh_54 (by decide) (by decide) ty_54_3 rfl rfl (fun b221806 b221807 => ?_))
        refine wp_of e291 c291_35 (rw_icmp_ge (p1 := 58) (p2 := 38) (by decide) rfl ⟨by omega, by omega⟩ ⟨by omega, by omega⟩ (fun c221808 => ?_) (fun c221808 => ?_))
        · refine wp_of e291 c291_58 (rw_aload_n (pc' := 59) (v := .ref r0) rfl rfl rfl ?_)
          refine wp_of e291 c291_59 (rw_lload_n (pc' := 60) (z := v221800) rfl rfl ?_)
          refine wp_of e291 c291_60 (xc_V (pc' := 63) (r := r0) (as := [vL v221800]) (st := []) (lm_9_380) rfl rfl (Nat.le_of_ble_eq_true rfl) w221690 g0 sh_42 (by decide) rfl (by decide) (s_221 w221690 g0 ⟨by omega, by omega⟩) (fun R221809 T221810 H221811 p221812 => ?_))
          obtain ⟨e221813, w221815, f221816, z221817, e221814, b221818⟩ := p221812
          subst e221813
          subst e221814
          have f221819 := f221691.tr f221816 rfl
          show wp _ _ 291 63 [(3, vI v221799), (1, vL v221800), (0, .ref r0)] [vL z221817] _ H221811 _
          have k221820 : wKI H221811 r0 = wKI H r0 := ((wKI_fr w221690 g0 f221816 rfl).trans (wKI_fr hW g0 ((wfr.rf (l := [(42, 0)])).put' e221689 g0 rfl) rfl))
          exact wp_lreturn e291 c291_63 rfl ⟨rfl, w221815, f221819, z221817, rfl, ⟨by omega, by omega⟩, by omega⟩
        · refine wp_of e291 c291_38 (rw_ldc2 (pc' := 41) (z := 40) rfl rfl rfl ?_)
          refine wp_of e291 c291_41 (rw_lload_n (pc' := 42) (z := v221800) rfl rfl ?_)
          refine wp_of e291 c291_42 (rw_lmulw (pc' := 43) rfl ?_)
          obtain ⟨v221821, e221822⟩ : ∃ x : Int, x = wl_w (40 * v221800) := ⟨_, rfl⟩
          rw [← e221822]
          have b221823 : -9223372036854775808 ≤ v221821 ∧ v221821 ≤ 9223372036854775807 := by
            rw [e221822]
            exact wL_w _
          refine wp_of e291 c291_43 (rw_aload_n (pc' := 44) (v := .ref r0) rfl rfl rfl ?_)
          refine wp_of e291 c291_44 (xg_R (pc' := 47) lf_9_36 w221690 g0 sh_42 (by decide) (by decide) ty_42_26 rfl rfl (fun r221824 q221825 g221826 => ?_))
          refine wp_of e291 c291_47 (rw_iload_n (pc' := 48) (z := v221799) rfl rfl ?_)
          refine wp_of e291 c291_48 (xa_I (so := 0) (pc' := 49) w221690 g221826 sh_50 (by decide) (ty_50 _) (by omega) (by omega) rfl (fun b221827 b221828 => ?_))
          refine wp_of e291 c291_49 (rw_i2l (pc' := 50) rfl ⟨by omega, by omega⟩ ?_)
          refine wp_of e291 c291_50 (rw_laddw (pc' := 51) rfl ?_)
          obtain ⟨v221829, e221830⟩ : ∃ x : Int, x = wl_w (v221821 + (H221688 r221824 (v221799.toNat))) := ⟨_, rfl⟩
          rw [← e221830]
          have b221831 : -9223372036854775808 ≤ v221829 ∧ v221829 ≤ 9223372036854775807 := by
            rw [e221830]
            exact wL_w _
          refine wp_of e291 c291_51 (rw_lstore_n (pc' := 52) (z := v221829) (L' := [(1, vL v221829), (3, vI v221799), (0, .ref r0)]) rfl rfl rfl ?_)
          refine wp_of e291 c291_52 (rw_iinc (pc' := 55) (z := v221799) (L' := [(3, vI (v221799 + 1)), (1, vL v221829), (0, .ref r0)]) rfl rfl rfl rfl ?_)
          refine wp_of e291 c291_55 (rw_goto (p1 := 27) (by decide) ?_)
          exact wp_lc (ks := [3, 1, 0]) (wl_c rfl (wl_c rfl (wl_c rfl wl_n))) rfl (by decide) (ih221798 _ (by omega) (v221799 + 1) v221829 ⟨by omega, by omega⟩ ⟨by omega, by omega⟩ rfl)
    exact wp_lc (ks := [3, 1, 0]) (wl_c rfl (wl_c rfl (wl_c rfl wl_n))) rfl (by decide) (lp221796 _ 0 (H221688 r0 32) ⟨by omega, by omega⟩ ⟨by omega, by omega⟩ rfl)
/-! StrikeAwakeModel.restore(J)Z -/
theorem e292 : wq_en 292 = some (9, 7, false, some FieldType.boolean) := rfl
theorem c292_0 : mc_cd 292 0 = some (.aload_n 0, 1) := by decide +kernel
theorem c292_1 : mc_cd 292 1 = some (.iconst 0, 1) := by decide +kernel
theorem c292_2 : mc_cd 292 2 = some (.putfield 48, 3) := by decide +kernel
theorem c292_5 : mc_cd 292 5 = some (.aload_n 0, 1) := by decide +kernel
theorem c292_6 : mc_cd 292 6 = some (.getfield 337, 3) := by decide +kernel
theorem c292_9 : mc_cd 292 9 = some (.ifnonnull 9, 3) := by decide +kernel
theorem c292_12 : mc_cd 292 12 = some (.aload_n 0, 1) := by decide +kernel
theorem c292_13 : mc_cd 292 13 = some (.iconst 1, 1) := by decide +kernel
theorem c292_14 : mc_cd 292 14 = some (.invokevirtual 400, 3) := by decide +kernel
theorem c292_17 : mc_cd 292 17 = some (.ireturn, 1) := by decide +kernel
theorem c292_18 : mc_cd 292 18 = some (.lload_n 1, 1) := by decide +kernel
theorem c292_19 : mc_cd 292 19 = some (.lstore_n 3, 1) := by decide +kernel
theorem c292_20 : mc_cd 292 20 = some (.lload_n 1, 1) := by decide +kernel
theorem c292_21 : mc_cd 292 21 = some (.lconst 0, 1) := by decide +kernel
theorem c292_22 : mc_cd 292 22 = some (.lcmp, 1) := by decide +kernel
theorem c292_23 : mc_cd 292 23 = some (.ifCond .lt 7, 3) := by decide +kernel
theorem c292_26 : mc_cd 292 26 = some (.iconst 1, 1) := by decide +kernel
theorem c292_27 : mc_cd 292 27 = some (.goto 4, 3) := by decide +kernel
theorem c292_30 : mc_cd 292 30 = some (.iconst 0, 1) := by decide +kernel
theorem c292_31 : mc_cd 292 31 = some (.istore 5, 2) := by decide +kernel
theorem c292_33 : mc_cd 292 33 = some (.aload_n 0, 1) := by decide +kernel
theorem c292_34 : mc_cd 292 34 = some (.getfield 337, 3) := by decide +kernel
theorem c292_37 : mc_cd 292 37 = some (.getfield 188, 3) := by decide +kernel
theorem c292_40 : mc_cd 292 40 = some (.iconst 1, 1) := by decide +kernel
theorem c292_41 : mc_cd 292 41 = some (.isub, 1) := by decide +kernel
theorem c292_42 : mc_cd 292 42 = some (.istore 6, 2) := by decide +kernel
theorem c292_44 : mc_cd 292 44 = some (.iload 6, 2) := by decide +kernel
theorem c292_46 : mc_cd 292 46 = some (.ifCond .lt 67, 3) := by decide +kernel
theorem c292_49 : mc_cd 292 49 = some (.iload 5, 2) := by decide +kernel
theorem c292_51 : mc_cd 292 51 = some (.ifCond .eq 62, 3) := by decide +kernel
theorem c292_54 : mc_cd 292 54 = some (.aload_n 0, 1) := by decide +kernel
theorem c292_55 : mc_cd 292 55 = some (.getfield 45, 3) := by decide +kernel
theorem c292_58 : mc_cd 292 58 = some (.iload 6, 2) := by decide +kernel
theorem c292_60 : mc_cd 292 60 = some (.lload_n 3, 1) := by decide +kernel
theorem c292_61 : mc_cd 292 61 = some (.ldc2_w 493, 3) := by decide +kernel
theorem c292_64 : mc_cd 292 64 = some (.lrem, 1) := by decide +kernel
theorem c292_65 : mc_cd 292 65 = some (.l2i, 1) := by decide +kernel
theorem c292_66 : mc_cd 292 66 = some (.iastore, 1) := by decide +kernel
theorem c292_67 : mc_cd 292 67 = some (.aload_n 0, 1) := by decide +kernel
theorem c292_68 : mc_cd 292 68 = some (.getfield 45, 3) := by decide +kernel
theorem c292_71 : mc_cd 292 71 = some (.iload 6, 2) := by decide +kernel
theorem c292_73 : mc_cd 292 73 = some (.iaload, 1) := by decide +kernel
theorem c292_74 : mc_cd 292 74 = some (.ifCond .eq 20, 3) := by decide +kernel
theorem c292_77 : mc_cd 292 77 = some (.aload_n 0, 1) := by decide +kernel
theorem c292_78 : mc_cd 292 78 = some (.getfield 45, 3) := by decide +kernel
theorem c292_81 : mc_cd 292 81 = some (.iload 6, 2) := by decide +kernel
theorem c292_83 : mc_cd 292 83 = some (.iaload, 1) := by decide +kernel
theorem c292_84 : mc_cd 292 84 = some (.aload_n 0, 1) := by decide +kernel
theorem c292_85 : mc_cd 292 85 = some (.getfield 21, 3) := by decide +kernel
theorem c292_88 : mc_cd 292 88 = some (.iload 6, 2) := by decide +kernel
theorem c292_90 : mc_cd 292 90 = some (.iaload, 1) := by decide +kernel
theorem c292_91 : mc_cd 292 91 = some (.if_icmp .ge 7, 3) := by decide +kernel
theorem c292_94 : mc_cd 292 94 = some (.iconst 1, 1) := by decide +kernel
theorem c292_95 : mc_cd 292 95 = some (.goto 4, 3) := by decide +kernel
theorem c292_98 : mc_cd 292 98 = some (.iconst 0, 1) := by decide +kernel
theorem c292_99 : mc_cd 292 99 = some (.istore 5, 2) := by decide +kernel
theorem c292_101 : mc_cd 292 101 = some (.lload_n 3, 1) := by decide +kernel
theorem c292_102 : mc_cd 292 102 = some (.ldc2_w 493, 3) := by decide +kernel
theorem c292_105 : mc_cd 292 105 = some (.ldiv, 1) := by decide +kernel
theorem c292_106 : mc_cd 292 106 = some (.lstore_n 3, 1) := by decide +kernel
theorem c292_107 : mc_cd 292 107 = some (.iinc 6 (-1), 3) := by decide +kernel
theorem c292_110 : mc_cd 292 110 = some (.goto (-66), 3) := by decide +kernel
theorem c292_113 : mc_cd 292 113 = some (.iload 5, 2) := by decide +kernel
theorem c292_115 : mc_cd 292 115 = some (.ifCond .eq 11, 3) := by decide +kernel
theorem c292_118 : mc_cd 292 118 = some (.lload_n 3, 1) := by decide +kernel
theorem c292_119 : mc_cd 292 119 = some (.ldc2_w 428, 3) := by decide +kernel
theorem c292_122 : mc_cd 292 122 = some (.lcmp, 1) := by decide +kernel
theorem c292_123 : mc_cd 292 123 = some (.ifCond .le 9, 3) := by decide +kernel
theorem c292_126 : mc_cd 292 126 = some (.aload_n 0, 1) := by decide +kernel
theorem c292_127 : mc_cd 292 127 = some (.iconst 2, 1) := by decide +kernel
theorem c292_128 : mc_cd 292 128 = some (.invokevirtual 400, 3) := by decide +kernel
theorem c292_131 : mc_cd 292 131 = some (.ireturn, 1) := by decide +kernel
theorem c292_132 : mc_cd 292 132 = some (.iconst 0, 1) := by decide +kernel
theorem c292_133 : mc_cd 292 133 = some (.istore 6, 2) := by decide +kernel
theorem c292_135 : mc_cd 292 135 = some (.iload 6, 2) := by decide +kernel
theorem c292_137 : mc_cd 292 137 = some (.aload_n 0, 1) := by decide +kernel
theorem c292_138 : mc_cd 292 138 = some (.getfield 337, 3) := by decide +kernel
theorem c292_141 : mc_cd 292 141 = some (.getfield 188, 3) := by decide +kernel
theorem c292_144 : mc_cd 292 144 = some (.if_icmp .ge 23, 3) := by decide +kernel
theorem c292_147 : mc_cd 292 147 = some (.aload_n 0, 1) := by decide +kernel
theorem c292_148 : mc_cd 292 148 = some (.getfield 36, 3) := by decide +kernel
theorem c292_151 : mc_cd 292 151 = some (.iload 6, 2) := by decide +kernel
theorem c292_153 : mc_cd 292 153 = some (.aload_n 0, 1) := by decide +kernel
theorem c292_154 : mc_cd 292 154 = some (.getfield 45, 3) := by decide +kernel
theorem c292_157 : mc_cd 292 157 = some (.iload 6, 2) := by decide +kernel
theorem c292_159 : mc_cd 292 159 = some (.iaload, 1) := by decide +kernel
theorem c292_160 : mc_cd 292 160 = some (.iastore, 1) := by decide +kernel
theorem c292_161 : mc_cd 292 161 = some (.iinc 6 1, 3) := by decide +kernel
theorem c292_164 : mc_cd 292 164 = some (.goto (-29), 3) := by decide +kernel
theorem c292_167 : mc_cd 292 167 = some (.aload_n 0, 1) := by decide +kernel
theorem c292_168 : mc_cd 292 168 = some (.lload_n 3, 1) := by decide +kernel
theorem c292_169 : mc_cd 292 169 = some (.l2i, 1) := by decide +kernel
theorem c292_170 : mc_cd 292 170 = some (.putfield 340, 3) := by decide +kernel
theorem c292_173 : mc_cd 292 173 = some (.aload_n 0, 1) := by decide +kernel
theorem c292_174 : mc_cd 292 174 = some (.invokevirtual 403, 3) := by decide +kernel
theorem c292_177 : mc_cd 292 177 = some (.ireturn, 1) := by decide +kernel
abbrev q_292 (r0 : Nat) (a1 : Int) (T : wq_T) (H : wq_H) : Option Value → wq_T → wq_H → Prop := fun r T' H' => T = T' ∧ WT T H' ∧ wfr [(42, 0), (42, 1), (42, 2), (42, 32), (53, 999), (50, 999)] T H H' ∧ ∃ z : Int, some (vI z) = r ∧ (0 ≤ z ∧ z ≤ 1) ∧ (wKI H' r0 = 1)
set_option maxHeartbeats 4000000 in
theorem s_292 {kt : Nat → Option mc_E} {T : wq_T} {H : wq_H} {r0 : Nat} {a1 : Int} (hW : WT T H) (g0 : T.2.2.2 r0 = some 42) (i1 : (-9223372036854775808) ≤ a1 ∧ a1 ≤ 9223372036854775807) (p0 : wKI H r0 = 1) : wpc kt 3 292 [.ref r0, vL a1] T H (q_292 r0 a1 T H) := by
  refine wp_enter e292 (Nat.le_of_ble_eq_true rfl) rfl ?_
  have f0 : wfr [(42, 0), (42, 1), (42, 2), (42, 32), (53, 999), (50, 999)] T H H := wfr.rf
  show wp _ _ 292 0 [(0, .ref r0), (1, vL a1)] [] _ H _
  refine wp_of e292 c292_0 (rw_aload_n (pc' := 1) (v := .ref r0) rfl rfl rfl ?_)
  refine wp_of e292 c292_1 (rw_iconst (pc' := 2) rfl ?_)
  refine wp_of e292 c292_2 (xp_I (pc' := 5) lf_9_48 hW g0 sh_42 (by decide) (by decide) ty_42_0 rfl rfl (by omega) (by omega) ⟨by omega, by omega⟩ rfl (fun H222190 e222191 w222192 => ?_))
  have f222193 := f0.put' e222191 g0 rfl
  have k222194 : H222190 r0 0 = 0 := wq_u_s e222191
  refine wp_of e292 c292_5 (rw_aload_n (pc' := 6) (v := .ref r0) rfl rfl rfl ?_)
  refine wp_of e292 c292_6 (xg_O (pc' := 9) lf_9_337 w222192 g0 sh_42 (by decide) (by decide) ty_42_3 rfl rfl (fun q222196 => ?_) (fun r222195 q222196 g222197 => ?_))
  · refine wp_of e292 c292_9 (rw_ifnonnull_n (p1 := 18) (p2 := 12) (by decide) rfl ?_)
    refine wp_of e292 c292_12 (rw_aload_n (pc' := 13) (v := .ref r0) rfl rfl rfl ?_)
    refine wp_of e292 c292_13 (rw_iconst (pc' := 14) rfl ?_)
    refine wp_of e292 c292_14 (xc_V (pc' := 17) (r := r0) (as := [vI 1]) (st := []) (lm_9_400) rfl rfl (Nat.le_of_ble_eq_true rfl) w222192 g0 sh_42 (by decide) rfl (by decide) (s_223 w222192 g0 ⟨by omega, by omega⟩) (fun R222198 T222199 H222200 p222201 => ?_))
    obtain ⟨e222202, w222204, f222205, z222206, e222203, b222207⟩ := p222201
    subst e222202
    subst e222203
    have f222208 := f222193.tr f222205 rfl
    show wp _ _ 292 17 [(0, .ref r0), (1, vL a1)] [vI z222206] _ H222200 _
    have k222209 : wKI H222200 r0 = wKI H r0 := ((wKI_fr w222192 g0 f222205 rfl).trans (wKI_fr hW g0 ((wfr.rf (l := [(42, 0)])).put' e222191 g0 rfl) rfl))
    exact wp_zreturn e292 c292_17 rfl (by omega) ⟨rfl, w222204, f222208, z222206, rfl, ⟨by omega, by omega⟩, by omega⟩
  · refine wp_of e292 c292_9 (rw_ifnonnull_r (p1 := 18) (p2 := 12) (by decide) rfl ?_)
    refine wp_of e292 c292_18 (rw_lload_n (pc' := 19) (z := a1) rfl rfl ?_)
    refine wp_of e292 c292_19 (rw_lstore_n (pc' := 20) (z := a1) (L' := [(3, vL a1), (0, .ref r0), (1, vL a1)]) rfl rfl rfl ?_)
    refine wp_of e292 c292_20 (rw_lload_n (pc' := 21) (z := a1) rfl rfl ?_)
    refine wp_of e292 c292_21 (rw_lconst (pc' := 22) (z := 0) rfl rfl ?_)
    refine wp_of e292 c292_22 (rw_lcmp (pc' := 23) rfl ⟨by omega, by omega⟩ ⟨by omega, by omega⟩ ?_)
    have b222210 := wq_cmp_b a1 0
    refine wp_of e292 c292_23 (rw_if_lt (p1 := 30) (p2 := 26) (by decide) rfl ⟨by omega, by omega⟩ (fun c222211 => ?_) (fun c222211 => ?_))
    · refine wp_of e292 c292_30 (rw_iconst (pc' := 31) rfl ?_)
      refine wp_of e292 c292_31 (rw_istore (pc' := 33) (z := 0) (L' := [(5, vI 0), (3, vL a1), (0, .ref r0), (1, vL a1)]) rfl rfl rfl ?_)
      refine wp_of e292 c292_33 (rw_aload_n (pc' := 34) (v := .ref r0) rfl rfl rfl ?_)
      refine wp_of e292 c292_34 (xg_K (pc' := 37) lf_9_337 w222192 g0 sh_42 (by decide) (by decide) rfl q222196 rfl ?_)
      refine wp_of e292 c292_37 (xg_I (pc' := 40) lf_9_188 w222192 g222197 sh_54 (by decide) (by decide) ty_54_3 rfl rfl (fun b222212 b222213 => ?_))
      refine wp_of e292 c292_40 (rw_iconst (pc' := 41) rfl ?_)
      refine wp_of e292 c292_41 (rw_isub (pc' := 42) rfl ?_)
      refine wp_of e292 c292_42 (rw_istore (pc' := 44) (z := (H222190 r222195 3) - 1) (L' := [(6, vI ((H222190 r222195 3) - 1)), (5, vI 0), (3, vL a1), (0, .ref r0), (1, vL a1)]) rfl rfl rfl ?_)
      have lp222216 : ∀ (n222217 : Nat) (v222219 : Int) (v222220 : Int) (v222221 : Int), ((-1) ≤ v222219 ∧ v222219 ≤ 5) → (0 ≤ v222220 ∧ v222220 ≤ 0) → ((-9223372036854775808) ≤ v222221 ∧ v222221 ≤ (-1)) → (v222220 = 0 ∨ 0 ≤ v222221) → 0 = n222217 → wp kt 2 292 44 [(6, vI v222219), (5, vI v222220), (3, vL v222221), (0, .ref r0)] [] T H222190 (q_292 r0 a1 T H) := by
        intro n222217
        induction n222217 using Nat.strongRecOn with
        | _ n222217 ih222218 =>
          intro v222219 v222220 v222221 b222224 b222225 b222226 x222227 m222228
          refine wp_of e292 c292_44 (rw_iload (pc' := 46) (z := v222219) rfl rfl ?_)
          refine wp_of e292 c292_46 (rw_if_lt (p1 := 113) (p2 := 49) (by decide) rfl ⟨by omega, by omega⟩ (fun c222229 => ?_) (fun c222229 => ?_))
          · refine wp_of e292 c292_113 (rw_iload (pc' := 115) (z := v222220) rfl rfl ?_)
            refine wp_of e292 c292_115 (rw_if_eq (p1 := 126) (p2 := 118) (by decide) rfl ⟨by omega, by omega⟩ (fun c222230 => ?_) (fun c222230 => ?_))
            · refine wp_of e292 c292_126 (rw_aload_n (pc' := 127) (v := .ref r0) rfl rfl rfl ?_)
              refine wp_of e292 c292_127 (rw_iconst (pc' := 128) rfl ?_)
              refine wp_of e292 c292_128 (xc_V (pc' := 131) (r := r0) (as := [vI 2]) (st := []) (lm_9_400) rfl rfl (Nat.le_of_ble_eq_true rfl) w222192 g0 sh_42 (by decide) rfl (by decide) (s_223 w222192 g0 ⟨by omega, by omega⟩) (fun R222231 T222232 H222233 p222234 => ?_))
              obtain ⟨e222235, w222237, f222238, z222239, e222236, b222240⟩ := p222234
              subst e222235
              subst e222236
              have f222241 := f222193.tr f222238 rfl
              show wp _ _ 292 131 [(6, vI v222219), (5, vI v222220), (3, vL v222221), (0, .ref r0)] [vI z222239] _ H222233 _
              have k222242 : wKI H222233 r0 = wKI H r0 := ((wKI_fr w222192 g0 f222238 rfl).trans (wKI_fr hW g0 ((wfr.rf (l := [(42, 0)])).put' e222191 g0 rfl) rfl))
              exact wp_zreturn e292 c292_131 rfl (by omega) ⟨rfl, w222237, f222241, z222239, rfl, ⟨by omega, by omega⟩, by omega⟩
            · exfalso
              omega
          · refine wp_of e292 c292_49 (rw_iload (pc' := 51) (z := v222220) rfl rfl ?_)
            refine wp_of e292 c292_51 (rw_if_eq (p1 := 113) (p2 := 54) (by decide) rfl ⟨by omega, by omega⟩ (fun c222243 => ?_) (fun c222243 => ?_))
            · refine wp_of e292 c292_113 (rw_iload (pc' := 115) (z := v222220) rfl rfl ?_)
              refine wp_of e292 c292_115 (rw_if_eq (p1 := 126) (p2 := 118) (by decide) rfl ⟨by omega, by omega⟩ (fun c222244 => ?_) (fun c222244 => ?_))
              · refine wp_of e292 c292_126 (rw_aload_n (pc' := 127) (v := .ref r0) rfl rfl rfl ?_)
                refine wp_of e292 c292_127 (rw_iconst (pc' := 128) rfl ?_)
                refine wp_of e292 c292_128 (xc_V (pc' := 131) (r := r0) (as := [vI 2]) (st := []) (lm_9_400) rfl rfl (Nat.le_of_ble_eq_true rfl) w222192 g0 sh_42 (by decide) rfl (by decide) (s_223 w222192 g0 ⟨by omega, by omega⟩) (fun R222245 T222246 H222247 p222248 => ?_))
                obtain ⟨e222249, w222251, f222252, z222253, e222250, b222254⟩ := p222248
                subst e222249
                subst e222250
                have f222255 := f222193.tr f222252 rfl
                show wp _ _ 292 131 [(6, vI v222219), (5, vI v222220), (3, vL v222221), (0, .ref r0)] [vI z222253] _ H222247 _
                have k222256 : wKI H222247 r0 = wKI H r0 := ((wKI_fr w222192 g0 f222252 rfl).trans (wKI_fr hW g0 ((wfr.rf (l := [(42, 0)])).put' e222191 g0 rfl) rfl))
                exact wp_zreturn e292 c292_131 rfl (by omega) ⟨rfl, w222251, f222255, z222253, rfl, ⟨by omega, by omega⟩, by omega⟩
              · exfalso
                omega
            · exfalso
              omega
      exact wp_lc (ks := [6, 5, 3, 0, 1]) (wl_c rfl (wl_c rfl (wl_c rfl (wl_c rfl wl_n)))) rfl (by decide) (lp222216 _ ((H222190 r222195 3) - 1) 0 a1 ⟨by omega, by omega⟩ ⟨by omega, by omega⟩ ⟨by omega, by omega⟩ (by omega) rfl)
    · refine wp_of e292 c292_26 (rw_iconst (pc' := 27) rfl ?_)
      refine wp_of e292 c292_27 (rw_goto (p1 := 31) (by decide) ?_)
      refine wp_of e292 c292_31 (rw_istore (pc' := 33) (z := 1) (L' := [(5, vI 1), (3, vL a1), (0, .ref r0), (1, vL a1)]) rfl rfl rfl ?_)
      refine wp_of e292 c292_33 (rw_aload_n (pc' := 34) (v := .ref r0) rfl rfl rfl ?_)
      refine wp_of e292 c292_34 (xg_K (pc' := 37) lf_9_337 w222192 g0 sh_42 (by decide) (by decide) rfl q222196 rfl ?_)
      refine wp_of e292 c292_37 (xg_I (pc' := 40) lf_9_188 w222192 g222197 sh_54 (by decide) (by decide) ty_54_3 rfl rfl (fun b222257 b222258 => ?_))
      refine wp_of e292 c292_40 (rw_iconst (pc' := 41) rfl ?_)
      refine wp_of e292 c292_41 (rw_isub (pc' := 42) rfl ?_)
      refine wp_of e292 c292_42 (rw_istore (pc' := 44) (z := (H222190 r222195 3) - 1) (L' := [(6, vI ((H222190 r222195 3) - 1)), (5, vI 1), (3, vL a1), (0, .ref r0), (1, vL a1)]) rfl rfl rfl ?_)
      have lp222323 : ∀ (n222324 : Nat) (v222326 : Int) (v222327 : Int) (v222328 : Int) (H222329 : wq_H), WT T H222329 → wfr [(53, 999)] T H222190 H222329 → ((-1) ≤ v222326 ∧ v222326 ≤ 5) → (0 ≤ v222327 ∧ v222327 ≤ 1) → (0 ≤ v222328 ∧ v222328 ≤ 9223372036854775807) → (v222327 = 0 ∨ 0 ≤ v222328) → (v222326 - (-1)).toNat = n222324 → wp kt 2 292 44 [(6, vI v222326), (5, vI v222327), (3, vL v222328), (0, .ref r0)] [] T H222329 (q_292 r0 a1 T H) := by
        intro n222324
        induction n222324 using Nat.strongRecOn with
        | _ n222324 ih222325 =>
          intro v222326 v222327 v222328 H222329 w222330 f222331 b222332 b222333 b222334 x222335 m222336
          have f222337 := f222193.tr f222331 rfl
          refine wp_of e292 c292_44 (rw_iload (pc' := 46) (z := v222326) rfl rfl ?_)
          refine wp_of e292 c292_46 (rw_if_lt (p1 := 113) (p2 := 49) (by decide) rfl ⟨by omega, by omega⟩ (fun c222338 => ?_) (fun c222338 => ?_))
          · refine wp_of e292 c292_113 (rw_iload (pc' := 115) (z := v222327) rfl rfl ?_)
            refine wp_of e292 c292_115 (rw_if_eq (p1 := 126) (p2 := 118) (by decide) rfl ⟨by omega, by omega⟩ (fun c222339 => ?_) (fun c222339 => ?_))
            · refine wp_of e292 c292_126 (rw_aload_n (pc' := 127) (v := .ref r0) rfl rfl rfl ?_)
              refine wp_of e292 c292_127 (rw_iconst (pc' := 128) rfl ?_)
              refine wp_of e292 c292_128 (xc_V (pc' := 131) (r := r0) (as := [vI 2]) (st := []) (lm_9_400) rfl rfl (Nat.le_of_ble_eq_true rfl) w222330 g0 sh_42 (by decide) rfl (by decide) (s_223 w222330 g0 ⟨by omega, by omega⟩) (fun R222340 T222341 H222342 p222343 => ?_))
              obtain ⟨e222344, w222346, f222347, z222348, e222345, b222349⟩ := p222343
              subst e222344
              subst e222345
              have f222350 := f222337.tr f222347 rfl
              show wp _ _ 292 131 [(6, vI v222326), (5, vI v222327), (3, vL v222328), (0, .ref r0)] [vI z222348] _ H222342 _
              have k222351 : wKI H222342 r0 = wKI H r0 := ((wKI_fr w222330 g0 f222347 rfl).trans ((wKI_fr w222192 g0 f222331 rfl).trans (wKI_fr hW g0 ((wfr.rf (l := [(42, 0)])).put' e222191 g0 rfl) rfl)))
              exact wp_zreturn e292 c292_131 rfl (by omega) ⟨rfl, w222346, f222350, z222348, rfl, ⟨by omega, by omega⟩, by omega⟩
            · refine wp_of e292 c292_118 (rw_lload_n (pc' := 119) (z := v222328) rfl rfl ?_)
              refine wp_of e292 c292_119 (rw_ldc2 (pc' := 122) (z := 20000) rfl rfl rfl ?_)
              refine wp_of e292 c292_122 (rw_lcmp (pc' := 123) rfl ⟨by omega, by omega⟩ ⟨by omega, by omega⟩ ?_)
              have b222352 := wq_cmp_b v222328 20000
              refine wp_of e292 c292_123 (rw_if_le (p1 := 132) (p2 := 126) (by decide) rfl ⟨by omega, by omega⟩ (fun c222353 => ?_) (fun c222353 => ?_))
              · refine wp_of e292 c292_132 (rw_iconst (pc' := 133) rfl ?_)
                refine wp_of e292 c292_133 (rw_istore (pc' := 135) (z := 0) (L' := [(6, vI 0), (5, vI v222327), (3, vL v222328), (0, .ref r0)]) rfl rfl rfl ?_)
                have lp222480 : ∀ (n222481 : Nat) (v222483 : Int) (H222484 : wq_H), WT T H222484 → wfr [(50, 999)] T H222329 H222484 → (0 ≤ v222483 ∧ v222483 ≤ 6) → (6 - v222483).toNat = n222481 → wp kt 2 292 135 [(6, vI v222483), (3, vL v222328), (0, .ref r0)] [] T H222484 (q_292 r0 a1 T H) := by
                  intro n222481
                  induction n222481 using Nat.strongRecOn with
                  | _ n222481 ih222482 =>
                    intro v222483 H222484 w222485 f222486 b222487 m222488
                    have f222489 := f222337.tr f222486 rfl
                    refine wp_of e292 c292_135 (rw_iload (pc' := 137) (z := v222483) rfl rfl ?_)
                    refine wp_of e292 c292_137 (rw_aload_n (pc' := 138) (v := .ref r0) rfl rfl rfl ?_)
                    have k222490 : H222484 r0 3 = H222190 r0 3 := ((f222486 r0 3 _ g0 rfl).trans (f222331 r0 3 _ g0 rfl))
                    have q222491 : H222484 r0 3 = (r222195 : Int) := k222490.trans q222196
                    refine wp_of e292 c292_138 (xg_K (pc' := 141) lf_9_337 w222485 g0 sh_42 (by decide) (by decide) rfl q222491 rfl ?_)
                    have k222492 : H222484 r222195 3 = H222190 r222195 3 := ((f222486 r222195 3 _ g222197 rfl).trans (f222331 r222195 3 _ g222197 rfl))
                    refine wp_of e292 c292_141 (xg_I (pc' := 144) lf_9_188 w222485 g222197 sh_54 (by decide) (by decide) ty_54_3 rfl rfl (fun b222493 b222494 => ?_))
                    refine wp_of e292 c292_144 (rw_icmp_ge (p1 := 167) (p2 := 147) (by decide) rfl ⟨by omega, by omega⟩ ⟨by omega, by omega⟩ (fun c222495 => ?_) (fun c222495 => ?_))
                    · refine wp_of e292 c292_167 (rw_aload_n (pc' := 168) (v := .ref r0) rfl rfl rfl ?_)
                      refine wp_of e292 c292_168 (rw_lload_n (pc' := 169) (z := v222328) rfl rfl ?_)
                      refine wp_of e292 c292_169 (rw_l2i (pc' := 170) rfl ?_)
                      obtain ⟨v222496, e222497⟩ : ∃ x : Int, x = wq_w v222328 := ⟨_, rfl⟩
                      rw [← e222497]
                      have b222498 : v222496 = v222328 := by
                        rw [e222497]
                        exact wq_w_id ⟨by omega, by omega⟩
                      refine wp_of e292 c292_170 (xp_I (pc' := 173) lf_9_340 w222485 g0 sh_42 (by decide) (by decide) ty_42_32 rfl rfl (by omega) (by omega) ⟨by omega, by omega⟩ rfl (fun H222499 e222500 w222501 => ?_))
                      have f222502 := f222489.put' e222500 g0 rfl
                      have k222503 : H222499 r0 32 = v222496 := wq_u_s e222500
                      refine wp_of e292 c292_173 (rw_aload_n (pc' := 174) (v := .ref r0) rfl rfl rfl ?_)
                      refine wp_of e292 c292_174 (xc_V (pc' := 177) (r := r0) (as := []) (st := []) (lm_9_403) rfl rfl (Nat.le_of_ble_eq_true rfl) w222501 g0 sh_42 (by decide) rfl (by decide) (s_224 w222501 g0) (fun R222504 T222505 H222506 p222507 => ?_))
                      obtain ⟨e222508, w222510, f222511, z222512, e222509, b222513⟩ := p222507
                      subst e222508
                      subst e222509
                      have f222514 := f222502.tr f222511 rfl
                      show wp _ _ 292 177 [(6, vI v222483), (3, vL v222328), (0, .ref r0)] [vI z222512] _ H222506 _
                      have k222515 : wKI H222506 r0 = wKI H r0 := ((wKI_fr w222501 g0 f222511 rfl).trans ((wKI_fr w222485 g0 ((wfr.rf (l := [(42, 32)])).put' e222500 g0 rfl) rfl).trans ((wKI_fr w222330 g0 f222486 rfl).trans ((wKI_fr w222192 g0 f222331 rfl).trans (wKI_fr hW g0 ((wfr.rf (l := [(42, 0)])).put' e222191 g0 rfl) rfl)))))
                      exact wp_zreturn e292 c292_177 rfl (by omega) ⟨rfl, w222510, f222514, z222512, rfl, ⟨by omega, by omega⟩, by omega⟩
                    · refine wp_of e292 c292_147 (rw_aload_n (pc' := 148) (v := .ref r0) rfl rfl rfl ?_)
                      refine wp_of e292 c292_148 (xg_R (pc' := 151) lf_9_36 w222485 g0 sh_42 (by decide) (by decide) ty_42_26 rfl rfl (fun r222516 q222517 g222518 => ?_))
                      refine wp_of e292 c292_151 (rw_iload (pc' := 153) (z := v222483) rfl rfl ?_)
                      refine wp_of e292 c292_153 (rw_aload_n (pc' := 154) (v := .ref r0) rfl rfl rfl ?_)
                      refine wp_of e292 c292_154 (xg_R (pc' := 157) lf_9_45 w222485 g0 sh_42 (by decide) (by decide) ty_42_31 rfl rfl (fun r222519 q222520 g222521 => ?_))
                      refine wp_of e292 c292_157 (rw_iload (pc' := 159) (z := v222483) rfl rfl ?_)
                      refine wp_of e292 c292_159 (xa_I (so := 0) (pc' := 160) w222485 g222521 sh_53 (by decide) (ty_53 _) (by omega) (by omega) rfl (fun b222522 b222523 => ?_))
                      refine wp_of e292 c292_160 (xs_I (pc' := 161) w222485 g222518 (by decide) sh_50 (by decide) (ty_50 _) (by omega) (by omega) ⟨by omega, by omega⟩ (by omega) (by omega) rfl (fun H222524 e222525 w222526 => ?_))
                      have f222527 := f222489.put' e222525 g222518 rfl
                      have f222528 := f222486.put' e222525 g222518 rfl
                      refine wp_of e292 c292_161 (rw_iinc (pc' := 164) (z := v222483) (L' := [(6, vI (v222483 + 1)), (3, vL v222328), (0, .ref r0)]) rfl rfl rfl rfl ?_)
                      refine wp_of e292 c292_164 (rw_goto (p1 := 135) (by decide) ?_)
                      exact wp_lc (ks := [6, 3, 0]) (wl_c rfl (wl_c rfl (wl_c rfl wl_n))) rfl (by decide) (ih222482 _ (by omega) (v222483 + 1) H222524 w222526 f222528 ⟨by omega, by omega⟩ rfl)
                exact wp_lc (ks := [6, 5, 3, 0]) (wl_c rfl (wl_c rfl (wl_c rfl wl_n))) rfl (by decide) (lp222480 _ 0 H222329 w222330 wfr.rf ⟨by omega, by omega⟩ rfl)
              · refine wp_of e292 c292_126 (rw_aload_n (pc' := 127) (v := .ref r0) rfl rfl rfl ?_)
                refine wp_of e292 c292_127 (rw_iconst (pc' := 128) rfl ?_)
                refine wp_of e292 c292_128 (xc_V (pc' := 131) (r := r0) (as := [vI 2]) (st := []) (lm_9_400) rfl rfl (Nat.le_of_ble_eq_true rfl) w222330 g0 sh_42 (by decide) rfl (by decide) (s_223 w222330 g0 ⟨by omega, by omega⟩) (fun R222529 T222530 H222531 p222532 => ?_))
                obtain ⟨e222533, w222535, f222536, z222537, e222534, b222538⟩ := p222532
                subst e222533
                subst e222534
                have f222539 := f222337.tr f222536 rfl
                show wp _ _ 292 131 [(6, vI v222326), (5, vI v222327), (3, vL v222328), (0, .ref r0)] [vI z222537] _ H222531 _
                have k222540 : wKI H222531 r0 = wKI H r0 := ((wKI_fr w222330 g0 f222536 rfl).trans ((wKI_fr w222192 g0 f222331 rfl).trans (wKI_fr hW g0 ((wfr.rf (l := [(42, 0)])).put' e222191 g0 rfl) rfl)))
                exact wp_zreturn e292 c292_131 rfl (by omega) ⟨rfl, w222535, f222539, z222537, rfl, ⟨by omega, by omega⟩, by omega⟩
          · refine wp_of e292 c292_49 (rw_iload (pc' := 51) (z := v222327) rfl rfl ?_)
            refine wp_of e292 c292_51 (rw_if_eq (p1 := 113) (p2 := 54) (by decide) rfl ⟨by omega, by omega⟩ (fun c222541 => ?_) (fun c222541 => ?_))
            · refine wp_of e292 c292_113 (rw_iload (pc' := 115) (z := v222327) rfl rfl ?_)
              refine wp_of e292 c292_115 (rw_if_eq (p1 := 126) (p2 := 118) (by decide) rfl ⟨by omega, by omega⟩ (fun c222542 => ?_) (fun c222542 => ?_))
              · refine wp_of e292 c292_126 (rw_aload_n (pc' := 127) (v := .ref r0) rfl rfl rfl ?_)
                refine wp_of e292 c292_127 (rw_iconst (pc' := 128) rfl ?_)
                refine wp_of e292 c292_128 (xc_V (pc' := 131) (r := r0) (as := [vI 2]) (st := []) (lm_9_400) rfl rfl (Nat.le_of_ble_eq_true rfl) w222330 g0 sh_42 (by decide) rfl (by decide) (s_223 w222330 g0 ⟨by omega, by omega⟩) (fun R222543 T222544 H222545 p222546 => ?_))
                obtain ⟨e222547, w222549, f222550, z222551, e222548, b222552⟩ := p222546
                subst e222547
                subst e222548
                have f222553 := f222337.tr f222550 rfl
                show wp _ _ 292 131 [(6, vI v222326), (5, vI v222327), (3, vL v222328), (0, .ref r0)] [vI z222551] _ H222545 _
                have k222554 : wKI H222545 r0 = wKI H r0 := ((wKI_fr w222330 g0 f222550 rfl).trans ((wKI_fr w222192 g0 f222331 rfl).trans (wKI_fr hW g0 ((wfr.rf (l := [(42, 0)])).put' e222191 g0 rfl) rfl)))
                exact wp_zreturn e292 c292_131 rfl (by omega) ⟨rfl, w222549, f222553, z222551, rfl, ⟨by omega, by omega⟩, by omega⟩
              · exfalso
                omega
            · refine wp_of e292 c292_54 (rw_aload_n (pc' := 55) (v := .ref r0) rfl rfl rfl ?_)
              refine wp_of e292 c292_55 (xg_R (pc' := 58) lf_9_45 w222330 g0 sh_42 (by decide) (by decide) ty_42_31 rfl rfl (fun r222555 q222556 g222557 => ?_))
              refine wp_of e292 c292_58 (rw_iload (pc' := 60) (z := v222326) rfl rfl ?_)
              refine wp_of e292 c292_60 (rw_lload_n (pc' := 61) (z := v222328) rfl rfl ?_)
              refine wp_of e292 c292_61 (rw_ldc2 (pc' := 64) (z := 40) rfl rfl rfl ?_)
              refine wp_of e292 c292_64 (rw_lrem (pc' := 65) rfl ⟨by omega, by omega⟩ (by omega) ?_)
              obtain ⟨v222558, e222559⟩ : ∃ x : Int, x = wl_rem v222328 40 := ⟨_, rfl⟩
              rw [← e222559]
              have b222560 : v222558 = v222328 % 40 := by
                rw [e222559]
                exact wl_rem_e ⟨by omega, by omega⟩ ⟨by omega, by omega⟩
              refine wp_of e292 c292_65 (rw_l2i (pc' := 66) rfl ?_)
              obtain ⟨v222561, e222562⟩ : ∃ x : Int, x = wq_w v222558 := ⟨_, rfl⟩
              rw [← e222562]
              have b222563 : v222561 = v222558 := by
                rw [e222562]
                exact wq_w_id ⟨by omega, by omega⟩
              refine wp_of e292 c292_66 (xs_I (pc' := 67) w222330 g222557 (by decide) sh_53 (by decide) (ty_53 _) (by omega) (by omega) ⟨by omega, by omega⟩ (by omega) (by omega) rfl (fun H222564 e222565 w222566 => ?_))
              have f222567 := f222337.put' e222565 g222557 rfl
              have f222568 := f222331.put' e222565 g222557 rfl
              refine wp_of e292 c292_67 (rw_aload_n (pc' := 68) (v := .ref r0) rfl rfl rfl ?_)
              have k222569 : H222564 r0 31 = H222329 r0 31 := (wq_u_t e222565 g222557 g0 rfl 31)
              have q222570 : H222564 r0 31 = (r222555 : Int) := k222569.trans q222556
              refine wp_of e292 c292_68 (xg_K (pc' := 71) lf_9_45 w222566 g0 sh_42 (by decide) (by decide) rfl q222570 rfl ?_)
              refine wp_of e292 c292_71 (rw_iload (pc' := 73) (z := v222326) rfl rfl ?_)
              refine wp_of e292 c292_73 (xa_I (so := 0) (pc' := 74) w222566 g222557 sh_53 (by decide) (ty_53 _) (by omega) (by omega) rfl (fun b222571 b222572 => ?_))
              refine wp_of e292 c292_74 (rw_if_eq (p1 := 94) (p2 := 77) (by decide) rfl ⟨by omega, by omega⟩ (fun c222573 => ?_) (fun c222573 => ?_))
              · refine wp_of e292 c292_94 (rw_iconst (pc' := 95) rfl ?_)
                refine wp_of e292 c292_95 (rw_goto (p1 := 99) (by decide) ?_)
                refine wp_of e292 c292_99 (rw_istore (pc' := 101) (z := 1) (L' := [(5, vI 1), (6, vI v222326), (3, vL v222328), (0, .ref r0)]) rfl rfl rfl ?_)
                refine wp_of e292 c292_101 (rw_lload_n (pc' := 102) (z := v222328) rfl rfl ?_)
                refine wp_of e292 c292_102 (rw_ldc2 (pc' := 105) (z := 40) rfl rfl rfl ?_)
                refine wp_of e292 c292_105 (rw_ldiv (pc' := 106) rfl ⟨by omega, by omega⟩ (by omega) ?_)
                obtain ⟨v222574, e222575⟩ : ∃ x : Int, x = wl_div v222328 40 := ⟨_, rfl⟩
                rw [← e222575]
                have b222576 : v222574 = v222328 / 40 := by
                  rw [e222575]
                  exact wl_div_e ⟨by omega, by omega⟩ ⟨by omega, by omega⟩
                refine wp_of e292 c292_106 (rw_lstore_n (pc' := 107) (z := v222574) (L' := [(3, vL v222574), (5, vI 1), (6, vI v222326), (0, .ref r0)]) rfl rfl rfl ?_)
                refine wp_of e292 c292_107 (rw_iinc (pc' := 110) (z := v222326) (L' := [(6, vI (v222326 + (-1))), (3, vL v222574), (5, vI 1), (0, .ref r0)]) rfl rfl rfl rfl ?_)
                refine wp_of e292 c292_110 (rw_goto (p1 := 44) (by decide) ?_)
                exact wp_lc (ks := [6, 3, 5, 0]) (wl_c rfl (wl_c rfl (wl_c rfl (wl_c rfl wl_n)))) rfl (by decide) (ih222325 _ (by omega) (v222326 + (-1)) 1 v222574 H222564 w222566 f222568 ⟨by omega, by omega⟩ ⟨by omega, by omega⟩ ⟨by omega, by omega⟩ (by omega) rfl)
              · refine wp_of e292 c292_77 (rw_aload_n (pc' := 78) (v := .ref r0) rfl rfl rfl ?_)
                refine wp_of e292 c292_78 (xg_K (pc' := 81) lf_9_45 w222566 g0 sh_42 (by decide) (by decide) rfl q222570 rfl ?_)
                refine wp_of e292 c292_81 (rw_iload (pc' := 83) (z := v222326) rfl rfl ?_)
                refine wp_of e292 c292_83 (xa_I (so := 0) (pc' := 84) w222566 g222557 sh_53 (by decide) (ty_53 _) (by omega) (by omega) rfl (fun b222577 b222578 => ?_))
                refine wp_of e292 c292_84 (rw_aload_n (pc' := 85) (v := .ref r0) rfl rfl rfl ?_)
                refine wp_of e292 c292_85 (xg_R (pc' := 88) lf_9_21 w222566 g0 sh_42 (by decide) (by decide) ty_42_21 rfl rfl (fun r222579 q222580 g222581 => ?_))
                refine wp_of e292 c292_88 (rw_iload (pc' := 90) (z := v222326) rfl rfl ?_)
                refine wp_of e292 c292_90 (xa_I (so := 0) (pc' := 91) w222566 g222581 sh_45 (by decide) (ty_45 _) (by omega) (by omega) rfl (fun b222582 b222583 => ?_))
                refine wp_of e292 c292_91 (rw_icmp_ge (p1 := 98) (p2 := 94) (by decide) rfl ⟨by omega, by omega⟩ ⟨by omega, by omega⟩ (fun c222584 => ?_) (fun c222584 => ?_))
                · refine wp_of e292 c292_98 (rw_iconst (pc' := 99) rfl ?_)
                  refine wp_of e292 c292_99 (rw_istore (pc' := 101) (z := 0) (L' := [(5, vI 0), (6, vI v222326), (3, vL v222328), (0, .ref r0)]) rfl rfl rfl ?_)
                  refine wp_of e292 c292_101 (rw_lload_n (pc' := 102) (z := v222328) rfl rfl ?_)
                  refine wp_of e292 c292_102 (rw_ldc2 (pc' := 105) (z := 40) rfl rfl rfl ?_)
                  refine wp_of e292 c292_105 (rw_ldiv (pc' := 106) rfl ⟨by omega, by omega⟩ (by omega) ?_)
                  obtain ⟨v222585, e222586⟩ : ∃ x : Int, x = wl_div v222328 40 := ⟨_, rfl⟩
                  rw [← e222586]
                  have b222587 : v222585 = v222328 / 40 := by
                    rw [e222586]
                    exact wl_div_e ⟨by omega, by omega⟩ ⟨by omega, by omega⟩
                  refine wp_of e292 c292_106 (rw_lstore_n (pc' := 107) (z := v222585) (L' := [(3, vL v222585), (5, vI 0), (6, vI v222326), (0, .ref r0)]) rfl rfl rfl ?_)
                  refine wp_of e292 c292_107 (rw_iinc (pc' := 110) (z := v222326) (L' := [(6, vI (v222326 + (-1))), (3, vL v222585), (5, vI 0), (0, .ref r0)]) rfl rfl rfl rfl ?_)
                  refine wp_of e292 c292_110 (rw_goto (p1 := 44) (by decide) ?_)
                  exact wp_lc (ks := [6, 3, 5, 0]) (wl_c rfl (wl_c rfl (wl_c rfl (wl_c rfl wl_n)))) rfl (by decide) (ih222325 _ (by omega) (v222326 + (-1)) 0 v222585 H222564 w222566 f222568 ⟨by omega, by omega⟩ ⟨by omega, by omega⟩ ⟨by omega, by omega⟩ (by omega) rfl)
                · refine wp_of e292 c292_94 (rw_iconst (pc' := 95) rfl ?_)
                  refine wp_of e292 c292_95 (rw_goto (p1 := 99) (by decide) ?_)
                  refine wp_of e292 c292_99 (rw_istore (pc' := 101) (z := 1) (L' := [(5, vI 1), (6, vI v222326), (3, vL v222328), (0, .ref r0)]) rfl rfl rfl ?_)
                  refine wp_of e292 c292_101 (rw_lload_n (pc' := 102) (z := v222328) rfl rfl ?_)
                  refine wp_of e292 c292_102 (rw_ldc2 (pc' := 105) (z := 40) rfl rfl rfl ?_)
                  refine wp_of e292 c292_105 (rw_ldiv (pc' := 106) rfl ⟨by omega, by omega⟩ (by omega) ?_)
                  obtain ⟨v222588, e222589⟩ : ∃ x : Int, x = wl_div v222328 40 := ⟨_, rfl⟩
                  rw [← e222589]
                  have b222590 : v222588 = v222328 / 40 := by
                    rw [e222589]
                    exact wl_div_e ⟨by omega, by omega⟩ ⟨by omega, by omega⟩
                  refine wp_of e292 c292_106 (rw_lstore_n (pc' := 107) (z := v222588) (L' := [(3, vL v222588), (5, vI 1), (6, vI v222326), (0, .ref r0)]) rfl rfl rfl ?_)
                  refine wp_of e292 c292_107 (rw_iinc (pc' := 110) (z := v222326) (L' := [(6, vI (v222326 + (-1))), (3, vL v222588), (5, vI 1), (0, .ref r0)]) rfl rfl rfl rfl ?_)
                  refine wp_of e292 c292_110 (rw_goto (p1 := 44) (by decide) ?_)
                  exact wp_lc (ks := [6, 3, 5, 0]) (wl_c rfl (wl_c rfl (wl_c rfl (wl_c rfl wl_n)))) rfl (by decide) (ih222325 _ (by omega) (v222326 + (-1)) 1 v222588 H222564 w222566 f222568 ⟨by omega, by omega⟩ ⟨by omega, by omega⟩ ⟨by omega, by omega⟩ (by omega) rfl)
      exact wp_lc (ks := [6, 5, 3, 0, 1]) (wl_c rfl (wl_c rfl (wl_c rfl (wl_c rfl wl_n)))) rfl (by decide) (lp222323 _ ((H222190 r222195 3) - 1) 1 a1 H222190 w222192 wfr.rf ⟨by omega, by omega⟩ ⟨by omega, by omega⟩ ⟨by omega, by omega⟩ (by omega) rfl)
/-! StrikeAwakeModel.led(I)I -/
theorem e293 : wq_en 293 = some (9, 4, false, some FieldType.int) := rfl
theorem c293_0 : mc_cd 293 0 = some (.aload_n 0, 1) := by decide +kernel
theorem c293_1 : mc_cd 293 1 = some (.iconst 0, 1) := by decide +kernel
theorem c293_2 : mc_cd 293 2 = some (.putfield 48, 3) := by decide +kernel
theorem c293_5 : mc_cd 293 5 = some (.iconst 0, 1) := by decide +kernel
theorem c293_6 : mc_cd 293 6 = some (.istore_n 2, 1) := by decide +kernel
theorem c293_7 : mc_cd 293 7 = some (.iconst 0, 1) := by decide +kernel
theorem c293_8 : mc_cd 293 8 = some (.istore_n 3, 1) := by decide +kernel
theorem c293_9 : mc_cd 293 9 = some (.aload_n 0, 1) := by decide +kernel
theorem c293_10 : mc_cd 293 10 = some (.getfield 337, 3) := by decide +kernel
theorem c293_13 : mc_cd 293 13 = some (.ifnull 45, 3) := by decide +kernel
theorem c293_16 : mc_cd 293 16 = some (.iload_n 3, 1) := by decide +kernel
theorem c293_17 : mc_cd 293 17 = some (.aload_n 0, 1) := by decide +kernel
theorem c293_18 : mc_cd 293 18 = some (.getfield 337, 3) := by decide +kernel
theorem c293_21 : mc_cd 293 21 = some (.getfield 188, 3) := by decide +kernel
theorem c293_24 : mc_cd 293 24 = some (.if_icmp .ge 34, 3) := by decide +kernel
theorem c293_27 : mc_cd 293 27 = some (.aload_n 0, 1) := by decide +kernel
theorem c293_28 : mc_cd 293 28 = some (.getfield 337, 3) := by decide +kernel
theorem c293_31 : mc_cd 293 31 = some (.getfield 267, 3) := by decide +kernel
theorem c293_34 : mc_cd 293 34 = some (.iload_n 3, 1) := by decide +kernel
theorem c293_35 : mc_cd 293 35 = some (.baload, 1) := by decide +kernel
theorem c293_36 : mc_cd 293 36 = some (.ifCond .ne 6, 3) := by decide +kernel
theorem c293_39 : mc_cd 293 39 = some (.goto 13, 3) := by decide +kernel
theorem c293_42 : mc_cd 293 42 = some (.iload_n 2, 1) := by decide +kernel
theorem c293_43 : mc_cd 293 43 = some (.iload_n 1, 1) := by decide +kernel
theorem c293_44 : mc_cd 293 44 = some (.if_icmp .ne 5, 3) := by decide +kernel
theorem c293_47 : mc_cd 293 47 = some (.iload_n 3, 1) := by decide +kernel
theorem c293_48 : mc_cd 293 48 = some (.ireturn, 1) := by decide +kernel
theorem c293_49 : mc_cd 293 49 = some (.iinc 2 1, 3) := by decide +kernel
theorem c293_52 : mc_cd 293 52 = some (.iinc 3 1, 3) := by decide +kernel
theorem c293_55 : mc_cd 293 55 = some (.goto (-46), 3) := by decide +kernel
theorem c293_58 : mc_cd 293 58 = some (.aload_n 0, 1) := by decide +kernel
theorem c293_59 : mc_cd 293 59 = some (.iconst 1, 1) := by decide +kernel
theorem c293_60 : mc_cd 293 60 = some (.putfield 48, 3) := by decide +kernel
theorem c293_63 : mc_cd 293 63 = some (.iconst 0, 1) := by decide +kernel
theorem c293_64 : mc_cd 293 64 = some (.ireturn, 1) := by decide +kernel
abbrev q_293 (r0 : Nat) (a1 : Int) (T : wq_T) (H : wq_H) : Option Value → wq_T → wq_H → Prop := fun r T' H' => T = T' ∧ WT T H' ∧ wfr [(42, 0)] T H H' ∧ ∃ z : Int, some (vI z) = r ∧ ((-2147483648) ≤ z ∧ z ≤ 2147483647) ∧ (wKI H' r0 = 1)
set_option maxHeartbeats 4000000 in
theorem s_293 {kt : Nat → Option mc_E} {T : wq_T} {H : wq_H} {r0 : Nat} {a1 : Int} (hW : WT T H) (g0 : T.2.2.2 r0 = some 42) (i1 : (-2147483648) ≤ a1 ∧ a1 ≤ 2147483647) (p0 : wKI H r0 = 1) : wpc kt 1 293 [.ref r0, vI a1] T H (q_293 r0 a1 T H) := by
  refine wp_enter e293 (Nat.le_of_ble_eq_true rfl) rfl ?_
  have f0 : wfr [(42, 0)] T H H := wfr.rf
  show wp _ _ 293 0 [(0, .ref r0), (1, vI a1)] [] _ H _
  refine wp_of e293 c293_0 (rw_aload_n (pc' := 1) (v := .ref r0) rfl rfl rfl ?_)
  refine wp_of e293 c293_1 (rw_iconst (pc' := 2) rfl ?_)
  refine wp_of e293 c293_2 (xp_I (pc' := 5) lf_9_48 hW g0 sh_42 (by decide) (by decide) ty_42_0 rfl rfl (by omega) (by omega) ⟨by omega, by omega⟩ rfl (fun H222714 e222715 w222716 => ?_))
  have f222717 := f0.put' e222715 g0 rfl
  have k222718 : H222714 r0 0 = 0 := wq_u_s e222715
  refine wp_of e293 c293_5 (rw_iconst (pc' := 6) rfl ?_)
  refine wp_of e293 c293_6 (rw_istore_n (pc' := 7) (z := 0) (L' := [(2, vI 0), (0, .ref r0), (1, vI a1)]) rfl rfl rfl ?_)
  refine wp_of e293 c293_7 (rw_iconst (pc' := 8) rfl ?_)
  refine wp_of e293 c293_8 (rw_istore_n (pc' := 9) (z := 0) (L' := [(3, vI 0), (2, vI 0), (0, .ref r0), (1, vI a1)]) rfl rfl rfl ?_)
  have lp222810 : ∀ (n222811 : Nat) (v222813 : Int) (v222814 : Int), (0 ≤ v222813 ∧ v222813 ≤ 6) → (0 ≤ v222814 ∧ v222814 ≤ 6) → (v222814 ≤ v222813) → (6 - v222813).toNat = n222811 → wp kt 0 293 9 [(3, vI v222813), (2, vI v222814), (0, .ref r0), (1, vI a1)] [] T H222714 (q_293 r0 a1 T H) := by
    intro n222811
    induction n222811 using Nat.strongRecOn with
    | _ n222811 ih222812 =>
      intro v222813 v222814 b222817 b222818 x222819 m222820
      refine wp_of e293 c293_9 (rw_aload_n (pc' := 10) (v := .ref r0) rfl rfl rfl ?_)
      refine wp_of e293 c293_10 (xg_O (pc' := 13) lf_9_337 w222716 g0 sh_42 (by decide) (by decide) ty_42_3 rfl rfl (fun q222822 => ?_) (fun r222821 q222822 g222823 => ?_))
      · refine wp_of e293 c293_13 (rw_ifnull_n (p1 := 58) (p2 := 16) (by decide) rfl ?_)
        refine wp_of e293 c293_58 (rw_aload_n (pc' := 59) (v := .ref r0) rfl rfl rfl ?_)
        refine wp_of e293 c293_59 (rw_iconst (pc' := 60) rfl ?_)
        refine wp_of e293 c293_60 (xp_I (pc' := 63) lf_9_48 w222716 g0 sh_42 (by decide) (by decide) ty_42_0 rfl rfl (by omega) (by omega) ⟨by omega, by omega⟩ rfl (fun H222824 e222825 w222826 => ?_))
        have f222827 := f222717.put' e222825 g0 rfl
        have k222828 : H222824 r0 0 = 1 := wq_u_s e222825
        refine wp_of e293 c293_63 (rw_iconst (pc' := 64) rfl ?_)
        have k222829 : wKI H222824 r0 = wKI H r0 := ((wKI_fr w222716 g0 ((wfr.rf (l := [(42, 0)])).put' e222825 g0 rfl) rfl).trans (wKI_fr hW g0 ((wfr.rf (l := [(42, 0)])).put' e222715 g0 rfl) rfl))
        exact wp_ireturn e293 c293_64 rfl ⟨rfl, w222826, f222827, 0, rfl, ⟨by omega, by omega⟩, by omega⟩
      · refine wp_of e293 c293_13 (rw_ifnull_r (p1 := 58) (p2 := 16) (by decide) rfl ?_)
        refine wp_of e293 c293_16 (rw_iload_n (pc' := 17) (z := v222813) rfl rfl ?_)
        refine wp_of e293 c293_17 (rw_aload_n (pc' := 18) (v := .ref r0) rfl rfl rfl ?_)
        refine wp_of e293 c293_18 (xg_K (pc' := 21) lf_9_337 w222716 g0 sh_42 (by decide) (by decide) rfl q222822 rfl ?_)
        refine wp_of e293 c293_21 (xg_I (pc' := 24) lf_9_188 w222716 g222823 sh_54 (by decide) (by decide) ty_54_3 rfl rfl (fun b222830 b222831 => ?_))
        refine wp_of e293 c293_24 (rw_icmp_ge (p1 := 58) (p2 := 27) (by decide) rfl ⟨by omega, by omega⟩ ⟨by omega, by omega⟩ (fun c222832 => ?_) (fun c222832 => ?_))
        · refine wp_of e293 c293_58 (rw_aload_n (pc' := 59) (v := .ref r0) rfl rfl rfl ?_)
          refine wp_of e293 c293_59 (rw_iconst (pc' := 60) rfl ?_)
          refine wp_of e293 c293_60 (xp_I (pc' := 63) lf_9_48 w222716 g0 sh_42 (by decide) (by decide) ty_42_0 rfl rfl (by omega) (by omega) ⟨by omega, by omega⟩ rfl (fun H222833 e222834 w222835 => ?_))
          have f222836 := f222717.put' e222834 g0 rfl
          have k222837 : H222833 r0 0 = 1 := wq_u_s e222834
          refine wp_of e293 c293_63 (rw_iconst (pc' := 64) rfl ?_)
          have k222838 : wKI H222833 r0 = wKI H r0 := ((wKI_fr w222716 g0 ((wfr.rf (l := [(42, 0)])).put' e222834 g0 rfl) rfl).trans (wKI_fr hW g0 ((wfr.rf (l := [(42, 0)])).put' e222715 g0 rfl) rfl))
          exact wp_ireturn e293 c293_64 rfl ⟨rfl, w222835, f222836, 0, rfl, ⟨by omega, by omega⟩, by omega⟩
        · refine wp_of e293 c293_27 (rw_aload_n (pc' := 28) (v := .ref r0) rfl rfl rfl ?_)
          refine wp_of e293 c293_28 (xg_K (pc' := 31) lf_9_337 w222716 g0 sh_42 (by decide) (by decide) rfl q222822 rfl ?_)
          refine wp_of e293 c293_31 (xg_R (pc' := 34) lf_9_267 w222716 g222823 sh_54 (by decide) (by decide) ty_54_17 rfl rfl (fun r222839 q222840 g222841 => ?_))
          refine wp_of e293 c293_34 (rw_iload_n (pc' := 35) (z := v222813) rfl rfl ?_)
          refine wp_of e293 c293_35 (xa_B (by decide) (pc' := 36) w222716 g222841 sh_63 (by decide) (ty_63 _) (by omega) (by omega) rfl (fun b222842 b222843 => ?_))
          refine wp_of e293 c293_36 (rw_if_ne (p1 := 42) (p2 := 39) (by decide) rfl ⟨by omega, by omega⟩ (fun c222844 => ?_) (fun c222844 => ?_))
          · refine wp_of e293 c293_42 (rw_iload_n (pc' := 43) (z := v222814) rfl rfl ?_)
            refine wp_of e293 c293_43 (rw_iload_n (pc' := 44) (z := a1) rfl rfl ?_)
            refine wp_of e293 c293_44 (rw_icmp_ne (p1 := 49) (p2 := 47) (by decide) rfl ⟨by omega, by omega⟩ ⟨by omega, by omega⟩ (fun c222845 => ?_) (fun c222845 => ?_))
            · refine wp_of e293 c293_49 (rw_iinc (pc' := 52) (z := v222814) (L' := [(2, vI (v222814 + 1)), (3, vI v222813), (0, .ref r0), (1, vI a1)]) rfl rfl rfl rfl ?_)
              refine wp_of e293 c293_52 (rw_iinc (pc' := 55) (z := v222813) (L' := [(3, vI (v222813 + 1)), (2, vI (v222814 + 1)), (0, .ref r0), (1, vI a1)]) rfl rfl rfl rfl ?_)
              refine wp_of e293 c293_55 (rw_goto (p1 := 9) (by decide) ?_)
              exact wp_lc (ks := [3, 2, 0, 1]) (wl_c rfl (wl_c rfl (wl_c rfl (wl_c rfl wl_n)))) rfl (by decide) (ih222812 _ (by omega) (v222813 + 1) (v222814 + 1) ⟨by omega, by omega⟩ ⟨by omega, by omega⟩ (by omega) rfl)
            · refine wp_of e293 c293_47 (rw_iload_n (pc' := 48) (z := v222813) rfl rfl ?_)
              have k222846 : wKI H222714 r0 = wKI H r0 := (wKI_fr hW g0 ((wfr.rf (l := [(42, 0)])).put' e222715 g0 rfl) rfl)
              exact wp_ireturn e293 c293_48 rfl ⟨rfl, w222716, f222717, v222813, rfl, ⟨by omega, by omega⟩, by omega⟩
          · refine wp_of e293 c293_39 (rw_goto (p1 := 52) (by decide) ?_)
            refine wp_of e293 c293_52 (rw_iinc (pc' := 55) (z := v222813) (L' := [(3, vI (v222813 + 1)), (2, vI v222814), (0, .ref r0), (1, vI a1)]) rfl rfl rfl rfl ?_)
            refine wp_of e293 c293_55 (rw_goto (p1 := 9) (by decide) ?_)
            exact wp_lc (ks := [3, 2, 0, 1]) (wl_c rfl (wl_c rfl (wl_c rfl (wl_c rfl wl_n)))) rfl (by decide) (ih222812 _ (by omega) (v222813 + 1) v222814 ⟨by omega, by omega⟩ ⟨by omega, by omega⟩ (by omega) rfl)
  exact wp_lc (ks := [3, 2, 0, 1]) (wl_c rfl (wl_c rfl (wl_c rfl (wl_c rfl wl_n)))) rfl (by decide) (lp222810 _ 0 0 ⟨by omega, by omega⟩ ⟨by omega, by omega⟩ (by omega) rfl)
/-! StrikeAwakeModel.size(I)I -/
theorem e294 : wq_en 294 = some (9, 2, false, some FieldType.int) := rfl
theorem c294_0 : mc_cd 294 0 = some (.aload_n 0, 1) := by decide +kernel
theorem c294_1 : mc_cd 294 1 = some (.iconst 0, 1) := by decide +kernel
theorem c294_2 : mc_cd 294 2 = some (.putfield 48, 3) := by decide +kernel
theorem c294_5 : mc_cd 294 5 = some (.iload_n 1, 1) := by decide +kernel
theorem c294_6 : mc_cd 294 6 = some (.bipush 9, 2) := by decide +kernel
theorem c294_8 : mc_cd 294 8 = some (.if_icmp .ne 8, 3) := by decide +kernel
theorem c294_11 : mc_cd 294 11 = some (.aload_n 0, 1) := by decide +kernel
theorem c294_12 : mc_cd 294 12 = some (.getfield 330, 3) := by decide +kernel
theorem c294_15 : mc_cd 294 15 = some (.ireturn, 1) := by decide +kernel
theorem c294_16 : mc_cd 294 16 = some (.iload_n 1, 1) := by decide +kernel
theorem c294_17 : mc_cd 294 17 = some (.iconst 0, 1) := by decide +kernel
theorem c294_18 : mc_cd 294 18 = some (.bipush 8, 2) := by decide +kernel
theorem c294_20 : mc_cd 294 20 = some (.invokestatic 125, 3) := by decide +kernel
theorem c294_23 : mc_cd 294 23 = some (.ifCond .ne 5, 3) := by decide +kernel
theorem c294_26 : mc_cd 294 26 = some (.iconst (-1), 1) := by decide +kernel
theorem c294_27 : mc_cd 294 27 = some (.ireturn, 1) := by decide +kernel
theorem c294_28 : mc_cd 294 28 = some (.aload_n 0, 1) := by decide +kernel
theorem c294_29 : mc_cd 294 29 = some (.getfield 337, 3) := by decide +kernel
theorem c294_32 : mc_cd 294 32 = some (.ifnonnull 5, 3) := by decide +kernel
theorem c294_35 : mc_cd 294 35 = some (.iconst 0, 1) := by decide +kernel
theorem c294_36 : mc_cd 294 36 = some (.ireturn, 1) := by decide +kernel
theorem c294_37 : mc_cd 294 37 = some (.iload_n 1, 1) := by decide +kernel
theorem c294_38 : mc_cd 294 38 = some (.tableswitch 126 0 7 #[46, 54, 62, 70, 78, 86, 94, 102], 46) := by decide +kernel
theorem c294_84 : mc_cd 294 84 = some (.aload_n 0, 1) := by decide +kernel
theorem c294_85 : mc_cd 294 85 = some (.getfield 337, 3) := by decide +kernel
theorem c294_88 : mc_cd 294 88 = some (.getfield 188, 3) := by decide +kernel
theorem c294_91 : mc_cd 294 91 = some (.ireturn, 1) := by decide +kernel
theorem c294_92 : mc_cd 294 92 = some (.aload_n 0, 1) := by decide +kernel
theorem c294_93 : mc_cd 294 93 = some (.getfield 337, 3) := by decide +kernel
theorem c294_96 : mc_cd 294 96 = some (.getfield 276, 3) := by decide +kernel
theorem c294_99 : mc_cd 294 99 = some (.ireturn, 1) := by decide +kernel
theorem c294_100 : mc_cd 294 100 = some (.aload_n 0, 1) := by decide +kernel
theorem c294_101 : mc_cd 294 101 = some (.getfield 337, 3) := by decide +kernel
theorem c294_104 : mc_cd 294 104 = some (.getfield 288, 3) := by decide +kernel
theorem c294_107 : mc_cd 294 107 = some (.ireturn, 1) := by decide +kernel
theorem c294_108 : mc_cd 294 108 = some (.aload_n 0, 1) := by decide +kernel
theorem c294_109 : mc_cd 294 109 = some (.invokevirtual 357, 3) := by decide +kernel
theorem c294_112 : mc_cd 294 112 = some (.invokestatic 462, 3) := by decide +kernel
theorem c294_115 : mc_cd 294 115 = some (.ireturn, 1) := by decide +kernel
theorem c294_116 : mc_cd 294 116 = some (.aload_n 0, 1) := by decide +kernel
theorem c294_117 : mc_cd 294 117 = some (.getfield 337, 3) := by decide +kernel
theorem c294_120 : mc_cd 294 120 = some (.getfield 306, 3) := by decide +kernel
theorem c294_123 : mc_cd 294 123 = some (.ireturn, 1) := by decide +kernel
theorem c294_124 : mc_cd 294 124 = some (.aload_n 0, 1) := by decide +kernel
theorem c294_125 : mc_cd 294 125 = some (.getfield 337, 3) := by decide +kernel
theorem c294_128 : mc_cd 294 128 = some (.getfield 321, 3) := by decide +kernel
theorem c294_131 : mc_cd 294 131 = some (.ireturn, 1) := by decide +kernel
theorem c294_132 : mc_cd 294 132 = some (.aload_n 0, 1) := by decide +kernel
theorem c294_133 : mc_cd 294 133 = some (.getfield 337, 3) := by decide +kernel
theorem c294_136 : mc_cd 294 136 = some (.getfield 185, 3) := by decide +kernel
theorem c294_139 : mc_cd 294 139 = some (.ireturn, 1) := by decide +kernel
theorem c294_140 : mc_cd 294 140 = some (.aload_n 0, 1) := by decide +kernel
theorem c294_141 : mc_cd 294 141 = some (.getfield 337, 3) := by decide +kernel
theorem c294_144 : mc_cd 294 144 = some (.getfield 271, 3) := by decide +kernel
theorem c294_147 : mc_cd 294 147 = some (.iconst (-1), 1) := by decide +kernel
theorem c294_148 : mc_cd 294 148 = some (.if_icmp .ne 8, 3) := by decide +kernel
theorem c294_151 : mc_cd 294 151 = some (.bipush (-2), 2) := by decide +kernel
theorem c294_153 : mc_cd 294 153 = some (.goto 10, 3) := by decide +kernel
theorem c294_156 : mc_cd 294 156 = some (.aload_n 0, 1) := by decide +kernel
theorem c294_157 : mc_cd 294 157 = some (.getfield 337, 3) := by decide +kernel
theorem c294_160 : mc_cd 294 160 = some (.getfield 271, 3) := by decide +kernel
theorem c294_163 : mc_cd 294 163 = some (.ireturn, 1) := by decide +kernel
theorem c294_164 : mc_cd 294 164 = some (.aload_n 0, 1) := by decide +kernel
theorem c294_165 : mc_cd 294 165 = some (.getfield 340, 3) := by decide +kernel
theorem c294_168 : mc_cd 294 168 = some (.ireturn, 1) := by decide +kernel
abbrev q_294 (r0 : Nat) (a1 : Int) (T : wq_T) (H : wq_H) : Option Value → wq_T → wq_H → Prop := fun r T' H' => T = T' ∧ WT T H' ∧ wfr [(42, 0)] T H H' ∧ ∃ z : Int, some (vI z) = r ∧ ((-2147483648) ≤ z ∧ z ≤ 2147483647) ∧ (wKI H' r0 = 1)
set_option maxHeartbeats 4000000 in
theorem s_294 {kt : Nat → Option mc_E} {T : wq_T} {H : wq_H} {r0 : Nat} {a1 : Int} (hW : WT T H) (g0 : T.2.2.2 r0 = some 42) (i1 : (-2147483648) ≤ a1 ∧ a1 ≤ 2147483647) (p0 : wKI H r0 = 1) : wpc kt 2 294 [.ref r0, vI a1] T H (q_294 r0 a1 T H) := by
  refine wp_enter e294 (Nat.le_of_ble_eq_true rfl) rfl ?_
  have f0 : wfr [(42, 0)] T H H := wfr.rf
  show wp _ _ 294 0 [(0, .ref r0), (1, vI a1)] [] _ H _
  refine wp_of e294 c294_0 (rw_aload_n (pc' := 1) (v := .ref r0) rfl rfl rfl ?_)
  refine wp_of e294 c294_1 (rw_iconst (pc' := 2) rfl ?_)
  refine wp_of e294 c294_2 (xp_I (pc' := 5) lf_9_48 hW g0 sh_42 (by decide) (by decide) ty_42_0 rfl rfl (by omega) (by omega) ⟨by omega, by omega⟩ rfl (fun H222920 e222921 w222922 => ?_))
  have f222923 := f0.put' e222921 g0 rfl
  have k222924 : H222920 r0 0 = 0 := wq_u_s e222921
  refine wp_of e294 c294_5 (rw_iload_n (pc' := 6) (z := a1) rfl rfl ?_)
  refine wp_of e294 c294_6 (rw_bipush (pc' := 8) (z := 9) rfl (by decide) ?_)
  refine wp_of e294 c294_8 (rw_icmp_ne (p1 := 16) (p2 := 11) (by decide) rfl ⟨by omega, by omega⟩ ⟨by omega, by omega⟩ (fun c222925 => ?_) (fun c222925 => ?_))
  · refine wp_of e294 c294_16 (rw_iload_n (pc' := 17) (z := a1) rfl rfl ?_)
    refine wp_of e294 c294_17 (rw_iconst (pc' := 18) rfl ?_)
    refine wp_of e294 c294_18 (rw_bipush (pc' := 20) (z := 8) rfl (by decide) ?_)
    refine wp_of e294 c294_20 (xc_S (pc' := 23) (as := [vI a1, vI 0, vI 8]) (st := []) (lm_9_125) rfl rfl (Nat.le_of_ble_eq_true rfl) rfl (by decide) (s_186 w222922 ⟨by omega, by omega⟩ ⟨by omega, by omega⟩ ⟨by omega, by omega⟩) (fun R222926 T222927 H222928 p222929 => ?_))
    obtain ⟨e222930, e222932, z222934, e222931, b222935, p222933⟩ := p222929
    subst e222930
    subst e222931
    subst e222932
    show wp _ _ 294 23 [(0, .ref r0), (1, vI a1)] [vI z222934] _ H222920 _
    refine wp_of e294 c294_23 (rw_if_ne (p1 := 28) (p2 := 26) (by decide) rfl ⟨by omega, by omega⟩ (fun c222936 => ?_) (fun c222936 => ?_))
    · refine wp_of e294 c294_28 (rw_aload_n (pc' := 29) (v := .ref r0) rfl rfl rfl ?_)
      refine wp_of e294 c294_29 (xg_O (pc' := 32) lf_9_337 w222922 g0 sh_42 (by decide) (by decide) ty_42_3 rfl rfl (fun q222938 => ?_) (fun r222937 q222938 g222939 => ?_))
      · refine wp_of e294 c294_32 (rw_ifnonnull_n (p1 := 37) (p2 := 35) (by decide) rfl ?_)
        refine wp_of e294 c294_35 (rw_iconst (pc' := 36) rfl ?_)
        have k222940 : wKI H222920 r0 = wKI H r0 := (wKI_fr hW g0 ((wfr.rf (l := [(42, 0)])).put' e222921 g0 rfl) rfl)
        exact wp_ireturn e294 c294_36 rfl ⟨rfl, w222922, f222923, 0, rfl, ⟨by omega, by omega⟩, by omega⟩
      · refine wp_of e294 c294_32 (rw_ifnonnull_r (p1 := 37) (p2 := 35) (by decide) rfl ?_)
        refine wp_of e294 c294_37 (rw_iload_n (pc' := 38) (z := a1) rfl rfl ?_)
        have c222941 : a1 = 0 ∨ a1 = 1 ∨ a1 = 2 ∨ a1 = 3 ∨ a1 = 4 ∨ a1 = 5 ∨ a1 = 6 ∨ a1 = 7 ∨ (a1 < 0 ∨ 7 < a1) := by omega
        rcases c222941 with c222941 | c222941 | c222941 | c222941 | c222941 | c222941 | c222941 | c222941 | c222941
        · refine wp_of e294 c294_38 (rw_tsw (p1 := 84) ⟨by omega, by omega⟩ (by rw [c222941]; decide) ?_)
          refine wp_of e294 c294_84 (rw_aload_n (pc' := 85) (v := .ref r0) rfl rfl rfl ?_)
          refine wp_of e294 c294_85 (xg_K (pc' := 88) lf_9_337 w222922 g0 sh_42 (by decide) (by decide) rfl q222938 rfl ?_)
          refine wp_of e294 c294_88 (xg_I (pc' := 91) lf_9_188 w222922 g222939 sh_54 (by decide) (by decide) ty_54_3 rfl rfl (fun b222942 b222943 => ?_))
          have k222944 : wKI H222920 r0 = wKI H r0 := (wKI_fr hW g0 ((wfr.rf (l := [(42, 0)])).put' e222921 g0 rfl) rfl)
          exact wp_ireturn e294 c294_91 rfl ⟨rfl, w222922, f222923, H222920 r222937 3, rfl, ⟨by omega, by omega⟩, by omega⟩
        · refine wp_of e294 c294_38 (rw_tsw (p1 := 92) ⟨by omega, by omega⟩ (by rw [c222941]; decide) ?_)
          refine wp_of e294 c294_92 (rw_aload_n (pc' := 93) (v := .ref r0) rfl rfl rfl ?_)
          refine wp_of e294 c294_93 (xg_K (pc' := 96) lf_9_337 w222922 g0 sh_42 (by decide) (by decide) rfl q222938 rfl ?_)
          refine wp_of e294 c294_96 (xg_I (pc' := 99) lf_9_276 w222922 g222939 sh_54 (by decide) (by decide) ty_54_4 rfl rfl (fun b222945 b222946 => ?_))
          have k222947 : wKI H222920 r0 = wKI H r0 := (wKI_fr hW g0 ((wfr.rf (l := [(42, 0)])).put' e222921 g0 rfl) rfl)
          exact wp_ireturn e294 c294_99 rfl ⟨rfl, w222922, f222923, H222920 r222937 4, rfl, ⟨by omega, by omega⟩, by omega⟩
        · refine wp_of e294 c294_38 (rw_tsw (p1 := 100) ⟨by omega, by omega⟩ (by rw [c222941]; decide) ?_)
          refine wp_of e294 c294_100 (rw_aload_n (pc' := 101) (v := .ref r0) rfl rfl rfl ?_)
          refine wp_of e294 c294_101 (xg_K (pc' := 104) lf_9_337 w222922 g0 sh_42 (by decide) (by decide) rfl q222938 rfl ?_)
          refine wp_of e294 c294_104 (xg_I (pc' := 107) lf_9_288 w222922 g222939 sh_54 (by decide) (by decide) ty_54_5 rfl rfl (fun b222948 b222949 => ?_))
          have k222950 : wKI H222920 r0 = wKI H r0 := (wKI_fr hW g0 ((wfr.rf (l := [(42, 0)])).put' e222921 g0 rfl) rfl)
          exact wp_ireturn e294 c294_107 rfl ⟨rfl, w222922, f222923, H222920 r222937 5, rfl, ⟨by omega, by omega⟩, by omega⟩
        · refine wp_of e294 c294_38 (rw_tsw (p1 := 108) ⟨by omega, by omega⟩ (by rw [c222941]; decide) ?_)
          refine wp_of e294 c294_108 (rw_aload_n (pc' := 109) (v := .ref r0) rfl rfl rfl ?_)
          refine wp_of e294 c294_109 (xc_V (pc' := 112) (r := r0) (as := []) (st := []) (lm_9_357) rfl rfl (Nat.le_of_ble_eq_true rfl) w222922 g0 sh_42 (by decide) rfl (by decide) (s_207 w222922 g0) (fun R222951 T222952 H222953 p222954 => ?_))
          obtain ⟨e222955, e222957, z222958, e222956, b222959⟩ := p222954
          subst e222955
          subst e222956
          subst e222957
          show wp _ _ 294 112 [(0, .ref r0), (1, vI a1)] [vI z222958] _ H222920 _
          refine wp_of e294 c294_112 (xc_S (pc' := 115) (as := [vI z222958]) (st := []) (lm_9_462) rfl rfl (Nat.le_of_ble_eq_true rfl) rfl (by decide) (s_269 w222922 ⟨by omega, by omega⟩) (fun R222960 T222961 H222962 p222963 => ?_))
          obtain ⟨e222964, e222966, z222967, e222965, b222968⟩ := p222963
          subst e222964
          subst e222965
          subst e222966
          show wp _ _ 294 115 [(0, .ref r0), (1, vI a1)] [vI z222967] _ H222920 _
          have k222969 : wKI H222920 r0 = wKI H r0 := (wKI_fr hW g0 ((wfr.rf (l := [(42, 0)])).put' e222921 g0 rfl) rfl)
          exact wp_ireturn e294 c294_115 rfl ⟨rfl, w222922, f222923, z222967, rfl, ⟨by omega, by omega⟩, by omega⟩
        · refine wp_of e294 c294_38 (rw_tsw (p1 := 116) ⟨by omega, by omega⟩ (by rw [c222941]; decide) ?_)
          refine wp_of e294 c294_116 (rw_aload_n (pc' := 117) (v := .ref r0) rfl rfl rfl ?_)
          refine wp_of e294 c294_117 (xg_K (pc' := 120) lf_9_337 w222922 g0 sh_42 (by decide) (by decide) rfl q222938 rfl ?_)
          refine wp_of e294 c294_120 (xg_I (pc' := 123) lf_9_306 w222922 g222939 sh_54 (by decide) (by decide) ty_54_6 rfl rfl (fun b222970 b222971 => ?_))
          have k222972 : wKI H222920 r0 = wKI H r0 := (wKI_fr hW g0 ((wfr.rf (l := [(42, 0)])).put' e222921 g0 rfl) rfl)
          exact wp_ireturn e294 c294_123 rfl ⟨rfl, w222922, f222923, H222920 r222937 6, rfl, ⟨by omega, by omega⟩, by omega⟩
        · refine wp_of e294 c294_38 (rw_tsw (p1 := 124) ⟨by omega, by omega⟩ (by rw [c222941]; decide) ?_)
          refine wp_of e294 c294_124 (rw_aload_n (pc' := 125) (v := .ref r0) rfl rfl rfl ?_)
          refine wp_of e294 c294_125 (xg_K (pc' := 128) lf_9_337 w222922 g0 sh_42 (by decide) (by decide) rfl q222938 rfl ?_)
          refine wp_of e294 c294_128 (xg_I (pc' := 131) lf_9_321 w222922 g222939 sh_54 (by decide) (by decide) ty_54_7 rfl rfl (fun b222973 b222974 => ?_))
          have k222975 : wKI H222920 r0 = wKI H r0 := (wKI_fr hW g0 ((wfr.rf (l := [(42, 0)])).put' e222921 g0 rfl) rfl)
          exact wp_ireturn e294 c294_131 rfl ⟨rfl, w222922, f222923, H222920 r222937 7, rfl, ⟨by omega, by omega⟩, by omega⟩
        · refine wp_of e294 c294_38 (rw_tsw (p1 := 132) ⟨by omega, by omega⟩ (by rw [c222941]; decide) ?_)
          refine wp_of e294 c294_132 (rw_aload_n (pc' := 133) (v := .ref r0) rfl rfl rfl ?_)
          refine wp_of e294 c294_133 (xg_K (pc' := 136) lf_9_337 w222922 g0 sh_42 (by decide) (by decide) rfl q222938 rfl ?_)
          refine wp_of e294 c294_136 (xg_I (pc' := 139) lf_9_185 w222922 g222939 sh_54 (by decide) (by decide) ty_54_0 rfl rfl (fun b222976 b222977 => ?_))
          have k222978 : wKI H222920 r0 = wKI H r0 := (wKI_fr hW g0 ((wfr.rf (l := [(42, 0)])).put' e222921 g0 rfl) rfl)
          exact wp_ireturn e294 c294_139 rfl ⟨rfl, w222922, f222923, H222920 r222937 0, rfl, ⟨by omega, by omega⟩, by omega⟩
        · refine wp_of e294 c294_38 (rw_tsw (p1 := 140) ⟨by omega, by omega⟩ (by rw [c222941]; decide) ?_)
          refine wp_of e294 c294_140 (rw_aload_n (pc' := 141) (v := .ref r0) rfl rfl rfl ?_)
          refine wp_of e294 c294_141 (xg_K (pc' := 144) lf_9_337 w222922 g0 sh_42 (by decide) (by decide) rfl q222938 rfl ?_)
          refine wp_of e294 c294_144 (xg_I (pc' := 147) lf_9_271 w222922 g222939 sh_54 (by decide) (by decide) ty_54_8 rfl rfl (fun b222979 b222980 => ?_))
          refine wp_of e294 c294_147 (rw_iconst (pc' := 148) rfl ?_)
          refine wp_of e294 c294_148 (rw_icmp_ne (p1 := 156) (p2 := 151) (by decide) rfl ⟨by omega, by omega⟩ ⟨by omega, by omega⟩ (fun c222981 => ?_) (fun c222981 => ?_))
          · refine wp_of e294 c294_156 (rw_aload_n (pc' := 157) (v := .ref r0) rfl rfl rfl ?_)
            refine wp_of e294 c294_157 (xg_K (pc' := 160) lf_9_337 w222922 g0 sh_42 (by decide) (by decide) rfl q222938 rfl ?_)
            refine wp_of e294 c294_160 (xg_I (pc' := 163) lf_9_271 w222922 g222939 sh_54 (by decide) (by decide) ty_54_8 rfl rfl (fun b222982 b222983 => ?_))
            have k222984 : wKI H222920 r0 = wKI H r0 := (wKI_fr hW g0 ((wfr.rf (l := [(42, 0)])).put' e222921 g0 rfl) rfl)
            exact wp_ireturn e294 c294_163 rfl ⟨rfl, w222922, f222923, H222920 r222937 8, rfl, ⟨by omega, by omega⟩, by omega⟩
          · refine wp_of e294 c294_151 (rw_bipush (pc' := 153) (z := -2) rfl (by decide) ?_)
            refine wp_of e294 c294_153 (rw_goto (p1 := 163) (by decide) ?_)
            have k222985 : wKI H222920 r0 = wKI H r0 := (wKI_fr hW g0 ((wfr.rf (l := [(42, 0)])).put' e222921 g0 rfl) rfl)
            exact wp_ireturn e294 c294_163 rfl ⟨rfl, w222922, f222923, -2, rfl, ⟨by omega, by omega⟩, by omega⟩
        · refine wp_of e294 c294_38 (rw_tsw (p1 := 164) ⟨by omega, by omega⟩ (by rw [if_pos c222941]; decide) ?_)
          refine wp_of e294 c294_164 (rw_aload_n (pc' := 165) (v := .ref r0) rfl rfl rfl ?_)
          refine wp_of e294 c294_165 (xg_I (pc' := 168) lf_9_340 w222922 g0 sh_42 (by decide) (by decide) ty_42_32 rfl rfl (fun b222986 b222987 => ?_))
          have k222988 : wKI H222920 r0 = wKI H r0 := (wKI_fr hW g0 ((wfr.rf (l := [(42, 0)])).put' e222921 g0 rfl) rfl)
          exact wp_ireturn e294 c294_168 rfl ⟨rfl, w222922, f222923, H222920 r0 32, rfl, ⟨by omega, by omega⟩, by omega⟩
    · refine wp_of e294 c294_26 (rw_iconst (pc' := 27) rfl ?_)
      have k222989 : wKI H222920 r0 = wKI H r0 := (wKI_fr hW g0 ((wfr.rf (l := [(42, 0)])).put' e222921 g0 rfl) rfl)
      exact wp_ireturn e294 c294_27 rfl ⟨rfl, w222922, f222923, -1, rfl, ⟨by omega, by omega⟩, by omega⟩
  · refine wp_of e294 c294_11 (rw_aload_n (pc' := 12) (v := .ref r0) rfl rfl rfl ?_)
    refine wp_of e294 c294_12 (xg_I (pc' := 15) lf_9_330 w222922 g0 sh_42 (by decide) (by decide) ty_42_6 rfl rfl (fun b222990 b222991 => ?_))
    have k222992 : wKI H222920 r0 = wKI H r0 := (wKI_fr hW g0 ((wfr.rf (l := [(42, 0)])).put' e222921 g0 rfl) rfl)
    exact wp_ireturn e294 c294_15 rfl ⟨rfl, w222922, f222923, H222920 r0 6, rfl, ⟨by omega, by omega⟩, by omega⟩
