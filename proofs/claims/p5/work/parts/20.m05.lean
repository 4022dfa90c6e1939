/-! methods (own work, written by wip/gen2/sx.py) -/
/-! StrikeAwake$Walk.isWorld(LStrikeAwake$Parish;)Z -/
theorem e79 : wq_en 79 = some (3, 2, false, some FieldType.boolean) := rfl
theorem c79_0 : mc_cd 79 0 = some (.aload_n 0, 1) := by decide +kernel
theorem c79_1 : mc_cd 79 1 = some (.invokevirtual 118, 3) := by decide +kernel
theorem c79_4 : mc_cd 79 4 = some (.ifCond .ne 17, 3) := by decide +kernel
theorem c79_7 : mc_cd 79 7 = some (.aload_n 0, 1) := by decide +kernel
theorem c79_8 : mc_cd 79 8 = some (.aload_n 1, 1) := by decide +kernel
theorem c79_9 : mc_cd 79 9 = some (.invokevirtual 122, 3) := by decide +kernel
theorem c79_12 : mc_cd 79 12 = some (.bipush 24, 2) := by decide +kernel
theorem c79_14 : mc_cd 79 14 = some (.if_icmp .ne 7, 3) := by decide +kernel
theorem c79_17 : mc_cd 79 17 = some (.iconst 1, 1) := by decide +kernel
theorem c79_18 : mc_cd 79 18 = some (.goto 4, 3) := by decide +kernel
theorem c79_21 : mc_cd 79 21 = some (.iconst 0, 1) := by decide +kernel
theorem c79_22 : mc_cd 79 22 = some (.ireturn, 1) := by decide +kernel
abbrev q_79 (r0 : Nat) (r1 : Nat) (T : wq_T) (H : wq_H) : Option Value → wq_T → wq_H → Prop := fun r T' H' => T = T' ∧ H = H' ∧ ∃ z : Int, some (vI z) = r ∧ (0 ≤ z ∧ z ≤ 1)
set_option maxHeartbeats 4000000 in
theorem s_79 {kt : Nat → Option mc_E} {T : wq_T} {H : wq_H} {r0 : Nat} {r1 : Nat} (hW : WT T H) (g0 : T.2.2.2 r0 = some 6) (g1 : T.2.2.2 r1 = some 27) : wpc kt 3 79 [.ref r0, .ref r1] T H (q_79 r0 r1 T H) := by
  refine wp_enter e79 (Nat.le_of_ble_eq_true rfl) rfl ?_
  show wp _ _ 79 0 [(0, .ref r0), (1, .ref r1)] [] _ H _
  refine wp_of e79 c79_0 (rw_aload_n (pc' := 1) (v := .ref r0) rfl rfl rfl ?_)
  refine wp_of e79 c79_1 (xc_V (pc' := 4) (r := r0) (as := []) (st := []) (lm_3_118) rfl rfl (Nat.le_of_ble_eq_true rfl) hW g0 sh_6 (by decide) rfl (by decide) (s_80 hW g0) (fun R20678 T20679 H20680 p20681 => ?_))
  obtain ⟨e20682, e20684, z20685, e20683, b20686⟩ := p20681
  subst e20682
  subst e20683
  subst e20684
  show wp _ _ 79 4 [(0, .ref r0), (1, .ref r1)] [vI z20685] _ H _
  refine wp_of e79 c79_4 (rw_if_ne (p1 := 21) (p2 := 7) (by decide) rfl ⟨by omega, by omega⟩ (fun c20687 => ?_) (fun c20687 => ?_))
  · refine wp_of e79 c79_21 (rw_iconst (pc' := 22) rfl ?_)
    exact wp_zreturn e79 c79_22 rfl (by omega) ⟨rfl, rfl, 0, rfl, ⟨by omega, by omega⟩⟩
  · refine wp_of e79 c79_7 (rw_aload_n (pc' := 8) (v := .ref r0) rfl rfl rfl ?_)
    refine wp_of e79 c79_8 (rw_aload_n (pc' := 9) (v := .ref r1) rfl rfl rfl ?_)
    refine wp_of e79 c79_9 (xc_V (pc' := 12) (r := r0) (as := [.ref r1]) (st := []) (lm_3_122) rfl rfl (Nat.le_of_ble_eq_true rfl) hW g0 sh_6 (by decide) rfl (by decide) (s_81 hW g0 g1) (fun R20688 T20689 H20690 p20691 => ?_))
    obtain ⟨e20692, e20694, z20695, e20693, b20696⟩ := p20691
    subst e20692
    subst e20693
    subst e20694
    show wp _ _ 79 12 [(0, .ref r0), (1, .ref r1)] [vI z20695] _ H _
    refine wp_of e79 c79_12 (rw_bipush (pc' := 14) (z := 24) rfl (by decide) ?_)
    refine wp_of e79 c79_14 (rw_icmp_ne (p1 := 21) (p2 := 17) (by decide) rfl ⟨by omega, by omega⟩ ⟨by omega, by omega⟩ (fun c20697 => ?_) (fun c20697 => ?_))
    · refine wp_of e79 c79_21 (rw_iconst (pc' := 22) rfl ?_)
      exact wp_zreturn e79 c79_22 rfl (by omega) ⟨rfl, rfl, 0, rfl, ⟨by omega, by omega⟩⟩
    · refine wp_of e79 c79_17 (rw_iconst (pc' := 18) rfl ?_)
      refine wp_of e79 c79_18 (rw_goto (p1 := 22) (by decide) ?_)
      exact wp_zreturn e79 c79_22 rfl (by omega) ⟨rfl, rfl, 1, rfl, ⟨by omega, by omega⟩⟩
/-! StrikeAwake.agrees()I -/
theorem e78 : wq_en 78 = some (0, 2, false, some FieldType.int) := rfl
theorem c78_0 : mc_cd 78 0 = some (.aload_n 0, 1) := by decide +kernel
theorem c78_1 : mc_cd 78 1 = some (.aload_n 0, 1) := by decide +kernel
theorem c78_2 : mc_cd 78 2 = some (.getfield 58, 3) := by decide +kernel
theorem c78_5 : mc_cd 78 5 = some (.invokevirtual 155, 3) := by decide +kernel
theorem c78_8 : mc_cd 78 8 = some (.istore_n 1, 1) := by decide +kernel
theorem c78_9 : mc_cd 78 9 = some (.iload_n 1, 1) := by decide +kernel
theorem c78_10 : mc_cd 78 10 = some (.ifCond .eq 9, 3) := by decide +kernel
theorem c78_13 : mc_cd 78 13 = some (.aload_n 0, 1) := by decide +kernel
theorem c78_14 : mc_cd 78 14 = some (.iload_n 1, 1) := by decide +kernel
theorem c78_15 : mc_cd 78 15 = some (.invokevirtual 70, 3) := by decide +kernel
theorem c78_18 : mc_cd 78 18 = some (.ireturn, 1) := by decide +kernel
theorem c78_19 : mc_cd 78 19 = some (.aload_n 0, 1) := by decide +kernel
theorem c78_20 : mc_cd 78 20 = some (.aload_n 0, 1) := by decide +kernel
theorem c78_21 : mc_cd 78 21 = some (.getfield 23, 3) := by decide +kernel
theorem c78_24 : mc_cd 78 24 = some (.aload_n 0, 1) := by decide +kernel
theorem c78_25 : mc_cd 78 25 = some (.getfield 51, 3) := by decide +kernel
theorem c78_28 : mc_cd 78 28 = some (.invokevirtual 170, 3) := by decide +kernel
theorem c78_31 : mc_cd 78 31 = some (.ifCond .eq 7, 3) := by decide +kernel
theorem c78_34 : mc_cd 78 34 = some (.iconst 1, 1) := by decide +kernel
theorem c78_35 : mc_cd 78 35 = some (.goto 4, 3) := by decide +kernel
theorem c78_38 : mc_cd 78 38 = some (.iconst 0, 1) := by decide +kernel
theorem c78_39 : mc_cd 78 39 = some (.invokevirtual 99, 3) := by decide +kernel
theorem c78_42 : mc_cd 78 42 = some (.ireturn, 1) := by decide +kernel
abbrev q_78 (r0 : Nat) (T : wq_T) (H : wq_H) : Option Value → wq_T → wq_H → Prop := fun r T' H' => T = T' ∧ WT T H' ∧ wfr [(1, 10), (6, 5), (8, 999), (10, 999), (9, 999), (7, 999), (11, 999)] T H H' ∧ ∃ z : Int, some (vI z) = r ∧ ((-2147483648) ≤ z ∧ z ≤ 2147483647) ∧ (H' r0 10 ≠ 4)
set_option maxHeartbeats 4000000 in
theorem s_78 {kt : Nat → Option mc_E} {T : wq_T} {H : wq_H} {r0 : Nat} (hW : WT T H) (g0 : T.2.2.2 r0 = some 1) : wpc kt 5 78 [.ref r0] T H (q_78 r0 T H) := by
  refine wp_enter e78 (Nat.le_of_ble_eq_true rfl) rfl ?_
  have f0 : wfr [(1, 10), (6, 5), (8, 999), (10, 999), (9, 999), (7, 999), (11, 999)] T H H := wfr.rf
  show wp _ _ 78 0 [(0, .ref r0)] [] _ H _
  refine wp_of e78 c78_0 (rw_aload_n (pc' := 1) (v := .ref r0) rfl rfl rfl ?_)
  refine wp_of e78 c78_1 (rw_aload_n (pc' := 2) (v := .ref r0) rfl rfl rfl ?_)
  refine wp_of e78 c78_2 (xg_I (pc' := 5) lf_0_58 hW g0 sh_1 (by decide) (by decide) ty_1_8 rfl rfl (fun b20766 b20767 => ?_))
  refine wp_of e78 c78_5 (xc_V (pc' := 8) (r := r0) (as := [vI (H r0 8)]) (st := []) (lm_0_155) rfl rfl (Nat.le_of_ble_eq_true rfl) hW g0 sh_1 (by decide) rfl (by decide) (s_67 hW g0 ⟨by omega, by omega⟩) (fun R20768 T20769 H20770 p20771 => ?_))
  obtain ⟨e20772, w20774, f20775, z20778, e20773, b20779, p20776, p20777⟩ := p20771
  subst e20772
  subst e20773
  have f20780 := f0.tr f20775 rfl
  show wp _ _ 78 8 [(0, .ref r0)] [vI z20778] _ H20770 _
  refine wp_of e78 c78_8 (rw_istore_n (pc' := 9) (z := z20778) (L' := [(1, vI z20778), (0, .ref r0)]) rfl rfl rfl ?_)
  refine wp_of e78 c78_9 (rw_iload_n (pc' := 10) (z := z20778) rfl rfl ?_)
  refine wp_of e78 c78_10 (rw_if_eq (p1 := 19) (p2 := 13) (by decide) rfl ⟨by omega, by omega⟩ (fun c20781 => ?_) (fun c20781 => ?_))
  · refine wp_of e78 c78_19 (rw_aload_n (pc' := 20) (v := .ref r0) rfl rfl rfl ?_)
    refine wp_of e78 c78_20 (rw_aload_n (pc' := 21) (v := .ref r0) rfl rfl rfl ?_)
    refine wp_of e78 c78_21 (xg_R (pc' := 24) lf_0_23 w20774 g0 sh_1 (by decide) (by decide) ty_1_2 rfl rfl (fun r20782 q20783 g20784 => ?_))
    refine wp_of e78 c78_24 (rw_aload_n (pc' := 25) (v := .ref r0) rfl rfl rfl ?_)
    refine wp_of e78 c78_25 (xg_R (pc' := 28) lf_0_51 w20774 g0 sh_1 (by decide) (by decide) ty_1_6 rfl rfl (fun r20785 q20786 g20787 => ?_))
    refine wp_of e78 c78_28 (xc_V (pc' := 31) (r := r20782) (as := [.ref r20785]) (st := [.ref r0]) (lm_0_170) rfl rfl (Nat.le_of_ble_eq_true rfl) w20774 g20784 sh_6 (by decide) rfl (by decide) (s_79 w20774 g20784 g20787) (fun R20788 T20789 H20790 p20791 => ?_))
    obtain ⟨e20792, e20794, z20795, e20793, b20796⟩ := p20791
    subst e20792
    subst e20793
    subst e20794
    show wp _ _ 78 31 [(1, vI z20778), (0, .ref r0)] [vI z20795, .ref r0] _ H20770 _
    refine wp_of e78 c78_31 (rw_if_eq (p1 := 38) (p2 := 34) (by decide) rfl ⟨by omega, by omega⟩ (fun c20797 => ?_) (fun c20797 => ?_))
    · refine wp_of e78 c78_38 (rw_iconst (pc' := 39) rfl ?_)
      refine wp_of e78 c78_39 (xc_V (pc' := 42) (r := r0) (as := [vI 0]) (st := []) (lm_0_99) rfl rfl (Nat.le_of_ble_eq_true rfl) w20774 g0 sh_1 (by decide) rfl (by decide) (s_51 w20774 g0 ⟨by omega, by omega⟩) (fun R20798 T20799 H20800 p20801 => ?_))
      obtain ⟨e20802, w20804, f20805, z20807, e20803, b20808, p20806⟩ := p20801
      subst e20802
      subst e20803
      have f20809 := f20780.tr f20805 rfl
      show wp _ _ 78 42 [(1, vI z20778), (0, .ref r0)] [vI z20807] _ H20800 _
      exact wp_ireturn e78 c78_42 rfl ⟨rfl, w20804, f20809, z20807, rfl, ⟨by omega, by omega⟩, by omega⟩
    · refine wp_of e78 c78_34 (rw_iconst (pc' := 35) rfl ?_)
      refine wp_of e78 c78_35 (rw_goto (p1 := 39) (by decide) ?_)
      refine wp_of e78 c78_39 (xc_V (pc' := 42) (r := r0) (as := [vI 1]) (st := []) (lm_0_99) rfl rfl (Nat.le_of_ble_eq_true rfl) w20774 g0 sh_1 (by decide) rfl (by decide) (s_51 w20774 g0 ⟨by omega, by omega⟩) (fun R20810 T20811 H20812 p20813 => ?_))
      obtain ⟨e20814, w20816, f20817, z20819, e20815, b20820, p20818⟩ := p20813
      subst e20814
      subst e20815
      have f20821 := f20780.tr f20817 rfl
      show wp _ _ 78 42 [(1, vI z20778), (0, .ref r0)] [vI z20819] _ H20812 _
      exact wp_ireturn e78 c78_42 rfl ⟨rfl, w20816, f20821, z20819, rfl, ⟨by omega, by omega⟩, by omega⟩
  · refine wp_of e78 c78_13 (rw_aload_n (pc' := 14) (v := .ref r0) rfl rfl rfl ?_)
    refine wp_of e78 c78_14 (rw_iload_n (pc' := 15) (z := z20778) rfl rfl ?_)
    refine wp_of e78 c78_15 (xc_V (pc' := 18) (r := r0) (as := [vI z20778]) (st := []) (lm_0_70) rfl rfl (Nat.le_of_ble_eq_true rfl) w20774 g0 sh_1 (by decide) rfl (by decide) (s_12 w20774 g0 ⟨by omega, by omega⟩) (fun R20822 T20823 H20824 p20825 => ?_))
    obtain ⟨e20826, w20828, f20829, z20831, e20827, b20832, p20830⟩ := p20825
    subst e20826
    subst e20827
    have f20833 := f20780.tr f20829 rfl
    show wp _ _ 78 18 [(1, vI z20778), (0, .ref r0)] [vI z20831] _ H20824 _
    exact wp_ireturn e78 c78_18 rfl ⟨rfl, w20828, f20833, z20831, rfl, ⟨by omega, by omega⟩, by omega⟩
/-! StrikeAwake.barOfLots(Z)I -/
theorem e84 : wq_en 84 = some (0, 2, false, some FieldType.int) := rfl
theorem c84_0 : mc_cd 84 0 = some (.iload_n 1, 1) := by decide +kernel
theorem c84_1 : mc_cd 84 1 = some (.ifCond .ne 5, 3) := by decide +kernel
theorem c84_4 : mc_cd 84 4 = some (.iconst 1, 1) := by decide +kernel
theorem c84_5 : mc_cd 84 5 = some (.ireturn, 1) := by decide +kernel
theorem c84_6 : mc_cd 84 6 = some (.aload_n 0, 1) := by decide +kernel
theorem c84_7 : mc_cd 84 7 = some (.getfield 51, 3) := by decide +kernel
theorem c84_10 : mc_cd 84 10 = some (.getfield 141, 3) := by decide +kernel
theorem c84_13 : mc_cd 84 13 = some (.ldc2_w 348, 3) := by decide +kernel
theorem c84_16 : mc_cd 84 16 = some (.lcmp, 1) := by decide +kernel
theorem c84_17 : mc_cd 84 17 = some (.ifCond .le 7, 3) := by decide +kernel
theorem c84_20 : mc_cd 84 20 = some (.iconst 3, 1) := by decide +kernel
theorem c84_21 : mc_cd 84 21 = some (.goto 4, 3) := by decide +kernel
theorem c84_24 : mc_cd 84 24 = some (.iconst 0, 1) := by decide +kernel
theorem c84_25 : mc_cd 84 25 = some (.ireturn, 1) := by decide +kernel
abbrev q_84 (r0 : Nat) (a1 : Int) (T : wq_T) (H : wq_H) : Option Value → wq_T → wq_H → Prop := fun r T' H' => T = T' ∧ H = H' ∧ ∃ z : Int, some (vI z) = r ∧ (0 ≤ z ∧ z ≤ 6) ∧ (z ≠ 0 ∨ a1 = 1) ∧ (z ≠ 4)
set_option maxHeartbeats 4000000 in
theorem s_84 {kt : Nat → Option mc_E} {T : wq_T} {H : wq_H} {r0 : Nat} {a1 : Int} (hW : WT T H) (g0 : T.2.2.2 r0 = some 1) (i1 : 0 ≤ a1 ∧ a1 ≤ 1) : wpc kt 1 84 [.ref r0, vI a1] T H (q_84 r0 a1 T H) := by
  refine wp_enter e84 (Nat.le_of_ble_eq_true rfl) rfl ?_
  show wp _ _ 84 0 [(0, .ref r0), (1, vI a1)] [] _ H _
  refine wp_of e84 c84_0 (rw_iload_n (pc' := 1) (z := a1) rfl rfl ?_)
  refine wp_of e84 c84_1 (rw_if_ne (p1 := 6) (p2 := 4) (by decide) rfl ⟨by omega, by omega⟩ (fun c20842 => ?_) (fun c20842 => ?_))
  · refine wp_of e84 c84_6 (rw_aload_n (pc' := 7) (v := .ref r0) rfl rfl rfl ?_)
    refine wp_of e84 c84_7 (xg_R (pc' := 10) lf_0_51 hW g0 sh_1 (by decide) (by decide) ty_1_6 rfl rfl (fun r20843 q20844 g20845 => ?_))
    refine wp_of e84 c84_10 (xg_L (pc' := 13) lf_0_141 hW g20845 sh_27 (by decide) (by decide) ty_27_18 rfl rfl (fun b20846 b20847 => ?_))
    refine wp_of e84 c84_13 (rw_ldc2 (pc' := 16) (z := 20000) rfl rfl rfl ?_)
    refine wp_of e84 c84_16 (rw_lcmp (pc' := 17) rfl ⟨by omega, by omega⟩ ⟨by omega, by omega⟩ ?_)
    have b20848 := wq_cmp_b (H r20843 18) 20000
    refine wp_of e84 c84_17 (rw_if_le (p1 := 24) (p2 := 20) (by decide) rfl ⟨by omega, by omega⟩ (fun c20849 => ?_) (fun c20849 => ?_))
    · refine wp_of e84 c84_24 (rw_iconst (pc' := 25) rfl ?_)
      exact wp_ireturn e84 c84_25 rfl ⟨rfl, rfl, 0, rfl, ⟨by omega, by omega⟩, by omega, by omega⟩
    · refine wp_of e84 c84_20 (rw_iconst (pc' := 21) rfl ?_)
      refine wp_of e84 c84_21 (rw_goto (p1 := 25) (by decide) ?_)
      exact wp_ireturn e84 c84_25 rfl ⟨rfl, rfl, 3, rfl, ⟨by omega, by omega⟩, by omega, by omega⟩
  · refine wp_of e84 c84_4 (rw_iconst (pc' := 5) rfl ?_)
    exact wp_ireturn e84 c84_5 rfl ⟨rfl, rfl, 1, rfl, ⟨by omega, by omega⟩, by omega, by omega⟩
/-! StrikeAwake$Census.clear()V -/
theorem e86 : wq_en 86 = some (4, 3, false, none) := rfl
theorem c86_0 : mc_cd 86 0 = some (.iconst 0, 1) := by decide +kernel
theorem c86_1 : mc_cd 86 1 = some (.istore_n 1, 1) := by decide +kernel
theorem c86_2 : mc_cd 86 2 = some (.iload_n 1, 1) := by decide +kernel
theorem c86_3 : mc_cd 86 3 = some (.aload_n 0, 1) := by decide +kernel
theorem c86_4 : mc_cd 86 4 = some (.getfield 11, 3) := by decide +kernel
theorem c86_7 : mc_cd 86 7 = some (.arraylength, 1) := by decide +kernel
theorem c86_8 : mc_cd 86 8 = some (.if_icmp .ge 16, 3) := by decide +kernel
theorem c86_11 : mc_cd 86 11 = some (.aload_n 0, 1) := by decide +kernel
theorem c86_12 : mc_cd 86 12 = some (.getfield 11, 3) := by decide +kernel
theorem c86_15 : mc_cd 86 15 = some (.iload_n 1, 1) := by decide +kernel
theorem c86_16 : mc_cd 86 16 = some (.lconst 0, 1) := by decide +kernel
theorem c86_17 : mc_cd 86 17 = some (.lastore, 1) := by decide +kernel
theorem c86_18 : mc_cd 86 18 = some (.iinc 1 1, 3) := by decide +kernel
theorem c86_21 : mc_cd 86 21 = some (.goto (-19), 3) := by decide +kernel
theorem c86_24 : mc_cd 86 24 = some (.iconst 0, 1) := by decide +kernel
theorem c86_25 : mc_cd 86 25 = some (.istore_n 1, 1) := by decide +kernel
theorem c86_26 : mc_cd 86 26 = some (.iload_n 1, 1) := by decide +kernel
theorem c86_27 : mc_cd 86 27 = some (.bipush 6, 2) := by decide +kernel
theorem c86_29 : mc_cd 86 29 = some (.if_icmp .ge 41, 3) := by decide +kernel
theorem c86_32 : mc_cd 86 32 = some (.iconst 0, 1) := by decide +kernel
theorem c86_33 : mc_cd 86 33 = some (.istore_n 2, 1) := by decide +kernel
theorem c86_34 : mc_cd 86 34 = some (.iload_n 2, 1) := by decide +kernel
theorem c86_35 : mc_cd 86 35 = some (.bipush 40, 2) := by decide +kernel
theorem c86_37 : mc_cd 86 37 = some (.if_icmp .ge 27, 3) := by decide +kernel
theorem c86_40 : mc_cd 86 40 = some (.aload_n 0, 1) := by decide +kernel
theorem c86_41 : mc_cd 86 41 = some (.getfield 17, 3) := by decide +kernel
theorem c86_44 : mc_cd 86 44 = some (.iload_n 1, 1) := by decide +kernel
theorem c86_45 : mc_cd 86 45 = some (.aaload, 1) := by decide +kernel
theorem c86_46 : mc_cd 86 46 = some (.iload_n 2, 1) := by decide +kernel
theorem c86_47 : mc_cd 86 47 = some (.iconst 0, 1) := by decide +kernel
theorem c86_48 : mc_cd 86 48 = some (.iastore, 1) := by decide +kernel
theorem c86_49 : mc_cd 86 49 = some (.aload_n 0, 1) := by decide +kernel
theorem c86_50 : mc_cd 86 50 = some (.getfield 22, 3) := by decide +kernel
theorem c86_53 : mc_cd 86 53 = some (.iload_n 1, 1) := by decide +kernel
theorem c86_54 : mc_cd 86 54 = some (.aaload, 1) := by decide +kernel
theorem c86_55 : mc_cd 86 55 = some (.iload_n 2, 1) := by decide +kernel
theorem c86_56 : mc_cd 86 56 = some (.lconst 0, 1) := by decide +kernel
theorem c86_57 : mc_cd 86 57 = some (.lastore, 1) := by decide +kernel
theorem c86_58 : mc_cd 86 58 = some (.iinc 2 1, 3) := by decide +kernel
theorem c86_61 : mc_cd 86 61 = some (.goto (-27), 3) := by decide +kernel
theorem c86_64 : mc_cd 86 64 = some (.iinc 1 1, 3) := by decide +kernel
theorem c86_67 : mc_cd 86 67 = some (.goto (-41), 3) := by decide +kernel
theorem c86_70 : mc_cd 86 70 = some (.aload_n 0, 1) := by decide +kernel
theorem c86_71 : mc_cd 86 71 = some (.iconst 0, 1) := by decide +kernel
theorem c86_72 : mc_cd 86 72 = some (.putfield 62, 3) := by decide +kernel
theorem c86_75 : mc_cd 86 75 = some (.aload_n 0, 1) := by decide +kernel
theorem c86_76 : mc_cd 86 76 = some (.lconst 0, 1) := by decide +kernel
theorem c86_77 : mc_cd 86 77 = some (.putfield 66, 3) := by decide +kernel
theorem c86_80 : mc_cd 86 80 = some (.aload_n 0, 1) := by decide +kernel
theorem c86_81 : mc_cd 86 81 = some (.iconst 0, 1) := by decide +kernel
theorem c86_82 : mc_cd 86 82 = some (.putfield 69, 3) := by decide +kernel
theorem c86_85 : mc_cd 86 85 = some (.aload_n 0, 1) := by decide +kernel
theorem c86_86 : mc_cd 86 86 = some (.lconst 0, 1) := by decide +kernel
theorem c86_87 : mc_cd 86 87 = some (.putfield 72, 3) := by decide +kernel
theorem c86_90 : mc_cd 86 90 = some (.return_, 1) := by decide +kernel
abbrev q_86 (r0 : Nat) (T : wq_T) (H : wq_H) : Option Value → wq_T → wq_H → Prop := fun r T' H' => T = T' ∧ WT T H' ∧ wfr [(12, 5), (12, 6), (12, 7), (12, 8), (15, 999), (17, 999), (13, 999)] T H H' ∧ none = r
set_option maxHeartbeats 4000000 in
theorem s_86 {kt : Nat → Option mc_E} {T : wq_T} {H : wq_H} {r0 : Nat} (hW : WT T H) (g0 : T.2.2.2 r0 = some 12) : wpc kt 1 86 [.ref r0] T H (q_86 r0 T H) := by
  refine wp_enter e86 (Nat.le_of_ble_eq_true rfl) rfl ?_
  have f0 : wfr [(12, 5), (12, 6), (12, 7), (12, 8), (15, 999), (17, 999), (13, 999)] T H H := wfr.rf
  show wp _ _ 86 0 [(0, .ref r0)] [] _ H _
  refine wp_of e86 c86_0 (rw_iconst (pc' := 1) rfl ?_)
  refine wp_of e86 c86_1 (rw_istore_n (pc' := 2) (z := 0) (L' := [(1, vI 0), (0, .ref r0)]) rfl rfl rfl ?_)
  have lp22536 : ∀ (n22537 : Nat) (v22539 : Int) (H22540 : wq_H), WT T H22540 → wfr [(13, 999)] T H H22540 → (0 ≤ v22539 ∧ v22539 ≤ 313) → (313 - v22539).toNat = n22537 → wp kt 0 86 2 [(1, vI v22539), (0, .ref r0)] [] T H22540 (q_86 r0 T H) := by
    intro n22537
    induction n22537 using Nat.strongRecOn with
    | _ n22537 ih22538 =>
      intro v22539 H22540 w22541 f22542 b22543 m22544
      have f22545 := f0.tr f22542 rfl
      refine wp_of e86 c86_2 (rw_iload_n (pc' := 3) (z := v22539) rfl rfl ?_)
      refine wp_of e86 c86_3 (rw_aload_n (pc' := 4) (v := .ref r0) rfl rfl rfl ?_)
      refine wp_of e86 c86_4 (xg_R (pc' := 7) lf_4_11 w22541 g0 sh_12 (by decide) (by decide) ty_12_0 rfl rfl (fun r22546 q22547 g22548 => ?_))
      refine wp_of e86 c86_7 (xa_N (pc' := 8) (n := 313) w22541 g22548 sh_13 (by decide) rfl ?_)
      refine wp_of e86 c86_8 (rw_icmp_ge (p1 := 24) (p2 := 11) (by decide) rfl ⟨by omega, by omega⟩ ⟨by omega, by omega⟩ (fun c22549 => ?_) (fun c22549 => ?_))
      · refine wp_of e86 c86_24 (rw_iconst (pc' := 25) rfl ?_)
        refine wp_of e86 c86_25 (rw_istore_n (pc' := 26) (z := 0) (L' := [(1, vI 0), (0, .ref r0)]) rfl rfl rfl ?_)
        have lp23887 : ∀ (n23888 : Nat) (v23890 : Int) (H23891 : wq_H), WT T H23891 → wfr [(15, 999), (17, 999)] T H22540 H23891 → (0 ≤ v23890 ∧ v23890 ≤ 6) → (6 - v23890).toNat = n23888 → wp kt 0 86 26 [(1, vI v23890), (0, .ref r0)] [] T H23891 (q_86 r0 T H) := by
          intro n23888
          induction n23888 using Nat.strongRecOn with
          | _ n23888 ih23889 =>
            intro v23890 H23891 w23892 f23893 b23894 m23895
            have f23896 := f22545.tr f23893 rfl
            refine wp_of e86 c86_26 (rw_iload_n (pc' := 27) (z := v23890) rfl rfl ?_)
            refine wp_of e86 c86_27 (rw_bipush (pc' := 29) (z := 6) rfl (by decide) ?_)
            refine wp_of e86 c86_29 (rw_icmp_ge (p1 := 70) (p2 := 32) (by decide) rfl ⟨by omega, by omega⟩ ⟨by omega, by omega⟩ (fun c23897 => ?_) (fun c23897 => ?_))
            · refine wp_of e86 c86_70 (rw_aload_n (pc' := 71) (v := .ref r0) rfl rfl rfl ?_)
              refine wp_of e86 c86_71 (rw_iconst (pc' := 72) rfl ?_)
              refine wp_of e86 c86_72 (xp_I (pc' := 75) lf_4_62 w23892 g0 sh_12 (by decide) (by decide) ty_12_5 rfl rfl (by omega) (by omega) ⟨by omega, by omega⟩ rfl (fun H23898 e23899 w23900 => ?_))
              have f23901 := f23896.put' e23899 g0 rfl
              have k23902 : H23898 r0 5 = 0 := wq_u_s e23899
              refine wp_of e86 c86_75 (rw_aload_n (pc' := 76) (v := .ref r0) rfl rfl rfl ?_)
              refine wp_of e86 c86_76 (rw_lconst (pc' := 77) (z := 0) rfl rfl ?_)
              refine wp_of e86 c86_77 (xp_L (pc' := 80) lf_4_66 w23900 g0 sh_12 (by decide) (by decide) ty_12_6 rfl rfl (by omega) (by omega) ⟨by omega, by omega⟩ rfl (fun H23903 e23904 w23905 => ?_))
              have f23906 := f23901.put' e23904 g0 rfl
              have k23907 : H23903 r0 6 = 0 := wq_u_s e23904
              refine wp_of e86 c86_80 (rw_aload_n (pc' := 81) (v := .ref r0) rfl rfl rfl ?_)
              refine wp_of e86 c86_81 (rw_iconst (pc' := 82) rfl ?_)
              refine wp_of e86 c86_82 (xp_I (pc' := 85) lf_4_69 w23905 g0 sh_12 (by decide) (by decide) ty_12_7 rfl rfl (by omega) (by omega) ⟨by omega, by omega⟩ rfl (fun H23908 e23909 w23910 => ?_))
              have f23911 := f23906.put' e23909 g0 rfl
              have k23912 : H23908 r0 7 = 0 := wq_u_s e23909
              refine wp_of e86 c86_85 (rw_aload_n (pc' := 86) (v := .ref r0) rfl rfl rfl ?_)
              refine wp_of e86 c86_86 (rw_lconst (pc' := 87) (z := 0) rfl rfl ?_)
              refine wp_of e86 c86_87 (xp_L (pc' := 90) lf_4_72 w23910 g0 sh_12 (by decide) (by decide) ty_12_8 rfl rfl (by omega) (by omega) ⟨by omega, by omega⟩ rfl (fun H23913 e23914 w23915 => ?_))
              have f23916 := f23911.put' e23914 g0 rfl
              have k23917 : H23913 r0 8 = 0 := wq_u_s e23914
              exact wp_return e86 c86_90 rfl ⟨rfl, w23915, f23916, rfl⟩
            · refine wp_of e86 c86_32 (rw_iconst (pc' := 33) rfl ?_)
              refine wp_of e86 c86_33 (rw_istore_n (pc' := 34) (z := 0) (L' := [(2, vI 0), (1, vI v23890), (0, .ref r0)]) rfl rfl rfl ?_)
              have lp24102 : ∀ (n24103 : Nat) (v24105 : Int) (H24106 : wq_H), WT T H24106 → wfr [(15, 999), (17, 999)] T H23891 H24106 → (0 ≤ v24105 ∧ v24105 ≤ 40) → (40 - v24105).toNat = n24103 → wp kt 0 86 34 [(2, vI v24105), (1, vI v23890), (0, .ref r0)] [] T H24106 (q_86 r0 T H) := by
                intro n24103
                induction n24103 using Nat.strongRecOn with
                | _ n24103 ih24104 =>
                  intro v24105 H24106 w24107 f24108 b24109 m24110
                  have f24111 := f23896.tr f24108 rfl
                  have f24112 := f23893.tr f24108 rfl
                  refine wp_of e86 c86_34 (rw_iload_n (pc' := 35) (z := v24105) rfl rfl ?_)
                  refine wp_of e86 c86_35 (rw_bipush (pc' := 37) (z := 40) rfl (by decide) ?_)
                  refine wp_of e86 c86_37 (rw_icmp_ge (p1 := 64) (p2 := 40) (by decide) rfl ⟨by omega, by omega⟩ ⟨by omega, by omega⟩ (fun c24113 => ?_) (fun c24113 => ?_))
                  · refine wp_of e86 c86_64 (rw_iinc (pc' := 67) (z := v23890) (L' := [(1, vI (v23890 + 1)), (2, vI v24105), (0, .ref r0)]) rfl rfl rfl rfl ?_)
                    refine wp_of e86 c86_67 (rw_goto (p1 := 26) (by decide) ?_)
                    exact wp_lc (ks := [1, 2, 0]) (wl_c rfl (wl_c rfl wl_n)) rfl (by decide) (ih23889 _ (by omega) (v23890 + 1) H24106 w24107 f24112 ⟨by omega, by omega⟩ rfl)
                  · refine wp_of e86 c86_40 (rw_aload_n (pc' := 41) (v := .ref r0) rfl rfl rfl ?_)
                    refine wp_of e86 c86_41 (xg_R (pc' := 44) lf_4_17 w24107 g0 sh_12 (by decide) (by decide) ty_12_1 rfl rfl (fun r24114 q24115 g24116 => ?_))
                    refine wp_of e86 c86_44 (rw_iload_n (pc' := 45) (z := v23890) rfl rfl ?_)
                    refine wp_of e86 c86_45 (xa_R (pc' := 46) (by decide) w24107 g24116 sh_14 (by decide) (ty_14 _) (by omega) (by omega) rfl (fun r24117 q24118 g24119 => ?_))
                    refine wp_of e86 c86_46 (rw_iload_n (pc' := 47) (z := v24105) rfl rfl ?_)
                    refine wp_of e86 c86_47 (rw_iconst (pc' := 48) rfl ?_)
                    refine wp_of e86 c86_48 (xs_I (pc' := 49) w24107 g24119 (by decide) sh_15 (by decide) (ty_15 _) (by omega) (by omega) ⟨by omega, by omega⟩ (by omega) (by omega) rfl (fun H24120 e24121 w24122 => ?_))
                    have f24123 := f24111.put' e24121 g24119 rfl
                    have f24124 := f24112.put' e24121 g24119 rfl
                    have f24125 := f24108.put' e24121 g24119 rfl
                    refine wp_of e86 c86_49 (rw_aload_n (pc' := 50) (v := .ref r0) rfl rfl rfl ?_)
                    refine wp_of e86 c86_50 (xg_R (pc' := 53) lf_4_22 w24122 g0 sh_12 (by decide) (by decide) ty_12_2 rfl rfl (fun r24126 q24127 g24128 => ?_))
                    refine wp_of e86 c86_53 (rw_iload_n (pc' := 54) (z := v23890) rfl rfl ?_)
                    refine wp_of e86 c86_54 (xa_R (pc' := 55) (by decide) w24122 g24128 sh_16 (by decide) (ty_16 _) (by omega) (by omega) rfl (fun r24129 q24130 g24131 => ?_))
                    refine wp_of e86 c86_55 (rw_iload_n (pc' := 56) (z := v24105) rfl rfl ?_)
                    refine wp_of e86 c86_56 (rw_lconst (pc' := 57) (z := 0) rfl rfl ?_)
                    refine wp_of e86 c86_57 (xs_L (pc' := 58) w24122 g24131 (by decide) sh_17 (by decide) (ty_17 _) (by omega) (by omega) ⟨by omega, by omega⟩ (by omega) (by omega) rfl (fun H24132 e24133 w24134 => ?_))
                    have f24135 := f24123.put' e24133 g24131 rfl
                    have f24136 := f24124.put' e24133 g24131 rfl
                    have f24137 := f24125.put' e24133 g24131 rfl
                    refine wp_of e86 c86_58 (rw_iinc (pc' := 61) (z := v24105) (L' := [(2, vI (v24105 + 1)), (1, vI v23890), (0, .ref r0)]) rfl rfl rfl rfl ?_)
                    refine wp_of e86 c86_61 (rw_goto (p1 := 34) (by decide) ?_)
                    exact wp_lc (ks := [2, 1, 0]) (wl_c rfl (wl_c rfl (wl_c rfl wl_n))) rfl (by decide) (ih24104 _ (by omega) (v24105 + 1) H24132 w24134 f24137 ⟨by omega, by omega⟩ rfl)
              exact wp_lc (ks := [2, 1, 0]) (wl_c rfl (wl_c rfl (wl_c rfl wl_n))) rfl (by decide) (lp24102 _ 0 H23891 w23892 wfr.rf ⟨by omega, by omega⟩ rfl)
        exact wp_lc (ks := [1, 0]) (wl_c rfl (wl_c rfl wl_n)) rfl (by decide) (lp23887 _ 0 H22540 w22541 wfr.rf ⟨by omega, by omega⟩ rfl)
      · refine wp_of e86 c86_11 (rw_aload_n (pc' := 12) (v := .ref r0) rfl rfl rfl ?_)
        refine wp_of e86 c86_12 (xg_K (pc' := 15) lf_4_11 w22541 g0 sh_12 (by decide) (by decide) rfl q22547 rfl ?_)
        refine wp_of e86 c86_15 (rw_iload_n (pc' := 16) (z := v22539) rfl rfl ?_)
        refine wp_of e86 c86_16 (rw_lconst (pc' := 17) (z := 0) rfl rfl ?_)
        refine wp_of e86 c86_17 (xs_L (pc' := 18) w22541 g22548 (by decide) sh_13 (by decide) (ty_13 _) (by omega) (by omega) ⟨by omega, by omega⟩ (by omega) (by omega) rfl (fun H24138 e24139 w24140 => ?_))
        have f24141 := f22545.put' e24139 g22548 rfl
        have f24142 := f22542.put' e24139 g22548 rfl
        refine wp_of e86 c86_18 (rw_iinc (pc' := 21) (z := v22539) (L' := [(1, vI (v22539 + 1)), (0, .ref r0)]) rfl rfl rfl rfl ?_)
        refine wp_of e86 c86_21 (rw_goto (p1 := 2) (by decide) ?_)
        exact wp_lc (ks := [1, 0]) (wl_c rfl (wl_c rfl wl_n)) rfl (by decide) (ih22538 _ (by omega) (v22539 + 1) H24138 w24140 f24142 ⟨by omega, by omega⟩ rfl)
  exact wp_lc (ks := [1, 0]) (wl_c rfl (wl_c rfl wl_n)) rfl (by decide) (lp22536 _ 0 H hW wfr.rf ⟨by omega, by omega⟩ rfl)
/-! StrikeAwake$Walk.toFirst(LStrikeAwake$Parish;)V -/
theorem e87 : wq_en 87 = some (3, 3, false, none) := rfl
theorem c87_0 : mc_cd 87 0 = some (.iconst 0, 1) := by decide +kernel
theorem c87_1 : mc_cd 87 1 = some (.istore_n 2, 1) := by decide +kernel
theorem c87_2 : mc_cd 87 2 = some (.iload_n 2, 1) := by decide +kernel
theorem c87_3 : mc_cd 87 3 = some (.bipush 6, 2) := by decide +kernel
theorem c87_5 : mc_cd 87 5 = some (.if_icmp .ge 16, 3) := by decide +kernel
theorem c87_8 : mc_cd 87 8 = some (.aload_n 0, 1) := by decide +kernel
theorem c87_9 : mc_cd 87 9 = some (.getfield 9, 3) := by decide +kernel
theorem c87_12 : mc_cd 87 12 = some (.iload_n 2, 1) := by decide +kernel
theorem c87_13 : mc_cd 87 13 = some (.iconst 0, 1) := by decide +kernel
theorem c87_14 : mc_cd 87 14 = some (.iastore, 1) := by decide +kernel
theorem c87_15 : mc_cd 87 15 = some (.iinc 2 1, 3) := by decide +kernel
theorem c87_18 : mc_cd 87 18 = some (.goto (-16), 3) := by decide +kernel
theorem c87_21 : mc_cd 87 21 = some (.aload_n 0, 1) := by decide +kernel
theorem c87_22 : mc_cd 87 22 = some (.aload_n 1, 1) := by decide +kernel
theorem c87_23 : mc_cd 87 23 = some (.invokevirtual 28, 3) := by decide +kernel
theorem c87_26 : mc_cd 87 26 = some (.aload_n 0, 1) := by decide +kernel
theorem c87_27 : mc_cd 87 27 = some (.aload_n 1, 1) := by decide +kernel
theorem c87_28 : mc_cd 87 28 = some (.iconst 0, 1) := by decide +kernel
theorem c87_29 : mc_cd 87 29 = some (.invokevirtual 32, 3) := by decide +kernel
theorem c87_32 : mc_cd 87 32 = some (.return_, 1) := by decide +kernel
abbrev q_87 (r0 : Nat) (r1 : Nat) (T : wq_T) (H : wq_H) : Option Value → wq_T → wq_H → Prop := fun r T' H' => T = T' ∧ WT T H' ∧ wfr [(6, 5), (8, 999), (10, 999), (9, 999), (7, 999), (11, 999)] T H H' ∧ none = r
set_option maxHeartbeats 4000000 in
theorem s_87 {kt : Nat → Option mc_E} {T : wq_T} {H : wq_H} {r0 : Nat} {r1 : Nat} (hW : WT T H) (g0 : T.2.2.2 r0 = some 6) (g1 : T.2.2.2 r1 = some 27) : wpc kt 3 87 [.ref r0, .ref r1] T H (q_87 r0 r1 T H) := by
  refine wp_enter e87 (Nat.le_of_ble_eq_true rfl) rfl ?_
  have f0 : wfr [(6, 5), (8, 999), (10, 999), (9, 999), (7, 999), (11, 999)] T H H := wfr.rf
  show wp _ _ 87 0 [(0, .ref r0), (1, .ref r1)] [] _ H _
  refine wp_of e87 c87_0 (rw_iconst (pc' := 1) rfl ?_)
  refine wp_of e87 c87_1 (rw_istore_n (pc' := 2) (z := 0) (L' := [(2, vI 0), (0, .ref r0), (1, .ref r1)]) rfl rfl rfl ?_)
  have lp24282 : ∀ (n24283 : Nat) (v24285 : Int) (H24286 : wq_H), WT T H24286 → wfr [(7, 999)] T H H24286 → (0 ≤ v24285 ∧ v24285 ≤ 6) → (6 - v24285).toNat = n24283 → wp kt 2 87 2 [(2, vI v24285), (0, .ref r0), (1, .ref r1)] [] T H24286 (q_87 r0 r1 T H) := by
    intro n24283
    induction n24283 using Nat.strongRecOn with
    | _ n24283 ih24284 =>
      intro v24285 H24286 w24287 f24288 b24289 m24290
      have f24291 := f0.tr f24288 rfl
      refine wp_of e87 c87_2 (rw_iload_n (pc' := 3) (z := v24285) rfl rfl ?_)
      refine wp_of e87 c87_3 (rw_bipush (pc' := 5) (z := 6) rfl (by decide) ?_)
      refine wp_of e87 c87_5 (rw_icmp_ge (p1 := 21) (p2 := 8) (by decide) rfl ⟨by omega, by omega⟩ ⟨by omega, by omega⟩ (fun c24292 => ?_) (fun c24292 => ?_))
      · refine wp_of e87 c87_21 (rw_aload_n (pc' := 22) (v := .ref r0) rfl rfl rfl ?_)
        refine wp_of e87 c87_22 (rw_aload_n (pc' := 23) (v := .ref r1) rfl rfl rfl ?_)
        refine wp_of e87 c87_23 (xc_V (pc' := 26) (r := r0) (as := [.ref r1]) (st := []) (lm_3_28) rfl rfl (Nat.le_of_ble_eq_true rfl) w24287 g0 sh_6 (by decide) rfl (by decide) (s_69 w24287 g0 g1) (fun R24293 T24294 H24295 p24296 => ?_))
        obtain ⟨e24297, w24299, f24300, e24298⟩ := p24296
        subst e24297
        subst e24298
        have f24301 := f24291.tr f24300 rfl
        show wp _ _ 87 26 [(2, vI v24285), (0, .ref r0), (1, .ref r1)] [] _ H24295 _
        refine wp_of e87 c87_26 (rw_aload_n (pc' := 27) (v := .ref r0) rfl rfl rfl ?_)
        refine wp_of e87 c87_27 (rw_aload_n (pc' := 28) (v := .ref r1) rfl rfl rfl ?_)
        refine wp_of e87 c87_28 (rw_iconst (pc' := 29) rfl ?_)
        refine wp_of e87 c87_29 (xc_V (pc' := 32) (r := r0) (as := [.ref r1, vI 0]) (st := []) (lm_3_32) rfl rfl (Nat.le_of_ble_eq_true rfl) w24299 g0 sh_6 (by decide) rfl (by decide) (s_70 w24299 g0 g1 ⟨by omega, by omega⟩) (fun R24302 T24303 H24304 p24305 => ?_))
        obtain ⟨e24306, w24308, f24309, e24307⟩ := p24305
        subst e24306
        subst e24307
        have f24310 := f24301.tr f24309 rfl
        show wp _ _ 87 32 [(2, vI v24285), (0, .ref r0), (1, .ref r1)] [] _ H24304 _
        exact wp_return e87 c87_32 rfl ⟨rfl, w24308, f24310, rfl⟩
      · refine wp_of e87 c87_8 (rw_aload_n (pc' := 9) (v := .ref r0) rfl rfl rfl ?_)
        refine wp_of e87 c87_9 (xg_R (pc' := 12) lf_3_9 w24287 g0 sh_6 (by decide) (by decide) ty_6_0 rfl rfl (fun r24311 q24312 g24313 => ?_))
        refine wp_of e87 c87_12 (rw_iload_n (pc' := 13) (z := v24285) rfl rfl ?_)
        refine wp_of e87 c87_13 (rw_iconst (pc' := 14) rfl ?_)
        refine wp_of e87 c87_14 (xs_I (pc' := 15) w24287 g24313 (by decide) sh_7 (by decide) (ty_7 _) (by omega) (by omega) ⟨by omega, by omega⟩ (by omega) (by omega) rfl (fun H24314 e24315 w24316 => ?_))
        have f24317 := f24291.put' e24315 g24313 rfl
        have f24318 := f24288.put' e24315 g24313 rfl
        refine wp_of e87 c87_15 (rw_iinc (pc' := 18) (z := v24285) (L' := [(2, vI (v24285 + 1)), (0, .ref r0), (1, .ref r1)]) rfl rfl rfl rfl ?_)
        refine wp_of e87 c87_18 (rw_goto (p1 := 2) (by decide) ?_)
        exact wp_lc (ks := [2, 0, 1]) (wl_c rfl (wl_c rfl (wl_c rfl wl_n))) rfl (by decide) (ih24284 _ (by omega) (v24285 + 1) H24314 w24316 f24318 ⟨by omega, by omega⟩ rfl)
  exact wp_lc (ks := [2, 0, 1]) (wl_c rfl (wl_c rfl (wl_c rfl wl_n))) rfl (by decide) (lp24282 _ 0 H hW wfr.rf ⟨by omega, by omega⟩ rfl)
/-! StrikeAwake$Walk.pickOf(I)I -/
theorem e89 : wq_en 89 = some (3, 2, false, some FieldType.int) := rfl
theorem c89_0 : mc_cd 89 0 = some (.aload_n 0, 1) := by decide +kernel
theorem c89_1 : mc_cd 89 1 = some (.getfield 9, 3) := by decide +kernel
theorem c89_4 : mc_cd 89 4 = some (.iload_n 1, 1) := by decide +kernel
theorem c89_5 : mc_cd 89 5 = some (.iaload, 1) := by decide +kernel
theorem c89_6 : mc_cd 89 6 = some (.ireturn, 1) := by decide +kernel
abbrev q_89 (r0 : Nat) (a1 : Int) (T : wq_T) (H : wq_H) : Option Value → wq_T → wq_H → Prop := fun r T' H' => T = T' ∧ H = H' ∧ ∃ z : Int, some (vI z) = r ∧ (0 ≤ z ∧ z ≤ 39)
set_option maxHeartbeats 4000000 in
theorem s_89 {kt : Nat → Option mc_E} {T : wq_T} {H : wq_H} {r0 : Nat} {a1 : Int} (hW : WT T H) (g0 : T.2.2.2 r0 = some 6) (i1 : 0 ≤ a1 ∧ a1 ≤ 5) : wpc kt 1 89 [.ref r0, vI a1] T H (q_89 r0 a1 T H) := by
  refine wp_enter e89 (Nat.le_of_ble_eq_true rfl) rfl ?_
  show wp _ _ 89 0 [(0, .ref r0), (1, vI a1)] [] _ H _
  refine wp_of e89 c89_0 (rw_aload_n (pc' := 1) (v := .ref r0) rfl rfl rfl ?_)
  refine wp_of e89 c89_1 (xg_R (pc' := 4) lf_3_9 hW g0 sh_6 (by decide) (by decide) ty_6_0 rfl rfl (fun r24324 q24325 g24326 => ?_))
  refine wp_of e89 c89_4 (rw_iload_n (pc' := 5) (z := a1) rfl rfl ?_)
  refine wp_of e89 c89_5 (xa_I (so := 0) (pc' := 6) hW g24326 sh_7 (by decide) (ty_7 _) (by omega) (by omega) rfl (fun b24327 b24328 => ?_))
  exact wp_ireturn e89 c89_6 rfl ⟨rfl, rfl, H r24324 (a1.toNat), rfl, ⟨by omega, by omega⟩⟩
/-! StrikeAwake$Census.enterDue(II)V -/
theorem e90 : wq_en 90 = some (4, 3, false, none) := rfl
theorem c90_0 : mc_cd 90 0 = some (.aload_n 0, 1) := by decide +kernel
theorem c90_1 : mc_cd 90 1 = some (.getfield 25, 3) := by decide +kernel
theorem c90_4 : mc_cd 90 4 = some (.iload_n 1, 1) := by decide +kernel
theorem c90_5 : mc_cd 90 5 = some (.aload_n 0, 1) := by decide +kernel
theorem c90_6 : mc_cd 90 6 = some (.getfield 62, 3) := by decide +kernel
theorem c90_9 : mc_cd 90 9 = some (.ifCond .ne 7, 3) := by decide +kernel
theorem c90_12 : mc_cd 90 12 = some (.iload_n 2, 1) := by decide +kernel
theorem c90_13 : mc_cd 90 13 = some (.goto 13, 3) := by decide +kernel
theorem c90_16 : mc_cd 90 16 = some (.aload_n 0, 1) := by decide +kernel
theorem c90_17 : mc_cd 90 17 = some (.getfield 25, 3) := by decide +kernel
theorem c90_20 : mc_cd 90 20 = some (.iload_n 1, 1) := by decide +kernel
theorem c90_21 : mc_cd 90 21 = some (.iaload, 1) := by decide +kernel
theorem c90_22 : mc_cd 90 22 = some (.iload_n 2, 1) := by decide +kernel
theorem c90_23 : mc_cd 90 23 = some (.invokestatic 104, 3) := by decide +kernel
theorem c90_26 : mc_cd 90 26 = some (.iastore, 1) := by decide +kernel
theorem c90_27 : mc_cd 90 27 = some (.aload_n 0, 1) := by decide +kernel
theorem c90_28 : mc_cd 90 28 = some (.getfield 29, 3) := by decide +kernel
theorem c90_31 : mc_cd 90 31 = some (.iload_n 1, 1) := by decide +kernel
theorem c90_32 : mc_cd 90 32 = some (.aload_n 0, 1) := by decide +kernel
theorem c90_33 : mc_cd 90 33 = some (.getfield 62, 3) := by decide +kernel
theorem c90_36 : mc_cd 90 36 = some (.ifCond .ne 7, 3) := by decide +kernel
theorem c90_39 : mc_cd 90 39 = some (.iload_n 2, 1) := by decide +kernel
theorem c90_40 : mc_cd 90 40 = some (.goto 13, 3) := by decide +kernel
theorem c90_43 : mc_cd 90 43 = some (.aload_n 0, 1) := by decide +kernel
theorem c90_44 : mc_cd 90 44 = some (.getfield 29, 3) := by decide +kernel
theorem c90_47 : mc_cd 90 47 = some (.iload_n 1, 1) := by decide +kernel
theorem c90_48 : mc_cd 90 48 = some (.iaload, 1) := by decide +kernel
theorem c90_49 : mc_cd 90 49 = some (.iload_n 2, 1) := by decide +kernel
theorem c90_50 : mc_cd 90 50 = some (.invokestatic 110, 3) := by decide +kernel
theorem c90_53 : mc_cd 90 53 = some (.iastore, 1) := by decide +kernel
theorem c90_54 : mc_cd 90 54 = some (.return_, 1) := by decide +kernel
abbrev q_90 (r0 : Nat) (a1 : Int) (a2 : Int) (T : wq_T) (H : wq_H) : Option Value → wq_T → wq_H → Prop := fun r T' H' => T = T' ∧ WT T H' ∧ wfr [(18, 999), (19, 999)] T H H' ∧ none = r
set_option maxHeartbeats 4000000 in
theorem s_90 {kt : Nat → Option mc_E} {T : wq_T} {H : wq_H} {r0 : Nat} {a1 : Int} {a2 : Int} (hW : WT T H) (g0 : T.2.2.2 r0 = some 12) (i1 : 0 ≤ a1 ∧ a1 ≤ 23) (i2 : (-2147483648) ≤ a2 ∧ a2 ≤ 2147483647) : wpc kt 1 90 [.ref r0, vI a1, vI a2] T H (q_90 r0 a1 a2 T H) := by
  refine wp_enter e90 (Nat.le_of_ble_eq_true rfl) rfl ?_
  have f0 : wfr [(18, 999), (19, 999)] T H H := wfr.rf
  show wp _ _ 90 0 [(0, .ref r0), (1, vI a1), (2, vI a2)] [] _ H _
  refine wp_of e90 c90_0 (rw_aload_n (pc' := 1) (v := .ref r0) rfl rfl rfl ?_)
  refine wp_of e90 c90_1 (xg_R (pc' := 4) lf_4_25 hW g0 sh_12 (by decide) (by decide) ty_12_3 rfl rfl (fun r24377 q24378 g24379 => ?_))
  refine wp_of e90 c90_4 (rw_iload_n (pc' := 5) (z := a1) rfl rfl ?_)
  refine wp_of e90 c90_5 (rw_aload_n (pc' := 6) (v := .ref r0) rfl rfl rfl ?_)
  refine wp_of e90 c90_6 (xg_I (pc' := 9) lf_4_62 hW g0 sh_12 (by decide) (by decide) ty_12_5 rfl rfl (fun b24380 b24381 => ?_))
  refine wp_of e90 c90_9 (rw_if_ne (p1 := 16) (p2 := 12) (by decide) rfl ⟨by omega, by omega⟩ (fun c24382 => ?_) (fun c24382 => ?_))
  · refine wp_of e90 c90_16 (rw_aload_n (pc' := 17) (v := .ref r0) rfl rfl rfl ?_)
    refine wp_of e90 c90_17 (xg_K (pc' := 20) lf_4_25 hW g0 sh_12 (by decide) (by decide) rfl q24378 rfl ?_)
    refine wp_of e90 c90_20 (rw_iload_n (pc' := 21) (z := a1) rfl rfl ?_)
    refine wp_of e90 c90_21 (xa_I (so := 0) (pc' := 22) hW g24379 sh_18 (by decide) (ty_18 _) (by omega) (by omega) rfl (fun b24383 b24384 => ?_))
    refine wp_of e90 c90_22 (rw_iload_n (pc' := 23) (z := a2) rfl rfl ?_)
    refine wp_of e90 c90_23 (rw_math2 (pc' := 26) (z := min (H r24377 (a1.toNat)) a2) rfl rfl ⟨by omega, by omega⟩ ⟨by omega, by omega⟩ (Or.inl ⟨rfl, rfl⟩) (Nat.le_of_ble_eq_true rfl) rfl ?_)
    obtain ⟨v24385, e24386⟩ : ∃ x : Int, x = min (H r24377 (a1.toNat)) a2 := ⟨_, rfl⟩
    rw [← e24386]
    have b24387 : v24385 = (H r24377 (a1.toNat)) ∨ v24385 = a2 := by
      rw [e24386]
      omega
    have b24388 : v24385 ≤ (H r24377 (a1.toNat)) ∧ v24385 ≤ a2 := by
      rw [e24386]
      omega
    refine wp_of e90 c90_26 (xs_I (pc' := 27) hW g24379 (by decide) sh_18 (by decide) (ty_18 _) (by omega) (by omega) ⟨by omega, by omega⟩ (by omega) (by omega) rfl (fun H24389 e24390 w24391 => ?_))
    have f24392 := f0.put' e24390 g24379 rfl
    refine wp_of e90 c90_27 (rw_aload_n (pc' := 28) (v := .ref r0) rfl rfl rfl ?_)
    refine wp_of e90 c90_28 (xg_R (pc' := 31) lf_4_29 w24391 g0 sh_12 (by decide) (by decide) ty_12_4 rfl rfl (fun r24393 q24394 g24395 => ?_))
    refine wp_of e90 c90_31 (rw_iload_n (pc' := 32) (z := a1) rfl rfl ?_)
    refine wp_of e90 c90_32 (rw_aload_n (pc' := 33) (v := .ref r0) rfl rfl rfl ?_)
    have k24396 : H24389 r0 5 = H r0 5 := (wq_u_t e24390 g24379 g0 rfl 5)
    refine wp_of e90 c90_33 (xg_I (pc' := 36) lf_4_62 w24391 g0 sh_12 (by decide) (by decide) ty_12_5 rfl rfl (fun b24397 b24398 => ?_))
    refine wp_of e90 c90_36 (rw_if_ne (p1 := 43) (p2 := 39) (by decide) rfl ⟨by omega, by omega⟩ (fun c24399 => ?_) (fun c24399 => ?_))
    · refine wp_of e90 c90_43 (rw_aload_n (pc' := 44) (v := .ref r0) rfl rfl rfl ?_)
      refine wp_of e90 c90_44 (xg_K (pc' := 47) lf_4_29 w24391 g0 sh_12 (by decide) (by decide) rfl q24394 rfl ?_)
      refine wp_of e90 c90_47 (rw_iload_n (pc' := 48) (z := a1) rfl rfl ?_)
      refine wp_of e90 c90_48 (xa_I (so := 0) (pc' := 49) w24391 g24395 sh_19 (by decide) (ty_19 _) (by omega) (by omega) rfl (fun b24400 b24401 => ?_))
      refine wp_of e90 c90_49 (rw_iload_n (pc' := 50) (z := a2) rfl rfl ?_)
      refine wp_of e90 c90_50 (rw_math2 (pc' := 53) (z := max (H24389 r24393 (a1.toNat)) a2) rfl rfl ⟨by omega, by omega⟩ ⟨by omega, by omega⟩ (Or.inr ⟨rfl, rfl⟩) (Nat.le_of_ble_eq_true rfl) rfl ?_)
      obtain ⟨v24402, e24403⟩ : ∃ x : Int, x = max (H24389 r24393 (a1.toNat)) a2 := ⟨_, rfl⟩
      rw [← e24403]
      have b24404 : v24402 = (H24389 r24393 (a1.toNat)) ∨ v24402 = a2 := by
        rw [e24403]
        omega
      have b24405 : (H24389 r24393 (a1.toNat)) ≤ v24402 ∧ a2 ≤ v24402 := by
        rw [e24403]
        omega
      refine wp_of e90 c90_53 (xs_I (pc' := 54) w24391 g24395 (by decide) sh_19 (by decide) (ty_19 _) (by omega) (by omega) ⟨by omega, by omega⟩ (by omega) (by omega) rfl (fun H24406 e24407 w24408 => ?_))
      have f24409 := f24392.put' e24407 g24395 rfl
      exact wp_return e90 c90_54 rfl ⟨rfl, w24408, f24409, rfl⟩
    · refine wp_of e90 c90_39 (rw_iload_n (pc' := 40) (z := a2) rfl rfl ?_)
      refine wp_of e90 c90_40 (rw_goto (p1 := 53) (by decide) ?_)
      refine wp_of e90 c90_53 (xs_I (pc' := 54) w24391 g24395 (by decide) sh_19 (by decide) (ty_19 _) (by omega) (by omega) ⟨by omega, by omega⟩ (by omega) (by omega) rfl (fun H24410 e24411 w24412 => ?_))
      have f24413 := f24392.put' e24411 g24395 rfl
      exact wp_return e90 c90_54 rfl ⟨rfl, w24412, f24413, rfl⟩
  · refine wp_of e90 c90_12 (rw_iload_n (pc' := 13) (z := a2) rfl rfl ?_)
    refine wp_of e90 c90_13 (rw_goto (p1 := 26) (by decide) ?_)
    refine wp_of e90 c90_26 (xs_I (pc' := 27) hW g24379 (by decide) sh_18 (by decide) (ty_18 _) (by omega) (by omega) ⟨by omega, by omega⟩ (by omega) (by omega) rfl (fun H24414 e24415 w24416 => ?_))
    have f24417 := f0.put' e24415 g24379 rfl
    refine wp_of e90 c90_27 (rw_aload_n (pc' := 28) (v := .ref r0) rfl rfl rfl ?_)
    refine wp_of e90 c90_28 (xg_R (pc' := 31) lf_4_29 w24416 g0 sh_12 (by decide) (by decide) ty_12_4 rfl rfl (fun r24418 q24419 g24420 => ?_))
    refine wp_of e90 c90_31 (rw_iload_n (pc' := 32) (z := a1) rfl rfl ?_)
    refine wp_of e90 c90_32 (rw_aload_n (pc' := 33) (v := .ref r0) rfl rfl rfl ?_)
    have k24421 : H24414 r0 5 = H r0 5 := (wq_u_t e24415 g24379 g0 rfl 5)
    refine wp_of e90 c90_33 (xg_I (pc' := 36) lf_4_62 w24416 g0 sh_12 (by decide) (by decide) ty_12_5 rfl rfl (fun b24422 b24423 => ?_))
    refine wp_of e90 c90_36 (rw_if_ne (p1 := 43) (p2 := 39) (by decide) rfl ⟨by omega, by omega⟩ (fun c24424 => ?_) (fun c24424 => ?_))
    · exfalso
      omega
    · refine wp_of e90 c90_39 (rw_iload_n (pc' := 40) (z := a2) rfl rfl ?_)
      refine wp_of e90 c90_40 (rw_goto (p1 := 53) (by decide) ?_)
      refine wp_of e90 c90_53 (xs_I (pc' := 54) w24416 g24420 (by decide) sh_19 (by decide) (ty_19 _) (by omega) (by omega) ⟨by omega, by omega⟩ (by omega) (by omega) rfl (fun H24425 e24426 w24427 => ?_))
      have f24428 := f24417.put' e24426 g24420 rfl
      exact wp_return e90 c90_54 rfl ⟨rfl, w24427, f24428, rfl⟩
/-! StrikeAwake$Census.enter(LStrikeAwake$Parish;LStrikeAwake$Walk;I)V -/
theorem e88 : wq_en 88 = some (4, 7, false, none) := rfl
theorem c88_0 : mc_cd 88 0 = some (.lconst 1, 1) := by decide +kernel
theorem c88_1 : mc_cd 88 1 = some (.lstore 4, 2) := by decide +kernel
theorem c88_3 : mc_cd 88 3 = some (.iconst 0, 1) := by decide +kernel
theorem c88_4 : mc_cd 88 4 = some (.istore 6, 2) := by decide +kernel
theorem c88_6 : mc_cd 88 6 = some (.iload 6, 2) := by decide +kernel
theorem c88_8 : mc_cd 88 8 = some (.aload_n 1, 1) := by decide +kernel
theorem c88_9 : mc_cd 88 9 = some (.getfield 75, 3) := by decide +kernel
theorem c88_12 : mc_cd 88 12 = some (.if_icmp .ge 31, 3) := by decide +kernel
theorem c88_15 : mc_cd 88 15 = some (.lload 4, 2) := by decide +kernel
theorem c88_17 : mc_cd 88 17 = some (.aload_n 1, 1) := by decide +kernel
theorem c88_18 : mc_cd 88 18 = some (.getfield 78, 3) := by decide +kernel
theorem c88_21 : mc_cd 88 21 = some (.iload 6, 2) := by decide +kernel
theorem c88_23 : mc_cd 88 23 = some (.aaload, 1) := by decide +kernel
theorem c88_24 : mc_cd 88 24 = some (.aload_n 2, 1) := by decide +kernel
theorem c88_25 : mc_cd 88 25 = some (.iload 6, 2) := by decide +kernel
theorem c88_27 : mc_cd 88 27 = some (.invokevirtual 82, 3) := by decide +kernel
theorem c88_30 : mc_cd 88 30 = some (.invokevirtual 86, 3) := by decide +kernel
theorem c88_33 : mc_cd 88 33 = some (.i2l, 1) := by decide +kernel
theorem c88_34 : mc_cd 88 34 = some (.lmul, 1) := by decide +kernel
theorem c88_35 : mc_cd 88 35 = some (.lstore 4, 2) := by decide +kernel
theorem c88_37 : mc_cd 88 37 = some (.iinc 6 1, 3) := by decide +kernel
theorem c88_40 : mc_cd 88 40 = some (.goto (-34), 3) := by decide +kernel
theorem c88_43 : mc_cd 88 43 = some (.iconst 0, 1) := by decide +kernel
theorem c88_44 : mc_cd 88 44 = some (.istore 6, 2) := by decide +kernel
theorem c88_46 : mc_cd 88 46 = some (.iload 6, 2) := by decide +kernel
theorem c88_48 : mc_cd 88 48 = some (.aload_n 1, 1) := by decide +kernel
theorem c88_49 : mc_cd 88 49 = some (.getfield 75, 3) := by decide +kernel
theorem c88_52 : mc_cd 88 52 = some (.if_icmp .ge 46, 3) := by decide +kernel
theorem c88_55 : mc_cd 88 55 = some (.aload_n 0, 1) := by decide +kernel
theorem c88_56 : mc_cd 88 56 = some (.getfield 17, 3) := by decide +kernel
theorem c88_59 : mc_cd 88 59 = some (.iload 6, 2) := by decide +kernel
theorem c88_61 : mc_cd 88 61 = some (.aaload, 1) := by decide +kernel
theorem c88_62 : mc_cd 88 62 = some (.aload_n 2, 1) := by decide +kernel
theorem c88_63 : mc_cd 88 63 = some (.iload 6, 2) := by decide +kernel
theorem c88_65 : mc_cd 88 65 = some (.invokevirtual 82, 3) := by decide +kernel
theorem c88_68 : mc_cd 88 68 = some (.dup2, 1) := by decide +kernel
theorem c88_69 : mc_cd 88 69 = some (.iaload, 1) := by decide +kernel
theorem c88_70 : mc_cd 88 70 = some (.iconst 1, 1) := by decide +kernel
theorem c88_71 : mc_cd 88 71 = some (.iadd, 1) := by decide +kernel
theorem c88_72 : mc_cd 88 72 = some (.iastore, 1) := by decide +kernel
theorem c88_73 : mc_cd 88 73 = some (.aload_n 0, 1) := by decide +kernel
theorem c88_74 : mc_cd 88 74 = some (.getfield 22, 3) := by decide +kernel
theorem c88_77 : mc_cd 88 77 = some (.iload 6, 2) := by decide +kernel
theorem c88_79 : mc_cd 88 79 = some (.aaload, 1) := by decide +kernel
theorem c88_80 : mc_cd 88 80 = some (.aload_n 2, 1) := by decide +kernel
theorem c88_81 : mc_cd 88 81 = some (.iload 6, 2) := by decide +kernel
theorem c88_83 : mc_cd 88 83 = some (.invokevirtual 82, 3) := by decide +kernel
theorem c88_86 : mc_cd 88 86 = some (.dup2, 1) := by decide +kernel
theorem c88_87 : mc_cd 88 87 = some (.laload, 1) := by decide +kernel
theorem c88_88 : mc_cd 88 88 = some (.lload 4, 2) := by decide +kernel
theorem c88_90 : mc_cd 88 90 = some (.ladd, 1) := by decide +kernel
theorem c88_91 : mc_cd 88 91 = some (.lastore, 1) := by decide +kernel
theorem c88_92 : mc_cd 88 92 = some (.iinc 6 1, 3) := by decide +kernel
theorem c88_95 : mc_cd 88 95 = some (.goto (-49), 3) := by decide +kernel
theorem c88_98 : mc_cd 88 98 = some (.iconst 0, 1) := by decide +kernel
theorem c88_99 : mc_cd 88 99 = some (.istore 6, 2) := by decide +kernel
theorem c88_101 : mc_cd 88 101 = some (.iload 6, 2) := by decide +kernel
theorem c88_103 : mc_cd 88 103 = some (.aload_n 1, 1) := by decide +kernel
theorem c88_104 : mc_cd 88 104 = some (.getfield 91, 3) := by decide +kernel
theorem c88_107 : mc_cd 88 107 = some (.if_icmp .ge 31, 3) := by decide +kernel
theorem c88_110 : mc_cd 88 110 = some (.aload_n 0, 1) := by decide +kernel
theorem c88_111 : mc_cd 88 111 = some (.aload_n 1, 1) := by decide +kernel
theorem c88_112 : mc_cd 88 112 = some (.getfield 94, 3) := by decide +kernel
theorem c88_115 : mc_cd 88 115 = some (.iload 6, 2) := by decide +kernel
theorem c88_117 : mc_cd 88 117 = some (.iaload, 1) := by decide +kernel
theorem c88_118 : mc_cd 88 118 = some (.aload_n 2, 1) := by decide +kernel
theorem c88_119 : mc_cd 88 119 = some (.aload_n 1, 1) := by decide +kernel
theorem c88_120 : mc_cd 88 120 = some (.getfield 94, 3) := by decide +kernel
theorem c88_123 : mc_cd 88 123 = some (.iload 6, 2) := by decide +kernel
theorem c88_125 : mc_cd 88 125 = some (.iaload, 1) := by decide +kernel
theorem c88_126 : mc_cd 88 126 = some (.invokevirtual 97, 3) := by decide +kernel
theorem c88_129 : mc_cd 88 129 = some (.invokevirtual 100, 3) := by decide +kernel
theorem c88_132 : mc_cd 88 132 = some (.iinc 6 1, 3) := by decide +kernel
theorem c88_135 : mc_cd 88 135 = some (.goto (-34), 3) := by decide +kernel
theorem c88_138 : mc_cd 88 138 = some (.aload_n 0, 1) := by decide +kernel
theorem c88_139 : mc_cd 88 139 = some (.getfield 11, 3) := by decide +kernel
theorem c88_142 : mc_cd 88 142 = some (.iload_n 3, 1) := by decide +kernel
theorem c88_143 : mc_cd 88 143 = some (.bipush 64, 2) := by decide +kernel
theorem c88_145 : mc_cd 88 145 = some (.idiv, 1) := by decide +kernel
theorem c88_146 : mc_cd 88 146 = some (.dup2, 1) := by decide +kernel
theorem c88_147 : mc_cd 88 147 = some (.laload, 1) := by decide +kernel
theorem c88_148 : mc_cd 88 148 = some (.lconst 1, 1) := by decide +kernel
theorem c88_149 : mc_cd 88 149 = some (.iload_n 3, 1) := by decide +kernel
theorem c88_150 : mc_cd 88 150 = some (.bipush 64, 2) := by decide +kernel
theorem c88_152 : mc_cd 88 152 = some (.irem, 1) := by decide +kernel
theorem c88_153 : mc_cd 88 153 = some (.lshl, 1) := by decide +kernel
theorem c88_154 : mc_cd 88 154 = some (.lor, 1) := by decide +kernel
theorem c88_155 : mc_cd 88 155 = some (.lastore, 1) := by decide +kernel
theorem c88_156 : mc_cd 88 156 = some (.aload_n 0, 1) := by decide +kernel
theorem c88_157 : mc_cd 88 157 = some (.dup, 1) := by decide +kernel
theorem c88_158 : mc_cd 88 158 = some (.getfield 62, 3) := by decide +kernel
theorem c88_161 : mc_cd 88 161 = some (.iconst 1, 1) := by decide +kernel
theorem c88_162 : mc_cd 88 162 = some (.iadd, 1) := by decide +kernel
theorem c88_163 : mc_cd 88 163 = some (.putfield 62, 3) := by decide +kernel
theorem c88_166 : mc_cd 88 166 = some (.aload_n 0, 1) := by decide +kernel
theorem c88_167 : mc_cd 88 167 = some (.dup, 1) := by decide +kernel
theorem c88_168 : mc_cd 88 168 = some (.getfield 66, 3) := by decide +kernel
theorem c88_171 : mc_cd 88 171 = some (.lload 4, 2) := by decide +kernel
theorem c88_173 : mc_cd 88 173 = some (.ladd, 1) := by decide +kernel
theorem c88_174 : mc_cd 88 174 = some (.putfield 66, 3) := by decide +kernel
theorem c88_177 : mc_cd 88 177 = some (.lload 4, 2) := by decide +kernel
theorem c88_179 : mc_cd 88 179 = some (.aload_n 0, 1) := by decide +kernel
theorem c88_180 : mc_cd 88 180 = some (.getfield 72, 3) := by decide +kernel
theorem c88_183 : mc_cd 88 183 = some (.lcmp, 1) := by decide +kernel
theorem c88_184 : mc_cd 88 184 = some (.ifCond .le 14, 3) := by decide +kernel
theorem c88_187 : mc_cd 88 187 = some (.aload_n 0, 1) := by decide +kernel
theorem c88_188 : mc_cd 88 188 = some (.lload 4, 2) := by decide +kernel
theorem c88_190 : mc_cd 88 190 = some (.putfield 72, 3) := by decide +kernel
theorem c88_193 : mc_cd 88 193 = some (.aload_n 0, 1) := by decide +kernel
theorem c88_194 : mc_cd 88 194 = some (.iload_n 3, 1) := by decide +kernel
theorem c88_195 : mc_cd 88 195 = some (.putfield 69, 3) := by decide +kernel
theorem c88_198 : mc_cd 88 198 = some (.return_, 1) := by decide +kernel
abbrev q_88 (r0 : Nat) (r1 : Nat) (r2 : Nat) (a3 : Int) (T : wq_T) (H : wq_H) : Option Value → wq_T → wq_H → Prop := fun r T' H' => T = T' ∧ WT T H' ∧ wfr [(12, 5), (12, 6), (12, 7), (12, 8), (15, 999), (18, 999), (19, 999), (17, 999), (13, 999)] T H H' ∧ none = r
set_option maxHeartbeats 4000000 in
theorem s_88 {kt : Nat → Option mc_E} {T : wq_T} {H : wq_H} {r0 : Nat} {r1 : Nat} {r2 : Nat} {a3 : Int} (hW : WT T H) (g0 : T.2.2.2 r0 = some 12) (g1 : T.2.2.2 r1 = some 27) (g2 : T.2.2.2 r2 = some 6) (i3 : 0 ≤ a3 ∧ a3 ≤ 19999) : wpc kt 2 88 [.ref r0, .ref r1, .ref r2, vI a3] T H (q_88 r0 r1 r2 a3 T H) := by
  refine wp_enter e88 (Nat.le_of_ble_eq_true rfl) rfl ?_
  have f0 : wfr [(12, 5), (12, 6), (12, 7), (12, 8), (15, 999), (18, 999), (19, 999), (17, 999), (13, 999)] T H H := wfr.rf
  show wp _ _ 88 0 [(0, .ref r0), (1, .ref r1), (2, .ref r2), (3, vI a3)] [] _ H _
  refine wp_of e88 c88_0 (rw_lconst (pc' := 1) (z := 1) rfl rfl ?_)
  refine wp_of e88 c88_1 (rw_lstore (pc' := 3) (z := 1) (L' := [(4, vL 1), (0, .ref r0), (1, .ref r1), (2, .ref r2), (3, vI a3)]) rfl rfl rfl ?_)
  refine wp_of e88 c88_3 (rw_iconst (pc' := 4) rfl ?_)
  refine wp_of e88 c88_4 (rw_istore (pc' := 6) (z := 0) (L' := [(6, vI 0), (4, vL 1), (0, .ref r0), (1, .ref r1), (2, .ref r2), (3, vI a3)]) rfl rfl rfl ?_)
  have lp25622 : ∀ (n25623 : Nat) (v25625 : Int) (v25626 : Int), (0 ≤ v25625 ∧ v25625 ≤ 6) → ((-9223372036854775808) ≤ v25626 ∧ v25626 ≤ 9223372036854775807) → (6 - v25625).toNat = n25623 → wp kt 1 88 6 [(6, vI v25625), (4, vL v25626), (0, .ref r0), (1, .ref r1), (2, .ref r2), (3, vI a3)] [] T H (q_88 r0 r1 r2 a3 T H) := by
    intro n25623
    induction n25623 using Nat.strongRecOn with
    | _ n25623 ih25624 =>
      intro v25625 v25626 b25629 b25630 m25631
      refine wp_of e88 c88_6 (rw_iload (pc' := 8) (z := v25625) rfl rfl ?_)
      refine wp_of e88 c88_8 (rw_aload_n (pc' := 9) (v := .ref r1) rfl rfl rfl ?_)
      refine wp_of e88 c88_9 (xg_I (pc' := 12) lf_4_75 hW g1 sh_27 (by decide) (by decide) ty_27_10 rfl rfl (fun b25632 b25633 => ?_))
      refine wp_of e88 c88_12 (rw_icmp_ge (p1 := 43) (p2 := 15) (by decide) rfl ⟨by omega, by omega⟩ ⟨by omega, by omega⟩ (fun c25634 => ?_) (fun c25634 => ?_))
      · refine wp_of e88 c88_43 (rw_iconst (pc' := 44) rfl ?_)
        refine wp_of e88 c88_44 (rw_istore (pc' := 46) (z := 0) (L' := [(6, vI 0), (4, vL v25626), (0, .ref r0), (1, .ref r1), (2, .ref r2), (3, vI a3)]) rfl rfl rfl ?_)
        have lp25985 : ∀ (n25986 : Nat) (v25988 : Int) (H25989 : wq_H), WT T H25989 → wfr [(15, 999), (17, 999)] T H H25989 → (0 ≤ v25988 ∧ v25988 ≤ 6) → (6 - v25988).toNat = n25986 → wp kt 1 88 46 [(6, vI v25988), (4, vL v25626), (0, .ref r0), (1, .ref r1), (2, .ref r2), (3, vI a3)] [] T H25989 (q_88 r0 r1 r2 a3 T H) := by
          intro n25986
          induction n25986 using Nat.strongRecOn with
          | _ n25986 ih25987 =>
            intro v25988 H25989 w25990 f25991 b25992 m25993
            have f25994 := f0.tr f25991 rfl
            refine wp_of e88 c88_46 (rw_iload (pc' := 48) (z := v25988) rfl rfl ?_)
            refine wp_of e88 c88_48 (rw_aload_n (pc' := 49) (v := .ref r1) rfl rfl rfl ?_)
            have k25995 : H25989 r1 10 = H r1 10 := (f25991 r1 10 _ g1 rfl)
            refine wp_of e88 c88_49 (xg_I (pc' := 52) lf_4_75 w25990 g1 sh_27 (by decide) (by decide) ty_27_10 rfl rfl (fun b25996 b25997 => ?_))
            refine wp_of e88 c88_52 (rw_icmp_ge (p1 := 98) (p2 := 55) (by decide) rfl ⟨by omega, by omega⟩ ⟨by omega, by omega⟩ (fun c25998 => ?_) (fun c25998 => ?_))
            · refine wp_of e88 c88_98 (rw_iconst (pc' := 99) rfl ?_)
              refine wp_of e88 c88_99 (rw_istore (pc' := 101) (z := 0) (L' := [(6, vI 0), (4, vL v25626), (0, .ref r0), (1, .ref r1), (2, .ref r2), (3, vI a3)]) rfl rfl rfl ?_)
              have lp26223 : ∀ (n26224 : Nat) (v26226 : Int) (H26227 : wq_H), WT T H26227 → wfr [(18, 999), (19, 999)] T H25989 H26227 → (0 ≤ v26226 ∧ v26226 ≤ 24) → (24 - v26226).toNat = n26224 → wp kt 1 88 101 [(6, vI v26226), (4, vL v25626), (0, .ref r0), (1, .ref r1), (2, .ref r2), (3, vI a3)] [] T H26227 (q_88 r0 r1 r2 a3 T H) := by
                intro n26224
                induction n26224 using Nat.strongRecOn with
                | _ n26224 ih26225 =>
                  intro v26226 H26227 w26228 f26229 b26230 m26231
                  have f26232 := f25994.tr f26229 rfl
                  refine wp_of e88 c88_101 (rw_iload (pc' := 103) (z := v26226) rfl rfl ?_)
                  refine wp_of e88 c88_103 (rw_aload_n (pc' := 104) (v := .ref r1) rfl rfl rfl ?_)
                  refine wp_of e88 c88_104 (xg_I (pc' := 107) lf_4_91 w26228 g1 sh_27 (by decide) (by decide) ty_27_16 rfl rfl (fun b26233 b26234 => ?_))
                  refine wp_of e88 c88_107 (rw_icmp_ge (p1 := 138) (p2 := 110) (by decide) rfl ⟨by omega, by omega⟩ ⟨by omega, by omega⟩ (fun c26235 => ?_) (fun c26235 => ?_))
                  · refine wp_of e88 c88_138 (rw_aload_n (pc' := 139) (v := .ref r0) rfl rfl rfl ?_)
                    refine wp_of e88 c88_139 (xg_R (pc' := 142) lf_4_11 w26228 g0 sh_12 (by decide) (by decide) ty_12_0 rfl rfl (fun r26236 q26237 g26238 => ?_))
                    refine wp_of e88 c88_142 (rw_iload_n (pc' := 143) (z := a3) rfl rfl ?_)
                    refine wp_of e88 c88_143 (rw_bipush (pc' := 145) (z := 64) rfl (by decide) ?_)
                    refine wp_of e88 c88_145 (rw_idiv (pc' := 146) rfl ⟨by omega, by omega⟩ (by omega) ?_)
                    obtain ⟨v26239, e26240⟩ : ∃ x : Int, x = wq_div a3 64 := ⟨_, rfl⟩
                    rw [← e26240]
                    have b26241 : v26239 = a3 / 64 := by
                      rw [e26240]
                      exact wq_div_e ⟨by omega, by omega⟩ ⟨by omega, by omega⟩
                    refine wp_of e88 c88_146 (rw_dup2 (pc' := 147) rfl rfl rfl ?_)
                    refine wp_of e88 c88_147 (xa_L (pc' := 148) w26228 g26238 sh_13 (by decide) (ty_13 _) (by omega) (by omega) rfl (fun b26242 b26243 => ?_))
                    refine wp_of e88 c88_148 (rw_lconst (pc' := 149) (z := 1) rfl rfl ?_)
                    refine wp_of e88 c88_149 (rw_iload_n (pc' := 150) (z := a3) rfl rfl ?_)
                    refine wp_of e88 c88_150 (rw_bipush (pc' := 152) (z := 64) rfl (by decide) ?_)
                    refine wp_of e88 c88_152 (rw_irem (pc' := 153) rfl ⟨by omega, by omega⟩ (by omega) ?_)
                    obtain ⟨v26244, e26245⟩ : ∃ x : Int, x = wq_rem a3 64 := ⟨_, rfl⟩
                    rw [← e26245]
                    have b26246 : v26244 = a3 % 64 := by
                      rw [e26245]
                      exact wq_rem_e ⟨by omega, by omega⟩ ⟨by omega, by omega⟩
                    refine wp_of e88 c88_153 (rw_lshl (pc' := 154) rfl ?_)
                    obtain ⟨v26247, e26248⟩ : ∃ x : Int, x = wl_shl 1 v26244 := ⟨_, rfl⟩
                    rw [← e26248]
                    have b26249 : -9223372036854775808 ≤ v26247 ∧ v26247 ≤ 9223372036854775807 := by
                      rw [e26248]
                      exact wL_shl _ _
                    refine wp_of e88 c88_154 (rw_lor (pc' := 155) rfl ?_)
                    obtain ⟨v26250, e26251⟩ : ∃ x : Int, x = wl_or (H26227 r26236 (v26239.toNat)) v26247 := ⟨_, rfl⟩
                    rw [← e26251]
                    have b26252 : -9223372036854775808 ≤ v26250 ∧ v26250 ≤ 9223372036854775807 := by
                      rw [e26251]
                      exact wL_or _ _
                    refine wp_of e88 c88_155 (xs_L (pc' := 156) w26228 g26238 (by decide) sh_13 (by decide) (ty_13 _) (by omega) (by omega) ⟨by omega, by omega⟩ (by omega) (by omega) rfl (fun H26253 e26254 w26255 => ?_))
                    have f26256 := f26232.put' e26254 g26238 rfl
                    refine wp_of e88 c88_156 (rw_aload_n (pc' := 157) (v := .ref r0) rfl rfl rfl ?_)
                    refine wp_of e88 c88_157 (rw_dup (pc' := 158) rfl rfl ?_)
                    refine wp_of e88 c88_158 (xg_I (pc' := 161) lf_4_62 w26255 g0 sh_12 (by decide) (by decide) ty_12_5 rfl rfl (fun b26257 b26258 => ?_))
                    refine wp_of e88 c88_161 (rw_iconst (pc' := 162) rfl ?_)
                    refine wp_of e88 c88_162 (rw_iaddw (pc' := 163) rfl ?_)
                    obtain ⟨v26259, e26260⟩ : ∃ x : Int, x = wq_w ((H26253 r0 5) + 1) := ⟨_, rfl⟩
                    rw [← e26260]
                    have b26261 : -2147483648 ≤ v26259 ∧ v26259 ≤ 2147483647 := by
                      rw [e26260]
                      exact wI_w _
                    refine wp_of e88 c88_163 (xp_I (pc' := 166) lf_4_62 w26255 g0 sh_12 (by decide) (by decide) ty_12_5 rfl rfl (by omega) (by omega) ⟨by omega, by omega⟩ rfl (fun H26262 e26263 w26264 => ?_))
                    have f26265 := f26256.put' e26263 g0 rfl
                    have k26266 : H26262 r0 5 = v26259 := wq_u_s e26263
                    refine wp_of e88 c88_166 (rw_aload_n (pc' := 167) (v := .ref r0) rfl rfl rfl ?_)
                    refine wp_of e88 c88_167 (rw_dup (pc' := 168) rfl rfl ?_)
                    refine wp_of e88 c88_168 (xg_L (pc' := 171) lf_4_66 w26264 g0 sh_12 (by decide) (by decide) ty_12_6 rfl rfl (fun b26267 b26268 => ?_))
                    refine wp_of e88 c88_171 (rw_lload (pc' := 173) (z := v25626) rfl rfl ?_)
                    refine wp_of e88 c88_173 (rw_laddw (pc' := 174) rfl ?_)
                    obtain ⟨v26269, e26270⟩ : ∃ x : Int, x = wl_w ((H26262 r0 6) + v25626) := ⟨_, rfl⟩
                    rw [← e26270]
                    have b26271 : -9223372036854775808 ≤ v26269 ∧ v26269 ≤ 9223372036854775807 := by
                      rw [e26270]
                      exact wL_w _
                    refine wp_of e88 c88_174 (xp_L (pc' := 177) lf_4_66 w26264 g0 sh_12 (by decide) (by decide) ty_12_6 rfl rfl (by omega) (by omega) ⟨by omega, by omega⟩ rfl (fun H26272 e26273 w26274 => ?_))
                    have f26275 := f26265.put' e26273 g0 rfl
                    have k26276 : H26272 r0 6 = v26269 := wq_u_s e26273
                    refine wp_of e88 c88_177 (rw_lload (pc' := 179) (z := v25626) rfl rfl ?_)
                    refine wp_of e88 c88_179 (rw_aload_n (pc' := 180) (v := .ref r0) rfl rfl rfl ?_)
                    refine wp_of e88 c88_180 (xg_L (pc' := 183) lf_4_72 w26274 g0 sh_12 (by decide) (by decide) ty_12_8 rfl rfl (fun b26277 b26278 => ?_))
                    refine wp_of e88 c88_183 (rw_lcmp (pc' := 184) rfl ⟨by omega, by omega⟩ ⟨by omega, by omega⟩ ?_)
                    have b26279 := wq_cmp_b v25626 (H26272 r0 8)
                    refine wp_of e88 c88_184 (rw_if_le (p1 := 198) (p2 := 187) (by decide) rfl ⟨by omega, by omega⟩ (fun c26280 => ?_) (fun c26280 => ?_))
                    · exact wp_return e88 c88_198 rfl ⟨rfl, w26274, f26275, rfl⟩
                    · refine wp_of e88 c88_187 (rw_aload_n (pc' := 188) (v := .ref r0) rfl rfl rfl ?_)
                      refine wp_of e88 c88_188 (rw_lload (pc' := 190) (z := v25626) rfl rfl ?_)
                      refine wp_of e88 c88_190 (xp_L (pc' := 193) lf_4_72 w26274 g0 sh_12 (by decide) (by decide) ty_12_8 rfl rfl (by omega) (by omega) ⟨by omega, by omega⟩ rfl (fun H26281 e26282 w26283 => ?_))
                      have f26284 := f26275.put' e26282 g0 rfl
                      have k26285 : H26281 r0 8 = v25626 := wq_u_s e26282
                      refine wp_of e88 c88_193 (rw_aload_n (pc' := 194) (v := .ref r0) rfl rfl rfl ?_)
                      refine wp_of e88 c88_194 (rw_iload_n (pc' := 195) (z := a3) rfl rfl ?_)
                      refine wp_of e88 c88_195 (xp_I (pc' := 198) lf_4_69 w26283 g0 sh_12 (by decide) (by decide) ty_12_7 rfl rfl (by omega) (by omega) ⟨by omega, by omega⟩ rfl (fun H26286 e26287 w26288 => ?_))
                      have f26289 := f26284.put' e26287 g0 rfl
                      have k26290 : H26286 r0 7 = a3 := wq_u_s e26287
                      exact wp_return e88 c88_198 rfl ⟨rfl, w26288, f26289, rfl⟩
                  · refine wp_of e88 c88_110 (rw_aload_n (pc' := 111) (v := .ref r0) rfl rfl rfl ?_)
                    refine wp_of e88 c88_111 (rw_aload_n (pc' := 112) (v := .ref r1) rfl rfl rfl ?_)
                    refine wp_of e88 c88_112 (xg_R (pc' := 115) lf_4_94 w26228 g1 sh_27 (by decide) (by decide) ty_27_2 rfl rfl (fun r26291 q26292 g26293 => ?_))
                    refine wp_of e88 c88_115 (rw_iload (pc' := 117) (z := v26226) rfl rfl ?_)
                    refine wp_of e88 c88_117 (xa_I (so := 0) (pc' := 118) w26228 g26293 sh_30 (by decide) (ty_30 _) (by omega) (by omega) rfl (fun b26294 b26295 => ?_))
                    refine wp_of e88 c88_118 (rw_aload_n (pc' := 119) (v := .ref r2) rfl rfl rfl ?_)
                    refine wp_of e88 c88_119 (rw_aload_n (pc' := 120) (v := .ref r1) rfl rfl rfl ?_)
                    refine wp_of e88 c88_120 (xg_K (pc' := 123) lf_4_94 w26228 g1 sh_27 (by decide) (by decide) rfl q26292 rfl ?_)
                    refine wp_of e88 c88_123 (rw_iload (pc' := 125) (z := v26226) rfl rfl ?_)
                    refine wp_of e88 c88_125 (xa_I (so := 0) (pc' := 126) w26228 g26293 sh_30 (by decide) (ty_30 _) (by omega) (by omega) rfl (fun b26296 b26297 => ?_))
                    refine wp_of e88 c88_126 (xc_V (pc' := 129) (r := r2) (as := [vI (H26227 r26291 (v26226.toNat))]) (st := [vI (H26227 r26291 (v26226.toNat)), .ref r0]) (lm_4_97) rfl rfl (Nat.le_of_ble_eq_true rfl) w26228 g2 sh_6 (by decide) rfl (by decide) (s_72 w26228 g2 ⟨by omega, by omega⟩) (fun R26298 T26299 H26300 p26301 => ?_))
                    obtain ⟨e26302, e26304, z26305, e26303, b26306⟩ := p26301
                    subst e26302
                    subst e26303
                    subst e26304
                    show wp _ _ 88 129 [(6, vI v26226), (4, vL v25626), (0, .ref r0), (1, .ref r1), (2, .ref r2), (3, vI a3)] [vI z26305, vI (H26227 r26291 (v26226.toNat)), .ref r0] _ H26227 _
                    refine wp_of e88 c88_129 (xc_V (pc' := 132) (r := r0) (as := [vI (H26227 r26291 (v26226.toNat)), vI z26305]) (st := []) (lm_4_100) rfl rfl (Nat.le_of_ble_eq_true rfl) w26228 g0 sh_12 (by decide) rfl (by decide) (s_90 w26228 g0 ⟨by omega, by omega⟩ ⟨by omega, by omega⟩) (fun R26307 T26308 H26309 p26310 => ?_))
                    obtain ⟨e26311, w26313, f26314, e26312⟩ := p26310
                    subst e26311
                    subst e26312
                    have f26315 := f26232.tr f26314 rfl
                    have f26316 := f26229.tr f26314 rfl
                    show wp _ _ 88 132 [(6, vI v26226), (4, vL v25626), (0, .ref r0), (1, .ref r1), (2, .ref r2), (3, vI a3)] [] _ H26309 _
                    refine wp_of e88 c88_132 (rw_iinc (pc' := 135) (z := v26226) (L' := [(6, vI (v26226 + 1)), (4, vL v25626), (0, .ref r0), (1, .ref r1), (2, .ref r2), (3, vI a3)]) rfl rfl rfl rfl ?_)
                    refine wp_of e88 c88_135 (rw_goto (p1 := 101) (by decide) ?_)
                    exact wp_lc (ks := [6, 4, 0, 1, 2, 3]) (wl_c rfl (wl_c rfl (wl_c rfl (wl_c rfl (wl_c rfl (wl_c rfl wl_n)))))) rfl (by decide) (ih26225 _ (by omega) (v26226 + 1) H26309 w26313 f26316 ⟨by omega, by omega⟩ rfl)
              exact wp_lc (ks := [6, 4, 0, 1, 2, 3]) (wl_c rfl (wl_c rfl (wl_c rfl (wl_c rfl (wl_c rfl (wl_c rfl wl_n)))))) rfl (by decide) (lp26223 _ 0 H25989 w25990 wfr.rf ⟨by omega, by omega⟩ rfl)
            · refine wp_of e88 c88_55 (rw_aload_n (pc' := 56) (v := .ref r0) rfl rfl rfl ?_)
              refine wp_of e88 c88_56 (xg_R (pc' := 59) lf_4_17 w25990 g0 sh_12 (by decide) (by decide) ty_12_1 rfl rfl (fun r26317 q26318 g26319 => ?_))
              refine wp_of e88 c88_59 (rw_iload (pc' := 61) (z := v25988) rfl rfl ?_)
              refine wp_of e88 c88_61 (xa_R (pc' := 62) (by decide) w25990 g26319 sh_14 (by decide) (ty_14 _) (by omega) (by omega) rfl (fun r26320 q26321 g26322 => ?_))
              refine wp_of e88 c88_62 (rw_aload_n (pc' := 63) (v := .ref r2) rfl rfl rfl ?_)
              refine wp_of e88 c88_63 (rw_iload (pc' := 65) (z := v25988) rfl rfl ?_)
              refine wp_of e88 c88_65 (xc_V (pc' := 68) (r := r2) (as := [vI v25988]) (st := [.ref r26320]) (lm_4_82) rfl rfl (Nat.le_of_ble_eq_true rfl) w25990 g2 sh_6 (by decide) rfl (by decide) (s_89 w25990 g2 ⟨by omega, by omega⟩) (fun R26323 T26324 H26325 p26326 => ?_))
              obtain ⟨e26327, e26329, z26330, e26328, b26331⟩ := p26326
              subst e26327
              subst e26328
              subst e26329
              show wp _ _ 88 68 [(6, vI v25988), (4, vL v25626), (0, .ref r0), (1, .ref r1), (2, .ref r2), (3, vI a3)] [vI z26330, .ref r26320] _ H25989 _
              refine wp_of e88 c88_68 (rw_dup2 (pc' := 69) rfl rfl rfl ?_)
              refine wp_of e88 c88_69 (xa_I (so := 0) (pc' := 70) w25990 g26322 sh_15 (by decide) (ty_15 _) (by omega) (by omega) rfl (fun b26332 b26333 => ?_))
              refine wp_of e88 c88_70 (rw_iconst (pc' := 71) rfl ?_)
              refine wp_of e88 c88_71 (rw_iaddw (pc' := 72) rfl ?_)
              obtain ⟨v26334, e26335⟩ : ∃ x : Int, x = wq_w ((H25989 r26320 (z26330.toNat)) + 1) := ⟨_, rfl⟩
              rw [← e26335]
              have b26336 : -2147483648 ≤ v26334 ∧ v26334 ≤ 2147483647 := by
                rw [e26335]
                exact wI_w _
              refine wp_of e88 c88_72 (xs_I (pc' := 73) w25990 g26322 (by decide) sh_15 (by decide) (ty_15 _) (by omega) (by omega) ⟨by omega, by omega⟩ (by omega) (by omega) rfl (fun H26337 e26338 w26339 => ?_))
              have f26340 := f25994.put' e26338 g26322 rfl
              have f26341 := f25991.put' e26338 g26322 rfl
              refine wp_of e88 c88_73 (rw_aload_n (pc' := 74) (v := .ref r0) rfl rfl rfl ?_)
              refine wp_of e88 c88_74 (xg_R (pc' := 77) lf_4_22 w26339 g0 sh_12 (by decide) (by decide) ty_12_2 rfl rfl (fun r26342 q26343 g26344 => ?_))
              refine wp_of e88 c88_77 (rw_iload (pc' := 79) (z := v25988) rfl rfl ?_)
              refine wp_of e88 c88_79 (xa_R (pc' := 80) (by decide) w26339 g26344 sh_16 (by decide) (ty_16 _) (by omega) (by omega) rfl (fun r26345 q26346 g26347 => ?_))
              refine wp_of e88 c88_80 (rw_aload_n (pc' := 81) (v := .ref r2) rfl rfl rfl ?_)
              refine wp_of e88 c88_81 (rw_iload (pc' := 83) (z := v25988) rfl rfl ?_)
              refine wp_of e88 c88_83 (xc_V (pc' := 86) (r := r2) (as := [vI v25988]) (st := [.ref r26345]) (lm_4_82) rfl rfl (Nat.le_of_ble_eq_true rfl) w26339 g2 sh_6 (by decide) rfl (by decide) (s_89 w26339 g2 ⟨by omega, by omega⟩) (fun R26348 T26349 H26350 p26351 => ?_))
              obtain ⟨e26352, e26354, z26355, e26353, b26356⟩ := p26351
              subst e26352
              subst e26353
              subst e26354
              show wp _ _ 88 86 [(6, vI v25988), (4, vL v25626), (0, .ref r0), (1, .ref r1), (2, .ref r2), (3, vI a3)] [vI z26355, .ref r26345] _ H26337 _
              refine wp_of e88 c88_86 (rw_dup2 (pc' := 87) rfl rfl rfl ?_)
              refine wp_of e88 c88_87 (xa_L (pc' := 88) w26339 g26347 sh_17 (by decide) (ty_17 _) (by omega) (by omega) rfl (fun b26357 b26358 => ?_))
              refine wp_of e88 c88_88 (rw_lload (pc' := 90) (z := v25626) rfl rfl ?_)
              refine wp_of e88 c88_90 (rw_laddw (pc' := 91) rfl ?_)
              obtain ⟨v26359, e26360⟩ : ∃ x : Int, x = wl_w ((H26337 r26345 (z26355.toNat)) + v25626) := ⟨_, rfl⟩
              rw [← e26360]
              have b26361 : -9223372036854775808 ≤ v26359 ∧ v26359 ≤ 9223372036854775807 := by
                rw [e26360]
                exact wL_w _
              refine wp_of e88 c88_91 (xs_L (pc' := 92) w26339 g26347 (by decide) sh_17 (by decide) (ty_17 _) (by omega) (by omega) ⟨by omega, by omega⟩ (by omega) (by omega) rfl (fun H26362 e26363 w26364 => ?_))
              have f26365 := f26340.put' e26363 g26347 rfl
              have f26366 := f26341.put' e26363 g26347 rfl
              refine wp_of e88 c88_92 (rw_iinc (pc' := 95) (z := v25988) (L' := [(6, vI (v25988 + 1)), (4, vL v25626), (0, .ref r0), (1, .ref r1), (2, .ref r2), (3, vI a3)]) rfl rfl rfl rfl ?_)
              refine wp_of e88 c88_95 (rw_goto (p1 := 46) (by decide) ?_)
              exact wp_lc (ks := [6, 4, 0, 1, 2, 3]) (wl_c rfl (wl_c rfl (wl_c rfl (wl_c rfl (wl_c rfl (wl_c rfl wl_n)))))) rfl (by decide) (ih25987 _ (by omega) (v25988 + 1) H26362 w26364 f26366 ⟨by omega, by omega⟩ rfl)
        exact wp_lc (ks := [6, 4, 0, 1, 2, 3]) (wl_c rfl (wl_c rfl (wl_c rfl (wl_c rfl (wl_c rfl (wl_c rfl wl_n)))))) rfl (by decide) (lp25985 _ 0 H hW wfr.rf ⟨by omega, by omega⟩ rfl)
      · refine wp_of e88 c88_15 (rw_lload (pc' := 17) (z := v25626) rfl rfl ?_)
        refine wp_of e88 c88_17 (rw_aload_n (pc' := 18) (v := .ref r1) rfl rfl rfl ?_)
        refine wp_of e88 c88_18 (xg_R (pc' := 21) lf_4_78 hW g1 sh_27 (by decide) (by decide) ty_27_0 rfl rfl (fun r26367 q26368 g26369 => ?_))
        refine wp_of e88 c88_21 (rw_iload (pc' := 23) (z := v25625) rfl rfl ?_)
        refine wp_of e88 c88_23 (xa_R (pc' := 24) (by decide) hW g26369 sh_28 (by decide) (ty_28 _) (by omega) (by omega) rfl (fun r26370 q26371 g26372 => ?_))
        refine wp_of e88 c88_24 (rw_aload_n (pc' := 25) (v := .ref r2) rfl rfl rfl ?_)
        refine wp_of e88 c88_25 (rw_iload (pc' := 27) (z := v25625) rfl rfl ?_)
        refine wp_of e88 c88_27 (xc_V (pc' := 30) (r := r2) (as := [vI v25625]) (st := [.ref r26370, vL v25626]) (lm_4_82) rfl rfl (Nat.le_of_ble_eq_true rfl) hW g2 sh_6 (by decide) rfl (by decide) (s_89 hW g2 ⟨by omega, by omega⟩) (fun R26373 T26374 H26375 p26376 => ?_))
        obtain ⟨e26377, e26379, z26380, e26378, b26381⟩ := p26376
        subst e26377
        subst e26378
        subst e26379
        show wp _ _ 88 30 [(6, vI v25625), (4, vL v25626), (0, .ref r0), (1, .ref r1), (2, .ref r2), (3, vI a3)] [vI z26380, .ref r26370, vL v25626] _ H _
        refine wp_of e88 c88_30 (xc_V (pc' := 33) (r := r26370) (as := [vI z26380]) (st := [vL v25626]) (lm_4_86) rfl rfl (Nat.le_of_ble_eq_true rfl) hW g26372 sh_35 (by decide) rfl (by decide) (s_58 hW g26372 ⟨by omega, by omega⟩) (fun R26382 T26383 H26384 p26385 => ?_))
        obtain ⟨e26386, e26388, z26389, e26387, b26390⟩ := p26385
        subst e26386
        subst e26387
        subst e26388
        show wp _ _ 88 33 [(6, vI v25625), (4, vL v25626), (0, .ref r0), (1, .ref r1), (2, .ref r2), (3, vI a3)] [vI z26389, vL v25626] _ H _
        refine wp_of e88 c88_33 (rw_i2l (pc' := 34) rfl ⟨by omega, by omega⟩ ?_)
        refine wp_of e88 c88_34 (rw_lmulw (pc' := 35) rfl ?_)
        obtain ⟨v26391, e26392⟩ : ∃ x : Int, x = wl_w (v25626 * z26389) := ⟨_, rfl⟩
        rw [← e26392]
        have b26393 : -9223372036854775808 ≤ v26391 ∧ v26391 ≤ 9223372036854775807 := by
          rw [e26392]
          exact wL_w _
        refine wp_of e88 c88_35 (rw_lstore (pc' := 37) (z := v26391) (L' := [(4, vL v26391), (6, vI v25625), (0, .ref r0), (1, .ref r1), (2, .ref r2), (3, vI a3)]) rfl rfl rfl ?_)
        refine wp_of e88 c88_37 (rw_iinc (pc' := 40) (z := v25625) (L' := [(6, vI (v25625 + 1)), (4, vL v26391), (0, .ref r0), (1, .ref r1), (2, .ref r2), (3, vI a3)]) rfl rfl rfl rfl ?_)
        refine wp_of e88 c88_40 (rw_goto (p1 := 6) (by decide) ?_)
        exact wp_lc (ks := [6, 4, 0, 1, 2, 3]) (wl_c rfl (wl_c rfl (wl_c rfl (wl_c rfl (wl_c rfl (wl_c rfl wl_n)))))) rfl (by decide) (ih25624 _ (by omega) (v25625 + 1) v26391 ⟨by omega, by omega⟩ ⟨by omega, by omega⟩ rfl)
  exact wp_lc (ks := [6, 4, 0, 1, 2, 3]) (wl_c rfl (wl_c rfl (wl_c rfl (wl_c rfl (wl_c rfl (wl_c rfl wl_n)))))) rfl (by decide) (lp25622 _ 0 1 ⟨by omega, by omega⟩ ⟨by omega, by omega⟩ rfl)
/-! StrikeAwake$Walk.step(LStrikeAwake$Parish;)V -/
theorem e91 : wq_en 91 = some (3, 4, false, none) := rfl
theorem c91_0 : mc_cd 91 0 = some (.iconst 0, 1) := by decide +kernel
theorem c91_1 : mc_cd 91 1 = some (.istore_n 2, 1) := by decide +kernel
theorem c91_2 : mc_cd 91 2 = some (.aload_n 0, 1) := by decide +kernel
theorem c91_3 : mc_cd 91 3 = some (.getfield 51, 3) := by decide +kernel
theorem c91_6 : mc_cd 91 6 = some (.iconst 1, 1) := by decide +kernel
theorem c91_7 : mc_cd 91 7 = some (.isub, 1) := by decide +kernel
theorem c91_8 : mc_cd 91 8 = some (.istore_n 3, 1) := by decide +kernel
theorem c91_9 : mc_cd 91 9 = some (.iload_n 3, 1) := by decide +kernel
theorem c91_10 : mc_cd 91 10 = some (.ifCond .lt 49, 3) := by decide +kernel
theorem c91_13 : mc_cd 91 13 = some (.aload_n 0, 1) := by decide +kernel
theorem c91_14 : mc_cd 91 14 = some (.getfield 9, 3) := by decide +kernel
theorem c91_17 : mc_cd 91 17 = some (.iload_n 3, 1) := by decide +kernel
theorem c91_18 : mc_cd 91 18 = some (.dup2, 1) := by decide +kernel
theorem c91_19 : mc_cd 91 19 = some (.iaload, 1) := by decide +kernel
theorem c91_20 : mc_cd 91 20 = some (.iconst 1, 1) := by decide +kernel
theorem c91_21 : mc_cd 91 21 = some (.iadd, 1) := by decide +kernel
theorem c91_22 : mc_cd 91 22 = some (.iastore, 1) := by decide +kernel
theorem c91_23 : mc_cd 91 23 = some (.aload_n 0, 1) := by decide +kernel
theorem c91_24 : mc_cd 91 24 = some (.getfield 9, 3) := by decide +kernel
theorem c91_27 : mc_cd 91 27 = some (.iload_n 3, 1) := by decide +kernel
theorem c91_28 : mc_cd 91 28 = some (.iaload, 1) := by decide +kernel
theorem c91_29 : mc_cd 91 29 = some (.aload_n 1, 1) := by decide +kernel
theorem c91_30 : mc_cd 91 30 = some (.getfield 42, 3) := by decide +kernel
theorem c91_33 : mc_cd 91 33 = some (.iload_n 3, 1) := by decide +kernel
theorem c91_34 : mc_cd 91 34 = some (.aaload, 1) := by decide +kernel
theorem c91_35 : mc_cd 91 35 = some (.getfield 52, 3) := by decide +kernel
theorem c91_38 : mc_cd 91 38 = some (.if_icmp .ge 8, 3) := by decide +kernel
theorem c91_41 : mc_cd 91 41 = some (.iload_n 3, 1) := by decide +kernel
theorem c91_42 : mc_cd 91 42 = some (.istore_n 2, 1) := by decide +kernel
theorem c91_43 : mc_cd 91 43 = some (.goto 16, 3) := by decide +kernel
theorem c91_46 : mc_cd 91 46 = some (.aload_n 0, 1) := by decide +kernel
theorem c91_47 : mc_cd 91 47 = some (.getfield 9, 3) := by decide +kernel
theorem c91_50 : mc_cd 91 50 = some (.iload_n 3, 1) := by decide +kernel
theorem c91_51 : mc_cd 91 51 = some (.iconst 0, 1) := by decide +kernel
theorem c91_52 : mc_cd 91 52 = some (.iastore, 1) := by decide +kernel
theorem c91_53 : mc_cd 91 53 = some (.iinc 3 (-1), 3) := by decide +kernel
theorem c91_56 : mc_cd 91 56 = some (.goto (-47), 3) := by decide +kernel
theorem c91_59 : mc_cd 91 59 = some (.aload_n 0, 1) := by decide +kernel
theorem c91_60 : mc_cd 91 60 = some (.aload_n 1, 1) := by decide +kernel
theorem c91_61 : mc_cd 91 61 = some (.iload_n 2, 1) := by decide +kernel
theorem c91_62 : mc_cd 91 62 = some (.invokevirtual 32, 3) := by decide +kernel
theorem c91_65 : mc_cd 91 65 = some (.return_, 1) := by decide +kernel
abbrev q_91 (r0 : Nat) (r1 : Nat) (T : wq_T) (H : wq_H) : Option Value → wq_T → wq_H → Prop := fun r T' H' => T = T' ∧ WT T H' ∧ wfr [(8, 999), (10, 999), (9, 999), (7, 999), (11, 999)] T H H' ∧ none = r
set_option maxHeartbeats 4000000 in
theorem s_91 {kt : Nat → Option mc_E} {T : wq_T} {H : wq_H} {r0 : Nat} {r1 : Nat} (hW : WT T H) (g0 : T.2.2.2 r0 = some 6) (g1 : T.2.2.2 r1 = some 27) : wpc kt 3 91 [.ref r0, .ref r1] T H (q_91 r0 r1 T H) := by
  refine wp_enter e91 (Nat.le_of_ble_eq_true rfl) rfl ?_
  have f0 : wfr [(8, 999), (10, 999), (9, 999), (7, 999), (11, 999)] T H H := wfr.rf
  show wp _ _ 91 0 [(0, .ref r0), (1, .ref r1)] [] _ H _
  refine wp_of e91 c91_0 (rw_iconst (pc' := 1) rfl ?_)
  refine wp_of e91 c91_1 (rw_istore_n (pc' := 2) (z := 0) (L' := [(2, vI 0), (0, .ref r0), (1, .ref r1)]) rfl rfl rfl ?_)
  refine wp_of e91 c91_2 (rw_aload_n (pc' := 3) (v := .ref r0) rfl rfl rfl ?_)
  refine wp_of e91 c91_3 (xg_I (pc' := 6) lf_3_51 hW g0 sh_6 (by decide) (by decide) ty_6_5 rfl rfl (fun b1 b2 => ?_))
  refine wp_of e91 c91_6 (rw_iconst (pc' := 7) rfl ?_)
  refine wp_of e91 c91_7 (rw_isub (pc' := 8) rfl ?_)
  refine wp_of e91 c91_8 (rw_istore_n (pc' := 9) (z := (H r0 5) - 1) (L' := [(3, vI ((H r0 5) - 1)), (2, vI 0), (0, .ref r0), (1, .ref r1)]) rfl rfl rfl ?_)
  have lp : ∀ (n : Nat) (v : Int) (H1 : wq_H), WT T H1 → wfr [(7, 999)] T H H1 → ((-1) ≤ v ∧ v ≤ 5) → (v - (-1)).toNat = n → wp kt 2 91 9 [(3, vI v), (2, vI 0), (0, .ref r0), (1, .ref r1)] [] T H1 (q_91 r0 r1 T H) := by
    intro n
    induction n using Nat.strongRecOn with
    | _ n ih =>
      intro v H1 w1 f1 b3 m1
      have f2 := f0.tr f1 rfl
      refine wp_of e91 c91_9 (rw_iload_n (pc' := 10) (z := v) rfl rfl ?_)
      refine wp_of e91 c91_10 (rw_if_lt (p1 := 59) (p2 := 13) (by decide) rfl ⟨by omega, by omega⟩ (fun c1 => ?_) (fun c1 => ?_))
      · refine wp_of e91 c91_59 (rw_aload_n (pc' := 60) (v := .ref r0) rfl rfl rfl ?_)
        refine wp_of e91 c91_60 (rw_aload_n (pc' := 61) (v := .ref r1) rfl rfl rfl ?_)
        refine wp_of e91 c91_61 (rw_iload_n (pc' := 62) (z := 0) rfl rfl ?_)
        refine wp_of e91 c91_62 (xc_V (pc' := 65) (r := r0) (as := [.ref r1, vI 0]) (st := []) (lm_3_32) rfl rfl (Nat.le_of_ble_eq_true rfl) w1 g0 sh_6 (by decide) rfl (by decide) (s_70 w1 g0 g1 ⟨by omega, by omega⟩) (fun R9 T9 H9 p9 => ?_))
        obtain ⟨e7, w9, f9, e8⟩ := p9
        subst e7
        subst e8
        have f10 := f2.tr f9 rfl
        show wp _ _ 91 65 [(3, vI v), (2, vI 0), (0, .ref r0), (1, .ref r1)] [] _ H9 _
        exact wp_return e91 c91_65 rfl ⟨rfl, w9, f10, rfl⟩
      · refine wp_of e91 c91_13 (rw_aload_n (pc' := 14) (v := .ref r0) rfl rfl rfl ?_)
        refine wp_of e91 c91_14 (xg_R (pc' := 17) lf_3_9 w1 g0 sh_6 (by decide) (by decide) ty_6_0 rfl rfl (fun rp q1 gp => ?_))
        refine wp_of e91 c91_17 (rw_iload_n (pc' := 18) (z := v) rfl rfl ?_)
        refine wp_of e91 c91_18 (rw_dup2 (pc' := 19) rfl rfl rfl ?_)
        refine wp_of e91 c91_19 (xa_I (so := 0) (pc' := 20) w1 gp sh_7 (by decide) (ty_7 _) (by omega) (by omega) rfl (fun b5 b6 => ?_))
        refine wp_of e91 c91_20 (rw_iconst (pc' := 21) rfl ?_)
        refine wp_of e91 c91_21 (rw_iadd (pc' := 22) rfl ?_)
        refine wp_of e91 c91_22 (rw_iastore (pc' := 23) (w1.sh gp sh_7) (w1.hi gp (by decide)) (by decide) ⟨by omega, by omega⟩ (by omega) (by omega) rfl ?_)
        obtain ⟨H2, e2⟩ : ∃ X : wq_H, X = wq_u H1 rp v.toNat (H1 rp v.toNat + 1) := ⟨_, rfl⟩
        rw [← e2]
        have k2 : H2 rp v.toNat = H1 rp v.toNat + 1 := wq_u_s e2
        obtain ⟨l9, hl9, hj9, -⟩ := lf_3_9
        obtain ⟨l42, hl42, hj42, -⟩ := lf_3_42
        obtain ⟨l52, hl52, hj52, -⟩ := lf_3_52
        have hc0 := wq_hc (a := r0) (c := 3) (j := 0) (n := 6) (w1.hi g0 (by decide)) (by decide)
        have q2 : H2 r0 0 = (rp : Int) := (wq_u_t e2 gp g0 rfl 0).trans q1
        refine wp_of e91 c91_23 (rw_aload_n (pc' := 24) (v := .ref r0) rfl rfl rfl ?_)
        refine wp_of e91 c91_24 (rw_getR (pc' := 27) hl9 hj9 (w1.sh g0 sh_6) hc0 rfl q2 rfl ?_)
        refine wp_of e91 c91_27 (rw_iload_n (pc' := 28) (z := v) rfl rfl ?_)
        refine wp_of e91 c91_28 (rw_iaload (pc' := 29) (w1.sh gp sh_7) ⟨by decide, rfl, Bool.or_true _, by decide⟩ (by omega) (by omega) rfl rfl ?_)
        obtain ⟨ra, q3, ga⟩ := w1.ref g1 (t' := 28) (n := 19) (j := 0) (p := 0) (q := 0) rfl (by decide) rfl
        have q4 : H2 r1 0 = (ra : Int) := (wq_u_t e2 gp g1 rfl 0).trans q3
        refine wp_of e91 c91_29 (rw_aload_n (pc' := 30) (v := .ref r1) rfl rfl rfl ?_)
        refine wp_of e91 c91_30 (rw_getR (pc' := 33) hl42 hj42 (w1.sh g1 sh_27) (wq_hc (w1.hi g1 (by decide)) (by decide)) rfl q4 rfl ?_)
        refine wp_of e91 c91_33 (rw_iload_n (pc' := 34) (z := v) rfl rfl ?_)
        obtain ⟨rs, q5, gs⟩ := w1.ref ga (t' := 35) (n := 6) (j := v.toNat) (p := 0) (q := 0) rfl (by omega) rfl
        have q6 : H2 ra v.toNat = (rs : Int) := (wq_u_t e2 gp ga rfl _).trans q5
        refine wp_of e91 c91_34 (rw_aaload (pc' := 35) (w1.sh ga sh_28) ⟨by decide, rfl, Bool.or_true _, by decide⟩ (by omega) (by omega) rfl q6 rfl ?_)
        have b7 : (0 : Int) ≤ H1 rs 15 ∧ H1 rs 15 ≤ 40 := w1.box gs (n := 18) rfl (by decide) rfl
        have k3 : H2 rs 15 = H1 rs 15 := wq_u_t e2 gp gs rfl 15
        refine wp_of e91 c91_35 (rw_getI (pc' := 38) hl52 hj52 (w1.sh gs sh_35) (wq_hc (w1.hi gs (by decide)) (by decide)) rfl rfl ?_)
        refine wp_of e91 c91_38 (rw_icmp_ge (p1 := 46) (p2 := 41) (by decide) rfl ⟨by omega, by omega⟩ ⟨by omega, by omega⟩ (fun c2 => ?_) (fun c2 => ?_))
        · refine wp_of e91 c91_46 (rw_aload_n (pc' := 47) (v := .ref r0) rfl rfl rfl ?_)
          refine wp_of e91 c91_47 (rw_getR (pc' := 50) hl9 hj9 (w1.sh g0 sh_6) hc0 rfl q2 rfl ?_)
          refine wp_of e91 c91_50 (rw_iload_n (pc' := 51) (z := v) rfl rfl ?_)
          refine wp_of e91 c91_51 (rw_iconst (pc' := 52) rfl ?_)
          refine wp_of e91 c91_52 (rw_iastore (pc' := 53) (w1.sh gp sh_7) (w1.hi gp (by decide)) (by decide) ⟨by omega, by omega⟩ (by omega) (by omega) rfl ?_)
          have e3 : wq_u H2 rp v.toNat 0 = wq_u H1 rp v.toNat 0 := by
            funext b i
            by_cases hq : b = rp ∧ i = v.toNat
            · obtain ⟨rfl, rfl⟩ := hq
              rw [wq_u_eq, wq_u_eq]
            · rw [wq_u_ne hq, wq_u_ne hq, e2, wq_u_ne hq]
          rw [e3]
          have w3 : WT T (wq_u H1 rp v.toNat 0) := w1.putB gp (ty_7 _) (by omega) (by omega)
          have f3 : wfr [(7, 999)] T H (wq_u H1 rp v.toNat 0) := f1.put gp rfl
          refine wp_of e91 c91_53 (rw_iinc (pc' := 56) (z := v) (L' := [(3, vI (v + (-1))), (2, vI 0), (0, .ref r0), (1, .ref r1)]) rfl rfl rfl rfl ?_)
          refine wp_of e91 c91_56 (rw_goto (p1 := 9) (by decide) ?_)
          exact wp_lc (ks := [3, 2, 0, 1]) (wl_c rfl (wl_c rfl (wl_c rfl (wl_c rfl wl_n)))) rfl (by decide) (ih _ (by omega) (v + (-1)) _ w3 f3 ⟨by omega, by omega⟩ rfl)
        · have w2 : WT T H2 := by
            rw [e2]
            exact w1.putB gp (ty_7 _) (by omega) (by omega)
          have f3 := f2.put' e2 gp rfl
          refine wp_of e91 c91_41 (rw_iload_n (pc' := 42) (z := v) rfl rfl ?_)
          refine wp_of e91 c91_42 (rw_istore_n (pc' := 43) (z := v) (L' := [(2, vI v), (3, vI v), (0, .ref r0), (1, .ref r1)]) rfl rfl rfl ?_)
          refine wp_of e91 c91_43 (rw_goto (p1 := 59) (by decide) ?_)
          refine wp_of e91 c91_59 (rw_aload_n (pc' := 60) (v := .ref r0) rfl rfl rfl ?_)
          refine wp_of e91 c91_60 (rw_aload_n (pc' := 61) (v := .ref r1) rfl rfl rfl ?_)
          refine wp_of e91 c91_61 (rw_iload_n (pc' := 62) (z := v) rfl rfl ?_)
          refine wp_of e91 c91_62 (xc_V (pc' := 65) (r := r0) (as := [.ref r1, vI v]) (st := []) (lm_3_32) rfl rfl (Nat.le_of_ble_eq_true rfl) w2 g0 sh_6 (by decide) rfl (by decide) (s_70 w2 g0 g1 ⟨by omega, by omega⟩) (fun R9 T9 H9 p9 => ?_))
          obtain ⟨e7, w9, f9, e8⟩ := p9
          subst e7
          subst e8
          have f10 := f3.tr f9 rfl
          show wp _ _ 91 65 [(2, vI v), (3, vI v), (0, .ref r0), (1, .ref r1)] [] _ H9 _
          exact wp_return e91 c91_65 rfl ⟨rfl, w9, f10, rfl⟩
  exact wp_lc (ks := [3, 2, 0, 1]) (wl_c rfl (wl_c rfl (wl_c rfl (wl_c rfl wl_n)))) rfl (by decide) (lp _ ((H r0 5) - 1) H hW wfr.rf ⟨by omega, by omega⟩ rfl)
/-! StrikeAwake$Census.renew(LStrikeAwake$Parish;LStrikeAwake$Walk;)V -/
theorem e85 : wq_en 85 = some (4, 4, false, none) := rfl
theorem c85_0 : mc_cd 85 0 = some (.aload_n 0, 1) := by decide +kernel
theorem c85_1 : mc_cd 85 1 = some (.getfield 32, 3) := by decide +kernel
theorem c85_4 : mc_cd 85 4 = some (.ifCond .eq 4, 3) := by decide +kernel
theorem c85_7 : mc_cd 85 7 = some (.return_, 1) := by decide +kernel
theorem c85_8 : mc_cd 85 8 = some (.aload_n 0, 1) := by decide +kernel
theorem c85_9 : mc_cd 85 9 = some (.invokevirtual 36, 3) := by decide +kernel
theorem c85_12 : mc_cd 85 12 = some (.aload_n 2, 1) := by decide +kernel
theorem c85_13 : mc_cd 85 13 = some (.aload_n 1, 1) := by decide +kernel
theorem c85_14 : mc_cd 85 14 = some (.invokevirtual 39, 3) := by decide +kernel
theorem c85_17 : mc_cd 85 17 = some (.iconst 0, 1) := by decide +kernel
theorem c85_18 : mc_cd 85 18 = some (.istore_n 3, 1) := by decide +kernel
theorem c85_19 : mc_cd 85 19 = some (.iload_n 3, 1) := by decide +kernel
theorem c85_20 : mc_cd 85 20 = some (.i2l, 1) := by decide +kernel
theorem c85_21 : mc_cd 85 21 = some (.aload_n 1, 1) := by decide +kernel
theorem c85_22 : mc_cd 85 22 = some (.getfield 45, 3) := by decide +kernel
theorem c85_25 : mc_cd 85 25 = some (.lcmp, 1) := by decide +kernel
theorem c85_26 : mc_cd 85 26 = some (.ifCond .ge 36, 3) := by decide +kernel
theorem c85_29 : mc_cd 85 29 = some (.iload_n 3, 1) := by decide +kernel
theorem c85_30 : mc_cd 85 30 = some (.sipush 20000, 3) := by decide +kernel
theorem c85_33 : mc_cd 85 33 = some (.if_icmp .ge 29, 3) := by decide +kernel
theorem c85_36 : mc_cd 85 36 = some (.aload_n 2, 1) := by decide +kernel
theorem c85_37 : mc_cd 85 37 = some (.aload_n 1, 1) := by decide +kernel
theorem c85_38 : mc_cd 85 38 = some (.invokevirtual 51, 3) := by decide +kernel
theorem c85_41 : mc_cd 85 41 = some (.ifCond .eq 10, 3) := by decide +kernel
theorem c85_44 : mc_cd 85 44 = some (.aload_n 0, 1) := by decide +kernel
theorem c85_45 : mc_cd 85 45 = some (.aload_n 1, 1) := by decide +kernel
theorem c85_46 : mc_cd 85 46 = some (.aload_n 2, 1) := by decide +kernel
theorem c85_47 : mc_cd 85 47 = some (.iload_n 3, 1) := by decide +kernel
theorem c85_48 : mc_cd 85 48 = some (.invokevirtual 55, 3) := by decide +kernel
theorem c85_51 : mc_cd 85 51 = some (.aload_n 2, 1) := by decide +kernel
theorem c85_52 : mc_cd 85 52 = some (.aload_n 1, 1) := by decide +kernel
theorem c85_53 : mc_cd 85 53 = some (.invokevirtual 59, 3) := by decide +kernel
theorem c85_56 : mc_cd 85 56 = some (.iinc 3 1, 3) := by decide +kernel
theorem c85_59 : mc_cd 85 59 = some (.goto (-40), 3) := by decide +kernel
theorem c85_62 : mc_cd 85 62 = some (.aload_n 0, 1) := by decide +kernel
theorem c85_63 : mc_cd 85 63 = some (.iconst 1, 1) := by decide +kernel
theorem c85_64 : mc_cd 85 64 = some (.putfield 32, 3) := by decide +kernel
theorem c85_67 : mc_cd 85 67 = some (.return_, 1) := by decide +kernel
abbrev q_85 (r0 : Nat) (r1 : Nat) (r2 : Nat) (T : wq_T) (H : wq_H) : Option Value → wq_T → wq_H → Prop := fun r T' H' => T = T' ∧ WT T H' ∧ wfr [(12, 5), (12, 6), (12, 7), (12, 8), (12, 9), (6, 5), (8, 999), (10, 999), (15, 999), (9, 999), (18, 999), (19, 999), (7, 999), (11, 999), (17, 999), (13, 999)] T H H' ∧ none = r
set_option maxHeartbeats 4000000 in
theorem s_85 {kt : Nat → Option mc_E} {T : wq_T} {H : wq_H} {r0 : Nat} {r1 : Nat} {r2 : Nat} (hW : WT T H) (g0 : T.2.2.2 r0 = some 12) (g1 : T.2.2.2 r1 = some 27) (g2 : T.2.2.2 r2 = some 6) : wpc kt 4 85 [.ref r0, .ref r1, .ref r2] T H (q_85 r0 r1 r2 T H) := by
  refine wp_enter e85 (Nat.le_of_ble_eq_true rfl) rfl ?_
  have f0 : wfr [(12, 5), (12, 6), (12, 7), (12, 8), (12, 9), (6, 5), (8, 999), (10, 999), (15, 999), (9, 999), (18, 999), (19, 999), (7, 999), (11, 999), (17, 999), (13, 999)] T H H := wfr.rf
  show wp _ _ 85 0 [(0, .ref r0), (1, .ref r1), (2, .ref r2)] [] _ H _
  refine wp_of e85 c85_0 (rw_aload_n (pc' := 1) (v := .ref r0) rfl rfl rfl ?_)
  refine wp_of e85 c85_1 (xg_I (pc' := 4) lf_4_32 hW g0 sh_12 (by decide) (by decide) ty_12_9 rfl rfl (fun b26906 b26907 => ?_))
  refine wp_of e85 c85_4 (rw_if_eq (p1 := 8) (p2 := 7) (by decide) rfl ⟨by omega, by omega⟩ (fun c26908 => ?_) (fun c26908 => ?_))
  · refine wp_of e85 c85_8 (rw_aload_n (pc' := 9) (v := .ref r0) rfl rfl rfl ?_)
    refine wp_of e85 c85_9 (xc_V (pc' := 12) (r := r0) (as := []) (st := []) (lm_4_36) rfl rfl (Nat.le_of_ble_eq_true rfl) hW g0 sh_12 (by decide) rfl (by decide) (s_86 hW g0) (fun R26909 T26910 H26911 p26912 => ?_))
    obtain ⟨e26913, w26915, f26916, e26914⟩ := p26912
    subst e26913
    subst e26914
    have f26917 := f0.tr f26916 rfl
    show wp _ _ 85 12 [(0, .ref r0), (1, .ref r1), (2, .ref r2)] [] _ H26911 _
    refine wp_of e85 c85_12 (rw_aload_n (pc' := 13) (v := .ref r2) rfl rfl rfl ?_)
    refine wp_of e85 c85_13 (rw_aload_n (pc' := 14) (v := .ref r1) rfl rfl rfl ?_)
    refine wp_of e85 c85_14 (xc_V (pc' := 17) (r := r2) (as := [.ref r1]) (st := []) (lm_4_39) rfl rfl (Nat.le_of_ble_eq_true rfl) w26915 g2 sh_6 (by decide) rfl (by decide) (s_87 w26915 g2 g1) (fun R26918 T26919 H26920 p26921 => ?_))
    obtain ⟨e26922, w26924, f26925, e26923⟩ := p26921
    subst e26922
    subst e26923
    have f26926 := f26917.tr f26925 rfl
    show wp _ _ 85 17 [(0, .ref r0), (1, .ref r1), (2, .ref r2)] [] _ H26920 _
    refine wp_of e85 c85_17 (rw_iconst (pc' := 18) rfl ?_)
    refine wp_of e85 c85_18 (rw_istore_n (pc' := 19) (z := 0) (L' := [(3, vI 0), (0, .ref r0), (1, .ref r1), (2, .ref r2)]) rfl rfl rfl ?_)
    have lp27263 : ∀ (n27264 : Nat) (v27266 : Int) (H27267 : wq_H), WT T H27267 → wfr [(12, 5), (12, 6), (12, 7), (12, 8), (8, 999), (10, 999), (15, 999), (9, 999), (18, 999), (19, 999), (7, 999), (11, 999), (17, 999), (13, 999)] T H26920 H27267 → (0 ≤ v27266 ∧ v27266 ≤ 20000) → (20000 - v27266).toNat = n27264 → wp kt 3 85 19 [(3, vI v27266), (0, .ref r0), (1, .ref r1), (2, .ref r2)] [] T H27267 (q_85 r0 r1 r2 T H) := by
      intro n27264
      induction n27264 using Nat.strongRecOn with
      | _ n27264 ih27265 =>
        intro v27266 H27267 w27268 f27269 b27270 m27271
        have f27272 := f26926.tr f27269 rfl
        refine wp_of e85 c85_19 (rw_iload_n (pc' := 20) (z := v27266) rfl rfl ?_)
        refine wp_of e85 c85_20 (rw_i2l (pc' := 21) rfl ⟨by omega, by omega⟩ ?_)
        refine wp_of e85 c85_21 (rw_aload_n (pc' := 22) (v := .ref r1) rfl rfl rfl ?_)
        refine wp_of e85 c85_22 (xg_L (pc' := 25) lf_4_45 w27268 g1 sh_27 (by decide) (by decide) ty_27_18 rfl rfl (fun b27273 b27274 => ?_))
        refine wp_of e85 c85_25 (rw_lcmp (pc' := 26) rfl ⟨by omega, by omega⟩ ⟨by omega, by omega⟩ ?_)
        have b27275 := wq_cmp_b v27266 (H27267 r1 18)
        refine wp_of e85 c85_26 (rw_if_ge (p1 := 62) (p2 := 29) (by decide) rfl ⟨by omega, by omega⟩ (fun c27276 => ?_) (fun c27276 => ?_))
        · refine wp_of e85 c85_62 (rw_aload_n (pc' := 63) (v := .ref r0) rfl rfl rfl ?_)
          refine wp_of e85 c85_63 (rw_iconst (pc' := 64) rfl ?_)
          refine wp_of e85 c85_64 (xp_Z (pc' := 67) lf_4_32 w27268 g0 sh_12 (by decide) (by decide) ty_12_9 rfl rfl (by omega) (by omega) rfl (fun H27277 e27278 w27279 => ?_))
          have f27280 := f27272.put' e27278 g0 rfl
          have k27281 : H27277 r0 9 = 1 := wq_u_s e27278
          exact wp_return e85 c85_67 rfl ⟨rfl, w27279, f27280, rfl⟩
        · refine wp_of e85 c85_29 (rw_iload_n (pc' := 30) (z := v27266) rfl rfl ?_)
          refine wp_of e85 c85_30 (rw_sipush (pc' := 33) (z := 20000) rfl (by decide) ?_)
          refine wp_of e85 c85_33 (rw_icmp_ge (p1 := 62) (p2 := 36) (by decide) rfl ⟨by omega, by omega⟩ ⟨by omega, by omega⟩ (fun c27282 => ?_) (fun c27282 => ?_))
          · refine wp_of e85 c85_62 (rw_aload_n (pc' := 63) (v := .ref r0) rfl rfl rfl ?_)
            refine wp_of e85 c85_63 (rw_iconst (pc' := 64) rfl ?_)
            refine wp_of e85 c85_64 (xp_Z (pc' := 67) lf_4_32 w27268 g0 sh_12 (by decide) (by decide) ty_12_9 rfl rfl (by omega) (by omega) rfl (fun H27283 e27284 w27285 => ?_))
            have f27286 := f27272.put' e27284 g0 rfl
            have k27287 : H27283 r0 9 = 1 := wq_u_s e27284
            exact wp_return e85 c85_67 rfl ⟨rfl, w27285, f27286, rfl⟩
          · refine wp_of e85 c85_36 (rw_aload_n (pc' := 37) (v := .ref r2) rfl rfl rfl ?_)
            refine wp_of e85 c85_37 (rw_aload_n (pc' := 38) (v := .ref r1) rfl rfl rfl ?_)
            refine wp_of e85 c85_38 (xc_V (pc' := 41) (r := r2) (as := [.ref r1]) (st := []) (lm_4_51) rfl rfl (Nat.le_of_ble_eq_true rfl) w27268 g2 sh_6 (by decide) rfl (by decide) (s_79 w27268 g2 g1) (fun R27288 T27289 H27290 p27291 => ?_))
            obtain ⟨e27292, e27294, z27295, e27293, b27296⟩ := p27291
            subst e27292
            subst e27293
            subst e27294
            show wp _ _ 85 41 [(3, vI v27266), (0, .ref r0), (1, .ref r1), (2, .ref r2)] [vI z27295] _ H27267 _
            refine wp_of e85 c85_41 (rw_if_eq (p1 := 51) (p2 := 44) (by decide) rfl ⟨by omega, by omega⟩ (fun c27297 => ?_) (fun c27297 => ?_))
            · refine wp_of e85 c85_51 (rw_aload_n (pc' := 52) (v := .ref r2) rfl rfl rfl ?_)
              refine wp_of e85 c85_52 (rw_aload_n (pc' := 53) (v := .ref r1) rfl rfl rfl ?_)
              refine wp_of e85 c85_53 (xc_V (pc' := 56) (r := r2) (as := [.ref r1]) (st := []) (lm_4_59) rfl rfl (Nat.le_of_ble_eq_true rfl) w27268 g2 sh_6 (by decide) rfl (by decide) (s_91 w27268 g2 g1) (fun R27298 T27299 H27300 p27301 => ?_))
              obtain ⟨e27302, w27304, f27305, e27303⟩ := p27301
              subst e27302
              subst e27303
              have f27306 := f27272.tr f27305 rfl
              have f27307 := f27269.tr f27305 rfl
              show wp _ _ 85 56 [(3, vI v27266), (0, .ref r0), (1, .ref r1), (2, .ref r2)] [] _ H27300 _
              refine wp_of e85 c85_56 (rw_iinc (pc' := 59) (z := v27266) (L' := [(3, vI (v27266 + 1)), (0, .ref r0), (1, .ref r1), (2, .ref r2)]) rfl rfl rfl rfl ?_)
              refine wp_of e85 c85_59 (rw_goto (p1 := 19) (by decide) ?_)
              exact wp_lc (ks := [3, 0, 1, 2]) (wl_c rfl (wl_c rfl (wl_c rfl (wl_c rfl wl_n)))) rfl (by decide) (ih27265 _ (by omega) (v27266 + 1) H27300 w27304 f27307 ⟨by omega, by omega⟩ rfl)
            · refine wp_of e85 c85_44 (rw_aload_n (pc' := 45) (v := .ref r0) rfl rfl rfl ?_)
              refine wp_of e85 c85_45 (rw_aload_n (pc' := 46) (v := .ref r1) rfl rfl rfl ?_)
              refine wp_of e85 c85_46 (rw_aload_n (pc' := 47) (v := .ref r2) rfl rfl rfl ?_)
              refine wp_of e85 c85_47 (rw_iload_n (pc' := 48) (z := v27266) rfl rfl ?_)
              refine wp_of e85 c85_48 (xc_V (pc' := 51) (r := r0) (as := [.ref r1, .ref r2, vI v27266]) (st := []) (lm_4_55) rfl rfl (Nat.le_of_ble_eq_true rfl) w27268 g0 sh_12 (by decide) rfl (by decide) (s_88 w27268 g0 g1 g2 ⟨by omega, by omega⟩) (fun R27308 T27309 H27310 p27311 => ?_))
              obtain ⟨e27312, w27314, f27315, e27313⟩ := p27311
              subst e27312
              subst e27313
              have f27316 := f27272.tr f27315 rfl
              have f27317 := f27269.tr f27315 rfl
              show wp _ _ 85 51 [(3, vI v27266), (0, .ref r0), (1, .ref r1), (2, .ref r2)] [] _ H27310 _
              refine wp_of e85 c85_51 (rw_aload_n (pc' := 52) (v := .ref r2) rfl rfl rfl ?_)
              refine wp_of e85 c85_52 (rw_aload_n (pc' := 53) (v := .ref r1) rfl rfl rfl ?_)
              refine wp_of e85 c85_53 (xc_V (pc' := 56) (r := r2) (as := [.ref r1]) (st := []) (lm_4_59) rfl rfl (Nat.le_of_ble_eq_true rfl) w27314 g2 sh_6 (by decide) rfl (by decide) (s_91 w27314 g2 g1) (fun R27318 T27319 H27320 p27321 => ?_))
              obtain ⟨e27322, w27324, f27325, e27323⟩ := p27321
              subst e27322
              subst e27323
              have f27326 := f27316.tr f27325 rfl
              have f27327 := f27317.tr f27325 rfl
              show wp _ _ 85 56 [(3, vI v27266), (0, .ref r0), (1, .ref r1), (2, .ref r2)] [] _ H27320 _
              refine wp_of e85 c85_56 (rw_iinc (pc' := 59) (z := v27266) (L' := [(3, vI (v27266 + 1)), (0, .ref r0), (1, .ref r1), (2, .ref r2)]) rfl rfl rfl rfl ?_)
              refine wp_of e85 c85_59 (rw_goto (p1 := 19) (by decide) ?_)
              exact wp_lc (ks := [3, 0, 1, 2]) (wl_c rfl (wl_c rfl (wl_c rfl (wl_c rfl wl_n)))) rfl (by decide) (ih27265 _ (by omega) (v27266 + 1) H27320 w27324 f27327 ⟨by omega, by omega⟩ rfl)
    exact wp_lc (ks := [3, 0, 1, 2]) (wl_c rfl (wl_c rfl (wl_c rfl (wl_c rfl wl_n)))) rfl (by decide) (lp27263 _ 0 H26920 w26924 wfr.rf ⟨by omega, by omega⟩ rfl)
  · exact wp_return e85 c85_7 rfl ⟨rfl, hW, f0, rfl⟩
/-! StrikeAwake.barOfWorlds(Z)I -/
theorem e83 : wq_en 83 = some (0, 3, false, some FieldType.int) := rfl
theorem c83_0 : mc_cd 83 0 = some (.aload_n 0, 1) := by decide +kernel
theorem c83_1 : mc_cd 83 1 = some (.iload_n 1, 1) := by decide +kernel
theorem c83_2 : mc_cd 83 2 = some (.invokevirtual 245, 3) := by decide +kernel
theorem c83_5 : mc_cd 83 5 = some (.istore_n 2, 1) := by decide +kernel
theorem c83_6 : mc_cd 83 6 = some (.iload_n 2, 1) := by decide +kernel
theorem c83_7 : mc_cd 83 7 = some (.ifCond .ne 18, 3) := by decide +kernel
theorem c83_10 : mc_cd 83 10 = some (.aload_n 0, 1) := by decide +kernel
theorem c83_11 : mc_cd 83 11 = some (.getfield 30, 3) := by decide +kernel
theorem c83_14 : mc_cd 83 14 = some (.aload_n 0, 1) := by decide +kernel
theorem c83_15 : mc_cd 83 15 = some (.getfield 51, 3) := by decide +kernel
theorem c83_18 : mc_cd 83 18 = some (.aload_n 0, 1) := by decide +kernel
theorem c83_19 : mc_cd 83 19 = some (.getfield 23, 3) := by decide +kernel
theorem c83_22 : mc_cd 83 22 = some (.invokevirtual 254, 3) := by decide +kernel
theorem c83_25 : mc_cd 83 25 = some (.iload_n 2, 1) := by decide +kernel
theorem c83_26 : mc_cd 83 26 = some (.ireturn, 1) := by decide +kernel
abbrev q_83 (r0 : Nat) (a1 : Int) (T : wq_T) (H : wq_H) : Option Value → wq_T → wq_H → Prop := fun r T' H' => T = T' ∧ WT T H' ∧ wfr [(12, 5), (12, 6), (12, 7), (12, 8), (12, 9), (6, 5), (8, 999), (10, 999), (15, 999), (9, 999), (18, 999), (19, 999), (7, 999), (11, 999), (17, 999), (13, 999)] T H H' ∧ ∃ z : Int, some (vI z) = r ∧ (0 ≤ z ∧ z ≤ 6) ∧ (z ≠ 0 ∨ a1 = 1) ∧ (z ≠ 4)
set_option maxHeartbeats 4000000 in
theorem s_83 {kt : Nat → Option mc_E} {T : wq_T} {H : wq_H} {r0 : Nat} {a1 : Int} (hW : WT T H) (g0 : T.2.2.2 r0 = some 1) (i1 : 0 ≤ a1 ∧ a1 ≤ 1) : wpc kt 5 83 [.ref r0, vI a1] T H (q_83 r0 a1 T H) := by
  refine wp_enter e83 (Nat.le_of_ble_eq_true rfl) rfl ?_
  have f0 : wfr [(12, 5), (12, 6), (12, 7), (12, 8), (12, 9), (6, 5), (8, 999), (10, 999), (15, 999), (9, 999), (18, 999), (19, 999), (7, 999), (11, 999), (17, 999), (13, 999)] T H H := wfr.rf
  show wp _ _ 83 0 [(0, .ref r0), (1, vI a1)] [] _ H _
  refine wp_of e83 c83_0 (rw_aload_n (pc' := 1) (v := .ref r0) rfl rfl rfl ?_)
  refine wp_of e83 c83_1 (rw_iload_n (pc' := 2) (z := a1) rfl rfl ?_)
  refine wp_of e83 c83_2 (xc_V (pc' := 5) (r := r0) (as := [vI a1]) (st := []) (lm_0_245) rfl rfl (Nat.le_of_ble_eq_true rfl) hW g0 sh_1 (by decide) rfl (by decide) (s_84 hW g0 ⟨by omega, by omega⟩) (fun R27358 T27359 H27360 p27361 => ?_))
  obtain ⟨e27362, e27364, z27367, e27363, b27368, p27365, p27366⟩ := p27361
  subst e27362
  subst e27363
  subst e27364
  show wp _ _ 83 5 [(0, .ref r0), (1, vI a1)] [vI z27367] _ H _
  refine wp_of e83 c83_5 (rw_istore_n (pc' := 6) (z := z27367) (L' := [(2, vI z27367), (0, .ref r0), (1, vI a1)]) rfl rfl rfl ?_)
  refine wp_of e83 c83_6 (rw_iload_n (pc' := 7) (z := z27367) rfl rfl ?_)
  refine wp_of e83 c83_7 (rw_if_ne (p1 := 25) (p2 := 10) (by decide) rfl ⟨by omega, by omega⟩ (fun c27369 => ?_) (fun c27369 => ?_))
  · refine wp_of e83 c83_25 (rw_iload_n (pc' := 26) (z := z27367) rfl rfl ?_)
    exact wp_ireturn e83 c83_26 rfl ⟨rfl, hW, f0, z27367, rfl, ⟨by omega, by omega⟩, by omega, by omega⟩
  · refine wp_of e83 c83_10 (rw_aload_n (pc' := 11) (v := .ref r0) rfl rfl rfl ?_)
    refine wp_of e83 c83_11 (xg_R (pc' := 14) lf_0_30 hW g0 sh_1 (by decide) (by decide) ty_1_3 rfl rfl (fun r27370 q27371 g27372 => ?_))
    refine wp_of e83 c83_14 (rw_aload_n (pc' := 15) (v := .ref r0) rfl rfl rfl ?_)
    refine wp_of e83 c83_15 (xg_R (pc' := 18) lf_0_51 hW g0 sh_1 (by decide) (by decide) ty_1_6 rfl rfl (fun r27373 q27374 g27375 => ?_))
    refine wp_of e83 c83_18 (rw_aload_n (pc' := 19) (v := .ref r0) rfl rfl rfl ?_)
    refine wp_of e83 c83_19 (xg_R (pc' := 22) lf_0_23 hW g0 sh_1 (by decide) (by decide) ty_1_2 rfl rfl (fun r27376 q27377 g27378 => ?_))
    refine wp_of e83 c83_22 (xc_V (pc' := 25) (r := r27370) (as := [.ref r27373, .ref r27376]) (st := []) (lm_0_254) rfl rfl (Nat.le_of_ble_eq_true rfl) hW g27372 sh_12 (by decide) rfl (by decide) (s_85 hW g27372 g27375 g27378) (fun R27379 T27380 H27381 p27382 => ?_))
    obtain ⟨e27383, w27385, f27386, e27384⟩ := p27382
    subst e27383
    subst e27384
    have f27387 := f0.tr f27386 rfl
    show wp _ _ 83 25 [(2, vI z27367), (0, .ref r0), (1, vI a1)] [] _ H27381 _
    refine wp_of e83 c83_25 (rw_iload_n (pc' := 26) (z := z27367) rfl rfl ?_)
    exact wp_ireturn e83 c83_26 rfl ⟨rfl, w27385, f27387, z27367, rfl, ⟨by omega, by omega⟩, by omega, by omega⟩
/-! StrikeAwake.worlds()I -/
theorem e82 : wq_en 82 = some (0, 2, false, some FieldType.int) := rfl
theorem c82_0 : mc_cd 82 0 = some (.aload_n 0, 1) := by decide +kernel
theorem c82_1 : mc_cd 82 1 = some (.aload_n 0, 1) := by decide +kernel
theorem c82_2 : mc_cd 82 2 = some (.getfield 58, 3) := by decide +kernel
theorem c82_5 : mc_cd 82 5 = some (.invokevirtual 174, 3) := by decide +kernel
theorem c82_8 : mc_cd 82 8 = some (.istore_n 1, 1) := by decide +kernel
theorem c82_9 : mc_cd 82 9 = some (.iload_n 1, 1) := by decide +kernel
theorem c82_10 : mc_cd 82 10 = some (.ifCond .eq 9, 3) := by decide +kernel
theorem c82_13 : mc_cd 82 13 = some (.aload_n 0, 1) := by decide +kernel
theorem c82_14 : mc_cd 82 14 = some (.iload_n 1, 1) := by decide +kernel
theorem c82_15 : mc_cd 82 15 = some (.invokevirtual 70, 3) := by decide +kernel
theorem c82_18 : mc_cd 82 18 = some (.ireturn, 1) := by decide +kernel
theorem c82_19 : mc_cd 82 19 = some (.aload_n 0, 1) := by decide +kernel
theorem c82_20 : mc_cd 82 20 = some (.aload_n 0, 1) := by decide +kernel
theorem c82_21 : mc_cd 82 21 = some (.getfield 30, 3) := by decide +kernel
theorem c82_24 : mc_cd 82 24 = some (.getfield 177, 3) := by decide +kernel
theorem c82_27 : mc_cd 82 27 = some (.invokevirtual 99, 3) := by decide +kernel
theorem c82_30 : mc_cd 82 30 = some (.ireturn, 1) := by decide +kernel
abbrev q_82 (r0 : Nat) (T : wq_T) (H : wq_H) : Option Value → wq_T → wq_H → Prop := fun r T' H' => T = T' ∧ WT T H' ∧ wfr [(12, 5), (12, 6), (12, 7), (12, 8), (12, 9), (1, 10), (6, 5), (8, 999), (10, 999), (15, 999), (9, 999), (18, 999), (19, 999), (7, 999), (11, 999), (17, 999), (13, 999)] T H H' ∧ ∃ z : Int, some (vI z) = r ∧ ((-2147483648) ≤ z ∧ z ≤ 2147483647) ∧ (H' r0 10 ≠ 4)
set_option maxHeartbeats 4000000 in
theorem s_82 {kt : Nat → Option mc_E} {T : wq_T} {H : wq_H} {r0 : Nat} (hW : WT T H) (g0 : T.2.2.2 r0 = some 1) : wpc kt 6 82 [.ref r0] T H (q_82 r0 T H) := by
  refine wp_enter e82 (Nat.le_of_ble_eq_true rfl) rfl ?_
  have f0 : wfr [(12, 5), (12, 6), (12, 7), (12, 8), (12, 9), (1, 10), (6, 5), (8, 999), (10, 999), (15, 999), (9, 999), (18, 999), (19, 999), (7, 999), (11, 999), (17, 999), (13, 999)] T H H := wfr.rf
  show wp _ _ 82 0 [(0, .ref r0)] [] _ H _
  refine wp_of e82 c82_0 (rw_aload_n (pc' := 1) (v := .ref r0) rfl rfl rfl ?_)
  refine wp_of e82 c82_1 (rw_aload_n (pc' := 2) (v := .ref r0) rfl rfl rfl ?_)
  refine wp_of e82 c82_2 (xg_I (pc' := 5) lf_0_58 hW g0 sh_1 (by decide) (by decide) ty_1_8 rfl rfl (fun b27433 b27434 => ?_))
  refine wp_of e82 c82_5 (xc_V (pc' := 8) (r := r0) (as := [vI (H r0 8)]) (st := []) (lm_0_174) rfl rfl (Nat.le_of_ble_eq_true rfl) hW g0 sh_1 (by decide) rfl (by decide) (s_83 hW g0 ⟨by omega, by omega⟩) (fun R27435 T27436 H27437 p27438 => ?_))
  obtain ⟨e27439, w27441, f27442, z27445, e27440, b27446, p27443, p27444⟩ := p27438
  subst e27439
  subst e27440
  have f27447 := f0.tr f27442 rfl
  show wp _ _ 82 8 [(0, .ref r0)] [vI z27445] _ H27437 _
  refine wp_of e82 c82_8 (rw_istore_n (pc' := 9) (z := z27445) (L' := [(1, vI z27445), (0, .ref r0)]) rfl rfl rfl ?_)
  refine wp_of e82 c82_9 (rw_iload_n (pc' := 10) (z := z27445) rfl rfl ?_)
  refine wp_of e82 c82_10 (rw_if_eq (p1 := 19) (p2 := 13) (by decide) rfl ⟨by omega, by omega⟩ (fun c27448 => ?_) (fun c27448 => ?_))
  · refine wp_of e82 c82_19 (rw_aload_n (pc' := 20) (v := .ref r0) rfl rfl rfl ?_)
    refine wp_of e82 c82_20 (rw_aload_n (pc' := 21) (v := .ref r0) rfl rfl rfl ?_)
    refine wp_of e82 c82_21 (xg_R (pc' := 24) lf_0_30 w27441 g0 sh_1 (by decide) (by decide) ty_1_3 rfl rfl (fun r27449 q27450 g27451 => ?_))
    refine wp_of e82 c82_24 (xg_I (pc' := 27) lf_0_177 w27441 g27451 sh_12 (by decide) (by decide) ty_12_5 rfl rfl (fun b27452 b27453 => ?_))
    refine wp_of e82 c82_27 (xc_V (pc' := 30) (r := r0) (as := [vI (H27437 r27449 5)]) (st := []) (lm_0_99) rfl rfl (Nat.le_of_ble_eq_true rfl) w27441 g0 sh_1 (by decide) rfl (by decide) (s_51 w27441 g0 ⟨by omega, by omega⟩) (fun R27454 T27455 H27456 p27457 => ?_))
    obtain ⟨e27458, w27460, f27461, z27463, e27459, b27464, p27462⟩ := p27457
    subst e27458
    subst e27459
    have f27465 := f27447.tr f27461 rfl
    show wp _ _ 82 30 [(1, vI z27445), (0, .ref r0)] [vI z27463] _ H27456 _
    exact wp_ireturn e82 c82_30 rfl ⟨rfl, w27460, f27465, z27463, rfl, ⟨by omega, by omega⟩, by omega⟩
  · refine wp_of e82 c82_13 (rw_aload_n (pc' := 14) (v := .ref r0) rfl rfl rfl ?_)
    refine wp_of e82 c82_14 (rw_iload_n (pc' := 15) (z := z27445) rfl rfl ?_)
    refine wp_of e82 c82_15 (xc_V (pc' := 18) (r := r0) (as := [vI z27445]) (st := []) (lm_0_70) rfl rfl (Nat.le_of_ble_eq_true rfl) w27441 g0 sh_1 (by decide) rfl (by decide) (s_12 w27441 g0 ⟨by omega, by omega⟩) (fun R27466 T27467 H27468 p27469 => ?_))
    obtain ⟨e27470, w27472, f27473, z27475, e27471, b27476, p27474⟩ := p27469
    subst e27470
    subst e27471
    have f27477 := f27447.tr f27473 rfl
    show wp _ _ 82 18 [(1, vI z27445), (0, .ref r0)] [vI z27475] _ H27468 _
    exact wp_ireturn e82 c82_18 rfl ⟨rfl, w27472, f27477, z27475, rfl, ⟨by omega, by omega⟩, by omega⟩
/-! StrikeAwake.can()I -/
theorem e92 : wq_en 92 = some (0, 2, false, some FieldType.int) := rfl
theorem c92_0 : mc_cd 92 0 = some (.aload_n 0, 1) := by decide +kernel
theorem c92_1 : mc_cd 92 1 = some (.aload_n 0, 1) := by decide +kernel
theorem c92_2 : mc_cd 92 2 = some (.getfield 58, 3) := by decide +kernel
theorem c92_5 : mc_cd 92 5 = some (.invokevirtual 174, 3) := by decide +kernel
theorem c92_8 : mc_cd 92 8 = some (.istore_n 1, 1) := by decide +kernel
theorem c92_9 : mc_cd 92 9 = some (.iload_n 1, 1) := by decide +kernel
theorem c92_10 : mc_cd 92 10 = some (.ifCond .eq 9, 3) := by decide +kernel
theorem c92_13 : mc_cd 92 13 = some (.aload_n 0, 1) := by decide +kernel
theorem c92_14 : mc_cd 92 14 = some (.iload_n 1, 1) := by decide +kernel
theorem c92_15 : mc_cd 92 15 = some (.invokevirtual 70, 3) := by decide +kernel
theorem c92_18 : mc_cd 92 18 = some (.ireturn, 1) := by decide +kernel
theorem c92_19 : mc_cd 92 19 = some (.aload_n 0, 1) := by decide +kernel
theorem c92_20 : mc_cd 92 20 = some (.aload_n 0, 1) := by decide +kernel
theorem c92_21 : mc_cd 92 21 = some (.getfield 30, 3) := by decide +kernel
theorem c92_24 : mc_cd 92 24 = some (.getfield 177, 3) := by decide +kernel
theorem c92_27 : mc_cd 92 27 = some (.ifCond .le 7, 3) := by decide +kernel
theorem c92_30 : mc_cd 92 30 = some (.iconst 1, 1) := by decide +kernel
theorem c92_31 : mc_cd 92 31 = some (.goto 4, 3) := by decide +kernel
theorem c92_34 : mc_cd 92 34 = some (.iconst 0, 1) := by decide +kernel
theorem c92_35 : mc_cd 92 35 = some (.invokevirtual 99, 3) := by decide +kernel
theorem c92_38 : mc_cd 92 38 = some (.ireturn, 1) := by decide +kernel
abbrev q_92 (r0 : Nat) (T : wq_T) (H : wq_H) : Option Value → wq_T → wq_H → Prop := fun r T' H' => T = T' ∧ WT T H' ∧ wfr [(12, 5), (12, 6), (12, 7), (12, 8), (12, 9), (1, 10), (6, 5), (8, 999), (10, 999), (15, 999), (9, 999), (18, 999), (19, 999), (7, 999), (11, 999), (17, 999), (13, 999)] T H H' ∧ ∃ z : Int, some (vI z) = r ∧ ((-2147483648) ≤ z ∧ z ≤ 2147483647) ∧ (H' r0 10 ≠ 4)
set_option maxHeartbeats 4000000 in
theorem s_92 {kt : Nat → Option mc_E} {T : wq_T} {H : wq_H} {r0 : Nat} (hW : WT T H) (g0 : T.2.2.2 r0 = some 1) : wpc kt 6 92 [.ref r0] T H (q_92 r0 T H) := by
  refine wp_enter e92 (Nat.le_of_ble_eq_true rfl) rfl ?_
  have f0 : wfr [(12, 5), (12, 6), (12, 7), (12, 8), (12, 9), (1, 10), (6, 5), (8, 999), (10, 999), (15, 999), (9, 999), (18, 999), (19, 999), (7, 999), (11, 999), (17, 999), (13, 999)] T H H := wfr.rf
  show wp _ _ 92 0 [(0, .ref r0)] [] _ H _
  refine wp_of e92 c92_0 (rw_aload_n (pc' := 1) (v := .ref r0) rfl rfl rfl ?_)
  refine wp_of e92 c92_1 (rw_aload_n (pc' := 2) (v := .ref r0) rfl rfl rfl ?_)
  refine wp_of e92 c92_2 (xg_I (pc' := 5) lf_0_58 hW g0 sh_1 (by decide) (by decide) ty_1_8 rfl rfl (fun b27536 b27537 => ?_))
  refine wp_of e92 c92_5 (xc_V (pc' := 8) (r := r0) (as := [vI (H r0 8)]) (st := []) (lm_0_174) rfl rfl (Nat.le_of_ble_eq_true rfl) hW g0 sh_1 (by decide) rfl (by decide) (s_83 hW g0 ⟨by omega, by omega⟩) (fun R27538 T27539 H27540 p27541 => ?_))
  obtain ⟨e27542, w27544, f27545, z27548, e27543, b27549, p27546, p27547⟩ := p27541
  subst e27542
  subst e27543
  have f27550 := f0.tr f27545 rfl
  show wp _ _ 92 8 [(0, .ref r0)] [vI z27548] _ H27540 _
  refine wp_of e92 c92_8 (rw_istore_n (pc' := 9) (z := z27548) (L' := [(1, vI z27548), (0, .ref r0)]) rfl rfl rfl ?_)
  refine wp_of e92 c92_9 (rw_iload_n (pc' := 10) (z := z27548) rfl rfl ?_)
  refine wp_of e92 c92_10 (rw_if_eq (p1 := 19) (p2 := 13) (by decide) rfl ⟨by omega, by omega⟩ (fun c27551 => ?_) (fun c27551 => ?_))
  · refine wp_of e92 c92_19 (rw_aload_n (pc' := 20) (v := .ref r0) rfl rfl rfl ?_)
    refine wp_of e92 c92_20 (rw_aload_n (pc' := 21) (v := .ref r0) rfl rfl rfl ?_)
    refine wp_of e92 c92_21 (xg_R (pc' := 24) lf_0_30 w27544 g0 sh_1 (by decide) (by decide) ty_1_3 rfl rfl (fun r27552 q27553 g27554 => ?_))
    refine wp_of e92 c92_24 (xg_I (pc' := 27) lf_0_177 w27544 g27554 sh_12 (by decide) (by decide) ty_12_5 rfl rfl (fun b27555 b27556 => ?_))
    refine wp_of e92 c92_27 (rw_if_le (p1 := 34) (p2 := 30) (by decide) rfl ⟨by omega, by omega⟩ (fun c27557 => ?_) (fun c27557 => ?_))
    · refine wp_of e92 c92_34 (rw_iconst (pc' := 35) rfl ?_)
      refine wp_of e92 c92_35 (xc_V (pc' := 38) (r := r0) (as := [vI 0]) (st := []) (lm_0_99) rfl rfl (Nat.le_of_ble_eq_true rfl) w27544 g0 sh_1 (by decide) rfl (by decide) (s_51 w27544 g0 ⟨by omega, by omega⟩) (fun R27558 T27559 H27560 p27561 => ?_))
      obtain ⟨e27562, w27564, f27565, z27567, e27563, b27568, p27566⟩ := p27561
      subst e27562
      subst e27563
      have f27569 := f27550.tr f27565 rfl
      show wp _ _ 92 38 [(1, vI z27548), (0, .ref r0)] [vI z27567] _ H27560 _
      exact wp_ireturn e92 c92_38 rfl ⟨rfl, w27564, f27569, z27567, rfl, ⟨by omega, by omega⟩, by omega⟩
    · refine wp_of e92 c92_30 (rw_iconst (pc' := 31) rfl ?_)
      refine wp_of e92 c92_31 (rw_goto (p1 := 35) (by decide) ?_)
      refine wp_of e92 c92_35 (xc_V (pc' := 38) (r := r0) (as := [vI 1]) (st := []) (lm_0_99) rfl rfl (Nat.le_of_ble_eq_true rfl) w27544 g0 sh_1 (by decide) rfl (by decide) (s_51 w27544 g0 ⟨by omega, by omega⟩) (fun R27570 T27571 H27572 p27573 => ?_))
      obtain ⟨e27574, w27576, f27577, z27579, e27575, b27580, p27578⟩ := p27573
      subst e27574
      subst e27575
      have f27581 := f27550.tr f27577 rfl
      show wp _ _ 92 38 [(1, vI z27548), (0, .ref r0)] [vI z27579] _ H27572 _
      exact wp_ireturn e92 c92_38 rfl ⟨rfl, w27576, f27581, z27579, rfl, ⟨by omega, by omega⟩, by omega⟩
  · refine wp_of e92 c92_13 (rw_aload_n (pc' := 14) (v := .ref r0) rfl rfl rfl ?_)
    refine wp_of e92 c92_14 (rw_iload_n (pc' := 15) (z := z27548) rfl rfl ?_)
    refine wp_of e92 c92_15 (xc_V (pc' := 18) (r := r0) (as := [vI z27548]) (st := []) (lm_0_70) rfl rfl (Nat.le_of_ble_eq_true rfl) w27544 g0 sh_1 (by decide) rfl (by decide) (s_12 w27544 g0 ⟨by omega, by omega⟩) (fun R27582 T27583 H27584 p27585 => ?_))
    obtain ⟨e27586, w27588, f27589, z27591, e27587, b27592, p27590⟩ := p27585
    subst e27586
    subst e27587
    have f27593 := f27550.tr f27589 rfl
    show wp _ _ 92 18 [(1, vI z27548), (0, .ref r0)] [vI z27591] _ H27584 _
    exact wp_ireturn e92 c92_18 rfl ⟨rfl, w27588, f27593, z27591, rfl, ⟨by omega, by omega⟩, by omega⟩
/-! StrikeAwake$Census.isWorld(I)Z -/
theorem e95 : wq_en 95 = some (4, 2, false, some FieldType.boolean) := rfl
theorem c95_0 : mc_cd 95 0 = some (.aload_n 0, 1) := by decide +kernel
theorem c95_1 : mc_cd 95 1 = some (.getfield 11, 3) := by decide +kernel
theorem c95_4 : mc_cd 95 4 = some (.iload_n 1, 1) := by decide +kernel
theorem c95_5 : mc_cd 95 5 = some (.bipush 64, 2) := by decide +kernel
theorem c95_7 : mc_cd 95 7 = some (.idiv, 1) := by decide +kernel
theorem c95_8 : mc_cd 95 8 = some (.laload, 1) := by decide +kernel
theorem c95_9 : mc_cd 95 9 = some (.iload_n 1, 1) := by decide +kernel
theorem c95_10 : mc_cd 95 10 = some (.bipush 64, 2) := by decide +kernel
theorem c95_12 : mc_cd 95 12 = some (.irem, 1) := by decide +kernel
theorem c95_13 : mc_cd 95 13 = some (.lshr, 1) := by decide +kernel
theorem c95_14 : mc_cd 95 14 = some (.lconst 1, 1) := by decide +kernel
theorem c95_15 : mc_cd 95 15 = some (.land, 1) := by decide +kernel
theorem c95_16 : mc_cd 95 16 = some (.lconst 0, 1) := by decide +kernel
theorem c95_17 : mc_cd 95 17 = some (.lcmp, 1) := by decide +kernel
theorem c95_18 : mc_cd 95 18 = some (.ifCond .eq 7, 3) := by decide +kernel
theorem c95_21 : mc_cd 95 21 = some (.iconst 1, 1) := by decide +kernel
theorem c95_22 : mc_cd 95 22 = some (.goto 4, 3) := by decide +kernel
theorem c95_25 : mc_cd 95 25 = some (.iconst 0, 1) := by decide +kernel
theorem c95_26 : mc_cd 95 26 = some (.ireturn, 1) := by decide +kernel
abbrev q_95 (r0 : Nat) (a1 : Int) (T : wq_T) (H : wq_H) : Option Value → wq_T → wq_H → Prop := fun r T' H' => T = T' ∧ H = H' ∧ ∃ z : Int, some (vI z) = r ∧ (0 ≤ z ∧ z ≤ 1)
set_option maxHeartbeats 4000000 in
theorem s_95 {kt : Nat → Option mc_E} {T : wq_T} {H : wq_H} {r0 : Nat} {a1 : Int} (hW : WT T H) (g0 : T.2.2.2 r0 = some 12) (i1 : 0 ≤ a1 ∧ a1 ≤ 19999) : wpc kt 1 95 [.ref r0, vI a1] T H (q_95 r0 a1 T H) := by
  refine wp_enter e95 (Nat.le_of_ble_eq_true rfl) rfl ?_
  show wp _ _ 95 0 [(0, .ref r0), (1, vI a1)] [] _ H _
  refine wp_of e95 c95_0 (rw_aload_n (pc' := 1) (v := .ref r0) rfl rfl rfl ?_)
  refine wp_of e95 c95_1 (xg_R (pc' := 4) lf_4_11 hW g0 sh_12 (by decide) (by decide) ty_12_0 rfl rfl (fun r27609 q27610 g27611 => ?_))
  refine wp_of e95 c95_4 (rw_iload_n (pc' := 5) (z := a1) rfl rfl ?_)
  refine wp_of e95 c95_5 (rw_bipush (pc' := 7) (z := 64) rfl (by decide) ?_)
  refine wp_of e95 c95_7 (rw_idiv (pc' := 8) rfl ⟨by omega, by omega⟩ (by omega) ?_)
  obtain ⟨v27612, e27613⟩ : ∃ x : Int, x = wq_div a1 64 := ⟨_, rfl⟩
  rw [← e27613]
  have b27614 : v27612 = a1 / 64 := by
    rw [e27613]
    exact wq_div_e ⟨by omega, by omega⟩ ⟨by omega, by omega⟩
  refine wp_of e95 c95_8 (xa_L (pc' := 9) hW g27611 sh_13 (by decide) (ty_13 _) (by omega) (by omega) rfl (fun b27615 b27616 => ?_))
  refine wp_of e95 c95_9 (rw_iload_n (pc' := 10) (z := a1) rfl rfl ?_)
  refine wp_of e95 c95_10 (rw_bipush (pc' := 12) (z := 64) rfl (by decide) ?_)
  refine wp_of e95 c95_12 (rw_irem (pc' := 13) rfl ⟨by omega, by omega⟩ (by omega) ?_)
  obtain ⟨v27617, e27618⟩ : ∃ x : Int, x = wq_rem a1 64 := ⟨_, rfl⟩
  rw [← e27618]
  have b27619 : v27617 = a1 % 64 := by
    rw [e27618]
    exact wq_rem_e ⟨by omega, by omega⟩ ⟨by omega, by omega⟩
  refine wp_of e95 c95_13 (rw_lshr (pc' := 14) rfl ?_)
  obtain ⟨v27620, e27621⟩ : ∃ x : Int, x = wl_shr (H r27609 (v27612.toNat)) v27617 := ⟨_, rfl⟩
  rw [← e27621]
  have b27622 : -9223372036854775808 ≤ v27620 ∧ v27620 ≤ 9223372036854775807 := by
    rw [e27621]
    exact wL_shr _ _
  refine wp_of e95 c95_14 (rw_lconst (pc' := 15) (z := 1) rfl rfl ?_)
  refine wp_of e95 c95_15 (rw_land (pc' := 16) rfl ?_)
  obtain ⟨v27623, e27624⟩ : ∃ x : Int, x = wl_and v27620 1 := ⟨_, rfl⟩
  rw [← e27624]
  have b27625 : -9223372036854775808 ≤ v27623 ∧ v27623 ≤ 9223372036854775807 := by
    rw [e27624]
    exact wL_and _ _
  refine wp_of e95 c95_16 (rw_lconst (pc' := 17) (z := 0) rfl rfl ?_)
  refine wp_of e95 c95_17 (rw_lcmp (pc' := 18) rfl ⟨by omega, by omega⟩ ⟨by omega, by omega⟩ ?_)
  have b27626 := wq_cmp_b v27623 0
  refine wp_of e95 c95_18 (rw_if_eq (p1 := 25) (p2 := 21) (by decide) rfl ⟨by omega, by omega⟩ (fun c27627 => ?_) (fun c27627 => ?_))
  · refine wp_of e95 c95_25 (rw_iconst (pc' := 26) rfl ?_)
    exact wp_zreturn e95 c95_26 rfl (by omega) ⟨rfl, rfl, 0, rfl, ⟨by omega, by omega⟩⟩
  · refine wp_of e95 c95_21 (rw_iconst (pc' := 22) rfl ?_)
    refine wp_of e95 c95_22 (rw_goto (p1 := 26) (by decide) ?_)
    exact wp_zreturn e95 c95_26 rfl (by omega) ⟨rfl, rfl, 1, rfl, ⟨by omega, by omega⟩⟩
/-! StrikeAwake$Census.numberOf(I)I -/
theorem e94 : wq_en 94 = some (4, 4, false, some FieldType.int) := rfl
theorem c94_0 : mc_cd 94 0 = some (.iconst 0, 1) := by decide +kernel
theorem c94_1 : mc_cd 94 1 = some (.istore_n 2, 1) := by decide +kernel
theorem c94_2 : mc_cd 94 2 = some (.iconst 0, 1) := by decide +kernel
theorem c94_3 : mc_cd 94 3 = some (.istore_n 3, 1) := by decide +kernel
theorem c94_4 : mc_cd 94 4 = some (.iload_n 3, 1) := by decide +kernel
theorem c94_5 : mc_cd 94 5 = some (.sipush 20000, 3) := by decide +kernel
theorem c94_8 : mc_cd 94 8 = some (.if_icmp .ge 27, 3) := by decide +kernel
theorem c94_11 : mc_cd 94 11 = some (.aload_n 0, 1) := by decide +kernel
theorem c94_12 : mc_cd 94 12 = some (.iload_n 3, 1) := by decide +kernel
theorem c94_13 : mc_cd 94 13 = some (.invokevirtual 113, 3) := by decide +kernel
theorem c94_16 : mc_cd 94 16 = some (.ifCond .eq 13, 3) := by decide +kernel
theorem c94_19 : mc_cd 94 19 = some (.iload_n 2, 1) := by decide +kernel
theorem c94_20 : mc_cd 94 20 = some (.iload_n 1, 1) := by decide +kernel
theorem c94_21 : mc_cd 94 21 = some (.if_icmp .ne 5, 3) := by decide +kernel
theorem c94_24 : mc_cd 94 24 = some (.iload_n 3, 1) := by decide +kernel
theorem c94_25 : mc_cd 94 25 = some (.ireturn, 1) := by decide +kernel
theorem c94_26 : mc_cd 94 26 = some (.iinc 2 1, 3) := by decide +kernel
theorem c94_29 : mc_cd 94 29 = some (.iinc 3 1, 3) := by decide +kernel
theorem c94_32 : mc_cd 94 32 = some (.goto (-28), 3) := by decide +kernel
theorem c94_35 : mc_cd 94 35 = some (.iconst 0, 1) := by decide +kernel
theorem c94_36 : mc_cd 94 36 = some (.ireturn, 1) := by decide +kernel
abbrev q_94 (r0 : Nat) (a1 : Int) (T : wq_T) (H : wq_H) : Option Value → wq_T → wq_H → Prop := fun r T' H' => T = T' ∧ H = H' ∧ ∃ z : Int, some (vI z) = r ∧ (0 ≤ z ∧ z ≤ 19999)
set_option maxHeartbeats 4000000 in
theorem s_94 {kt : Nat → Option mc_E} {T : wq_T} {H : wq_H} {r0 : Nat} {a1 : Int} (hW : WT T H) (g0 : T.2.2.2 r0 = some 12) (i1 : (-2147483648) ≤ a1 ∧ a1 ≤ 2147483647) : wpc kt 2 94 [.ref r0, vI a1] T H (q_94 r0 a1 T H) := by
  refine wp_enter e94 (Nat.le_of_ble_eq_true rfl) rfl ?_
  show wp _ _ 94 0 [(0, .ref r0), (1, vI a1)] [] _ H _
  refine wp_of e94 c94_0 (rw_iconst (pc' := 1) rfl ?_)
  refine wp_of e94 c94_1 (rw_istore_n (pc' := 2) (z := 0) (L' := [(2, vI 0), (0, .ref r0), (1, vI a1)]) rfl rfl rfl ?_)
  refine wp_of e94 c94_2 (rw_iconst (pc' := 3) rfl ?_)
  refine wp_of e94 c94_3 (rw_istore_n (pc' := 4) (z := 0) (L' := [(3, vI 0), (2, vI 0), (0, .ref r0), (1, vI a1)]) rfl rfl rfl ?_)
  have lp27833 : ∀ (n27834 : Nat) (v27836 : Int) (v27837 : Int), (0 ≤ v27836 ∧ v27836 ≤ 20000) → (0 ≤ v27837 ∧ v27837 ≤ 20000) → (v27837 ≤ v27836) → (20000 - v27836).toNat = n27834 → wp kt 1 94 4 [(3, vI v27836), (2, vI v27837), (0, .ref r0), (1, vI a1)] [] T H (q_94 r0 a1 T H) := by
    intro n27834
    induction n27834 using Nat.strongRecOn with
    | _ n27834 ih27835 =>
      intro v27836 v27837 b27840 b27841 x27842 m27843
      refine wp_of e94 c94_4 (rw_iload_n (pc' := 5) (z := v27836) rfl rfl ?_)
      refine wp_of e94 c94_5 (rw_sipush (pc' := 8) (z := 20000) rfl (by decide) ?_)
      refine wp_of e94 c94_8 (rw_icmp_ge (p1 := 35) (p2 := 11) (by decide) rfl ⟨by omega, by omega⟩ ⟨by omega, by omega⟩ (fun c27844 => ?_) (fun c27844 => ?_))
      · refine wp_of e94 c94_35 (rw_iconst (pc' := 36) rfl ?_)
        exact wp_ireturn e94 c94_36 rfl ⟨rfl, rfl, 0, rfl, ⟨by omega, by omega⟩⟩
      · refine wp_of e94 c94_11 (rw_aload_n (pc' := 12) (v := .ref r0) rfl rfl rfl ?_)
        refine wp_of e94 c94_12 (rw_iload_n (pc' := 13) (z := v27836) rfl rfl ?_)
        refine wp_of e94 c94_13 (xc_V (pc' := 16) (r := r0) (as := [vI v27836]) (st := []) (lm_4_113) rfl rfl (Nat.le_of_ble_eq_true rfl) hW g0 sh_12 (by decide) rfl (by decide) (s_95 hW g0 ⟨by omega, by omega⟩) (fun R27845 T27846 H27847 p27848 => ?_))
        obtain ⟨e27849, e27851, z27852, e27850, b27853⟩ := p27848
        subst e27849
        subst e27850
        subst e27851
        show wp _ _ 94 16 [(3, vI v27836), (2, vI v27837), (0, .ref r0), (1, vI a1)] [vI z27852] _ H _
        refine wp_of e94 c94_16 (rw_if_eq (p1 := 29) (p2 := 19) (by decide) rfl ⟨by omega, by omega⟩ (fun c27854 => ?_) (fun c27854 => ?_))
        · refine wp_of e94 c94_29 (rw_iinc (pc' := 32) (z := v27836) (L' := [(3, vI (v27836 + 1)), (2, vI v27837), (0, .ref r0), (1, vI a1)]) rfl rfl rfl rfl ?_)
          refine wp_of e94 c94_32 (rw_goto (p1 := 4) (by decide) ?_)
          exact wp_lc (ks := [3, 2, 0, 1]) (wl_c rfl (wl_c rfl (wl_c rfl (wl_c rfl wl_n)))) rfl (by decide) (ih27835 _ (by omega) (v27836 + 1) v27837 ⟨by omega, by omega⟩ ⟨by omega, by omega⟩ (by omega) rfl)
        · refine wp_of e94 c94_19 (rw_iload_n (pc' := 20) (z := v27837) rfl rfl ?_)
          refine wp_of e94 c94_20 (rw_iload_n (pc' := 21) (z := a1) rfl rfl ?_)
          refine wp_of e94 c94_21 (rw_icmp_ne (p1 := 26) (p2 := 24) (by decide) rfl ⟨by omega, by omega⟩ ⟨by omega, by omega⟩ (fun c27855 => ?_) (fun c27855 => ?_))
          · refine wp_of e94 c94_26 (rw_iinc (pc' := 29) (z := v27837) (L' := [(2, vI (v27837 + 1)), (3, vI v27836), (0, .ref r0), (1, vI a1)]) rfl rfl rfl rfl ?_)
            refine wp_of e94 c94_29 (rw_iinc (pc' := 32) (z := v27836) (L' := [(3, vI (v27836 + 1)), (2, vI (v27837 + 1)), (0, .ref r0), (1, vI a1)]) rfl rfl rfl rfl ?_)
            refine wp_of e94 c94_32 (rw_goto (p1 := 4) (by decide) ?_)
            exact wp_lc (ks := [3, 2, 0, 1]) (wl_c rfl (wl_c rfl (wl_c rfl (wl_c rfl wl_n)))) rfl (by decide) (ih27835 _ (by omega) (v27836 + 1) (v27837 + 1) ⟨by omega, by omega⟩ ⟨by omega, by omega⟩ (by omega) rfl)
          · refine wp_of e94 c94_24 (rw_iload_n (pc' := 25) (z := v27836) rfl rfl ?_)
            exact wp_ireturn e94 c94_25 rfl ⟨rfl, rfl, v27836, rfl, ⟨by omega, by omega⟩⟩
  exact wp_lc (ks := [3, 2, 0, 1]) (wl_c rfl (wl_c rfl (wl_c rfl (wl_c rfl wl_n)))) rfl (by decide) (lp27833 _ 0 0 ⟨by omega, by omega⟩ ⟨by omega, by omega⟩ (by omega) rfl)
/-! StrikeAwake$Parish.spanIn(II)I -/
theorem e96 : wq_en 96 = some (7, 5, false, some FieldType.int) := rfl
theorem c96_0 : mc_cd 96 0 = some (.aload_n 0, 1) := by decide +kernel
theorem c96_1 : mc_cd 96 1 = some (.getfield 11, 3) := by decide +kernel
theorem c96_4 : mc_cd 96 4 = some (.iload_n 2, 1) := by decide +kernel
theorem c96_5 : mc_cd 96 5 = some (.aaload, 1) := by decide +kernel
theorem c96_6 : mc_cd 96 6 = some (.getfield 107, 3) := by decide +kernel
theorem c96_9 : mc_cd 96 9 = some (.istore_n 3, 1) := by decide +kernel
theorem c96_10 : mc_cd 96 10 = some (.aload_n 0, 1) := by decide +kernel
theorem c96_11 : mc_cd 96 11 = some (.getfield 11, 3) := by decide +kernel
theorem c96_14 : mc_cd 96 14 = some (.iload_n 2, 1) := by decide +kernel
theorem c96_15 : mc_cd 96 15 = some (.aaload, 1) := by decide +kernel
theorem c96_16 : mc_cd 96 16 = some (.getfield 110, 3) := by decide +kernel
theorem c96_19 : mc_cd 96 19 = some (.istore 4, 2) := by decide +kernel
theorem c96_21 : mc_cd 96 21 = some (.iload_n 3, 1) := by decide +kernel
theorem c96_22 : mc_cd 96 22 = some (.ifCond .le 8, 3) := by decide +kernel
theorem c96_25 : mc_cd 96 25 = some (.iload 4, 2) := by decide +kernel
theorem c96_27 : mc_cd 96 27 = some (.ifCond .gt 5, 3) := by decide +kernel
theorem c96_30 : mc_cd 96 30 = some (.iconst (-1), 1) := by decide +kernel
theorem c96_31 : mc_cd 96 31 = some (.ireturn, 1) := by decide +kernel
theorem c96_32 : mc_cd 96 32 = some (.iload_n 1, 1) := by decide +kernel
theorem c96_33 : mc_cd 96 33 = some (.iload_n 3, 1) := by decide +kernel
theorem c96_34 : mc_cd 96 34 = some (.idiv, 1) := by decide +kernel
theorem c96_35 : mc_cd 96 35 = some (.iload 4, 2) := by decide +kernel
theorem c96_37 : mc_cd 96 37 = some (.irem, 1) := by decide +kernel
theorem c96_38 : mc_cd 96 38 = some (.ireturn, 1) := by decide +kernel
abbrev q_96 (r0 : Nat) (a1 : Int) (a2 : Int) (T : wq_T) (H : wq_H) : Option Value → wq_T → wq_H → Prop := fun r T' H' => T = T' ∧ H = H' ∧ ∃ z : Int, some (vI z) = r ∧ ((-1) ≤ z ∧ z ≤ 39)
set_option maxHeartbeats 4000000 in
theorem s_96 {kt : Nat → Option mc_E} {T : wq_T} {H : wq_H} {r0 : Nat} {a1 : Int} {a2 : Int} (hW : WT T H) (g0 : T.2.2.2 r0 = some 27) (i1 : 0 ≤ a1 ∧ a1 ≤ 2147483647) (i2 : 0 ≤ a2 ∧ a2 ≤ 5) : wpc kt 1 96 [.ref r0, vI a1, vI a2] T H (q_96 r0 a1 a2 T H) := by
  refine wp_enter e96 (Nat.le_of_ble_eq_true rfl) rfl ?_
  show wp _ _ 96 0 [(0, .ref r0), (1, vI a1), (2, vI a2)] [] _ H _
  refine wp_of e96 c96_0 (rw_aload_n (pc' := 1) (v := .ref r0) rfl rfl rfl ?_)
  refine wp_of e96 c96_1 (xg_R (pc' := 4) lf_7_11 hW g0 sh_27 (by decide) (by decide) ty_27_0 rfl rfl (fun r27872 q27873 g27874 => ?_))
  refine wp_of e96 c96_4 (rw_iload_n (pc' := 5) (z := a2) rfl rfl ?_)
  refine wp_of e96 c96_5 (xa_R (pc' := 6) (by decide) hW g27874 sh_28 (by decide) (ty_28 _) (by omega) (by omega) rfl (fun r27875 q27876 g27877 => ?_))
  refine wp_of e96 c96_6 (xg_I (pc' := 9) lf_7_107 hW g27877 sh_35 (by decide) (by decide) ty_35_17 rfl rfl (fun b27878 b27879 => ?_))
  refine wp_of e96 c96_9 (rw_istore_n (pc' := 10) (z := H r27875 17) (L' := [(3, vI (H r27875 17)), (0, .ref r0), (1, vI a1), (2, vI a2)]) rfl rfl rfl ?_)
  refine wp_of e96 c96_10 (rw_aload_n (pc' := 11) (v := .ref r0) rfl rfl rfl ?_)
  refine wp_of e96 c96_11 (xg_K (pc' := 14) lf_7_11 hW g0 sh_27 (by decide) (by decide) rfl q27873 rfl ?_)
  refine wp_of e96 c96_14 (rw_iload_n (pc' := 15) (z := a2) rfl rfl ?_)
  refine wp_of e96 c96_15 (xa_K (pc' := 16) (by decide) hW g27874 sh_28 (by decide) (by omega) (by omega) q27876 rfl ?_)
  refine wp_of e96 c96_16 (xg_I (pc' := 19) lf_7_110 hW g27877 sh_35 (by decide) (by decide) ty_35_15 rfl rfl (fun b27880 b27881 => ?_))
  refine wp_of e96 c96_19 (rw_istore (pc' := 21) (z := H r27875 15) (L' := [(4, vI (H r27875 15)), (3, vI (H r27875 17)), (0, .ref r0), (1, vI a1), (2, vI a2)]) rfl rfl rfl ?_)
  refine wp_of e96 c96_21 (rw_iload_n (pc' := 22) (z := H r27875 17) rfl rfl ?_)
  refine wp_of e96 c96_22 (rw_if_le (p1 := 30) (p2 := 25) (by decide) rfl ⟨by omega, by omega⟩ (fun c27882 => ?_) (fun c27882 => ?_))
  · refine wp_of e96 c96_30 (rw_iconst (pc' := 31) rfl ?_)
    exact wp_ireturn e96 c96_31 rfl ⟨rfl, rfl, -1, rfl, ⟨by omega, by omega⟩⟩
  · refine wp_of e96 c96_25 (rw_iload (pc' := 27) (z := H r27875 15) rfl rfl ?_)
    refine wp_of e96 c96_27 (rw_if_gt (p1 := 32) (p2 := 30) (by decide) rfl ⟨by omega, by omega⟩ (fun c27883 => ?_) (fun c27883 => ?_))
    · refine wp_of e96 c96_32 (rw_iload_n (pc' := 33) (z := a1) rfl rfl ?_)
      refine wp_of e96 c96_33 (rw_iload_n (pc' := 34) (z := H r27875 17) rfl rfl ?_)
      refine wp_of e96 c96_34 (rw_idiv (pc' := 35) rfl ⟨by omega, by omega⟩ (by omega) ?_)
      obtain ⟨v27884, e27885⟩ : ∃ x : Int, x = wq_div a1 (H r27875 17) := ⟨_, rfl⟩
      rw [← e27885]
      have b27886 : 0 ≤ v27884 ∧ v27884 ≤ a1 := by
        rw [e27885]
        rw [wq_div_e ⟨by omega, by omega⟩ ⟨by omega, by omega⟩]; exact ⟨Int.ediv_nonneg (by omega) (by omega), Int.ediv_le_self _ (by omega)⟩
      refine wp_of e96 c96_35 (rw_iload (pc' := 37) (z := H r27875 15) rfl rfl ?_)
      refine wp_of e96 c96_37 (rw_irem (pc' := 38) rfl ⟨by omega, by omega⟩ (by omega) ?_)
      obtain ⟨v27887, e27888⟩ : ∃ x : Int, x = wq_rem v27884 (H r27875 15) := ⟨_, rfl⟩
      rw [← e27888]
      have b27889 : 0 ≤ v27887 ∧ v27887 < (H r27875 15) := by
        rw [e27888]
        rw [wq_rem_e ⟨by omega, by omega⟩ ⟨by omega, by omega⟩]; exact ⟨Int.emod_nonneg _ (by omega), Int.emod_lt_of_pos _ (by omega)⟩
      exact wp_ireturn e96 c96_38 rfl ⟨rfl, rfl, v27887, rfl, ⟨by omega, by omega⟩⟩
    · refine wp_of e96 c96_30 (rw_iconst (pc' := 31) rfl ?_)
      exact wp_ireturn e96 c96_31 rfl ⟨rfl, rfl, -1, rfl, ⟨by omega, by omega⟩⟩
/-! StrikeAwake.world(II)I -/
theorem e93 : wq_en 93 = some (0, 4, false, some FieldType.int) := rfl
theorem c93_0 : mc_cd 93 0 = some (.aload_n 0, 1) := by decide +kernel
theorem c93_1 : mc_cd 93 1 = some (.aload_n 0, 1) := by decide +kernel
theorem c93_2 : mc_cd 93 2 = some (.iload_n 2, 1) := by decide +kernel
theorem c93_3 : mc_cd 93 3 = some (.invokevirtual 105, 3) := by decide +kernel
theorem c93_6 : mc_cd 93 6 = some (.ifCond .eq 11, 3) := by decide +kernel
theorem c93_9 : mc_cd 93 9 = some (.iload_n 1, 1) := by decide +kernel
theorem c93_10 : mc_cd 93 10 = some (.ifCond .lt 7, 3) := by decide +kernel
theorem c93_13 : mc_cd 93 13 = some (.iconst 1, 1) := by decide +kernel
theorem c93_14 : mc_cd 93 14 = some (.goto 4, 3) := by decide +kernel
theorem c93_17 : mc_cd 93 17 = some (.iconst 0, 1) := by decide +kernel
theorem c93_18 : mc_cd 93 18 = some (.invokevirtual 174, 3) := by decide +kernel
theorem c93_21 : mc_cd 93 21 = some (.istore_n 3, 1) := by decide +kernel
theorem c93_22 : mc_cd 93 22 = some (.iload_n 3, 1) := by decide +kernel
theorem c93_23 : mc_cd 93 23 = some (.ifCond .eq 9, 3) := by decide +kernel
theorem c93_26 : mc_cd 93 26 = some (.aload_n 0, 1) := by decide +kernel
theorem c93_27 : mc_cd 93 27 = some (.iload_n 3, 1) := by decide +kernel
theorem c93_28 : mc_cd 93 28 = some (.invokevirtual 70, 3) := by decide +kernel
theorem c93_31 : mc_cd 93 31 = some (.ireturn, 1) := by decide +kernel
theorem c93_32 : mc_cd 93 32 = some (.iload_n 1, 1) := by decide +kernel
theorem c93_33 : mc_cd 93 33 = some (.aload_n 0, 1) := by decide +kernel
theorem c93_34 : mc_cd 93 34 = some (.getfield 30, 3) := by decide +kernel
theorem c93_37 : mc_cd 93 37 = some (.getfield 177, 3) := by decide +kernel
theorem c93_40 : mc_cd 93 40 = some (.if_icmp .lt 9, 3) := by decide +kernel
theorem c93_43 : mc_cd 93 43 = some (.aload_n 0, 1) := by decide +kernel
theorem c93_44 : mc_cd 93 44 = some (.iconst 1, 1) := by decide +kernel
theorem c93_45 : mc_cd 93 45 = some (.invokevirtual 70, 3) := by decide +kernel
theorem c93_48 : mc_cd 93 48 = some (.ireturn, 1) := by decide +kernel
theorem c93_49 : mc_cd 93 49 = some (.aload_n 0, 1) := by decide +kernel
theorem c93_50 : mc_cd 93 50 = some (.aload_n 0, 1) := by decide +kernel
theorem c93_51 : mc_cd 93 51 = some (.getfield 51, 3) := by decide +kernel
theorem c93_54 : mc_cd 93 54 = some (.aload_n 0, 1) := by decide +kernel
theorem c93_55 : mc_cd 93 55 = some (.getfield 30, 3) := by decide +kernel
theorem c93_58 : mc_cd 93 58 = some (.iload_n 1, 1) := by decide +kernel
theorem c93_59 : mc_cd 93 59 = some (.invokevirtual 180, 3) := by decide +kernel
theorem c93_62 : mc_cd 93 62 = some (.iload_n 2, 1) := by decide +kernel
theorem c93_63 : mc_cd 93 63 = some (.invokevirtual 183, 3) := by decide +kernel
theorem c93_66 : mc_cd 93 66 = some (.invokevirtual 99, 3) := by decide +kernel
theorem c93_69 : mc_cd 93 69 = some (.ireturn, 1) := by decide +kernel
abbrev q_93 (r0 : Nat) (a1 : Int) (a2 : Int) (T : wq_T) (H : wq_H) : Option Value → wq_T → wq_H → Prop := fun r T' H' => T = T' ∧ WT T H' ∧ wfr [(12, 5), (12, 6), (12, 7), (12, 8), (12, 9), (1, 10), (6, 5), (8, 999), (10, 999), (15, 999), (9, 999), (18, 999), (19, 999), (7, 999), (11, 999), (17, 999), (13, 999)] T H H' ∧ ∃ z : Int, some (vI z) = r ∧ ((-2147483648) ≤ z ∧ z ≤ 2147483647) ∧ (H' r0 10 ≠ 4)
set_option maxHeartbeats 4000000 in
theorem s_93 {kt : Nat → Option mc_E} {T : wq_T} {H : wq_H} {r0 : Nat} {a1 : Int} {a2 : Int} (hW : WT T H) (g0 : T.2.2.2 r0 = some 1) (i1 : (-2147483648) ≤ a1 ∧ a1 ≤ 2147483647) (i2 : (-2147483648) ≤ a2 ∧ a2 ≤ 2147483647) : wpc kt 6 93 [.ref r0, vI a1, vI a2] T H (q_93 r0 a1 a2 T H) := by
  refine wp_enter e93 (Nat.le_of_ble_eq_true rfl) rfl ?_
  have f0 : wfr [(12, 5), (12, 6), (12, 7), (12, 8), (12, 9), (1, 10), (6, 5), (8, 999), (10, 999), (15, 999), (9, 999), (18, 999), (19, 999), (7, 999), (11, 999), (17, 999), (13, 999)] T H H := wfr.rf
  show wp _ _ 93 0 [(0, .ref r0), (1, vI a1), (2, vI a2)] [] _ H _
  refine wp_of e93 c93_0 (rw_aload_n (pc' := 1) (v := .ref r0) rfl rfl rfl ?_)
  refine wp_of e93 c93_1 (rw_aload_n (pc' := 2) (v := .ref r0) rfl rfl rfl ?_)
  refine wp_of e93 c93_2 (rw_iload_n (pc' := 3) (z := a2) rfl rfl ?_)
  refine wp_of e93 c93_3 (xc_V (pc' := 6) (r := r0) (as := [vI a2]) (st := [.ref r0]) (lm_0_105) rfl rfl (Nat.le_of_ble_eq_true rfl) hW g0 sh_1 (by decide) rfl (by decide) (s_55 hW g0 ⟨by omega, by omega⟩) (fun R28031 T28032 H28033 p28034 => ?_))
  obtain ⟨e28035, e28037, z28039, e28036, b28040, p28038⟩ := p28034
  subst e28035
  subst e28036
  subst e28037
  show wp _ _ 93 6 [(0, .ref r0), (1, vI a1), (2, vI a2)] [vI z28039, .ref r0] _ H _
  refine wp_of e93 c93_6 (rw_if_eq (p1 := 17) (p2 := 9) (by decide) rfl ⟨by omega, by omega⟩ (fun c28041 => ?_) (fun c28041 => ?_))
  · refine wp_of e93 c93_17 (rw_iconst (pc' := 18) rfl ?_)
    refine wp_of e93 c93_18 (xc_V (pc' := 21) (r := r0) (as := [vI 0]) (st := []) (lm_0_174) rfl rfl (Nat.le_of_ble_eq_true rfl) hW g0 sh_1 (by decide) rfl (by decide) (s_83 hW g0 ⟨by omega, by omega⟩) (fun R28042 T28043 H28044 p28045 => ?_))
    obtain ⟨e28046, w28048, f28049, z28052, e28047, b28053, p28050, p28051⟩ := p28045
    subst e28046
    subst e28047
    have f28054 := f0.tr f28049 rfl
    show wp _ _ 93 21 [(0, .ref r0), (1, vI a1), (2, vI a2)] [vI z28052] _ H28044 _
    refine wp_of e93 c93_21 (rw_istore_n (pc' := 22) (z := z28052) (L' := [(3, vI z28052), (0, .ref r0), (1, vI a1), (2, vI a2)]) rfl rfl rfl ?_)
    refine wp_of e93 c93_22 (rw_iload_n (pc' := 23) (z := z28052) rfl rfl ?_)
    refine wp_of e93 c93_23 (rw_if_eq (p1 := 32) (p2 := 26) (by decide) rfl ⟨by omega, by omega⟩ (fun c28055 => ?_) (fun c28055 => ?_))
    · exfalso
      omega
    · refine wp_of e93 c93_26 (rw_aload_n (pc' := 27) (v := .ref r0) rfl rfl rfl ?_)
      refine wp_of e93 c93_27 (rw_iload_n (pc' := 28) (z := z28052) rfl rfl ?_)
      refine wp_of e93 c93_28 (xc_V (pc' := 31) (r := r0) (as := [vI z28052]) (st := []) (lm_0_70) rfl rfl (Nat.le_of_ble_eq_true rfl) w28048 g0 sh_1 (by decide) rfl (by decide) (s_12 w28048 g0 ⟨by omega, by omega⟩) (fun R28056 T28057 H28058 p28059 => ?_))
      obtain ⟨e28060, w28062, f28063, z28065, e28061, b28066, p28064⟩ := p28059
      subst e28060
      subst e28061
      have f28067 := f28054.tr f28063 rfl
      show wp _ _ 93 31 [(3, vI z28052), (0, .ref r0), (1, vI a1), (2, vI a2)] [vI z28065] _ H28058 _
      exact wp_ireturn e93 c93_31 rfl ⟨rfl, w28062, f28067, z28065, rfl, ⟨by omega, by omega⟩, by omega⟩
  · refine wp_of e93 c93_9 (rw_iload_n (pc' := 10) (z := a1) rfl rfl ?_)
    refine wp_of e93 c93_10 (rw_if_lt (p1 := 17) (p2 := 13) (by decide) rfl ⟨by omega, by omega⟩ (fun c28068 => ?_) (fun c28068 => ?_))
    · refine wp_of e93 c93_17 (rw_iconst (pc' := 18) rfl ?_)
      refine wp_of e93 c93_18 (xc_V (pc' := 21) (r := r0) (as := [vI 0]) (st := []) (lm_0_174) rfl rfl (Nat.le_of_ble_eq_true rfl) hW g0 sh_1 (by decide) rfl (by decide) (s_83 hW g0 ⟨by omega, by omega⟩) (fun R28069 T28070 H28071 p28072 => ?_))
      obtain ⟨e28073, w28075, f28076, z28079, e28074, b28080, p28077, p28078⟩ := p28072
      subst e28073
      subst e28074
      have f28081 := f0.tr f28076 rfl
      show wp _ _ 93 21 [(0, .ref r0), (1, vI a1), (2, vI a2)] [vI z28079] _ H28071 _
      refine wp_of e93 c93_21 (rw_istore_n (pc' := 22) (z := z28079) (L' := [(3, vI z28079), (0, .ref r0), (1, vI a1), (2, vI a2)]) rfl rfl rfl ?_)
      refine wp_of e93 c93_22 (rw_iload_n (pc' := 23) (z := z28079) rfl rfl ?_)
      refine wp_of e93 c93_23 (rw_if_eq (p1 := 32) (p2 := 26) (by decide) rfl ⟨by omega, by omega⟩ (fun c28082 => ?_) (fun c28082 => ?_))
      · exfalso
        omega
      · refine wp_of e93 c93_26 (rw_aload_n (pc' := 27) (v := .ref r0) rfl rfl rfl ?_)
        refine wp_of e93 c93_27 (rw_iload_n (pc' := 28) (z := z28079) rfl rfl ?_)
        refine wp_of e93 c93_28 (xc_V (pc' := 31) (r := r0) (as := [vI z28079]) (st := []) (lm_0_70) rfl rfl (Nat.le_of_ble_eq_true rfl) w28075 g0 sh_1 (by decide) rfl (by decide) (s_12 w28075 g0 ⟨by omega, by omega⟩) (fun R28083 T28084 H28085 p28086 => ?_))
        obtain ⟨e28087, w28089, f28090, z28092, e28088, b28093, p28091⟩ := p28086
        subst e28087
        subst e28088
        have f28094 := f28081.tr f28090 rfl
        show wp _ _ 93 31 [(3, vI z28079), (0, .ref r0), (1, vI a1), (2, vI a2)] [vI z28092] _ H28085 _
        exact wp_ireturn e93 c93_31 rfl ⟨rfl, w28089, f28094, z28092, rfl, ⟨by omega, by omega⟩, by omega⟩
    · refine wp_of e93 c93_13 (rw_iconst (pc' := 14) rfl ?_)
      refine wp_of e93 c93_14 (rw_goto (p1 := 18) (by decide) ?_)
      refine wp_of e93 c93_18 (xc_V (pc' := 21) (r := r0) (as := [vI 1]) (st := []) (lm_0_174) rfl rfl (Nat.le_of_ble_eq_true rfl) hW g0 sh_1 (by decide) rfl (by decide) (s_83 hW g0 ⟨by omega, by omega⟩) (fun R28095 T28096 H28097 p28098 => ?_))
      obtain ⟨e28099, w28101, f28102, z28105, e28100, b28106, p28103, p28104⟩ := p28098
      subst e28099
      subst e28100
      have f28107 := f0.tr f28102 rfl
      show wp _ _ 93 21 [(0, .ref r0), (1, vI a1), (2, vI a2)] [vI z28105] _ H28097 _
      refine wp_of e93 c93_21 (rw_istore_n (pc' := 22) (z := z28105) (L' := [(3, vI z28105), (0, .ref r0), (1, vI a1), (2, vI a2)]) rfl rfl rfl ?_)
      refine wp_of e93 c93_22 (rw_iload_n (pc' := 23) (z := z28105) rfl rfl ?_)
      refine wp_of e93 c93_23 (rw_if_eq (p1 := 32) (p2 := 26) (by decide) rfl ⟨by omega, by omega⟩ (fun c28108 => ?_) (fun c28108 => ?_))
      · refine wp_of e93 c93_32 (rw_iload_n (pc' := 33) (z := a1) rfl rfl ?_)
        refine wp_of e93 c93_33 (rw_aload_n (pc' := 34) (v := .ref r0) rfl rfl rfl ?_)
        refine wp_of e93 c93_34 (xg_R (pc' := 37) lf_0_30 w28101 g0 sh_1 (by decide) (by decide) ty_1_3 rfl rfl (fun r28109 q28110 g28111 => ?_))
        refine wp_of e93 c93_37 (xg_I (pc' := 40) lf_0_177 w28101 g28111 sh_12 (by decide) (by decide) ty_12_5 rfl rfl (fun b28112 b28113 => ?_))
        refine wp_of e93 c93_40 (rw_icmp_lt (p1 := 49) (p2 := 43) (by decide) rfl ⟨by omega, by omega⟩ ⟨by omega, by omega⟩ (fun c28114 => ?_) (fun c28114 => ?_))
        · refine wp_of e93 c93_49 (rw_aload_n (pc' := 50) (v := .ref r0) rfl rfl rfl ?_)
          refine wp_of e93 c93_50 (rw_aload_n (pc' := 51) (v := .ref r0) rfl rfl rfl ?_)
          refine wp_of e93 c93_51 (xg_R (pc' := 54) lf_0_51 w28101 g0 sh_1 (by decide) (by decide) ty_1_6 rfl rfl (fun r28115 q28116 g28117 => ?_))
          refine wp_of e93 c93_54 (rw_aload_n (pc' := 55) (v := .ref r0) rfl rfl rfl ?_)
          refine wp_of e93 c93_55 (xg_K (pc' := 58) lf_0_30 w28101 g0 sh_1 (by decide) (by decide) rfl q28110 rfl ?_)
          refine wp_of e93 c93_58 (rw_iload_n (pc' := 59) (z := a1) rfl rfl ?_)
          refine wp_of e93 c93_59 (xc_V (pc' := 62) (r := r28109) (as := [vI a1]) (st := [.ref r28115, .ref r0]) (lm_0_180) rfl rfl (Nat.le_of_ble_eq_true rfl) w28101 g28111 sh_12 (by decide) rfl (by decide) (s_94 w28101 g28111 ⟨by omega, by omega⟩) (fun R28118 T28119 H28120 p28121 => ?_))
          obtain ⟨e28122, e28124, z28125, e28123, b28126⟩ := p28121
          subst e28122
          subst e28123
          subst e28124
          show wp _ _ 93 62 [(3, vI z28105), (0, .ref r0), (1, vI a1), (2, vI a2)] [vI z28125, .ref r28115, .ref r0] _ H28097 _
          refine wp_of e93 c93_62 (rw_iload_n (pc' := 63) (z := a2) rfl rfl ?_)
          refine wp_of e93 c93_63 (xc_V (pc' := 66) (r := r28115) (as := [vI z28125, vI a2]) (st := [.ref r0]) (lm_0_183) rfl rfl (Nat.le_of_ble_eq_true rfl) w28101 g28117 sh_27 (by decide) rfl (by decide) (s_96 w28101 g28117 ⟨by omega, by omega⟩ ⟨by omega, by omega⟩) (fun R28127 T28128 H28129 p28130 => ?_))
          obtain ⟨e28131, e28133, z28134, e28132, b28135⟩ := p28130
          subst e28131
          subst e28132
          subst e28133
          show wp _ _ 93 66 [(3, vI z28105), (0, .ref r0), (1, vI a1), (2, vI a2)] [vI z28134, .ref r0] _ H28097 _
          refine wp_of e93 c93_66 (xc_V (pc' := 69) (r := r0) (as := [vI z28134]) (st := []) (lm_0_99) rfl rfl (Nat.le_of_ble_eq_true rfl) w28101 g0 sh_1 (by decide) rfl (by decide) (s_51 w28101 g0 ⟨by omega, by omega⟩) (fun R28136 T28137 H28138 p28139 => ?_))
          obtain ⟨e28140, w28142, f28143, z28145, e28141, b28146, p28144⟩ := p28139
          subst e28140
          subst e28141
          have f28147 := f28107.tr f28143 rfl
          show wp _ _ 93 69 [(3, vI z28105), (0, .ref r0), (1, vI a1), (2, vI a2)] [vI z28145] _ H28138 _
          exact wp_ireturn e93 c93_69 rfl ⟨rfl, w28142, f28147, z28145, rfl, ⟨by omega, by omega⟩, by omega⟩
        · refine wp_of e93 c93_43 (rw_aload_n (pc' := 44) (v := .ref r0) rfl rfl rfl ?_)
          refine wp_of e93 c93_44 (rw_iconst (pc' := 45) rfl ?_)
          refine wp_of e93 c93_45 (xc_V (pc' := 48) (r := r0) (as := [vI 1]) (st := []) (lm_0_70) rfl rfl (Nat.le_of_ble_eq_true rfl) w28101 g0 sh_1 (by decide) rfl (by decide) (s_12 w28101 g0 ⟨by omega, by omega⟩) (fun R28148 T28149 H28150 p28151 => ?_))
          obtain ⟨e28152, w28154, f28155, z28157, e28153, b28158, p28156⟩ := p28151
          subst e28152
          subst e28153
          have f28159 := f28107.tr f28155 rfl
          show wp _ _ 93 48 [(3, vI z28105), (0, .ref r0), (1, vI a1), (2, vI a2)] [vI z28157] _ H28150 _
          exact wp_ireturn e93 c93_48 rfl ⟨rfl, w28154, f28159, z28157, rfl, ⟨by omega, by omega⟩, by omega⟩
      · refine wp_of e93 c93_26 (rw_aload_n (pc' := 27) (v := .ref r0) rfl rfl rfl ?_)
        refine wp_of e93 c93_27 (rw_iload_n (pc' := 28) (z := z28105) rfl rfl ?_)
        refine wp_of e93 c93_28 (xc_V (pc' := 31) (r := r0) (as := [vI z28105]) (st := []) (lm_0_70) rfl rfl (Nat.le_of_ble_eq_true rfl) w28101 g0 sh_1 (by decide) rfl (by decide) (s_12 w28101 g0 ⟨by omega, by omega⟩) (fun R28160 T28161 H28162 p28163 => ?_))
        obtain ⟨e28164, w28166, f28167, z28169, e28165, b28170, p28168⟩ := p28163
        subst e28164
        subst e28165
        have f28171 := f28107.tr f28167 rfl
        show wp _ _ 93 31 [(3, vI z28105), (0, .ref r0), (1, vI a1), (2, vI a2)] [vI z28169] _ H28162 _
        exact wp_ireturn e93 c93_31 rfl ⟨rfl, w28166, f28171, z28169, rfl, ⟨by omega, by omega⟩, by omega⟩
/-! StrikeAwake.weights()J -/
theorem e97 : wq_en 97 = some (0, 2, false, some FieldType.long) := rfl
theorem c97_0 : mc_cd 97 0 = some (.aload_n 0, 1) := by decide +kernel
theorem c97_1 : mc_cd 97 1 = some (.aload_n 0, 1) := by decide +kernel
theorem c97_2 : mc_cd 97 2 = some (.getfield 58, 3) := by decide +kernel
theorem c97_5 : mc_cd 97 5 = some (.invokevirtual 174, 3) := by decide +kernel
theorem c97_8 : mc_cd 97 8 = some (.istore_n 1, 1) := by decide +kernel
theorem c97_9 : mc_cd 97 9 = some (.iload_n 1, 1) := by decide +kernel
theorem c97_10 : mc_cd 97 10 = some (.ifCond .eq 10, 3) := by decide +kernel
theorem c97_13 : mc_cd 97 13 = some (.aload_n 0, 1) := by decide +kernel
theorem c97_14 : mc_cd 97 14 = some (.iload_n 1, 1) := by decide +kernel
theorem c97_15 : mc_cd 97 15 = some (.invokevirtual 70, 3) := by decide +kernel
theorem c97_18 : mc_cd 97 18 = some (.i2l, 1) := by decide +kernel
theorem c97_19 : mc_cd 97 19 = some (.lreturn, 1) := by decide +kernel
theorem c97_20 : mc_cd 97 20 = some (.aload_n 0, 1) := by decide +kernel
theorem c97_21 : mc_cd 97 21 = some (.iconst 0, 1) := by decide +kernel
theorem c97_22 : mc_cd 97 22 = some (.putfield 102, 3) := by decide +kernel
theorem c97_25 : mc_cd 97 25 = some (.aload_n 0, 1) := by decide +kernel
theorem c97_26 : mc_cd 97 26 = some (.getfield 30, 3) := by decide +kernel
theorem c97_29 : mc_cd 97 29 = some (.getfield 187, 3) := by decide +kernel
theorem c97_32 : mc_cd 97 32 = some (.lreturn, 1) := by decide +kernel
abbrev q_97 (r0 : Nat) (T : wq_T) (H : wq_H) : Option Value → wq_T → wq_H → Prop := fun r T' H' => T = T' ∧ WT T H' ∧ wfr [(12, 5), (12, 6), (12, 7), (12, 8), (12, 9), (1, 10), (6, 5), (8, 999), (10, 999), (15, 999), (9, 999), (18, 999), (19, 999), (7, 999), (11, 999), (17, 999), (13, 999)] T H H' ∧ ∃ z : Int, some (vL z) = r ∧ ((-9223372036854775808) ≤ z ∧ z ≤ 9223372036854775807) ∧ (H' r0 10 ≠ 4)
set_option maxHeartbeats 4000000 in
theorem s_97 {kt : Nat → Option mc_E} {T : wq_T} {H : wq_H} {r0 : Nat} (hW : WT T H) (g0 : T.2.2.2 r0 = some 1) : wpc kt 6 97 [.ref r0] T H (q_97 r0 T H) := by
  refine wp_enter e97 (Nat.le_of_ble_eq_true rfl) rfl ?_
  have f0 : wfr [(12, 5), (12, 6), (12, 7), (12, 8), (12, 9), (1, 10), (6, 5), (8, 999), (10, 999), (15, 999), (9, 999), (18, 999), (19, 999), (7, 999), (11, 999), (17, 999), (13, 999)] T H H := wfr.rf
  show wp _ _ 97 0 [(0, .ref r0)] [] _ H _
  refine wp_of e97 c97_0 (rw_aload_n (pc' := 1) (v := .ref r0) rfl rfl rfl ?_)
  refine wp_of e97 c97_1 (rw_aload_n (pc' := 2) (v := .ref r0) rfl rfl rfl ?_)
  refine wp_of e97 c97_2 (xg_I (pc' := 5) lf_0_58 hW g0 sh_1 (by decide) (by decide) ty_1_8 rfl rfl (fun b28210 b28211 => ?_))
  refine wp_of e97 c97_5 (xc_V (pc' := 8) (r := r0) (as := [vI (H r0 8)]) (st := []) (lm_0_174) rfl rfl (Nat.le_of_ble_eq_true rfl) hW g0 sh_1 (by decide) rfl (by decide) (s_83 hW g0 ⟨by omega, by omega⟩) (fun R28212 T28213 H28214 p28215 => ?_))
  obtain ⟨e28216, w28218, f28219, z28222, e28217, b28223, p28220, p28221⟩ := p28215
  subst e28216
  subst e28217
  have f28224 := f0.tr f28219 rfl
  show wp _ _ 97 8 [(0, .ref r0)] [vI z28222] _ H28214 _
  refine wp_of e97 c97_8 (rw_istore_n (pc' := 9) (z := z28222) (L' := [(1, vI z28222), (0, .ref r0)]) rfl rfl rfl ?_)
  refine wp_of e97 c97_9 (rw_iload_n (pc' := 10) (z := z28222) rfl rfl ?_)
  refine wp_of e97 c97_10 (rw_if_eq (p1 := 20) (p2 := 13) (by decide) rfl ⟨by omega, by omega⟩ (fun c28225 => ?_) (fun c28225 => ?_))
  · refine wp_of e97 c97_20 (rw_aload_n (pc' := 21) (v := .ref r0) rfl rfl rfl ?_)
    refine wp_of e97 c97_21 (rw_iconst (pc' := 22) rfl ?_)
    refine wp_of e97 c97_22 (xp_I (pc' := 25) lf_0_102 w28218 g0 sh_1 (by decide) (by decide) ty_1_10 rfl rfl (by omega) (by omega) ⟨by omega, by omega⟩ rfl (fun H28226 e28227 w28228 => ?_))
    have f28229 := f28224.put' e28227 g0 rfl
    have k28230 : H28226 r0 10 = 0 := wq_u_s e28227
    refine wp_of e97 c97_25 (rw_aload_n (pc' := 26) (v := .ref r0) rfl rfl rfl ?_)
    refine wp_of e97 c97_26 (xg_R (pc' := 29) lf_0_30 w28228 g0 sh_1 (by decide) (by decide) ty_1_3 rfl rfl (fun r28231 q28232 g28233 => ?_))
    refine wp_of e97 c97_29 (xg_L (pc' := 32) lf_0_187 w28228 g28233 sh_12 (by decide) (by decide) ty_12_6 rfl rfl (fun b28234 b28235 => ?_))
    exact wp_lreturn e97 c97_32 rfl ⟨rfl, w28228, f28229, H28226 r28231 6, rfl, ⟨by omega, by omega⟩, by omega⟩
  · refine wp_of e97 c97_13 (rw_aload_n (pc' := 14) (v := .ref r0) rfl rfl rfl ?_)
    refine wp_of e97 c97_14 (rw_iload_n (pc' := 15) (z := z28222) rfl rfl ?_)
    refine wp_of e97 c97_15 (xc_V (pc' := 18) (r := r0) (as := [vI z28222]) (st := []) (lm_0_70) rfl rfl (Nat.le_of_ble_eq_true rfl) w28218 g0 sh_1 (by decide) rfl (by decide) (s_12 w28218 g0 ⟨by omega, by omega⟩) (fun R28236 T28237 H28238 p28239 => ?_))
    obtain ⟨e28240, w28242, f28243, z28245, e28241, b28246, p28244⟩ := p28239
    subst e28240
    subst e28241
    have f28247 := f28224.tr f28243 rfl
    show wp _ _ 97 18 [(1, vI z28222), (0, .ref r0)] [vI z28245] _ H28238 _
    refine wp_of e97 c97_18 (rw_i2l (pc' := 19) rfl ⟨by omega, by omega⟩ ?_)
    exact wp_lreturn e97 c97_19 rfl ⟨rfl, w28242, f28247, z28245, rfl, ⟨by omega, by omega⟩, by omega⟩
