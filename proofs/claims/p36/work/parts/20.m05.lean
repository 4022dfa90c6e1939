/-! methods (own work, written by wip/gen2/sx.py) -/
/-! StrikeAwake$Walk.isWorld(LStrikeAwake$Parish;)Z -/
theorem e79 : wq_en 79 = some (3, 2, false, some FieldType.boolean) := rfl
theorem cg79_0 : mc_cd 79 0 = some (.aload_n 0, 1) ∧ mc_cd 79 1 = some (.invokevirtual 118, 3) ∧ mc_cd 79 4 = some (.ifCond .ne 17, 3) ∧ mc_cd 79 7 = some (.aload_n 0, 1) ∧ mc_cd 79 8 = some (.aload_n 1, 1) ∧ mc_cd 79 9 = some (.invokevirtual 122, 3) ∧ mc_cd 79 12 = some (.bipush 24, 2) ∧ mc_cd 79 14 = some (.if_icmp .ne 7, 3) := by decide +kernel
theorem c79_0 : mc_cd 79 0 = some (.aload_n 0, 1) := cg79_0.1
theorem c79_1 : mc_cd 79 1 = some (.invokevirtual 118, 3) := cg79_0.2.1
theorem c79_4 : mc_cd 79 4 = some (.ifCond .ne 17, 3) := cg79_0.2.2.1
theorem c79_7 : mc_cd 79 7 = some (.aload_n 0, 1) := cg79_0.2.2.2.1
theorem c79_8 : mc_cd 79 8 = some (.aload_n 1, 1) := cg79_0.2.2.2.2.1
theorem c79_9 : mc_cd 79 9 = some (.invokevirtual 122, 3) := cg79_0.2.2.2.2.2.1
theorem c79_12 : mc_cd 79 12 = some (.bipush 24, 2) := cg79_0.2.2.2.2.2.2.1
theorem c79_14 : mc_cd 79 14 = some (.if_icmp .ne 7, 3) := cg79_0.2.2.2.2.2.2.2
theorem cg79_17 : mc_cd 79 17 = some (.iconst 1, 1) ∧ mc_cd 79 18 = some (.goto 4, 3) ∧ mc_cd 79 21 = some (.iconst 0, 1) ∧ mc_cd 79 22 = some (.ireturn, 1) := by decide +kernel
theorem c79_17 : mc_cd 79 17 = some (.iconst 1, 1) := cg79_17.1
theorem c79_18 : mc_cd 79 18 = some (.goto 4, 3) := cg79_17.2.1
theorem c79_21 : mc_cd 79 21 = some (.iconst 0, 1) := cg79_17.2.2.1
theorem c79_22 : mc_cd 79 22 = some (.ireturn, 1) := cg79_17.2.2.2
abbrev q_79 (r0 : Nat) (r1 : Nat) (T : wq_T) (H : wq_H) : Option Value → wq_T → wq_H → Prop := fun r T' H' => T = T' ∧ H = H' ∧ ∃ z : Int, some (vI z) = r ∧ (0 ≤ z ∧ z ≤ 1)
set_option maxHeartbeats 4000000 in
theorem s_79 {kt : Nat → Option mc_E} {T : wq_T} {H : wq_H} {r0 : Nat} {r1 : Nat} (hW : WT T H) (g0 : T.2.2.2 r0 = some 6) (g1 : T.2.2.2 r1 = some 27) : wpc kt 3 79 [.ref r0, .ref r1] T H (q_79 r0 r1 T H) := by
  refine wp_enter e79 (Nat.le_of_ble_eq_true rfl) rfl ?_
  show wp _ _ 79 0 [(0, .ref r0), (1, .ref r1)] [] _ H _
  refine wp_of e79 c79_0 (rw_aload_n (pc' := 1) (v := .ref r0) rfl rfl rfl ?_)
  refine wp_of e79 c79_1 (xc_V (pc' := 4) (r := r0) (as := []) (st := []) (lm_3_118) rfl rfl (Nat.le_of_ble_eq_true rfl) hW g0 sh_6 (by decide) rfl (by decide) (s_80 hW g0) (fun R20614 T20615 H20616 p20617 => ?_))
  obtain ⟨e20618, e20620, z20621, e20619, b20622⟩ := p20617
  subst e20618
  subst e20619
  subst e20620
  show wp _ _ 79 4 [(0, .ref r0), (1, .ref r1)] [vI z20621] _ H _
  refine wp_of e79 c79_4 (rw_if_ne (p1 := 21) (p2 := 7) (by decide) rfl ⟨by omega, by omega⟩ (fun c20623 => ?_) (fun c20623 => ?_))
  · refine wp_of e79 c79_21 (rw_iconst (pc' := 22) rfl ?_)
    exact wp_zreturn e79 c79_22 rfl (by omega) ⟨rfl, rfl, 0, rfl, ⟨by omega, by omega⟩⟩
  · refine wp_of e79 c79_7 (rw_aload_n (pc' := 8) (v := .ref r0) rfl rfl rfl ?_)
    refine wp_of e79 c79_8 (rw_aload_n (pc' := 9) (v := .ref r1) rfl rfl rfl ?_)
    refine wp_of e79 c79_9 (xc_V (pc' := 12) (r := r0) (as := [.ref r1]) (st := []) (lm_3_122) rfl rfl (Nat.le_of_ble_eq_true rfl) hW g0 sh_6 (by decide) rfl (by decide) (s_81 hW g0 g1) (fun R20624 T20625 H20626 p20627 => ?_))
    obtain ⟨e20628, e20630, z20631, e20629, b20632⟩ := p20627
    subst e20628
    subst e20629
    subst e20630
    show wp _ _ 79 12 [(0, .ref r0), (1, .ref r1)] [vI z20631] _ H _
    refine wp_of e79 c79_12 (rw_bipush (pc' := 14) (z := 24) rfl (by decide) ?_)
    refine wp_of e79 c79_14 (rw_icmp_ne (p1 := 21) (p2 := 17) (by decide) rfl ⟨by omega, by omega⟩ ⟨by omega, by omega⟩ (fun c20633 => ?_) (fun c20633 => ?_))
    · refine wp_of e79 c79_21 (rw_iconst (pc' := 22) rfl ?_)
      exact wp_zreturn e79 c79_22 rfl (by omega) ⟨rfl, rfl, 0, rfl, ⟨by omega, by omega⟩⟩
    · refine wp_of e79 c79_17 (rw_iconst (pc' := 18) rfl ?_)
      refine wp_of e79 c79_18 (rw_goto (p1 := 22) (by decide) ?_)
      exact wp_zreturn e79 c79_22 rfl (by omega) ⟨rfl, rfl, 1, rfl, ⟨by omega, by omega⟩⟩
/-! StrikeAwake.agrees()I -/
theorem e78 : wq_en 78 = some (0, 2, false, some FieldType.int) := rfl
theorem cg78_0 : mc_cd 78 0 = some (.aload_n 0, 1) ∧ mc_cd 78 1 = some (.aload_n 0, 1) ∧ mc_cd 78 2 = some (.getfield 58, 3) ∧ mc_cd 78 5 = some (.invokevirtual 155, 3) ∧ mc_cd 78 8 = some (.istore_n 1, 1) ∧ mc_cd 78 9 = some (.iload_n 1, 1) ∧ mc_cd 78 10 = some (.ifCond .eq 9, 3) ∧ mc_cd 78 13 = some (.aload_n 0, 1) := by decide +kernel
theorem c78_0 : mc_cd 78 0 = some (.aload_n 0, 1) := cg78_0.1
theorem c78_1 : mc_cd 78 1 = some (.aload_n 0, 1) := cg78_0.2.1
theorem c78_2 : mc_cd 78 2 = some (.getfield 58, 3) := cg78_0.2.2.1
theorem c78_5 : mc_cd 78 5 = some (.invokevirtual 155, 3) := cg78_0.2.2.2.1
theorem c78_8 : mc_cd 78 8 = some (.istore_n 1, 1) := cg78_0.2.2.2.2.1
theorem c78_9 : mc_cd 78 9 = some (.iload_n 1, 1) := cg78_0.2.2.2.2.2.1
theorem c78_10 : mc_cd 78 10 = some (.ifCond .eq 9, 3) := cg78_0.2.2.2.2.2.2.1
theorem c78_13 : mc_cd 78 13 = some (.aload_n 0, 1) := cg78_0.2.2.2.2.2.2.2
theorem cg78_14 : mc_cd 78 14 = some (.iload_n 1, 1) ∧ mc_cd 78 15 = some (.invokevirtual 70, 3) ∧ mc_cd 78 18 = some (.ireturn, 1) ∧ mc_cd 78 19 = some (.aload_n 0, 1) ∧ mc_cd 78 20 = some (.aload_n 0, 1) ∧ mc_cd 78 21 = some (.getfield 23, 3) ∧ mc_cd 78 24 = some (.aload_n 0, 1) ∧ mc_cd 78 25 = some (.getfield 51, 3) := by decide +kernel
theorem c78_14 : mc_cd 78 14 = some (.iload_n 1, 1) := cg78_14.1
theorem c78_15 : mc_cd 78 15 = some (.invokevirtual 70, 3) := cg78_14.2.1
theorem c78_18 : mc_cd 78 18 = some (.ireturn, 1) := cg78_14.2.2.1
theorem c78_19 : mc_cd 78 19 = some (.aload_n 0, 1) := cg78_14.2.2.2.1
theorem c78_20 : mc_cd 78 20 = some (.aload_n 0, 1) := cg78_14.2.2.2.2.1
theorem c78_21 : mc_cd 78 21 = some (.getfield 23, 3) := cg78_14.2.2.2.2.2.1
theorem c78_24 : mc_cd 78 24 = some (.aload_n 0, 1) := cg78_14.2.2.2.2.2.2.1
theorem c78_25 : mc_cd 78 25 = some (.getfield 51, 3) := cg78_14.2.2.2.2.2.2.2
theorem cg78_28 : mc_cd 78 28 = some (.invokevirtual 170, 3) ∧ mc_cd 78 31 = some (.ifCond .eq 7, 3) ∧ mc_cd 78 34 = some (.iconst 1, 1) ∧ mc_cd 78 35 = some (.goto 4, 3) ∧ mc_cd 78 38 = some (.iconst 0, 1) ∧ mc_cd 78 39 = some (.invokevirtual 99, 3) ∧ mc_cd 78 42 = some (.ireturn, 1) := by decide +kernel
theorem c78_28 : mc_cd 78 28 = some (.invokevirtual 170, 3) := cg78_28.1
theorem c78_31 : mc_cd 78 31 = some (.ifCond .eq 7, 3) := cg78_28.2.1
theorem c78_34 : mc_cd 78 34 = some (.iconst 1, 1) := cg78_28.2.2.1
theorem c78_35 : mc_cd 78 35 = some (.goto 4, 3) := cg78_28.2.2.2.1
theorem c78_38 : mc_cd 78 38 = some (.iconst 0, 1) := cg78_28.2.2.2.2.1
theorem c78_39 : mc_cd 78 39 = some (.invokevirtual 99, 3) := cg78_28.2.2.2.2.2.1
theorem c78_42 : mc_cd 78 42 = some (.ireturn, 1) := cg78_28.2.2.2.2.2.2
abbrev q_78 (r0 : Nat) (T : wq_T) (H : wq_H) : Option Value → wq_T → wq_H → Prop := fun r T' H' => T = T' ∧ WT T H' ∧ wfr [(1, 10), (6, 5), (8, 999), (10, 999), (9, 999), (7, 999), (11, 999)] T H H' ∧ ∃ z : Int, some (vI z) = r ∧ ((-2147483648) ≤ z ∧ z ≤ 2147483647)
set_option maxHeartbeats 4000000 in
theorem s_78 {kt : Nat → Option mc_E} {T : wq_T} {H : wq_H} {r0 : Nat} (hW : WT T H) (g0 : T.2.2.2 r0 = some 1) : wpc kt 5 78 [.ref r0] T H (q_78 r0 T H) := by
  refine wp_enter e78 (Nat.le_of_ble_eq_true rfl) rfl ?_
  have f0 : wfr [(1, 10), (6, 5), (8, 999), (10, 999), (9, 999), (7, 999), (11, 999)] T H H := wfr.rf
  show wp _ _ 78 0 [(0, .ref r0)] [] _ H _
  refine wp_of e78 c78_0 (rw_aload_n (pc' := 1) (v := .ref r0) rfl rfl rfl ?_)
  refine wp_of e78 c78_1 (rw_aload_n (pc' := 2) (v := .ref r0) rfl rfl rfl ?_)
  refine wp_of e78 c78_2 (xg_I (pc' := 5) lf_0_58 hW g0 sh_1 (by decide) (by decide) ty_1_8 rfl rfl (fun b20698 b20699 => ?_))
  refine wp_of e78 c78_5 (xc_V (pc' := 8) (r := r0) (as := [vI (H r0 8)]) (st := []) (lm_0_155) rfl rfl (Nat.le_of_ble_eq_true rfl) hW g0 sh_1 (by decide) rfl (by decide) (s_67 hW g0 ⟨by omega, by omega⟩) (fun R20700 T20701 H20702 p20703 => ?_))
  obtain ⟨e20704, w20706, f20707, z20709, e20705, b20710, p20708⟩ := p20703
  subst e20704
  subst e20705
  have f20711 := f0.tr f20707 rfl
  show wp _ _ 78 8 [(0, .ref r0)] [vI z20709] _ H20702 _
  refine wp_of e78 c78_8 (rw_istore_n (pc' := 9) (z := z20709) (L' := [(1, vI z20709), (0, .ref r0)]) rfl rfl rfl ?_)
  refine wp_of e78 c78_9 (rw_iload_n (pc' := 10) (z := z20709) rfl rfl ?_)
  refine wp_of e78 c78_10 (rw_if_eq (p1 := 19) (p2 := 13) (by decide) rfl ⟨by omega, by omega⟩ (fun c20712 => ?_) (fun c20712 => ?_))
  · refine wp_of e78 c78_19 (rw_aload_n (pc' := 20) (v := .ref r0) rfl rfl rfl ?_)
    refine wp_of e78 c78_20 (rw_aload_n (pc' := 21) (v := .ref r0) rfl rfl rfl ?_)
    refine wp_of e78 c78_21 (xg_R (pc' := 24) lf_0_23 w20706 g0 sh_1 (by decide) (by decide) ty_1_2 rfl rfl (fun r20713 q20714 g20715 => ?_))
    refine wp_of e78 c78_24 (rw_aload_n (pc' := 25) (v := .ref r0) rfl rfl rfl ?_)
    refine wp_of e78 c78_25 (xg_R (pc' := 28) lf_0_51 w20706 g0 sh_1 (by decide) (by decide) ty_1_6 rfl rfl (fun r20716 q20717 g20718 => ?_))
    refine wp_of e78 c78_28 (xc_V (pc' := 31) (r := r20713) (as := [.ref r20716]) (st := [.ref r0]) (lm_0_170) rfl rfl (Nat.le_of_ble_eq_true rfl) w20706 g20715 sh_6 (by decide) rfl (by decide) (s_79 w20706 g20715 g20718) (fun R20719 T20720 H20721 p20722 => ?_))
    obtain ⟨e20723, e20725, z20726, e20724, b20727⟩ := p20722
    subst e20723
    subst e20724
    subst e20725
    show wp _ _ 78 31 [(1, vI z20709), (0, .ref r0)] [vI z20726, .ref r0] _ H20702 _
    refine wp_of e78 c78_31 (rw_if_eq (p1 := 38) (p2 := 34) (by decide) rfl ⟨by omega, by omega⟩ (fun c20728 => ?_) (fun c20728 => ?_))
    · refine wp_of e78 c78_38 (rw_iconst (pc' := 39) rfl ?_)
      refine wp_of e78 c78_39 (xc_V (pc' := 42) (r := r0) (as := [vI 0]) (st := []) (lm_0_99) rfl rfl (Nat.le_of_ble_eq_true rfl) w20706 g0 sh_1 (by decide) rfl (by decide) (s_51 w20706 g0 ⟨by omega, by omega⟩) (fun R20729 T20730 H20731 p20732 => ?_))
      obtain ⟨e20733, w20735, f20736, z20737, e20734, b20738⟩ := p20732
      subst e20733
      subst e20734
      have f20739 := f20711.tr f20736 rfl
      show wp _ _ 78 42 [(1, vI z20709), (0, .ref r0)] [vI z20737] _ H20731 _
      exact wp_ireturn e78 c78_42 rfl ⟨rfl, w20735, f20739, z20737, rfl, ⟨by omega, by omega⟩⟩
    · refine wp_of e78 c78_34 (rw_iconst (pc' := 35) rfl ?_)
      refine wp_of e78 c78_35 (rw_goto (p1 := 39) (by decide) ?_)
      refine wp_of e78 c78_39 (xc_V (pc' := 42) (r := r0) (as := [vI 1]) (st := []) (lm_0_99) rfl rfl (Nat.le_of_ble_eq_true rfl) w20706 g0 sh_1 (by decide) rfl (by decide) (s_51 w20706 g0 ⟨by omega, by omega⟩) (fun R20740 T20741 H20742 p20743 => ?_))
      obtain ⟨e20744, w20746, f20747, z20748, e20745, b20749⟩ := p20743
      subst e20744
      subst e20745
      have f20750 := f20711.tr f20747 rfl
      show wp _ _ 78 42 [(1, vI z20709), (0, .ref r0)] [vI z20748] _ H20742 _
      exact wp_ireturn e78 c78_42 rfl ⟨rfl, w20746, f20750, z20748, rfl, ⟨by omega, by omega⟩⟩
  · refine wp_of e78 c78_13 (rw_aload_n (pc' := 14) (v := .ref r0) rfl rfl rfl ?_)
    refine wp_of e78 c78_14 (rw_iload_n (pc' := 15) (z := z20709) rfl rfl ?_)
    refine wp_of e78 c78_15 (xc_V (pc' := 18) (r := r0) (as := [vI z20709]) (st := []) (lm_0_70) rfl rfl (Nat.le_of_ble_eq_true rfl) w20706 g0 sh_1 (by decide) rfl (by decide) (s_12 w20706 g0 ⟨by omega, by omega⟩) (fun R20751 T20752 H20753 p20754 => ?_))
    obtain ⟨e20755, w20757, f20758, z20759, e20756, b20760⟩ := p20754
    subst e20755
    subst e20756
    have f20761 := f20711.tr f20758 rfl
    show wp _ _ 78 18 [(1, vI z20709), (0, .ref r0)] [vI z20759] _ H20753 _
    exact wp_ireturn e78 c78_18 rfl ⟨rfl, w20757, f20761, z20759, rfl, ⟨by omega, by omega⟩⟩
/-! StrikeAwake.barOfLots(Z)I -/
theorem e84 : wq_en 84 = some (0, 2, false, some FieldType.int) := rfl
theorem cg84_0 : mc_cd 84 0 = some (.iload_n 1, 1) ∧ mc_cd 84 1 = some (.ifCond .ne 5, 3) ∧ mc_cd 84 4 = some (.iconst 1, 1) ∧ mc_cd 84 5 = some (.ireturn, 1) ∧ mc_cd 84 6 = some (.aload_n 0, 1) ∧ mc_cd 84 7 = some (.getfield 51, 3) ∧ mc_cd 84 10 = some (.getfield 141, 3) ∧ mc_cd 84 13 = some (.ldc2_w 348, 3) := by decide +kernel
theorem c84_0 : mc_cd 84 0 = some (.iload_n 1, 1) := cg84_0.1
theorem c84_1 : mc_cd 84 1 = some (.ifCond .ne 5, 3) := cg84_0.2.1
theorem c84_4 : mc_cd 84 4 = some (.iconst 1, 1) := cg84_0.2.2.1
theorem c84_5 : mc_cd 84 5 = some (.ireturn, 1) := cg84_0.2.2.2.1
theorem c84_6 : mc_cd 84 6 = some (.aload_n 0, 1) := cg84_0.2.2.2.2.1
theorem c84_7 : mc_cd 84 7 = some (.getfield 51, 3) := cg84_0.2.2.2.2.2.1
theorem c84_10 : mc_cd 84 10 = some (.getfield 141, 3) := cg84_0.2.2.2.2.2.2.1
theorem c84_13 : mc_cd 84 13 = some (.ldc2_w 348, 3) := cg84_0.2.2.2.2.2.2.2
theorem cg84_16 : mc_cd 84 16 = some (.lcmp, 1) ∧ mc_cd 84 17 = some (.ifCond .le 7, 3) ∧ mc_cd 84 20 = some (.iconst 3, 1) ∧ mc_cd 84 21 = some (.goto 4, 3) ∧ mc_cd 84 24 = some (.iconst 0, 1) ∧ mc_cd 84 25 = some (.ireturn, 1) := by decide +kernel
theorem c84_16 : mc_cd 84 16 = some (.lcmp, 1) := cg84_16.1
theorem c84_17 : mc_cd 84 17 = some (.ifCond .le 7, 3) := cg84_16.2.1
theorem c84_20 : mc_cd 84 20 = some (.iconst 3, 1) := cg84_16.2.2.1
theorem c84_21 : mc_cd 84 21 = some (.goto 4, 3) := cg84_16.2.2.2.1
theorem c84_24 : mc_cd 84 24 = some (.iconst 0, 1) := cg84_16.2.2.2.2.1
theorem c84_25 : mc_cd 84 25 = some (.ireturn, 1) := cg84_16.2.2.2.2.2
abbrev q_84 (r0 : Nat) (a1 : Int) (T : wq_T) (H : wq_H) : Option Value → wq_T → wq_H → Prop := fun r T' H' => T = T' ∧ H = H' ∧ ∃ z : Int, some (vI z) = r ∧ (0 ≤ z ∧ z ≤ 6) ∧ (z ≠ 0 ∨ a1 = 1)
set_option maxHeartbeats 4000000 in
theorem s_84 {kt : Nat → Option mc_E} {T : wq_T} {H : wq_H} {r0 : Nat} {a1 : Int} (hW : WT T H) (g0 : T.2.2.2 r0 = some 1) (i1 : 0 ≤ a1 ∧ a1 ≤ 1) : wpc kt 1 84 [.ref r0, vI a1] T H (q_84 r0 a1 T H) := by
  refine wp_enter e84 (Nat.le_of_ble_eq_true rfl) rfl ?_
  show wp _ _ 84 0 [(0, .ref r0), (1, vI a1)] [] _ H _
  refine wp_of e84 c84_0 (rw_iload_n (pc' := 1) (z := a1) rfl rfl ?_)
  refine wp_of e84 c84_1 (rw_if_ne (p1 := 6) (p2 := 4) (by decide) rfl ⟨by omega, by omega⟩ (fun c20770 => ?_) (fun c20770 => ?_))
  · refine wp_of e84 c84_6 (rw_aload_n (pc' := 7) (v := .ref r0) rfl rfl rfl ?_)
    refine wp_of e84 c84_7 (xg_R (pc' := 10) lf_0_51 hW g0 sh_1 (by decide) (by decide) ty_1_6 rfl rfl (fun r20771 q20772 g20773 => ?_))
    refine wp_of e84 c84_10 (xg_L (pc' := 13) lf_0_141 hW g20773 sh_27 (by decide) (by decide) ty_27_18 rfl rfl (fun b20774 b20775 => ?_))
    refine wp_of e84 c84_13 (rw_ldc2 (pc' := 16) (z := 20000) rfl rfl rfl ?_)
    refine wp_of e84 c84_16 (rw_lcmp (pc' := 17) rfl ⟨by omega, by omega⟩ ⟨by omega, by omega⟩ ?_)
    have b20776 := wq_cmp_b (H r20771 18) 20000
    refine wp_of e84 c84_17 (rw_if_le (p1 := 24) (p2 := 20) (by decide) rfl ⟨by omega, by omega⟩ (fun c20777 => ?_) (fun c20777 => ?_))
    · refine wp_of e84 c84_24 (rw_iconst (pc' := 25) rfl ?_)
      exact wp_ireturn e84 c84_25 rfl ⟨rfl, rfl, 0, rfl, ⟨by omega, by omega⟩, by omega⟩
    · refine wp_of e84 c84_20 (rw_iconst (pc' := 21) rfl ?_)
      refine wp_of e84 c84_21 (rw_goto (p1 := 25) (by decide) ?_)
      exact wp_ireturn e84 c84_25 rfl ⟨rfl, rfl, 3, rfl, ⟨by omega, by omega⟩, by omega⟩
  · refine wp_of e84 c84_4 (rw_iconst (pc' := 5) rfl ?_)
    exact wp_ireturn e84 c84_5 rfl ⟨rfl, rfl, 1, rfl, ⟨by omega, by omega⟩, by omega⟩
/-! StrikeAwake$Census.clear()V -/
theorem e86 : wq_en 86 = some (4, 3, false, none) := rfl
theorem cg86_0 : mc_cd 86 0 = some (.iconst 0, 1) ∧ mc_cd 86 1 = some (.istore_n 1, 1) ∧ mc_cd 86 2 = some (.iload_n 1, 1) ∧ mc_cd 86 3 = some (.aload_n 0, 1) ∧ mc_cd 86 4 = some (.getfield 11, 3) ∧ mc_cd 86 7 = some (.arraylength, 1) ∧ mc_cd 86 8 = some (.if_icmp .ge 16, 3) ∧ mc_cd 86 11 = some (.aload_n 0, 1) := by decide +kernel
theorem c86_0 : mc_cd 86 0 = some (.iconst 0, 1) := cg86_0.1
theorem c86_1 : mc_cd 86 1 = some (.istore_n 1, 1) := cg86_0.2.1
theorem c86_2 : mc_cd 86 2 = some (.iload_n 1, 1) := cg86_0.2.2.1
theorem c86_3 : mc_cd 86 3 = some (.aload_n 0, 1) := cg86_0.2.2.2.1
theorem c86_4 : mc_cd 86 4 = some (.getfield 11, 3) := cg86_0.2.2.2.2.1
theorem c86_7 : mc_cd 86 7 = some (.arraylength, 1) := cg86_0.2.2.2.2.2.1
theorem c86_8 : mc_cd 86 8 = some (.if_icmp .ge 16, 3) := cg86_0.2.2.2.2.2.2.1
theorem c86_11 : mc_cd 86 11 = some (.aload_n 0, 1) := cg86_0.2.2.2.2.2.2.2
theorem cg86_12 : mc_cd 86 12 = some (.getfield 11, 3) ∧ mc_cd 86 15 = some (.iload_n 1, 1) ∧ mc_cd 86 16 = some (.lconst 0, 1) ∧ mc_cd 86 17 = some (.lastore, 1) ∧ mc_cd 86 18 = some (.iinc 1 1, 3) ∧ mc_cd 86 21 = some (.goto (-19), 3) ∧ mc_cd 86 24 = some (.iconst 0, 1) ∧ mc_cd 86 25 = some (.istore_n 1, 1) := by decide +kernel
theorem c86_12 : mc_cd 86 12 = some (.getfield 11, 3) := cg86_12.1
theorem c86_15 : mc_cd 86 15 = some (.iload_n 1, 1) := cg86_12.2.1
theorem c86_16 : mc_cd 86 16 = some (.lconst 0, 1) := cg86_12.2.2.1
theorem c86_17 : mc_cd 86 17 = some (.lastore, 1) := cg86_12.2.2.2.1
theorem c86_18 : mc_cd 86 18 = some (.iinc 1 1, 3) := cg86_12.2.2.2.2.1
theorem c86_21 : mc_cd 86 21 = some (.goto (-19), 3) := cg86_12.2.2.2.2.2.1
theorem c86_24 : mc_cd 86 24 = some (.iconst 0, 1) := cg86_12.2.2.2.2.2.2.1
theorem c86_25 : mc_cd 86 25 = some (.istore_n 1, 1) := cg86_12.2.2.2.2.2.2.2
theorem cg86_26 : mc_cd 86 26 = some (.iload_n 1, 1) ∧ mc_cd 86 27 = some (.bipush 6, 2) ∧ mc_cd 86 29 = some (.if_icmp .ge 41, 3) ∧ mc_cd 86 32 = some (.iconst 0, 1) ∧ mc_cd 86 33 = some (.istore_n 2, 1) ∧ mc_cd 86 34 = some (.iload_n 2, 1) ∧ mc_cd 86 35 = some (.bipush 40, 2) ∧ mc_cd 86 37 = some (.if_icmp .ge 27, 3) := by decide +kernel
theorem c86_26 : mc_cd 86 26 = some (.iload_n 1, 1) := cg86_26.1
theorem c86_27 : mc_cd 86 27 = some (.bipush 6, 2) := cg86_26.2.1
theorem c86_29 : mc_cd 86 29 = some (.if_icmp .ge 41, 3) := cg86_26.2.2.1
theorem c86_32 : mc_cd 86 32 = some (.iconst 0, 1) := cg86_26.2.2.2.1
theorem c86_33 : mc_cd 86 33 = some (.istore_n 2, 1) := cg86_26.2.2.2.2.1
theorem c86_34 : mc_cd 86 34 = some (.iload_n 2, 1) := cg86_26.2.2.2.2.2.1
theorem c86_35 : mc_cd 86 35 = some (.bipush 40, 2) := cg86_26.2.2.2.2.2.2.1
theorem c86_37 : mc_cd 86 37 = some (.if_icmp .ge 27, 3) := cg86_26.2.2.2.2.2.2.2
theorem cg86_40 : mc_cd 86 40 = some (.aload_n 0, 1) ∧ mc_cd 86 41 = some (.getfield 17, 3) ∧ mc_cd 86 44 = some (.iload_n 1, 1) ∧ mc_cd 86 45 = some (.aaload, 1) ∧ mc_cd 86 46 = some (.iload_n 2, 1) ∧ mc_cd 86 47 = some (.iconst 0, 1) ∧ mc_cd 86 48 = some (.iastore, 1) ∧ mc_cd 86 49 = some (.aload_n 0, 1) := by decide +kernel
theorem c86_40 : mc_cd 86 40 = some (.aload_n 0, 1) := cg86_40.1
theorem c86_41 : mc_cd 86 41 = some (.getfield 17, 3) := cg86_40.2.1
theorem c86_44 : mc_cd 86 44 = some (.iload_n 1, 1) := cg86_40.2.2.1
theorem c86_45 : mc_cd 86 45 = some (.aaload, 1) := cg86_40.2.2.2.1
theorem c86_46 : mc_cd 86 46 = some (.iload_n 2, 1) := cg86_40.2.2.2.2.1
theorem c86_47 : mc_cd 86 47 = some (.iconst 0, 1) := cg86_40.2.2.2.2.2.1
theorem c86_48 : mc_cd 86 48 = some (.iastore, 1) := cg86_40.2.2.2.2.2.2.1
theorem c86_49 : mc_cd 86 49 = some (.aload_n 0, 1) := cg86_40.2.2.2.2.2.2.2
theorem cg86_50 : mc_cd 86 50 = some (.getfield 22, 3) ∧ mc_cd 86 53 = some (.iload_n 1, 1) ∧ mc_cd 86 54 = some (.aaload, 1) ∧ mc_cd 86 55 = some (.iload_n 2, 1) ∧ mc_cd 86 56 = some (.lconst 0, 1) ∧ mc_cd 86 57 = some (.lastore, 1) ∧ mc_cd 86 58 = some (.iinc 2 1, 3) ∧ mc_cd 86 61 = some (.goto (-27), 3) := by decide +kernel
theorem c86_50 : mc_cd 86 50 = some (.getfield 22, 3) := cg86_50.1
theorem c86_53 : mc_cd 86 53 = some (.iload_n 1, 1) := cg86_50.2.1
theorem c86_54 : mc_cd 86 54 = some (.aaload, 1) := cg86_50.2.2.1
theorem c86_55 : mc_cd 86 55 = some (.iload_n 2, 1) := cg86_50.2.2.2.1
theorem c86_56 : mc_cd 86 56 = some (.lconst 0, 1) := cg86_50.2.2.2.2.1
theorem c86_57 : mc_cd 86 57 = some (.lastore, 1) := cg86_50.2.2.2.2.2.1
theorem c86_58 : mc_cd 86 58 = some (.iinc 2 1, 3) := cg86_50.2.2.2.2.2.2.1
theorem c86_61 : mc_cd 86 61 = some (.goto (-27), 3) := cg86_50.2.2.2.2.2.2.2
theorem cg86_64 : mc_cd 86 64 = some (.iinc 1 1, 3) ∧ mc_cd 86 67 = some (.goto (-41), 3) ∧ mc_cd 86 70 = some (.aload_n 0, 1) ∧ mc_cd 86 71 = some (.iconst 0, 1) ∧ mc_cd 86 72 = some (.putfield 62, 3) ∧ mc_cd 86 75 = some (.aload_n 0, 1) ∧ mc_cd 86 76 = some (.lconst 0, 1) ∧ mc_cd 86 77 = some (.putfield 66, 3) := by decide +kernel
theorem c86_64 : mc_cd 86 64 = some (.iinc 1 1, 3) := cg86_64.1
theorem c86_67 : mc_cd 86 67 = some (.goto (-41), 3) := cg86_64.2.1
theorem c86_70 : mc_cd 86 70 = some (.aload_n 0, 1) := cg86_64.2.2.1
theorem c86_71 : mc_cd 86 71 = some (.iconst 0, 1) := cg86_64.2.2.2.1
theorem c86_72 : mc_cd 86 72 = some (.putfield 62, 3) := cg86_64.2.2.2.2.1
theorem c86_75 : mc_cd 86 75 = some (.aload_n 0, 1) := cg86_64.2.2.2.2.2.1
theorem c86_76 : mc_cd 86 76 = some (.lconst 0, 1) := cg86_64.2.2.2.2.2.2.1
theorem c86_77 : mc_cd 86 77 = some (.putfield 66, 3) := cg86_64.2.2.2.2.2.2.2
theorem cg86_80 : mc_cd 86 80 = some (.aload_n 0, 1) ∧ mc_cd 86 81 = some (.iconst 0, 1) ∧ mc_cd 86 82 = some (.putfield 69, 3) ∧ mc_cd 86 85 = some (.aload_n 0, 1) ∧ mc_cd 86 86 = some (.lconst 0, 1) ∧ mc_cd 86 87 = some (.putfield 72, 3) ∧ mc_cd 86 90 = some (.return_, 1) := by decide +kernel
theorem c86_80 : mc_cd 86 80 = some (.aload_n 0, 1) := cg86_80.1
theorem c86_81 : mc_cd 86 81 = some (.iconst 0, 1) := cg86_80.2.1
theorem c86_82 : mc_cd 86 82 = some (.putfield 69, 3) := cg86_80.2.2.1
theorem c86_85 : mc_cd 86 85 = some (.aload_n 0, 1) := cg86_80.2.2.2.1
theorem c86_86 : mc_cd 86 86 = some (.lconst 0, 1) := cg86_80.2.2.2.2.1
theorem c86_87 : mc_cd 86 87 = some (.putfield 72, 3) := cg86_80.2.2.2.2.2.1
theorem c86_90 : mc_cd 86 90 = some (.return_, 1) := cg86_80.2.2.2.2.2.2
/-! StrikeAwake$Walk.toFirst(LStrikeAwake$Parish;)V -/
theorem e87 : wq_en 87 = some (3, 3, false, none) := rfl
theorem cg87_0 : mc_cd 87 0 = some (.iconst 0, 1) ∧ mc_cd 87 1 = some (.istore_n 2, 1) ∧ mc_cd 87 2 = some (.iload_n 2, 1) ∧ mc_cd 87 3 = some (.bipush 6, 2) ∧ mc_cd 87 5 = some (.if_icmp .ge 16, 3) ∧ mc_cd 87 8 = some (.aload_n 0, 1) ∧ mc_cd 87 9 = some (.getfield 9, 3) ∧ mc_cd 87 12 = some (.iload_n 2, 1) := by decide +kernel
theorem c87_0 : mc_cd 87 0 = some (.iconst 0, 1) := cg87_0.1
theorem c87_1 : mc_cd 87 1 = some (.istore_n 2, 1) := cg87_0.2.1
theorem c87_2 : mc_cd 87 2 = some (.iload_n 2, 1) := cg87_0.2.2.1
theorem c87_3 : mc_cd 87 3 = some (.bipush 6, 2) := cg87_0.2.2.2.1
theorem c87_5 : mc_cd 87 5 = some (.if_icmp .ge 16, 3) := cg87_0.2.2.2.2.1
theorem c87_8 : mc_cd 87 8 = some (.aload_n 0, 1) := cg87_0.2.2.2.2.2.1
theorem c87_9 : mc_cd 87 9 = some (.getfield 9, 3) := cg87_0.2.2.2.2.2.2.1
theorem c87_12 : mc_cd 87 12 = some (.iload_n 2, 1) := cg87_0.2.2.2.2.2.2.2
theorem cg87_13 : mc_cd 87 13 = some (.iconst 0, 1) ∧ mc_cd 87 14 = some (.iastore, 1) ∧ mc_cd 87 15 = some (.iinc 2 1, 3) ∧ mc_cd 87 18 = some (.goto (-16), 3) ∧ mc_cd 87 21 = some (.aload_n 0, 1) ∧ mc_cd 87 22 = some (.aload_n 1, 1) ∧ mc_cd 87 23 = some (.invokevirtual 28, 3) ∧ mc_cd 87 26 = some (.aload_n 0, 1) := by decide +kernel
theorem c87_13 : mc_cd 87 13 = some (.iconst 0, 1) := cg87_13.1
theorem c87_14 : mc_cd 87 14 = some (.iastore, 1) := cg87_13.2.1
theorem c87_15 : mc_cd 87 15 = some (.iinc 2 1, 3) := cg87_13.2.2.1
theorem c87_18 : mc_cd 87 18 = some (.goto (-16), 3) := cg87_13.2.2.2.1
theorem c87_21 : mc_cd 87 21 = some (.aload_n 0, 1) := cg87_13.2.2.2.2.1
theorem c87_22 : mc_cd 87 22 = some (.aload_n 1, 1) := cg87_13.2.2.2.2.2.1
theorem c87_23 : mc_cd 87 23 = some (.invokevirtual 28, 3) := cg87_13.2.2.2.2.2.2.1
theorem c87_26 : mc_cd 87 26 = some (.aload_n 0, 1) := cg87_13.2.2.2.2.2.2.2
theorem cg87_27 : mc_cd 87 27 = some (.aload_n 1, 1) ∧ mc_cd 87 28 = some (.iconst 0, 1) ∧ mc_cd 87 29 = some (.invokevirtual 32, 3) ∧ mc_cd 87 32 = some (.return_, 1) := by decide +kernel
theorem c87_27 : mc_cd 87 27 = some (.aload_n 1, 1) := cg87_27.1
theorem c87_28 : mc_cd 87 28 = some (.iconst 0, 1) := cg87_27.2.1
theorem c87_29 : mc_cd 87 29 = some (.invokevirtual 32, 3) := cg87_27.2.2.1
theorem c87_32 : mc_cd 87 32 = some (.return_, 1) := cg87_27.2.2.2
abbrev q_87 (r0 : Nat) (r1 : Nat) (T : wq_T) (H : wq_H) : Option Value → wq_T → wq_H → Prop := fun r T' H' => T = T' ∧ WT T H' ∧ wfr [(6, 5), (8, 999), (10, 999), (9, 999), (7, 999), (11, 999)] T H H' ∧ none = r
set_option maxHeartbeats 4000000 in
theorem s_87 {kt : Nat → Option mc_E} {T : wq_T} {H : wq_H} {r0 : Nat} {r1 : Nat} (hW : WT T H) (g0 : T.2.2.2 r0 = some 6) (g1 : T.2.2.2 r1 = some 27) : wpc kt 3 87 [.ref r0, .ref r1] T H (q_87 r0 r1 T H) := by
  refine wp_enter e87 (Nat.le_of_ble_eq_true rfl) rfl ?_
  have f0 : wfr [(6, 5), (8, 999), (10, 999), (9, 999), (7, 999), (11, 999)] T H H := wfr.rf
  show wp _ _ 87 0 [(0, .ref r0), (1, .ref r1)] [] _ H _
  refine wp_of e87 c87_0 (rw_iconst (pc' := 1) rfl ?_)
  refine wp_of e87 c87_1 (rw_istore_n (pc' := 2) (z := 0) (L' := [(2, vI 0), (0, .ref r0), (1, .ref r1)]) rfl rfl rfl ?_)
  have lp24210 : ∀ (n24211 : Nat) (v24213 : Int) (H24214 : wq_H), WT T H24214 → wfr [(7, 999)] T H H24214 → (0 ≤ v24213 ∧ v24213 ≤ 6) → (6 - v24213).toNat = n24211 → wp kt 2 87 2 [(2, vI v24213), (0, .ref r0), (1, .ref r1)] [] T H24214 (q_87 r0 r1 T H) := by
    intro n24211
    induction n24211 using Nat.strongRecOn with
    | _ n24211 ih24212 =>
      intro v24213 H24214 w24215 f24216 b24217 m24218
      have f24219 := f0.tr f24216 rfl
      refine wp_of e87 c87_2 (rw_iload_n (pc' := 3) (z := v24213) rfl rfl ?_)
      refine wp_of e87 c87_3 (rw_bipush (pc' := 5) (z := 6) rfl (by decide) ?_)
      refine wp_of e87 c87_5 (rw_icmp_ge (p1 := 21) (p2 := 8) (by decide) rfl ⟨by omega, by omega⟩ ⟨by omega, by omega⟩ (fun c24220 => ?_) (fun c24220 => ?_))
      · refine wp_of e87 c87_21 (rw_aload_n (pc' := 22) (v := .ref r0) rfl rfl rfl ?_)
        refine wp_of e87 c87_22 (rw_aload_n (pc' := 23) (v := .ref r1) rfl rfl rfl ?_)
        refine wp_of e87 c87_23 (xc_V (pc' := 26) (r := r0) (as := [.ref r1]) (st := []) (lm_3_28) rfl rfl (Nat.le_of_ble_eq_true rfl) w24215 g0 sh_6 (by decide) rfl (by decide) (s_69 w24215 g0 g1) (fun R24221 T24222 H24223 p24224 => ?_))
        obtain ⟨e24225, w24227, f24228, e24226⟩ := p24224
        subst e24225
        subst e24226
        have f24229 := f24219.tr f24228 rfl
        show wp _ _ 87 26 [(2, vI v24213), (0, .ref r0), (1, .ref r1)] [] _ H24223 _
        refine wp_of e87 c87_26 (rw_aload_n (pc' := 27) (v := .ref r0) rfl rfl rfl ?_)
        refine wp_of e87 c87_27 (rw_aload_n (pc' := 28) (v := .ref r1) rfl rfl rfl ?_)
        refine wp_of e87 c87_28 (rw_iconst (pc' := 29) rfl ?_)
        refine wp_of e87 c87_29 (xc_V (pc' := 32) (r := r0) (as := [.ref r1, vI 0]) (st := []) (lm_3_32) rfl rfl (Nat.le_of_ble_eq_true rfl) w24227 g0 sh_6 (by decide) rfl (by decide) (s_70 w24227 g0 g1 ⟨by omega, by omega⟩) (fun R24230 T24231 H24232 p24233 => ?_))
        obtain ⟨e24234, w24236, f24237, e24235⟩ := p24233
        subst e24234
        subst e24235
        have f24238 := f24229.tr f24237 rfl
        show wp _ _ 87 32 [(2, vI v24213), (0, .ref r0), (1, .ref r1)] [] _ H24232 _
        exact wp_return e87 c87_32 rfl ⟨rfl, w24236, f24238, rfl⟩
      · refine wp_of e87 c87_8 (rw_aload_n (pc' := 9) (v := .ref r0) rfl rfl rfl ?_)
        refine wp_of e87 c87_9 (xg_R (pc' := 12) lf_3_9 w24215 g0 sh_6 (by decide) (by decide) ty_6_0 rfl rfl (fun r24239 q24240 g24241 => ?_))
        refine wp_of e87 c87_12 (rw_iload_n (pc' := 13) (z := v24213) rfl rfl ?_)
        refine wp_of e87 c87_13 (rw_iconst (pc' := 14) rfl ?_)
        refine wp_of e87 c87_14 (xs_I (pc' := 15) w24215 g24241 (by decide) sh_7 (by decide) (ty_7 _) (by omega) (by omega) ⟨by omega, by omega⟩ (by omega) (by omega) rfl (fun H24242 e24243 w24244 => ?_))
        have f24245 := f24219.put' e24243 g24241 rfl
        have f24246 := f24216.put' e24243 g24241 rfl
        refine wp_of e87 c87_15 (rw_iinc (pc' := 18) (z := v24213) (L' := [(2, vI (v24213 + 1)), (0, .ref r0), (1, .ref r1)]) rfl rfl rfl rfl ?_)
        refine wp_of e87 c87_18 (rw_goto (p1 := 2) (by decide) ?_)
        exact wp_lc (ks := [2, 0, 1]) (wl_c rfl (wl_c rfl (wl_c rfl wl_n))) rfl (by decide) (ih24212 _ (by omega) (v24213 + 1) H24242 w24244 f24246 ⟨by omega, by omega⟩ rfl)
  exact wp_lc (ks := [2, 0, 1]) (wl_c rfl (wl_c rfl (wl_c rfl wl_n))) rfl (by decide) (lp24210 _ 0 H hW wfr.rf ⟨by omega, by omega⟩ rfl)
/-! StrikeAwake$Walk.pickOf(I)I -/
theorem e89 : wq_en 89 = some (3, 2, false, some FieldType.int) := rfl
theorem cg89_0 : mc_cd 89 0 = some (.aload_n 0, 1) ∧ mc_cd 89 1 = some (.getfield 9, 3) ∧ mc_cd 89 4 = some (.iload_n 1, 1) ∧ mc_cd 89 5 = some (.iaload, 1) ∧ mc_cd 89 6 = some (.ireturn, 1) := by decide +kernel
theorem c89_0 : mc_cd 89 0 = some (.aload_n 0, 1) := cg89_0.1
theorem c89_1 : mc_cd 89 1 = some (.getfield 9, 3) := cg89_0.2.1
theorem c89_4 : mc_cd 89 4 = some (.iload_n 1, 1) := cg89_0.2.2.1
theorem c89_5 : mc_cd 89 5 = some (.iaload, 1) := cg89_0.2.2.2.1
theorem c89_6 : mc_cd 89 6 = some (.ireturn, 1) := cg89_0.2.2.2.2
abbrev q_89 (r0 : Nat) (a1 : Int) (T : wq_T) (H : wq_H) : Option Value → wq_T → wq_H → Prop := fun r T' H' => T = T' ∧ H = H' ∧ ∃ z : Int, some (vI z) = r ∧ (0 ≤ z ∧ z ≤ 39)
set_option maxHeartbeats 4000000 in
theorem s_89 {kt : Nat → Option mc_E} {T : wq_T} {H : wq_H} {r0 : Nat} {a1 : Int} (hW : WT T H) (g0 : T.2.2.2 r0 = some 6) (i1 : 0 ≤ a1 ∧ a1 ≤ 5) : wpc kt 1 89 [.ref r0, vI a1] T H (q_89 r0 a1 T H) := by
  refine wp_enter e89 (Nat.le_of_ble_eq_true rfl) rfl ?_
  show wp _ _ 89 0 [(0, .ref r0), (1, vI a1)] [] _ H _
  refine wp_of e89 c89_0 (rw_aload_n (pc' := 1) (v := .ref r0) rfl rfl rfl ?_)
  refine wp_of e89 c89_1 (xg_R (pc' := 4) lf_3_9 hW g0 sh_6 (by decide) (by decide) ty_6_0 rfl rfl (fun r24252 q24253 g24254 => ?_))
  refine wp_of e89 c89_4 (rw_iload_n (pc' := 5) (z := a1) rfl rfl ?_)
  refine wp_of e89 c89_5 (xa_I (so := 0) (pc' := 6) hW g24254 sh_7 (by decide) (ty_7 _) (by omega) (by omega) rfl (fun b24255 b24256 => ?_))
  exact wp_ireturn e89 c89_6 rfl ⟨rfl, rfl, H r24252 (a1.toNat), rfl, ⟨by omega, by omega⟩⟩
/-! StrikeAwake$Census.enterDue(II)V -/
theorem e90 : wq_en 90 = some (4, 3, false, none) := rfl
theorem cg90_0 : mc_cd 90 0 = some (.aload_n 0, 1) ∧ mc_cd 90 1 = some (.getfield 25, 3) ∧ mc_cd 90 4 = some (.iload_n 1, 1) ∧ mc_cd 90 5 = some (.aload_n 0, 1) ∧ mc_cd 90 6 = some (.getfield 62, 3) ∧ mc_cd 90 9 = some (.ifCond .ne 7, 3) ∧ mc_cd 90 12 = some (.iload_n 2, 1) ∧ mc_cd 90 13 = some (.goto 13, 3) := by decide +kernel
theorem c90_0 : mc_cd 90 0 = some (.aload_n 0, 1) := cg90_0.1
theorem c90_1 : mc_cd 90 1 = some (.getfield 25, 3) := cg90_0.2.1
theorem c90_4 : mc_cd 90 4 = some (.iload_n 1, 1) := cg90_0.2.2.1
theorem c90_5 : mc_cd 90 5 = some (.aload_n 0, 1) := cg90_0.2.2.2.1
theorem c90_6 : mc_cd 90 6 = some (.getfield 62, 3) := cg90_0.2.2.2.2.1
theorem c90_9 : mc_cd 90 9 = some (.ifCond .ne 7, 3) := cg90_0.2.2.2.2.2.1
theorem c90_12 : mc_cd 90 12 = some (.iload_n 2, 1) := cg90_0.2.2.2.2.2.2.1
theorem c90_13 : mc_cd 90 13 = some (.goto 13, 3) := cg90_0.2.2.2.2.2.2.2
theorem cg90_16 : mc_cd 90 16 = some (.aload_n 0, 1) ∧ mc_cd 90 17 = some (.getfield 25, 3) ∧ mc_cd 90 20 = some (.iload_n 1, 1) ∧ mc_cd 90 21 = some (.iaload, 1) ∧ mc_cd 90 22 = some (.iload_n 2, 1) ∧ mc_cd 90 23 = some (.invokestatic 104, 3) ∧ mc_cd 90 26 = some (.iastore, 1) ∧ mc_cd 90 27 = some (.aload_n 0, 1) := by decide +kernel
theorem c90_16 : mc_cd 90 16 = some (.aload_n 0, 1) := cg90_16.1
theorem c90_17 : mc_cd 90 17 = some (.getfield 25, 3) := cg90_16.2.1
theorem c90_20 : mc_cd 90 20 = some (.iload_n 1, 1) := cg90_16.2.2.1
theorem c90_21 : mc_cd 90 21 = some (.iaload, 1) := cg90_16.2.2.2.1
theorem c90_22 : mc_cd 90 22 = some (.iload_n 2, 1) := cg90_16.2.2.2.2.1
theorem c90_23 : mc_cd 90 23 = some (.invokestatic 104, 3) := cg90_16.2.2.2.2.2.1
theorem c90_26 : mc_cd 90 26 = some (.iastore, 1) := cg90_16.2.2.2.2.2.2.1
theorem c90_27 : mc_cd 90 27 = some (.aload_n 0, 1) := cg90_16.2.2.2.2.2.2.2
theorem cg90_28 : mc_cd 90 28 = some (.getfield 29, 3) ∧ mc_cd 90 31 = some (.iload_n 1, 1) ∧ mc_cd 90 32 = some (.aload_n 0, 1) ∧ mc_cd 90 33 = some (.getfield 62, 3) ∧ mc_cd 90 36 = some (.ifCond .ne 7, 3) ∧ mc_cd 90 39 = some (.iload_n 2, 1) ∧ mc_cd 90 40 = some (.goto 13, 3) ∧ mc_cd 90 43 = some (.aload_n 0, 1) := by decide +kernel
theorem c90_28 : mc_cd 90 28 = some (.getfield 29, 3) := cg90_28.1
theorem c90_31 : mc_cd 90 31 = some (.iload_n 1, 1) := cg90_28.2.1
theorem c90_32 : mc_cd 90 32 = some (.aload_n 0, 1) := cg90_28.2.2.1
theorem c90_33 : mc_cd 90 33 = some (.getfield 62, 3) := cg90_28.2.2.2.1
theorem c90_36 : mc_cd 90 36 = some (.ifCond .ne 7, 3) := cg90_28.2.2.2.2.1
theorem c90_39 : mc_cd 90 39 = some (.iload_n 2, 1) := cg90_28.2.2.2.2.2.1
theorem c90_40 : mc_cd 90 40 = some (.goto 13, 3) := cg90_28.2.2.2.2.2.2.1
theorem c90_43 : mc_cd 90 43 = some (.aload_n 0, 1) := cg90_28.2.2.2.2.2.2.2
theorem cg90_44 : mc_cd 90 44 = some (.getfield 29, 3) ∧ mc_cd 90 47 = some (.iload_n 1, 1) ∧ mc_cd 90 48 = some (.iaload, 1) ∧ mc_cd 90 49 = some (.iload_n 2, 1) ∧ mc_cd 90 50 = some (.invokestatic 110, 3) ∧ mc_cd 90 53 = some (.iastore, 1) ∧ mc_cd 90 54 = some (.return_, 1) := by decide +kernel
theorem c90_44 : mc_cd 90 44 = some (.getfield 29, 3) := cg90_44.1
theorem c90_47 : mc_cd 90 47 = some (.iload_n 1, 1) := cg90_44.2.1
theorem c90_48 : mc_cd 90 48 = some (.iaload, 1) := cg90_44.2.2.1
theorem c90_49 : mc_cd 90 49 = some (.iload_n 2, 1) := cg90_44.2.2.2.1
theorem c90_50 : mc_cd 90 50 = some (.invokestatic 110, 3) := cg90_44.2.2.2.2.1
theorem c90_53 : mc_cd 90 53 = some (.iastore, 1) := cg90_44.2.2.2.2.2.1
theorem c90_54 : mc_cd 90 54 = some (.return_, 1) := cg90_44.2.2.2.2.2.2
/-! StrikeAwake$Census.enter(LStrikeAwake$Parish;LStrikeAwake$Walk;I)V -/
theorem e88 : wq_en 88 = some (4, 7, false, none) := rfl
theorem cg88_0 : mc_cd 88 0 = some (.lconst 1, 1) ∧ mc_cd 88 1 = some (.lstore 4, 2) ∧ mc_cd 88 3 = some (.iconst 0, 1) ∧ mc_cd 88 4 = some (.istore 6, 2) ∧ mc_cd 88 6 = some (.iload 6, 2) ∧ mc_cd 88 8 = some (.aload_n 1, 1) ∧ mc_cd 88 9 = some (.getfield 75, 3) ∧ mc_cd 88 12 = some (.if_icmp .ge 31, 3) := by decide +kernel
theorem c88_0 : mc_cd 88 0 = some (.lconst 1, 1) := cg88_0.1
theorem c88_1 : mc_cd 88 1 = some (.lstore 4, 2) := cg88_0.2.1
theorem c88_3 : mc_cd 88 3 = some (.iconst 0, 1) := cg88_0.2.2.1
theorem c88_4 : mc_cd 88 4 = some (.istore 6, 2) := cg88_0.2.2.2.1
theorem c88_6 : mc_cd 88 6 = some (.iload 6, 2) := cg88_0.2.2.2.2.1
theorem c88_8 : mc_cd 88 8 = some (.aload_n 1, 1) := cg88_0.2.2.2.2.2.1
theorem c88_9 : mc_cd 88 9 = some (.getfield 75, 3) := cg88_0.2.2.2.2.2.2.1
theorem c88_12 : mc_cd 88 12 = some (.if_icmp .ge 31, 3) := cg88_0.2.2.2.2.2.2.2
theorem cg88_15 : mc_cd 88 15 = some (.lload 4, 2) ∧ mc_cd 88 17 = some (.aload_n 1, 1) ∧ mc_cd 88 18 = some (.getfield 78, 3) ∧ mc_cd 88 21 = some (.iload 6, 2) ∧ mc_cd 88 23 = some (.aaload, 1) ∧ mc_cd 88 24 = some (.aload_n 2, 1) ∧ mc_cd 88 25 = some (.iload 6, 2) ∧ mc_cd 88 27 = some (.invokevirtual 82, 3) := by decide +kernel
theorem c88_15 : mc_cd 88 15 = some (.lload 4, 2) := cg88_15.1
theorem c88_17 : mc_cd 88 17 = some (.aload_n 1, 1) := cg88_15.2.1
theorem c88_18 : mc_cd 88 18 = some (.getfield 78, 3) := cg88_15.2.2.1
theorem c88_21 : mc_cd 88 21 = some (.iload 6, 2) := cg88_15.2.2.2.1
theorem c88_23 : mc_cd 88 23 = some (.aaload, 1) := cg88_15.2.2.2.2.1
theorem c88_24 : mc_cd 88 24 = some (.aload_n 2, 1) := cg88_15.2.2.2.2.2.1
theorem c88_25 : mc_cd 88 25 = some (.iload 6, 2) := cg88_15.2.2.2.2.2.2.1
theorem c88_27 : mc_cd 88 27 = some (.invokevirtual 82, 3) := cg88_15.2.2.2.2.2.2.2
theorem cg88_30 : mc_cd 88 30 = some (.invokevirtual 86, 3) ∧ mc_cd 88 33 = some (.i2l, 1) ∧ mc_cd 88 34 = some (.lmul, 1) ∧ mc_cd 88 35 = some (.lstore 4, 2) ∧ mc_cd 88 37 = some (.iinc 6 1, 3) ∧ mc_cd 88 40 = some (.goto (-34), 3) ∧ mc_cd 88 43 = some (.iconst 0, 1) ∧ mc_cd 88 44 = some (.istore 6, 2) := by decide +kernel
theorem c88_30 : mc_cd 88 30 = some (.invokevirtual 86, 3) := cg88_30.1
theorem c88_33 : mc_cd 88 33 = some (.i2l, 1) := cg88_30.2.1
theorem c88_34 : mc_cd 88 34 = some (.lmul, 1) := cg88_30.2.2.1
theorem c88_35 : mc_cd 88 35 = some (.lstore 4, 2) := cg88_30.2.2.2.1
theorem c88_37 : mc_cd 88 37 = some (.iinc 6 1, 3) := cg88_30.2.2.2.2.1
theorem c88_40 : mc_cd 88 40 = some (.goto (-34), 3) := cg88_30.2.2.2.2.2.1
theorem c88_43 : mc_cd 88 43 = some (.iconst 0, 1) := cg88_30.2.2.2.2.2.2.1
theorem c88_44 : mc_cd 88 44 = some (.istore 6, 2) := cg88_30.2.2.2.2.2.2.2
theorem cg88_46 : mc_cd 88 46 = some (.iload 6, 2) ∧ mc_cd 88 48 = some (.aload_n 1, 1) ∧ mc_cd 88 49 = some (.getfield 75, 3) ∧ mc_cd 88 52 = some (.if_icmp .ge 46, 3) ∧ mc_cd 88 55 = some (.aload_n 0, 1) ∧ mc_cd 88 56 = some (.getfield 17, 3) ∧ mc_cd 88 59 = some (.iload 6, 2) ∧ mc_cd 88 61 = some (.aaload, 1) := by decide +kernel
theorem c88_46 : mc_cd 88 46 = some (.iload 6, 2) := cg88_46.1
theorem c88_48 : mc_cd 88 48 = some (.aload_n 1, 1) := cg88_46.2.1
theorem c88_49 : mc_cd 88 49 = some (.getfield 75, 3) := cg88_46.2.2.1
theorem c88_52 : mc_cd 88 52 = some (.if_icmp .ge 46, 3) := cg88_46.2.2.2.1
theorem c88_55 : mc_cd 88 55 = some (.aload_n 0, 1) := cg88_46.2.2.2.2.1
theorem c88_56 : mc_cd 88 56 = some (.getfield 17, 3) := cg88_46.2.2.2.2.2.1
theorem c88_59 : mc_cd 88 59 = some (.iload 6, 2) := cg88_46.2.2.2.2.2.2.1
theorem c88_61 : mc_cd 88 61 = some (.aaload, 1) := cg88_46.2.2.2.2.2.2.2
theorem cg88_62 : mc_cd 88 62 = some (.aload_n 2, 1) ∧ mc_cd 88 63 = some (.iload 6, 2) ∧ mc_cd 88 65 = some (.invokevirtual 82, 3) ∧ mc_cd 88 68 = some (.dup2, 1) ∧ mc_cd 88 69 = some (.iaload, 1) ∧ mc_cd 88 70 = some (.iconst 1, 1) ∧ mc_cd 88 71 = some (.iadd, 1) ∧ mc_cd 88 72 = some (.iastore, 1) := by decide +kernel
theorem c88_62 : mc_cd 88 62 = some (.aload_n 2, 1) := cg88_62.1
theorem c88_63 : mc_cd 88 63 = some (.iload 6, 2) := cg88_62.2.1
theorem c88_65 : mc_cd 88 65 = some (.invokevirtual 82, 3) := cg88_62.2.2.1
theorem c88_68 : mc_cd 88 68 = some (.dup2, 1) := cg88_62.2.2.2.1
theorem c88_69 : mc_cd 88 69 = some (.iaload, 1) := cg88_62.2.2.2.2.1
theorem c88_70 : mc_cd 88 70 = some (.iconst 1, 1) := cg88_62.2.2.2.2.2.1
theorem c88_71 : mc_cd 88 71 = some (.iadd, 1) := cg88_62.2.2.2.2.2.2.1
theorem c88_72 : mc_cd 88 72 = some (.iastore, 1) := cg88_62.2.2.2.2.2.2.2
theorem cg88_73 : mc_cd 88 73 = some (.aload_n 0, 1) ∧ mc_cd 88 74 = some (.getfield 22, 3) ∧ mc_cd 88 77 = some (.iload 6, 2) ∧ mc_cd 88 79 = some (.aaload, 1) ∧ mc_cd 88 80 = some (.aload_n 2, 1) ∧ mc_cd 88 81 = some (.iload 6, 2) ∧ mc_cd 88 83 = some (.invokevirtual 82, 3) ∧ mc_cd 88 86 = some (.dup2, 1) := by decide +kernel
theorem c88_73 : mc_cd 88 73 = some (.aload_n 0, 1) := cg88_73.1
theorem c88_74 : mc_cd 88 74 = some (.getfield 22, 3) := cg88_73.2.1
theorem c88_77 : mc_cd 88 77 = some (.iload 6, 2) := cg88_73.2.2.1
theorem c88_79 : mc_cd 88 79 = some (.aaload, 1) := cg88_73.2.2.2.1
theorem c88_80 : mc_cd 88 80 = some (.aload_n 2, 1) := cg88_73.2.2.2.2.1
theorem c88_81 : mc_cd 88 81 = some (.iload 6, 2) := cg88_73.2.2.2.2.2.1
theorem c88_83 : mc_cd 88 83 = some (.invokevirtual 82, 3) := cg88_73.2.2.2.2.2.2.1
theorem c88_86 : mc_cd 88 86 = some (.dup2, 1) := cg88_73.2.2.2.2.2.2.2
theorem cg88_87 : mc_cd 88 87 = some (.laload, 1) ∧ mc_cd 88 88 = some (.lload 4, 2) ∧ mc_cd 88 90 = some (.ladd, 1) ∧ mc_cd 88 91 = some (.lastore, 1) ∧ mc_cd 88 92 = some (.iinc 6 1, 3) ∧ mc_cd 88 95 = some (.goto (-49), 3) ∧ mc_cd 88 98 = some (.iconst 0, 1) ∧ mc_cd 88 99 = some (.istore 6, 2) := by decide +kernel
theorem c88_87 : mc_cd 88 87 = some (.laload, 1) := cg88_87.1
theorem c88_88 : mc_cd 88 88 = some (.lload 4, 2) := cg88_87.2.1
theorem c88_90 : mc_cd 88 90 = some (.ladd, 1) := cg88_87.2.2.1
theorem c88_91 : mc_cd 88 91 = some (.lastore, 1) := cg88_87.2.2.2.1
theorem c88_92 : mc_cd 88 92 = some (.iinc 6 1, 3) := cg88_87.2.2.2.2.1
theorem c88_95 : mc_cd 88 95 = some (.goto (-49), 3) := cg88_87.2.2.2.2.2.1
theorem c88_98 : mc_cd 88 98 = some (.iconst 0, 1) := cg88_87.2.2.2.2.2.2.1
theorem c88_99 : mc_cd 88 99 = some (.istore 6, 2) := cg88_87.2.2.2.2.2.2.2
theorem cg88_101 : mc_cd 88 101 = some (.iload 6, 2) ∧ mc_cd 88 103 = some (.aload_n 1, 1) ∧ mc_cd 88 104 = some (.getfield 91, 3) ∧ mc_cd 88 107 = some (.if_icmp .ge 31, 3) ∧ mc_cd 88 110 = some (.aload_n 0, 1) ∧ mc_cd 88 111 = some (.aload_n 1, 1) ∧ mc_cd 88 112 = some (.getfield 94, 3) ∧ mc_cd 88 115 = some (.iload 6, 2) := by decide +kernel
theorem c88_101 : mc_cd 88 101 = some (.iload 6, 2) := cg88_101.1
theorem c88_103 : mc_cd 88 103 = some (.aload_n 1, 1) := cg88_101.2.1
theorem c88_104 : mc_cd 88 104 = some (.getfield 91, 3) := cg88_101.2.2.1
theorem c88_107 : mc_cd 88 107 = some (.if_icmp .ge 31, 3) := cg88_101.2.2.2.1
theorem c88_110 : mc_cd 88 110 = some (.aload_n 0, 1) := cg88_101.2.2.2.2.1
theorem c88_111 : mc_cd 88 111 = some (.aload_n 1, 1) := cg88_101.2.2.2.2.2.1
theorem c88_112 : mc_cd 88 112 = some (.getfield 94, 3) := cg88_101.2.2.2.2.2.2.1
theorem c88_115 : mc_cd 88 115 = some (.iload 6, 2) := cg88_101.2.2.2.2.2.2.2
theorem cg88_117 : mc_cd 88 117 = some (.iaload, 1) ∧ mc_cd 88 118 = some (.aload_n 2, 1) ∧ mc_cd 88 119 = some (.aload_n 1, 1) ∧ mc_cd 88 120 = some (.getfield 94, 3) ∧ mc_cd 88 123 = some (.iload 6, 2) ∧ mc_cd 88 125 = some (.iaload, 1) ∧ mc_cd 88 126 = some (.invokevirtual 97, 3) ∧ mc_cd 88 129 = some (.invokevirtual 100, 3) := by decide +kernel
theorem c88_117 : mc_cd 88 117 = some (.iaload, 1) := cg88_117.1
theorem c88_118 : mc_cd 88 118 = some (.aload_n 2, 1) := cg88_117.2.1
theorem c88_119 : mc_cd 88 119 = some (.aload_n 1, 1) := cg88_117.2.2.1
theorem c88_120 : mc_cd 88 120 = some (.getfield 94, 3) := cg88_117.2.2.2.1
theorem c88_123 : mc_cd 88 123 = some (.iload 6, 2) := cg88_117.2.2.2.2.1
theorem c88_125 : mc_cd 88 125 = some (.iaload, 1) := cg88_117.2.2.2.2.2.1
theorem c88_126 : mc_cd 88 126 = some (.invokevirtual 97, 3) := cg88_117.2.2.2.2.2.2.1
theorem c88_129 : mc_cd 88 129 = some (.invokevirtual 100, 3) := cg88_117.2.2.2.2.2.2.2
theorem cg88_132 : mc_cd 88 132 = some (.iinc 6 1, 3) ∧ mc_cd 88 135 = some (.goto (-34), 3) ∧ mc_cd 88 138 = some (.aload_n 0, 1) ∧ mc_cd 88 139 = some (.getfield 11, 3) ∧ mc_cd 88 142 = some (.iload_n 3, 1) ∧ mc_cd 88 143 = some (.bipush 64, 2) ∧ mc_cd 88 145 = some (.idiv, 1) ∧ mc_cd 88 146 = some (.dup2, 1) := by decide +kernel
theorem c88_132 : mc_cd 88 132 = some (.iinc 6 1, 3) := cg88_132.1
theorem c88_135 : mc_cd 88 135 = some (.goto (-34), 3) := cg88_132.2.1
theorem c88_138 : mc_cd 88 138 = some (.aload_n 0, 1) := cg88_132.2.2.1
theorem c88_139 : mc_cd 88 139 = some (.getfield 11, 3) := cg88_132.2.2.2.1
theorem c88_142 : mc_cd 88 142 = some (.iload_n 3, 1) := cg88_132.2.2.2.2.1
theorem c88_143 : mc_cd 88 143 = some (.bipush 64, 2) := cg88_132.2.2.2.2.2.1
theorem c88_145 : mc_cd 88 145 = some (.idiv, 1) := cg88_132.2.2.2.2.2.2.1
theorem c88_146 : mc_cd 88 146 = some (.dup2, 1) := cg88_132.2.2.2.2.2.2.2
theorem cg88_147 : mc_cd 88 147 = some (.laload, 1) ∧ mc_cd 88 148 = some (.lconst 1, 1) ∧ mc_cd 88 149 = some (.iload_n 3, 1) ∧ mc_cd 88 150 = some (.bipush 64, 2) ∧ mc_cd 88 152 = some (.irem, 1) ∧ mc_cd 88 153 = some (.lshl, 1) ∧ mc_cd 88 154 = some (.lor, 1) ∧ mc_cd 88 155 = some (.lastore, 1) := by decide +kernel
theorem c88_147 : mc_cd 88 147 = some (.laload, 1) := cg88_147.1
theorem c88_148 : mc_cd 88 148 = some (.lconst 1, 1) := cg88_147.2.1
theorem c88_149 : mc_cd 88 149 = some (.iload_n 3, 1) := cg88_147.2.2.1
theorem c88_150 : mc_cd 88 150 = some (.bipush 64, 2) := cg88_147.2.2.2.1
theorem c88_152 : mc_cd 88 152 = some (.irem, 1) := cg88_147.2.2.2.2.1
theorem c88_153 : mc_cd 88 153 = some (.lshl, 1) := cg88_147.2.2.2.2.2.1
theorem c88_154 : mc_cd 88 154 = some (.lor, 1) := cg88_147.2.2.2.2.2.2.1
theorem c88_155 : mc_cd 88 155 = some (.lastore, 1) := cg88_147.2.2.2.2.2.2.2
theorem cg88_156 : mc_cd 88 156 = some (.aload_n 0, 1) ∧ mc_cd 88 157 = some (.dup, 1) ∧ mc_cd 88 158 = some (.getfield 62, 3) ∧ mc_cd 88 161 = some (.iconst 1, 1) ∧ mc_cd 88 162 = some (.iadd, 1) ∧ mc_cd 88 163 = some (.putfield 62, 3) ∧ mc_cd 88 166 = some (.aload_n 0, 1) ∧ mc_cd 88 167 = some (.dup, 1) := by decide +kernel
theorem c88_156 : mc_cd 88 156 = some (.aload_n 0, 1) := cg88_156.1
theorem c88_157 : mc_cd 88 157 = some (.dup, 1) := cg88_156.2.1
theorem c88_158 : mc_cd 88 158 = some (.getfield 62, 3) := cg88_156.2.2.1
theorem c88_161 : mc_cd 88 161 = some (.iconst 1, 1) := cg88_156.2.2.2.1
theorem c88_162 : mc_cd 88 162 = some (.iadd, 1) := cg88_156.2.2.2.2.1
theorem c88_163 : mc_cd 88 163 = some (.putfield 62, 3) := cg88_156.2.2.2.2.2.1
theorem c88_166 : mc_cd 88 166 = some (.aload_n 0, 1) := cg88_156.2.2.2.2.2.2.1
theorem c88_167 : mc_cd 88 167 = some (.dup, 1) := cg88_156.2.2.2.2.2.2.2
theorem cg88_168 : mc_cd 88 168 = some (.getfield 66, 3) ∧ mc_cd 88 171 = some (.lload 4, 2) ∧ mc_cd 88 173 = some (.ladd, 1) ∧ mc_cd 88 174 = some (.putfield 66, 3) ∧ mc_cd 88 177 = some (.lload 4, 2) ∧ mc_cd 88 179 = some (.aload_n 0, 1) ∧ mc_cd 88 180 = some (.getfield 72, 3) ∧ mc_cd 88 183 = some (.lcmp, 1) := by decide +kernel
theorem c88_168 : mc_cd 88 168 = some (.getfield 66, 3) := cg88_168.1
theorem c88_171 : mc_cd 88 171 = some (.lload 4, 2) := cg88_168.2.1
theorem c88_173 : mc_cd 88 173 = some (.ladd, 1) := cg88_168.2.2.1
theorem c88_174 : mc_cd 88 174 = some (.putfield 66, 3) := cg88_168.2.2.2.1
theorem c88_177 : mc_cd 88 177 = some (.lload 4, 2) := cg88_168.2.2.2.2.1
theorem c88_179 : mc_cd 88 179 = some (.aload_n 0, 1) := cg88_168.2.2.2.2.2.1
theorem c88_180 : mc_cd 88 180 = some (.getfield 72, 3) := cg88_168.2.2.2.2.2.2.1
theorem c88_183 : mc_cd 88 183 = some (.lcmp, 1) := cg88_168.2.2.2.2.2.2.2
theorem cg88_184 : mc_cd 88 184 = some (.ifCond .le 14, 3) ∧ mc_cd 88 187 = some (.aload_n 0, 1) ∧ mc_cd 88 188 = some (.lload 4, 2) ∧ mc_cd 88 190 = some (.putfield 72, 3) ∧ mc_cd 88 193 = some (.aload_n 0, 1) ∧ mc_cd 88 194 = some (.iload_n 3, 1) ∧ mc_cd 88 195 = some (.putfield 69, 3) ∧ mc_cd 88 198 = some (.return_, 1) := by decide +kernel
theorem c88_184 : mc_cd 88 184 = some (.ifCond .le 14, 3) := cg88_184.1
theorem c88_187 : mc_cd 88 187 = some (.aload_n 0, 1) := cg88_184.2.1
theorem c88_188 : mc_cd 88 188 = some (.lload 4, 2) := cg88_184.2.2.1
theorem c88_190 : mc_cd 88 190 = some (.putfield 72, 3) := cg88_184.2.2.2.1
theorem c88_193 : mc_cd 88 193 = some (.aload_n 0, 1) := cg88_184.2.2.2.2.1
theorem c88_194 : mc_cd 88 194 = some (.iload_n 3, 1) := cg88_184.2.2.2.2.2.1
theorem c88_195 : mc_cd 88 195 = some (.putfield 69, 3) := cg88_184.2.2.2.2.2.2.1
theorem c88_198 : mc_cd 88 198 = some (.return_, 1) := cg88_184.2.2.2.2.2.2.2
/-! StrikeAwake$Walk.step(LStrikeAwake$Parish;)V -/
theorem e91 : wq_en 91 = some (3, 4, false, none) := rfl
theorem cg91_0 : mc_cd 91 0 = some (.iconst 0, 1) ∧ mc_cd 91 1 = some (.istore_n 2, 1) ∧ mc_cd 91 2 = some (.aload_n 0, 1) ∧ mc_cd 91 3 = some (.getfield 51, 3) ∧ mc_cd 91 6 = some (.iconst 1, 1) ∧ mc_cd 91 7 = some (.isub, 1) ∧ mc_cd 91 8 = some (.istore_n 3, 1) ∧ mc_cd 91 9 = some (.iload_n 3, 1) := by decide +kernel
theorem c91_0 : mc_cd 91 0 = some (.iconst 0, 1) := cg91_0.1
theorem c91_1 : mc_cd 91 1 = some (.istore_n 2, 1) := cg91_0.2.1
theorem c91_2 : mc_cd 91 2 = some (.aload_n 0, 1) := cg91_0.2.2.1
theorem c91_3 : mc_cd 91 3 = some (.getfield 51, 3) := cg91_0.2.2.2.1
theorem c91_6 : mc_cd 91 6 = some (.iconst 1, 1) := cg91_0.2.2.2.2.1
theorem c91_7 : mc_cd 91 7 = some (.isub, 1) := cg91_0.2.2.2.2.2.1
theorem c91_8 : mc_cd 91 8 = some (.istore_n 3, 1) := cg91_0.2.2.2.2.2.2.1
theorem c91_9 : mc_cd 91 9 = some (.iload_n 3, 1) := cg91_0.2.2.2.2.2.2.2
theorem cg91_10 : mc_cd 91 10 = some (.ifCond .lt 49, 3) ∧ mc_cd 91 13 = some (.aload_n 0, 1) ∧ mc_cd 91 14 = some (.getfield 9, 3) ∧ mc_cd 91 17 = some (.iload_n 3, 1) ∧ mc_cd 91 18 = some (.dup2, 1) ∧ mc_cd 91 19 = some (.iaload, 1) ∧ mc_cd 91 20 = some (.iconst 1, 1) ∧ mc_cd 91 21 = some (.iadd, 1) := by decide +kernel
theorem c91_10 : mc_cd 91 10 = some (.ifCond .lt 49, 3) := cg91_10.1
theorem c91_13 : mc_cd 91 13 = some (.aload_n 0, 1) := cg91_10.2.1
theorem c91_14 : mc_cd 91 14 = some (.getfield 9, 3) := cg91_10.2.2.1
theorem c91_17 : mc_cd 91 17 = some (.iload_n 3, 1) := cg91_10.2.2.2.1
theorem c91_18 : mc_cd 91 18 = some (.dup2, 1) := cg91_10.2.2.2.2.1
theorem c91_19 : mc_cd 91 19 = some (.iaload, 1) := cg91_10.2.2.2.2.2.1
theorem c91_20 : mc_cd 91 20 = some (.iconst 1, 1) := cg91_10.2.2.2.2.2.2.1
theorem c91_21 : mc_cd 91 21 = some (.iadd, 1) := cg91_10.2.2.2.2.2.2.2
theorem cg91_22 : mc_cd 91 22 = some (.iastore, 1) ∧ mc_cd 91 23 = some (.aload_n 0, 1) ∧ mc_cd 91 24 = some (.getfield 9, 3) ∧ mc_cd 91 27 = some (.iload_n 3, 1) ∧ mc_cd 91 28 = some (.iaload, 1) ∧ mc_cd 91 29 = some (.aload_n 1, 1) ∧ mc_cd 91 30 = some (.getfield 42, 3) ∧ mc_cd 91 33 = some (.iload_n 3, 1) := by decide +kernel
theorem c91_22 : mc_cd 91 22 = some (.iastore, 1) := cg91_22.1
theorem c91_23 : mc_cd 91 23 = some (.aload_n 0, 1) := cg91_22.2.1
theorem c91_24 : mc_cd 91 24 = some (.getfield 9, 3) := cg91_22.2.2.1
theorem c91_27 : mc_cd 91 27 = some (.iload_n 3, 1) := cg91_22.2.2.2.1
theorem c91_28 : mc_cd 91 28 = some (.iaload, 1) := cg91_22.2.2.2.2.1
theorem c91_29 : mc_cd 91 29 = some (.aload_n 1, 1) := cg91_22.2.2.2.2.2.1
theorem c91_30 : mc_cd 91 30 = some (.getfield 42, 3) := cg91_22.2.2.2.2.2.2.1
theorem c91_33 : mc_cd 91 33 = some (.iload_n 3, 1) := cg91_22.2.2.2.2.2.2.2
theorem cg91_34 : mc_cd 91 34 = some (.aaload, 1) ∧ mc_cd 91 35 = some (.getfield 52, 3) ∧ mc_cd 91 38 = some (.if_icmp .ge 8, 3) ∧ mc_cd 91 41 = some (.iload_n 3, 1) ∧ mc_cd 91 42 = some (.istore_n 2, 1) ∧ mc_cd 91 43 = some (.goto 16, 3) ∧ mc_cd 91 46 = some (.aload_n 0, 1) ∧ mc_cd 91 47 = some (.getfield 9, 3) := by decide +kernel
theorem c91_34 : mc_cd 91 34 = some (.aaload, 1) := cg91_34.1
theorem c91_35 : mc_cd 91 35 = some (.getfield 52, 3) := cg91_34.2.1
theorem c91_38 : mc_cd 91 38 = some (.if_icmp .ge 8, 3) := cg91_34.2.2.1
theorem c91_41 : mc_cd 91 41 = some (.iload_n 3, 1) := cg91_34.2.2.2.1
theorem c91_42 : mc_cd 91 42 = some (.istore_n 2, 1) := cg91_34.2.2.2.2.1
theorem c91_43 : mc_cd 91 43 = some (.goto 16, 3) := cg91_34.2.2.2.2.2.1
theorem c91_46 : mc_cd 91 46 = some (.aload_n 0, 1) := cg91_34.2.2.2.2.2.2.1
theorem c91_47 : mc_cd 91 47 = some (.getfield 9, 3) := cg91_34.2.2.2.2.2.2.2
theorem cg91_50 : mc_cd 91 50 = some (.iload_n 3, 1) ∧ mc_cd 91 51 = some (.iconst 0, 1) ∧ mc_cd 91 52 = some (.iastore, 1) ∧ mc_cd 91 53 = some (.iinc 3 (-1), 3) ∧ mc_cd 91 56 = some (.goto (-47), 3) ∧ mc_cd 91 59 = some (.aload_n 0, 1) ∧ mc_cd 91 60 = some (.aload_n 1, 1) ∧ mc_cd 91 61 = some (.iload_n 2, 1) := by decide +kernel
theorem c91_50 : mc_cd 91 50 = some (.iload_n 3, 1) := cg91_50.1
theorem c91_51 : mc_cd 91 51 = some (.iconst 0, 1) := cg91_50.2.1
theorem c91_52 : mc_cd 91 52 = some (.iastore, 1) := cg91_50.2.2.1
theorem c91_53 : mc_cd 91 53 = some (.iinc 3 (-1), 3) := cg91_50.2.2.2.1
theorem c91_56 : mc_cd 91 56 = some (.goto (-47), 3) := cg91_50.2.2.2.2.1
theorem c91_59 : mc_cd 91 59 = some (.aload_n 0, 1) := cg91_50.2.2.2.2.2.1
theorem c91_60 : mc_cd 91 60 = some (.aload_n 1, 1) := cg91_50.2.2.2.2.2.2.1
theorem c91_61 : mc_cd 91 61 = some (.iload_n 2, 1) := cg91_50.2.2.2.2.2.2.2
theorem cg91_62 : mc_cd 91 62 = some (.invokevirtual 32, 3) ∧ mc_cd 91 65 = some (.return_, 1) := by decide +kernel
theorem c91_62 : mc_cd 91 62 = some (.invokevirtual 32, 3) := cg91_62.1
theorem c91_65 : mc_cd 91 65 = some (.return_, 1) := cg91_62.2
abbrev q_91 (r0 : Nat) (r1 : Nat) (T : wq_T) (H : wq_H) : Option Value → wq_T → wq_H → Prop := fun r T' H' => T = T' ∧ WT T H' ∧ wfr [(8, 999), (10, 999), (9, 999), (7, 999), (11, 999)] T H H' ∧ none = r
set_option maxHeartbeats 4000000 in
theorem s_91 {kt : Nat → Option mc_E} {T : wq_T} {H : wq_H} {r0 : Nat} {r1 : Nat} (hW : WT T H) (g0 : T.2.2.2 r0 = some 6) (g1 : T.2.2.2 r1 = some 27) : wpc kt 3 91 [.ref r0, .ref r1] T H (q_91 r0 r1 T H) := by
  refine wp_enter e91 (Nat.le_of_ble_eq_true rfl) rfl ?_
  have f0 : wfr [(8, 999), (10, 999), (9, 999), (7, 999), (11, 999)] T H H := wfr.rf
  show wp _ _ 91 0 [(0, .ref r0), (1, .ref r1)] [] _ H _
  refine wp_of e91 c91_0 (rw_iconst (pc' := 1) rfl ?_)
  refine wp_of e91 c91_1 (rw_istore_n (pc' := 2) (z := 0) (L' := [(2, vI 0), (0, .ref r0), (1, .ref r1)]) rfl rfl rfl ?_)
  refine wp_of e91 c91_2 (rw_aload_n (pc' := 3) (v := .ref r0) rfl rfl rfl ?_)
  refine wp_of e91 c91_3 (xg_I (pc' := 6) lf_3_51 hW g0 sh_6 (by decide) (by decide) ty_6_5 rfl rfl (fun b1 b2 => ?_))
  refine wp_of e91 c91_6 (rw_iconst (pc' := 7) rfl ?_)
  refine wp_of e91 c91_7 (rw_isub (pc' := 8) rfl ?_)
  refine wp_of e91 c91_8 (rw_istore_n (pc' := 9) (z := (H r0 5) - 1) (L' := [(3, vI ((H r0 5) - 1)), (2, vI 0), (0, .ref r0), (1, .ref r1)]) rfl rfl rfl ?_)
  have lp : ∀ (n : Nat) (v : Int) (H1 : wq_H), WT T H1 → wfr [(7, 999)] T H H1 → ((-1) ≤ v ∧ v ≤ 5) → (v - (-1)).toNat = n → wp kt 2 91 9 [(3, vI v), (2, vI 0), (0, .ref r0), (1, .ref r1)] [] T H1 (q_91 r0 r1 T H) := by
    intro n
    induction n using Nat.strongRecOn with
    | _ n ih =>
      intro v H1 w1 f1 b3 m1
      have f2 := f0.tr f1 rfl
      refine wp_of e91 c91_9 (rw_iload_n (pc' := 10) (z := v) rfl rfl ?_)
      refine wp_of e91 c91_10 (rw_if_lt (p1 := 59) (p2 := 13) (by decide) rfl ⟨by omega, by omega⟩ (fun c1 => ?_) (fun c1 => ?_))
      · refine wp_of e91 c91_59 (rw_aload_n (pc' := 60) (v := .ref r0) rfl rfl rfl ?_)
        refine wp_of e91 c91_60 (rw_aload_n (pc' := 61) (v := .ref r1) rfl rfl rfl ?_)
        refine wp_of e91 c91_61 (rw_iload_n (pc' := 62) (z := 0) rfl rfl ?_)
        refine wp_of e91 c91_62 (xc_V (pc' := 65) (r := r0) (as := [.ref r1, vI 0]) (st := []) (lm_3_32) rfl rfl (Nat.le_of_ble_eq_true rfl) w1 g0 sh_6 (by decide) rfl (by decide) (s_70 w1 g0 g1 ⟨by omega, by omega⟩) (fun R9 T9 H9 p9 => ?_))
        obtain ⟨e7, w9, f9, e8⟩ := p9
        subst e7
        subst e8
        have f10 := f2.tr f9 rfl
        show wp _ _ 91 65 [(3, vI v), (2, vI 0), (0, .ref r0), (1, .ref r1)] [] _ H9 _
        exact wp_return e91 c91_65 rfl ⟨rfl, w9, f10, rfl⟩
      · refine wp_of e91 c91_13 (rw_aload_n (pc' := 14) (v := .ref r0) rfl rfl rfl ?_)
        refine wp_of e91 c91_14 (xg_R (pc' := 17) lf_3_9 w1 g0 sh_6 (by decide) (by decide) ty_6_0 rfl rfl (fun rp q1 gp => ?_))
        refine wp_of e91 c91_17 (rw_iload_n (pc' := 18) (z := v) rfl rfl ?_)
        refine wp_of e91 c91_18 (rw_dup2 (pc' := 19) rfl rfl rfl ?_)
        refine wp_of e91 c91_19 (xa_I (so := 0) (pc' := 20) w1 gp sh_7 (by decide) (ty_7 _) (by omega) (by omega) rfl (fun b5 b6 => ?_))
        refine wp_of e91 c91_20 (rw_iconst (pc' := 21) rfl ?_)
        refine wp_of e91 c91_21 (rw_iadd (pc' := 22) rfl ?_)
        refine wp_of e91 c91_22 (rw_iastore (pc' := 23) (w1.sh gp sh_7) (w1.hi gp (by decide)) (by decide) ⟨by omega, by omega⟩ (by omega) (by omega) rfl ?_)
        obtain ⟨H2, e2⟩ : ∃ X : wq_H, X = wq_u H1 rp v.toNat (H1 rp v.toNat + 1) := ⟨_, rfl⟩
        rw [← e2]
        have k2 : H2 rp v.toNat = H1 rp v.toNat + 1 := wq_u_s e2
        obtain ⟨l9, hl9, hj9, -⟩ := lf_3_9
        obtain ⟨l42, hl42, hj42, -⟩ := lf_3_42
        obtain ⟨l52, hl52, hj52, -⟩ := lf_3_52
        have hc0 := wq_hc (a := r0) (c := 3) (j := 0) (n := 6) (w1.hi g0 (by decide)) (by decide)
        have q2 : H2 r0 0 = (rp : Int) := (wq_u_t e2 gp g0 rfl 0).trans q1
        refine wp_of e91 c91_23 (rw_aload_n (pc' := 24) (v := .ref r0) rfl rfl rfl ?_)
        refine wp_of e91 c91_24 (rw_getR (pc' := 27) hl9 hj9 (w1.sh g0 sh_6) hc0 rfl q2 rfl ?_)
        refine wp_of e91 c91_27 (rw_iload_n (pc' := 28) (z := v) rfl rfl ?_)
        refine wp_of e91 c91_28 (rw_iaload (pc' := 29) (w1.sh gp sh_7) ⟨by decide, rfl, Bool.or_true _, by decide⟩ (by omega) (by omega) rfl rfl ?_)
        obtain ⟨ra, q3, ga⟩ := w1.ref g1 (t' := 28) (n := 19) (j := 0) (p := 0) (q := 0) rfl (by decide) rfl
        have q4 : H2 r1 0 = (ra : Int) := (wq_u_t e2 gp g1 rfl 0).trans q3
        refine wp_of e91 c91_29 (rw_aload_n (pc' := 30) (v := .ref r1) rfl rfl rfl ?_)
        refine wp_of e91 c91_30 (rw_getR (pc' := 33) hl42 hj42 (w1.sh g1 sh_27) (wq_hc (w1.hi g1 (by decide)) (by decide)) rfl q4 rfl ?_)
        refine wp_of e91 c91_33 (rw_iload_n (pc' := 34) (z := v) rfl rfl ?_)
        obtain ⟨rs, q5, gs⟩ := w1.ref ga (t' := 35) (n := 6) (j := v.toNat) (p := 0) (q := 0) rfl (by omega) rfl
        have q6 : H2 ra v.toNat = (rs : Int) := (wq_u_t e2 gp ga rfl _).trans q5
        refine wp_of e91 c91_34 (rw_aaload (pc' := 35) (w1.sh ga sh_28) ⟨by decide, rfl, Bool.or_true _, by decide⟩ (by omega) (by omega) rfl q6 rfl ?_)
        have b7 : (0 : Int) ≤ H1 rs 15 ∧ H1 rs 15 ≤ 40 := w1.box gs (n := 18) rfl (by decide) rfl
        have k3 : H2 rs 15 = H1 rs 15 := wq_u_t e2 gp gs rfl 15
        refine wp_of e91 c91_35 (rw_getI (pc' := 38) hl52 hj52 (w1.sh gs sh_35) (wq_hc (w1.hi gs (by decide)) (by decide)) rfl rfl ?_)
        refine wp_of e91 c91_38 (rw_icmp_ge (p1 := 46) (p2 := 41) (by decide) rfl ⟨by omega, by omega⟩ ⟨by omega, by omega⟩ (fun c2 => ?_) (fun c2 => ?_))
        · refine wp_of e91 c91_46 (rw_aload_n (pc' := 47) (v := .ref r0) rfl rfl rfl ?_)
          refine wp_of e91 c91_47 (rw_getR (pc' := 50) hl9 hj9 (w1.sh g0 sh_6) hc0 rfl q2 rfl ?_)
          refine wp_of e91 c91_50 (rw_iload_n (pc' := 51) (z := v) rfl rfl ?_)
          refine wp_of e91 c91_51 (rw_iconst (pc' := 52) rfl ?_)
          refine wp_of e91 c91_52 (rw_iastore (pc' := 53) (w1.sh gp sh_7) (w1.hi gp (by decide)) (by decide) ⟨by omega, by omega⟩ (by omega) (by omega) rfl ?_)
          have e3 : wq_u H2 rp v.toNat 0 = wq_u H1 rp v.toNat 0 := by
            funext b i
            by_cases hq : b = rp ∧ i = v.toNat
            · obtain ⟨rfl, rfl⟩ := hq
              rw [wq_u_eq, wq_u_eq]
            · rw [wq_u_ne hq, wq_u_ne hq, e2, wq_u_ne hq]
          rw [e3]
          have w3 : WT T (wq_u H1 rp v.toNat 0) := w1.putB gp (ty_7 _) (by omega) (by omega)
          have f3 : wfr [(7, 999)] T H (wq_u H1 rp v.toNat 0) := f1.put gp rfl
          refine wp_of e91 c91_53 (rw_iinc (pc' := 56) (z := v) (L' := [(3, vI (v + (-1))), (2, vI 0), (0, .ref r0), (1, .ref r1)]) rfl rfl rfl rfl ?_)
          refine wp_of e91 c91_56 (rw_goto (p1 := 9) (by decide) ?_)
          exact wp_lc (ks := [3, 2, 0, 1]) (wl_c rfl (wl_c rfl (wl_c rfl (wl_c rfl wl_n)))) rfl (by decide) (ih _ (by omega) (v + (-1)) _ w3 f3 ⟨by omega, by omega⟩ rfl)
        · have w2 : WT T H2 := by
            rw [e2]
            exact w1.putB gp (ty_7 _) (by omega) (by omega)
          have f3 := f2.put' e2 gp rfl
          refine wp_of e91 c91_41 (rw_iload_n (pc' := 42) (z := v) rfl rfl ?_)
          refine wp_of e91 c91_42 (rw_istore_n (pc' := 43) (z := v) (L' := [(2, vI v), (3, vI v), (0, .ref r0), (1, .ref r1)]) rfl rfl rfl ?_)
          refine wp_of e91 c91_43 (rw_goto (p1 := 59) (by decide) ?_)
          refine wp_of e91 c91_59 (rw_aload_n (pc' := 60) (v := .ref r0) rfl rfl rfl ?_)
          refine wp_of e91 c91_60 (rw_aload_n (pc' := 61) (v := .ref r1) rfl rfl rfl ?_)
          refine wp_of e91 c91_61 (rw_iload_n (pc' := 62) (z := v) rfl rfl ?_)
          refine wp_of e91 c91_62 (xc_V (pc' := 65) (r := r0) (as := [.ref r1, vI v]) (st := []) (lm_3_32) rfl rfl (Nat.le_of_ble_eq_true rfl) w2 g0 sh_6 (by decide) rfl (by decide) (s_70 w2 g0 g1 ⟨by omega, by omega⟩) (fun R9 T9 H9 p9 => ?_))
          obtain ⟨e7, w9, f9, e8⟩ := p9
          subst e7
          subst e8
          have f10 := f3.tr f9 rfl
          show wp _ _ 91 65 [(2, vI v), (3, vI v), (0, .ref r0), (1, .ref r1)] [] _ H9 _
          exact wp_return e91 c91_65 rfl ⟨rfl, w9, f10, rfl⟩
  exact wp_lc (ks := [3, 2, 0, 1]) (wl_c rfl (wl_c rfl (wl_c rfl (wl_c rfl wl_n)))) rfl (by decide) (lp _ ((H r0 5) - 1) H hW wfr.rf ⟨by omega, by omega⟩ rfl)
/-! StrikeAwake$Census.renew(LStrikeAwake$Parish;LStrikeAwake$Walk;)V -/
theorem e85 : wq_en 85 = some (4, 4, false, none) := rfl
theorem cg85_0 : mc_cd 85 0 = some (.aload_n 0, 1) ∧ mc_cd 85 1 = some (.getfield 32, 3) ∧ mc_cd 85 4 = some (.ifCond .eq 4, 3) ∧ mc_cd 85 7 = some (.return_, 1) ∧ mc_cd 85 8 = some (.aload_n 0, 1) ∧ mc_cd 85 9 = some (.invokevirtual 36, 3) ∧ mc_cd 85 12 = some (.aload_n 2, 1) ∧ mc_cd 85 13 = some (.aload_n 1, 1) := by decide +kernel
theorem c85_0 : mc_cd 85 0 = some (.aload_n 0, 1) := cg85_0.1
theorem c85_1 : mc_cd 85 1 = some (.getfield 32, 3) := cg85_0.2.1
theorem c85_4 : mc_cd 85 4 = some (.ifCond .eq 4, 3) := cg85_0.2.2.1
theorem c85_7 : mc_cd 85 7 = some (.return_, 1) := cg85_0.2.2.2.1
theorem c85_8 : mc_cd 85 8 = some (.aload_n 0, 1) := cg85_0.2.2.2.2.1
theorem c85_9 : mc_cd 85 9 = some (.invokevirtual 36, 3) := cg85_0.2.2.2.2.2.1
theorem c85_12 : mc_cd 85 12 = some (.aload_n 2, 1) := cg85_0.2.2.2.2.2.2.1
theorem c85_13 : mc_cd 85 13 = some (.aload_n 1, 1) := cg85_0.2.2.2.2.2.2.2
theorem cg85_14 : mc_cd 85 14 = some (.invokevirtual 39, 3) ∧ mc_cd 85 17 = some (.iconst 0, 1) ∧ mc_cd 85 18 = some (.istore_n 3, 1) ∧ mc_cd 85 19 = some (.iload_n 3, 1) ∧ mc_cd 85 20 = some (.i2l, 1) ∧ mc_cd 85 21 = some (.aload_n 1, 1) ∧ mc_cd 85 22 = some (.getfield 45, 3) ∧ mc_cd 85 25 = some (.lcmp, 1) := by decide +kernel
theorem c85_14 : mc_cd 85 14 = some (.invokevirtual 39, 3) := cg85_14.1
theorem c85_17 : mc_cd 85 17 = some (.iconst 0, 1) := cg85_14.2.1
theorem c85_18 : mc_cd 85 18 = some (.istore_n 3, 1) := cg85_14.2.2.1
theorem c85_19 : mc_cd 85 19 = some (.iload_n 3, 1) := cg85_14.2.2.2.1
theorem c85_20 : mc_cd 85 20 = some (.i2l, 1) := cg85_14.2.2.2.2.1
theorem c85_21 : mc_cd 85 21 = some (.aload_n 1, 1) := cg85_14.2.2.2.2.2.1
theorem c85_22 : mc_cd 85 22 = some (.getfield 45, 3) := cg85_14.2.2.2.2.2.2.1
theorem c85_25 : mc_cd 85 25 = some (.lcmp, 1) := cg85_14.2.2.2.2.2.2.2
theorem cg85_26 : mc_cd 85 26 = some (.ifCond .ge 36, 3) ∧ mc_cd 85 29 = some (.iload_n 3, 1) ∧ mc_cd 85 30 = some (.sipush 20000, 3) ∧ mc_cd 85 33 = some (.if_icmp .ge 29, 3) ∧ mc_cd 85 36 = some (.aload_n 2, 1) ∧ mc_cd 85 37 = some (.aload_n 1, 1) ∧ mc_cd 85 38 = some (.invokevirtual 51, 3) ∧ mc_cd 85 41 = some (.ifCond .eq 10, 3) := by decide +kernel
theorem c85_26 : mc_cd 85 26 = some (.ifCond .ge 36, 3) := cg85_26.1
theorem c85_29 : mc_cd 85 29 = some (.iload_n 3, 1) := cg85_26.2.1
theorem c85_30 : mc_cd 85 30 = some (.sipush 20000, 3) := cg85_26.2.2.1
theorem c85_33 : mc_cd 85 33 = some (.if_icmp .ge 29, 3) := cg85_26.2.2.2.1
theorem c85_36 : mc_cd 85 36 = some (.aload_n 2, 1) := cg85_26.2.2.2.2.1
theorem c85_37 : mc_cd 85 37 = some (.aload_n 1, 1) := cg85_26.2.2.2.2.2.1
theorem c85_38 : mc_cd 85 38 = some (.invokevirtual 51, 3) := cg85_26.2.2.2.2.2.2.1
theorem c85_41 : mc_cd 85 41 = some (.ifCond .eq 10, 3) := cg85_26.2.2.2.2.2.2.2
theorem cg85_44 : mc_cd 85 44 = some (.aload_n 0, 1) ∧ mc_cd 85 45 = some (.aload_n 1, 1) ∧ mc_cd 85 46 = some (.aload_n 2, 1) ∧ mc_cd 85 47 = some (.iload_n 3, 1) ∧ mc_cd 85 48 = some (.invokevirtual 55, 3) ∧ mc_cd 85 51 = some (.aload_n 2, 1) ∧ mc_cd 85 52 = some (.aload_n 1, 1) ∧ mc_cd 85 53 = some (.invokevirtual 59, 3) := by decide +kernel
theorem c85_44 : mc_cd 85 44 = some (.aload_n 0, 1) := cg85_44.1
theorem c85_45 : mc_cd 85 45 = some (.aload_n 1, 1) := cg85_44.2.1
theorem c85_46 : mc_cd 85 46 = some (.aload_n 2, 1) := cg85_44.2.2.1
theorem c85_47 : mc_cd 85 47 = some (.iload_n 3, 1) := cg85_44.2.2.2.1
theorem c85_48 : mc_cd 85 48 = some (.invokevirtual 55, 3) := cg85_44.2.2.2.2.1
theorem c85_51 : mc_cd 85 51 = some (.aload_n 2, 1) := cg85_44.2.2.2.2.2.1
theorem c85_52 : mc_cd 85 52 = some (.aload_n 1, 1) := cg85_44.2.2.2.2.2.2.1
theorem c85_53 : mc_cd 85 53 = some (.invokevirtual 59, 3) := cg85_44.2.2.2.2.2.2.2
theorem cg85_56 : mc_cd 85 56 = some (.iinc 3 1, 3) ∧ mc_cd 85 59 = some (.goto (-40), 3) ∧ mc_cd 85 62 = some (.aload_n 0, 1) ∧ mc_cd 85 63 = some (.iconst 1, 1) ∧ mc_cd 85 64 = some (.putfield 32, 3) ∧ mc_cd 85 67 = some (.return_, 1) := by decide +kernel
theorem c85_56 : mc_cd 85 56 = some (.iinc 3 1, 3) := cg85_56.1
theorem c85_59 : mc_cd 85 59 = some (.goto (-40), 3) := cg85_56.2.1
theorem c85_62 : mc_cd 85 62 = some (.aload_n 0, 1) := cg85_56.2.2.1
theorem c85_63 : mc_cd 85 63 = some (.iconst 1, 1) := cg85_56.2.2.2.1
theorem c85_64 : mc_cd 85 64 = some (.putfield 32, 3) := cg85_56.2.2.2.2.1
theorem c85_67 : mc_cd 85 67 = some (.return_, 1) := cg85_56.2.2.2.2.2
/-! StrikeAwake.barOfWorlds(Z)I -/
theorem e83 : wq_en 83 = some (0, 3, false, some FieldType.int) := rfl
theorem cg83_0 : mc_cd 83 0 = some (.aload_n 0, 1) ∧ mc_cd 83 1 = some (.iload_n 1, 1) ∧ mc_cd 83 2 = some (.invokevirtual 245, 3) ∧ mc_cd 83 5 = some (.istore_n 2, 1) ∧ mc_cd 83 6 = some (.iload_n 2, 1) ∧ mc_cd 83 7 = some (.ifCond .ne 18, 3) ∧ mc_cd 83 10 = some (.aload_n 0, 1) ∧ mc_cd 83 11 = some (.getfield 30, 3) := by decide +kernel
theorem c83_0 : mc_cd 83 0 = some (.aload_n 0, 1) := cg83_0.1
theorem c83_1 : mc_cd 83 1 = some (.iload_n 1, 1) := cg83_0.2.1
theorem c83_2 : mc_cd 83 2 = some (.invokevirtual 245, 3) := cg83_0.2.2.1
theorem c83_5 : mc_cd 83 5 = some (.istore_n 2, 1) := cg83_0.2.2.2.1
theorem c83_6 : mc_cd 83 6 = some (.iload_n 2, 1) := cg83_0.2.2.2.2.1
theorem c83_7 : mc_cd 83 7 = some (.ifCond .ne 18, 3) := cg83_0.2.2.2.2.2.1
theorem c83_10 : mc_cd 83 10 = some (.aload_n 0, 1) := cg83_0.2.2.2.2.2.2.1
theorem c83_11 : mc_cd 83 11 = some (.getfield 30, 3) := cg83_0.2.2.2.2.2.2.2
theorem cg83_14 : mc_cd 83 14 = some (.aload_n 0, 1) ∧ mc_cd 83 15 = some (.getfield 51, 3) ∧ mc_cd 83 18 = some (.aload_n 0, 1) ∧ mc_cd 83 19 = some (.getfield 23, 3) ∧ mc_cd 83 22 = some (.invokevirtual 254, 3) ∧ mc_cd 83 25 = some (.iload_n 2, 1) ∧ mc_cd 83 26 = some (.ireturn, 1) := by decide +kernel
theorem c83_14 : mc_cd 83 14 = some (.aload_n 0, 1) := cg83_14.1
theorem c83_15 : mc_cd 83 15 = some (.getfield 51, 3) := cg83_14.2.1
theorem c83_18 : mc_cd 83 18 = some (.aload_n 0, 1) := cg83_14.2.2.1
theorem c83_19 : mc_cd 83 19 = some (.getfield 23, 3) := cg83_14.2.2.2.1
theorem c83_22 : mc_cd 83 22 = some (.invokevirtual 254, 3) := cg83_14.2.2.2.2.1
theorem c83_25 : mc_cd 83 25 = some (.iload_n 2, 1) := cg83_14.2.2.2.2.2.1
theorem c83_26 : mc_cd 83 26 = some (.ireturn, 1) := cg83_14.2.2.2.2.2.2
/-! StrikeAwake.worlds()I -/
theorem e82 : wq_en 82 = some (0, 2, false, some FieldType.int) := rfl
theorem cg82_0 : mc_cd 82 0 = some (.aload_n 0, 1) ∧ mc_cd 82 1 = some (.aload_n 0, 1) ∧ mc_cd 82 2 = some (.getfield 58, 3) ∧ mc_cd 82 5 = some (.invokevirtual 174, 3) ∧ mc_cd 82 8 = some (.istore_n 1, 1) ∧ mc_cd 82 9 = some (.iload_n 1, 1) ∧ mc_cd 82 10 = some (.ifCond .eq 9, 3) ∧ mc_cd 82 13 = some (.aload_n 0, 1) := by decide +kernel
theorem c82_0 : mc_cd 82 0 = some (.aload_n 0, 1) := cg82_0.1
theorem c82_1 : mc_cd 82 1 = some (.aload_n 0, 1) := cg82_0.2.1
theorem c82_2 : mc_cd 82 2 = some (.getfield 58, 3) := cg82_0.2.2.1
theorem c82_5 : mc_cd 82 5 = some (.invokevirtual 174, 3) := cg82_0.2.2.2.1
theorem c82_8 : mc_cd 82 8 = some (.istore_n 1, 1) := cg82_0.2.2.2.2.1
theorem c82_9 : mc_cd 82 9 = some (.iload_n 1, 1) := cg82_0.2.2.2.2.2.1
theorem c82_10 : mc_cd 82 10 = some (.ifCond .eq 9, 3) := cg82_0.2.2.2.2.2.2.1
theorem c82_13 : mc_cd 82 13 = some (.aload_n 0, 1) := cg82_0.2.2.2.2.2.2.2
theorem cg82_14 : mc_cd 82 14 = some (.iload_n 1, 1) ∧ mc_cd 82 15 = some (.invokevirtual 70, 3) ∧ mc_cd 82 18 = some (.ireturn, 1) ∧ mc_cd 82 19 = some (.aload_n 0, 1) ∧ mc_cd 82 20 = some (.aload_n 0, 1) ∧ mc_cd 82 21 = some (.getfield 30, 3) ∧ mc_cd 82 24 = some (.getfield 177, 3) ∧ mc_cd 82 27 = some (.invokevirtual 99, 3) := by decide +kernel
theorem c82_14 : mc_cd 82 14 = some (.iload_n 1, 1) := cg82_14.1
theorem c82_15 : mc_cd 82 15 = some (.invokevirtual 70, 3) := cg82_14.2.1
theorem c82_18 : mc_cd 82 18 = some (.ireturn, 1) := cg82_14.2.2.1
theorem c82_19 : mc_cd 82 19 = some (.aload_n 0, 1) := cg82_14.2.2.2.1
theorem c82_20 : mc_cd 82 20 = some (.aload_n 0, 1) := cg82_14.2.2.2.2.1
theorem c82_21 : mc_cd 82 21 = some (.getfield 30, 3) := cg82_14.2.2.2.2.2.1
theorem c82_24 : mc_cd 82 24 = some (.getfield 177, 3) := cg82_14.2.2.2.2.2.2.1
theorem c82_27 : mc_cd 82 27 = some (.invokevirtual 99, 3) := cg82_14.2.2.2.2.2.2.2
theorem c82_30 : mc_cd 82 30 = some (.ireturn, 1) := by decide +kernel
/-! StrikeAwake.can()I -/
theorem e92 : wq_en 92 = some (0, 2, false, some FieldType.int) := rfl
theorem cg92_0 : mc_cd 92 0 = some (.aload_n 0, 1) ∧ mc_cd 92 1 = some (.aload_n 0, 1) ∧ mc_cd 92 2 = some (.getfield 58, 3) ∧ mc_cd 92 5 = some (.invokevirtual 174, 3) ∧ mc_cd 92 8 = some (.istore_n 1, 1) ∧ mc_cd 92 9 = some (.iload_n 1, 1) ∧ mc_cd 92 10 = some (.ifCond .eq 9, 3) ∧ mc_cd 92 13 = some (.aload_n 0, 1) := by decide +kernel
theorem c92_0 : mc_cd 92 0 = some (.aload_n 0, 1) := cg92_0.1
theorem c92_1 : mc_cd 92 1 = some (.aload_n 0, 1) := cg92_0.2.1
theorem c92_2 : mc_cd 92 2 = some (.getfield 58, 3) := cg92_0.2.2.1
theorem c92_5 : mc_cd 92 5 = some (.invokevirtual 174, 3) := cg92_0.2.2.2.1
theorem c92_8 : mc_cd 92 8 = some (.istore_n 1, 1) := cg92_0.2.2.2.2.1
theorem c92_9 : mc_cd 92 9 = some (.iload_n 1, 1) := cg92_0.2.2.2.2.2.1
theorem c92_10 : mc_cd 92 10 = some (.ifCond .eq 9, 3) := cg92_0.2.2.2.2.2.2.1
theorem c92_13 : mc_cd 92 13 = some (.aload_n 0, 1) := cg92_0.2.2.2.2.2.2.2
theorem cg92_14 : mc_cd 92 14 = some (.iload_n 1, 1) ∧ mc_cd 92 15 = some (.invokevirtual 70, 3) ∧ mc_cd 92 18 = some (.ireturn, 1) ∧ mc_cd 92 19 = some (.aload_n 0, 1) ∧ mc_cd 92 20 = some (.aload_n 0, 1) ∧ mc_cd 92 21 = some (.getfield 30, 3) ∧ mc_cd 92 24 = some (.getfield 177, 3) ∧ mc_cd 92 27 = some (.ifCond .le 7, 3) := by decide +kernel
theorem c92_14 : mc_cd 92 14 = some (.iload_n 1, 1) := cg92_14.1
theorem c92_15 : mc_cd 92 15 = some (.invokevirtual 70, 3) := cg92_14.2.1
theorem c92_18 : mc_cd 92 18 = some (.ireturn, 1) := cg92_14.2.2.1
theorem c92_19 : mc_cd 92 19 = some (.aload_n 0, 1) := cg92_14.2.2.2.1
theorem c92_20 : mc_cd 92 20 = some (.aload_n 0, 1) := cg92_14.2.2.2.2.1
theorem c92_21 : mc_cd 92 21 = some (.getfield 30, 3) := cg92_14.2.2.2.2.2.1
theorem c92_24 : mc_cd 92 24 = some (.getfield 177, 3) := cg92_14.2.2.2.2.2.2.1
theorem c92_27 : mc_cd 92 27 = some (.ifCond .le 7, 3) := cg92_14.2.2.2.2.2.2.2
theorem cg92_30 : mc_cd 92 30 = some (.iconst 1, 1) ∧ mc_cd 92 31 = some (.goto 4, 3) ∧ mc_cd 92 34 = some (.iconst 0, 1) ∧ mc_cd 92 35 = some (.invokevirtual 99, 3) ∧ mc_cd 92 38 = some (.ireturn, 1) := by decide +kernel
theorem c92_30 : mc_cd 92 30 = some (.iconst 1, 1) := cg92_30.1
theorem c92_31 : mc_cd 92 31 = some (.goto 4, 3) := cg92_30.2.1
theorem c92_34 : mc_cd 92 34 = some (.iconst 0, 1) := cg92_30.2.2.1
theorem c92_35 : mc_cd 92 35 = some (.invokevirtual 99, 3) := cg92_30.2.2.2.1
theorem c92_38 : mc_cd 92 38 = some (.ireturn, 1) := cg92_30.2.2.2.2
/-! StrikeAwake$Census.isWorld(I)Z -/
theorem e95 : wq_en 95 = some (4, 2, false, some FieldType.boolean) := rfl
theorem cg95_0 : mc_cd 95 0 = some (.aload_n 0, 1) ∧ mc_cd 95 1 = some (.getfield 11, 3) ∧ mc_cd 95 4 = some (.iload_n 1, 1) ∧ mc_cd 95 5 = some (.bipush 64, 2) ∧ mc_cd 95 7 = some (.idiv, 1) ∧ mc_cd 95 8 = some (.laload, 1) ∧ mc_cd 95 9 = some (.iload_n 1, 1) ∧ mc_cd 95 10 = some (.bipush 64, 2) := by decide +kernel
theorem c95_0 : mc_cd 95 0 = some (.aload_n 0, 1) := cg95_0.1
theorem c95_1 : mc_cd 95 1 = some (.getfield 11, 3) := cg95_0.2.1
theorem c95_4 : mc_cd 95 4 = some (.iload_n 1, 1) := cg95_0.2.2.1
theorem c95_5 : mc_cd 95 5 = some (.bipush 64, 2) := cg95_0.2.2.2.1
theorem c95_7 : mc_cd 95 7 = some (.idiv, 1) := cg95_0.2.2.2.2.1
theorem c95_8 : mc_cd 95 8 = some (.laload, 1) := cg95_0.2.2.2.2.2.1
theorem c95_9 : mc_cd 95 9 = some (.iload_n 1, 1) := cg95_0.2.2.2.2.2.2.1
theorem c95_10 : mc_cd 95 10 = some (.bipush 64, 2) := cg95_0.2.2.2.2.2.2.2
theorem cg95_12 : mc_cd 95 12 = some (.irem, 1) ∧ mc_cd 95 13 = some (.lshr, 1) ∧ mc_cd 95 14 = some (.lconst 1, 1) ∧ mc_cd 95 15 = some (.land, 1) ∧ mc_cd 95 16 = some (.lconst 0, 1) ∧ mc_cd 95 17 = some (.lcmp, 1) ∧ mc_cd 95 18 = some (.ifCond .eq 7, 3) ∧ mc_cd 95 21 = some (.iconst 1, 1) := by decide +kernel
theorem c95_12 : mc_cd 95 12 = some (.irem, 1) := cg95_12.1
theorem c95_13 : mc_cd 95 13 = some (.lshr, 1) := cg95_12.2.1
theorem c95_14 : mc_cd 95 14 = some (.lconst 1, 1) := cg95_12.2.2.1
theorem c95_15 : mc_cd 95 15 = some (.land, 1) := cg95_12.2.2.2.1
theorem c95_16 : mc_cd 95 16 = some (.lconst 0, 1) := cg95_12.2.2.2.2.1
theorem c95_17 : mc_cd 95 17 = some (.lcmp, 1) := cg95_12.2.2.2.2.2.1
theorem c95_18 : mc_cd 95 18 = some (.ifCond .eq 7, 3) := cg95_12.2.2.2.2.2.2.1
theorem c95_21 : mc_cd 95 21 = some (.iconst 1, 1) := cg95_12.2.2.2.2.2.2.2
theorem cg95_22 : mc_cd 95 22 = some (.goto 4, 3) ∧ mc_cd 95 25 = some (.iconst 0, 1) ∧ mc_cd 95 26 = some (.ireturn, 1) := by decide +kernel
theorem c95_22 : mc_cd 95 22 = some (.goto 4, 3) := cg95_22.1
theorem c95_25 : mc_cd 95 25 = some (.iconst 0, 1) := cg95_22.2.1
theorem c95_26 : mc_cd 95 26 = some (.ireturn, 1) := cg95_22.2.2
abbrev q_95 (r0 : Nat) (a1 : Int) (T : wq_T) (H : wq_H) : Option Value → wq_T → wq_H → Prop := fun r T' H' => T = T' ∧ H = H' ∧ ∃ z : Int, some (vI z) = r ∧ (0 ≤ z ∧ z ≤ 1)
set_option maxHeartbeats 4000000 in
theorem s_95 {kt : Nat → Option mc_E} {T : wq_T} {H : wq_H} {r0 : Nat} {a1 : Int} (hW : WT T H) (g0 : T.2.2.2 r0 = some 12) (i1 : 0 ≤ a1 ∧ a1 ≤ 19999) : wpc kt 1 95 [.ref r0, vI a1] T H (q_95 r0 a1 T H) := by
  refine wp_enter e95 (Nat.le_of_ble_eq_true rfl) rfl ?_
  show wp _ _ 95 0 [(0, .ref r0), (1, vI a1)] [] _ H _
  refine wp_of e95 c95_0 (rw_aload_n (pc' := 1) (v := .ref r0) rfl rfl rfl ?_)
  refine wp_of e95 c95_1 (xg_R (pc' := 4) lf_4_11 hW g0 sh_12 (by decide) (by decide) ty_12_0 rfl rfl (fun r27521 q27522 g27523 => ?_))
  refine wp_of e95 c95_4 (rw_iload_n (pc' := 5) (z := a1) rfl rfl ?_)
  refine wp_of e95 c95_5 (rw_bipush (pc' := 7) (z := 64) rfl (by decide) ?_)
  refine wp_of e95 c95_7 (rw_idiv (pc' := 8) rfl ⟨by omega, by omega⟩ (by omega) ?_)
  obtain ⟨v27524, e27525⟩ : ∃ x : Int, x = wq_div a1 64 := ⟨_, rfl⟩
  rw [← e27525]
  have b27526 : v27524 = a1 / 64 := by
    rw [e27525]
    exact wq_div_e ⟨by omega, by omega⟩ ⟨by omega, by omega⟩
  refine wp_of e95 c95_8 (xa_L (pc' := 9) hW g27523 sh_13 (by decide) (ty_13 _) (by omega) (by omega) rfl (fun b27527 b27528 => ?_))
  refine wp_of e95 c95_9 (rw_iload_n (pc' := 10) (z := a1) rfl rfl ?_)
  refine wp_of e95 c95_10 (rw_bipush (pc' := 12) (z := 64) rfl (by decide) ?_)
  refine wp_of e95 c95_12 (rw_irem (pc' := 13) rfl ⟨by omega, by omega⟩ (by omega) ?_)
  obtain ⟨v27529, e27530⟩ : ∃ x : Int, x = wq_rem a1 64 := ⟨_, rfl⟩
  rw [← e27530]
  have b27531 : v27529 = a1 % 64 := by
    rw [e27530]
    exact wq_rem_e ⟨by omega, by omega⟩ ⟨by omega, by omega⟩
  refine wp_of e95 c95_13 (rw_lshr (pc' := 14) rfl ?_)
  obtain ⟨v27532, e27533⟩ : ∃ x : Int, x = wl_shr (H r27521 (v27524.toNat)) v27529 := ⟨_, rfl⟩
  rw [← e27533]
  have b27534 : -9223372036854775808 ≤ v27532 ∧ v27532 ≤ 9223372036854775807 := by
    rw [e27533]
    exact wL_shr _ _
  refine wp_of e95 c95_14 (rw_lconst (pc' := 15) (z := 1) rfl rfl ?_)
  refine wp_of e95 c95_15 (rw_land (pc' := 16) rfl ?_)
  obtain ⟨v27535, e27536⟩ : ∃ x : Int, x = wl_and v27532 1 := ⟨_, rfl⟩
  rw [← e27536]
  have b27537 : -9223372036854775808 ≤ v27535 ∧ v27535 ≤ 9223372036854775807 := by
    rw [e27536]
    exact wL_and _ _
  refine wp_of e95 c95_16 (rw_lconst (pc' := 17) (z := 0) rfl rfl ?_)
  refine wp_of e95 c95_17 (rw_lcmp (pc' := 18) rfl ⟨by omega, by omega⟩ ⟨by omega, by omega⟩ ?_)
  have b27538 := wq_cmp_b v27535 0
  refine wp_of e95 c95_18 (rw_if_eq (p1 := 25) (p2 := 21) (by decide) rfl ⟨by omega, by omega⟩ (fun c27539 => ?_) (fun c27539 => ?_))
  · refine wp_of e95 c95_25 (rw_iconst (pc' := 26) rfl ?_)
    exact wp_zreturn e95 c95_26 rfl (by omega) ⟨rfl, rfl, 0, rfl, ⟨by omega, by omega⟩⟩
  · refine wp_of e95 c95_21 (rw_iconst (pc' := 22) rfl ?_)
    refine wp_of e95 c95_22 (rw_goto (p1 := 26) (by decide) ?_)
    exact wp_zreturn e95 c95_26 rfl (by omega) ⟨rfl, rfl, 1, rfl, ⟨by omega, by omega⟩⟩
/-! StrikeAwake$Census.numberOf(I)I -/
theorem e94 : wq_en 94 = some (4, 4, false, some FieldType.int) := rfl
theorem cg94_0 : mc_cd 94 0 = some (.iconst 0, 1) ∧ mc_cd 94 1 = some (.istore_n 2, 1) ∧ mc_cd 94 2 = some (.iconst 0, 1) ∧ mc_cd 94 3 = some (.istore_n 3, 1) ∧ mc_cd 94 4 = some (.iload_n 3, 1) ∧ mc_cd 94 5 = some (.sipush 20000, 3) ∧ mc_cd 94 8 = some (.if_icmp .ge 27, 3) ∧ mc_cd 94 11 = some (.aload_n 0, 1) := by decide +kernel
theorem c94_0 : mc_cd 94 0 = some (.iconst 0, 1) := cg94_0.1
theorem c94_1 : mc_cd 94 1 = some (.istore_n 2, 1) := cg94_0.2.1
theorem c94_2 : mc_cd 94 2 = some (.iconst 0, 1) := cg94_0.2.2.1
theorem c94_3 : mc_cd 94 3 = some (.istore_n 3, 1) := cg94_0.2.2.2.1
theorem c94_4 : mc_cd 94 4 = some (.iload_n 3, 1) := cg94_0.2.2.2.2.1
theorem c94_5 : mc_cd 94 5 = some (.sipush 20000, 3) := cg94_0.2.2.2.2.2.1
theorem c94_8 : mc_cd 94 8 = some (.if_icmp .ge 27, 3) := cg94_0.2.2.2.2.2.2.1
theorem c94_11 : mc_cd 94 11 = some (.aload_n 0, 1) := cg94_0.2.2.2.2.2.2.2
theorem cg94_12 : mc_cd 94 12 = some (.iload_n 3, 1) ∧ mc_cd 94 13 = some (.invokevirtual 113, 3) ∧ mc_cd 94 16 = some (.ifCond .eq 13, 3) ∧ mc_cd 94 19 = some (.iload_n 2, 1) ∧ mc_cd 94 20 = some (.iload_n 1, 1) ∧ mc_cd 94 21 = some (.if_icmp .ne 5, 3) ∧ mc_cd 94 24 = some (.iload_n 3, 1) ∧ mc_cd 94 25 = some (.ireturn, 1) := by decide +kernel
theorem c94_12 : mc_cd 94 12 = some (.iload_n 3, 1) := cg94_12.1
theorem c94_13 : mc_cd 94 13 = some (.invokevirtual 113, 3) := cg94_12.2.1
theorem c94_16 : mc_cd 94 16 = some (.ifCond .eq 13, 3) := cg94_12.2.2.1
theorem c94_19 : mc_cd 94 19 = some (.iload_n 2, 1) := cg94_12.2.2.2.1
theorem c94_20 : mc_cd 94 20 = some (.iload_n 1, 1) := cg94_12.2.2.2.2.1
theorem c94_21 : mc_cd 94 21 = some (.if_icmp .ne 5, 3) := cg94_12.2.2.2.2.2.1
theorem c94_24 : mc_cd 94 24 = some (.iload_n 3, 1) := cg94_12.2.2.2.2.2.2.1
theorem c94_25 : mc_cd 94 25 = some (.ireturn, 1) := cg94_12.2.2.2.2.2.2.2
theorem cg94_26 : mc_cd 94 26 = some (.iinc 2 1, 3) ∧ mc_cd 94 29 = some (.iinc 3 1, 3) ∧ mc_cd 94 32 = some (.goto (-28), 3) ∧ mc_cd 94 35 = some (.iconst 0, 1) ∧ mc_cd 94 36 = some (.ireturn, 1) := by decide +kernel
theorem c94_26 : mc_cd 94 26 = some (.iinc 2 1, 3) := cg94_26.1
theorem c94_29 : mc_cd 94 29 = some (.iinc 3 1, 3) := cg94_26.2.1
theorem c94_32 : mc_cd 94 32 = some (.goto (-28), 3) := cg94_26.2.2.1
theorem c94_35 : mc_cd 94 35 = some (.iconst 0, 1) := cg94_26.2.2.2.1
theorem c94_36 : mc_cd 94 36 = some (.ireturn, 1) := cg94_26.2.2.2.2
abbrev q_94 (r0 : Nat) (a1 : Int) (T : wq_T) (H : wq_H) : Option Value → wq_T → wq_H → Prop := fun r T' H' => T = T' ∧ H = H' ∧ ∃ z : Int, some (vI z) = r ∧ (0 ≤ z ∧ z ≤ 19999)
set_option maxHeartbeats 4000000 in
theorem s_94 {kt : Nat → Option mc_E} {T : wq_T} {H : wq_H} {r0 : Nat} {a1 : Int} (hW : WT T H) (g0 : T.2.2.2 r0 = some 12) (i1 : (-2147483648) ≤ a1 ∧ a1 ≤ 2147483647) : wpc kt 2 94 [.ref r0, vI a1] T H (q_94 r0 a1 T H) := by
  refine wp_enter e94 (Nat.le_of_ble_eq_true rfl) rfl ?_
  show wp _ _ 94 0 [(0, .ref r0), (1, vI a1)] [] _ H _
  refine wp_of e94 c94_0 (rw_iconst (pc' := 1) rfl ?_)
  refine wp_of e94 c94_1 (rw_istore_n (pc' := 2) (z := 0) (L' := [(2, vI 0), (0, .ref r0), (1, vI a1)]) rfl rfl rfl ?_)
  refine wp_of e94 c94_2 (rw_iconst (pc' := 3) rfl ?_)
  refine wp_of e94 c94_3 (rw_istore_n (pc' := 4) (z := 0) (L' := [(3, vI 0), (2, vI 0), (0, .ref r0), (1, vI a1)]) rfl rfl rfl ?_)
  have lp27745 : ∀ (n27746 : Nat) (v27748 : Int) (v27749 : Int), (0 ≤ v27748 ∧ v27748 ≤ 20000) → (0 ≤ v27749 ∧ v27749 ≤ 20000) → (v27749 ≤ v27748) → (20000 - v27748).toNat = n27746 → wp kt 1 94 4 [(3, vI v27748), (2, vI v27749), (0, .ref r0), (1, vI a1)] [] T H (q_94 r0 a1 T H) := by
    intro n27746
    induction n27746 using Nat.strongRecOn with
    | _ n27746 ih27747 =>
      intro v27748 v27749 b27752 b27753 x27754 m27755
      refine wp_of e94 c94_4 (rw_iload_n (pc' := 5) (z := v27748) rfl rfl ?_)
      refine wp_of e94 c94_5 (rw_sipush (pc' := 8) (z := 20000) rfl (by decide) ?_)
      refine wp_of e94 c94_8 (rw_icmp_ge (p1 := 35) (p2 := 11) (by decide) rfl ⟨by omega, by omega⟩ ⟨by omega, by omega⟩ (fun c27756 => ?_) (fun c27756 => ?_))
      · refine wp_of e94 c94_35 (rw_iconst (pc' := 36) rfl ?_)
        exact wp_ireturn e94 c94_36 rfl ⟨rfl, rfl, 0, rfl, ⟨by omega, by omega⟩⟩
      · refine wp_of e94 c94_11 (rw_aload_n (pc' := 12) (v := .ref r0) rfl rfl rfl ?_)
        refine wp_of e94 c94_12 (rw_iload_n (pc' := 13) (z := v27748) rfl rfl ?_)
        refine wp_of e94 c94_13 (xc_V (pc' := 16) (r := r0) (as := [vI v27748]) (st := []) (lm_4_113) rfl rfl (Nat.le_of_ble_eq_true rfl) hW g0 sh_12 (by decide) rfl (by decide) (s_95 hW g0 ⟨by omega, by omega⟩) (fun R27757 T27758 H27759 p27760 => ?_))
        obtain ⟨e27761, e27763, z27764, e27762, b27765⟩ := p27760
        subst e27761
        subst e27762
        subst e27763
        show wp _ _ 94 16 [(3, vI v27748), (2, vI v27749), (0, .ref r0), (1, vI a1)] [vI z27764] _ H _
        refine wp_of e94 c94_16 (rw_if_eq (p1 := 29) (p2 := 19) (by decide) rfl ⟨by omega, by omega⟩ (fun c27766 => ?_) (fun c27766 => ?_))
        · refine wp_of e94 c94_29 (rw_iinc (pc' := 32) (z := v27748) (L' := [(3, vI (v27748 + 1)), (2, vI v27749), (0, .ref r0), (1, vI a1)]) rfl rfl rfl rfl ?_)
          refine wp_of e94 c94_32 (rw_goto (p1 := 4) (by decide) ?_)
          exact wp_lc (ks := [3, 2, 0, 1]) (wl_c rfl (wl_c rfl (wl_c rfl (wl_c rfl wl_n)))) rfl (by decide) (ih27747 _ (by omega) (v27748 + 1) v27749 ⟨by omega, by omega⟩ ⟨by omega, by omega⟩ (by omega) rfl)
        · refine wp_of e94 c94_19 (rw_iload_n (pc' := 20) (z := v27749) rfl rfl ?_)
          refine wp_of e94 c94_20 (rw_iload_n (pc' := 21) (z := a1) rfl rfl ?_)
          refine wp_of e94 c94_21 (rw_icmp_ne (p1 := 26) (p2 := 24) (by decide) rfl ⟨by omega, by omega⟩ ⟨by omega, by omega⟩ (fun c27767 => ?_) (fun c27767 => ?_))
          · refine wp_of e94 c94_26 (rw_iinc (pc' := 29) (z := v27749) (L' := [(2, vI (v27749 + 1)), (3, vI v27748), (0, .ref r0), (1, vI a1)]) rfl rfl rfl rfl ?_)
            refine wp_of e94 c94_29 (rw_iinc (pc' := 32) (z := v27748) (L' := [(3, vI (v27748 + 1)), (2, vI (v27749 + 1)), (0, .ref r0), (1, vI a1)]) rfl rfl rfl rfl ?_)
            refine wp_of e94 c94_32 (rw_goto (p1 := 4) (by decide) ?_)
            exact wp_lc (ks := [3, 2, 0, 1]) (wl_c rfl (wl_c rfl (wl_c rfl (wl_c rfl wl_n)))) rfl (by decide) (ih27747 _ (by omega) (v27748 + 1) (v27749 + 1) ⟨by omega, by omega⟩ ⟨by omega, by omega⟩ (by omega) rfl)
          · refine wp_of e94 c94_24 (rw_iload_n (pc' := 25) (z := v27748) rfl rfl ?_)
            exact wp_ireturn e94 c94_25 rfl ⟨rfl, rfl, v27748, rfl, ⟨by omega, by omega⟩⟩
  exact wp_lc (ks := [3, 2, 0, 1]) (wl_c rfl (wl_c rfl (wl_c rfl (wl_c rfl wl_n)))) rfl (by decide) (lp27745 _ 0 0 ⟨by omega, by omega⟩ ⟨by omega, by omega⟩ (by omega) rfl)
/-! StrikeAwake$Parish.spanIn(II)I -/
theorem e96 : wq_en 96 = some (7, 5, false, some FieldType.int) := rfl
theorem cg96_0 : mc_cd 96 0 = some (.aload_n 0, 1) ∧ mc_cd 96 1 = some (.getfield 11, 3) ∧ mc_cd 96 4 = some (.iload_n 2, 1) ∧ mc_cd 96 5 = some (.aaload, 1) ∧ mc_cd 96 6 = some (.getfield 107, 3) ∧ mc_cd 96 9 = some (.istore_n 3, 1) ∧ mc_cd 96 10 = some (.aload_n 0, 1) ∧ mc_cd 96 11 = some (.getfield 11, 3) := by decide +kernel
theorem c96_0 : mc_cd 96 0 = some (.aload_n 0, 1) := cg96_0.1
theorem c96_1 : mc_cd 96 1 = some (.getfield 11, 3) := cg96_0.2.1
theorem c96_4 : mc_cd 96 4 = some (.iload_n 2, 1) := cg96_0.2.2.1
theorem c96_5 : mc_cd 96 5 = some (.aaload, 1) := cg96_0.2.2.2.1
theorem c96_6 : mc_cd 96 6 = some (.getfield 107, 3) := cg96_0.2.2.2.2.1
theorem c96_9 : mc_cd 96 9 = some (.istore_n 3, 1) := cg96_0.2.2.2.2.2.1
theorem c96_10 : mc_cd 96 10 = some (.aload_n 0, 1) := cg96_0.2.2.2.2.2.2.1
theorem c96_11 : mc_cd 96 11 = some (.getfield 11, 3) := cg96_0.2.2.2.2.2.2.2
theorem cg96_14 : mc_cd 96 14 = some (.iload_n 2, 1) ∧ mc_cd 96 15 = some (.aaload, 1) ∧ mc_cd 96 16 = some (.getfield 110, 3) ∧ mc_cd 96 19 = some (.istore 4, 2) ∧ mc_cd 96 21 = some (.iload_n 3, 1) ∧ mc_cd 96 22 = some (.ifCond .le 8, 3) ∧ mc_cd 96 25 = some (.iload 4, 2) ∧ mc_cd 96 27 = some (.ifCond .gt 5, 3) := by decide +kernel
theorem c96_14 : mc_cd 96 14 = some (.iload_n 2, 1) := cg96_14.1
theorem c96_15 : mc_cd 96 15 = some (.aaload, 1) := cg96_14.2.1
theorem c96_16 : mc_cd 96 16 = some (.getfield 110, 3) := cg96_14.2.2.1
theorem c96_19 : mc_cd 96 19 = some (.istore 4, 2) := cg96_14.2.2.2.1
theorem c96_21 : mc_cd 96 21 = some (.iload_n 3, 1) := cg96_14.2.2.2.2.1
theorem c96_22 : mc_cd 96 22 = some (.ifCond .le 8, 3) := cg96_14.2.2.2.2.2.1
theorem c96_25 : mc_cd 96 25 = some (.iload 4, 2) := cg96_14.2.2.2.2.2.2.1
theorem c96_27 : mc_cd 96 27 = some (.ifCond .gt 5, 3) := cg96_14.2.2.2.2.2.2.2
theorem cg96_30 : mc_cd 96 30 = some (.iconst (-1), 1) ∧ mc_cd 96 31 = some (.ireturn, 1) ∧ mc_cd 96 32 = some (.iload_n 1, 1) ∧ mc_cd 96 33 = some (.iload_n 3, 1) ∧ mc_cd 96 34 = some (.idiv, 1) ∧ mc_cd 96 35 = some (.iload 4, 2) ∧ mc_cd 96 37 = some (.irem, 1) ∧ mc_cd 96 38 = some (.ireturn, 1) := by decide +kernel
theorem c96_30 : mc_cd 96 30 = some (.iconst (-1), 1) := cg96_30.1
theorem c96_31 : mc_cd 96 31 = some (.ireturn, 1) := cg96_30.2.1
theorem c96_32 : mc_cd 96 32 = some (.iload_n 1, 1) := cg96_30.2.2.1
theorem c96_33 : mc_cd 96 33 = some (.iload_n 3, 1) := cg96_30.2.2.2.1
theorem c96_34 : mc_cd 96 34 = some (.idiv, 1) := cg96_30.2.2.2.2.1
theorem c96_35 : mc_cd 96 35 = some (.iload 4, 2) := cg96_30.2.2.2.2.2.1
theorem c96_37 : mc_cd 96 37 = some (.irem, 1) := cg96_30.2.2.2.2.2.2.1
theorem c96_38 : mc_cd 96 38 = some (.ireturn, 1) := cg96_30.2.2.2.2.2.2.2
abbrev q_96 (r0 : Nat) (a1 : Int) (a2 : Int) (T : wq_T) (H : wq_H) : Option Value → wq_T → wq_H → Prop := fun r T' H' => T = T' ∧ H = H' ∧ ∃ z : Int, some (vI z) = r ∧ ((-1) ≤ z ∧ z ≤ 39)
set_option maxHeartbeats 4000000 in
theorem s_96 {kt : Nat → Option mc_E} {T : wq_T} {H : wq_H} {r0 : Nat} {a1 : Int} {a2 : Int} (hW : WT T H) (g0 : T.2.2.2 r0 = some 27) (i1 : 0 ≤ a1 ∧ a1 ≤ 2147483647) (i2 : 0 ≤ a2 ∧ a2 ≤ 5) : wpc kt 1 96 [.ref r0, vI a1, vI a2] T H (q_96 r0 a1 a2 T H) := by
  refine wp_enter e96 (Nat.le_of_ble_eq_true rfl) rfl ?_
  show wp _ _ 96 0 [(0, .ref r0), (1, vI a1), (2, vI a2)] [] _ H _
  refine wp_of e96 c96_0 (rw_aload_n (pc' := 1) (v := .ref r0) rfl rfl rfl ?_)
  refine wp_of e96 c96_1 (xg_R (pc' := 4) lf_7_11 hW g0 sh_27 (by decide) (by decide) ty_27_0 rfl rfl (fun r27784 q27785 g27786 => ?_))
  refine wp_of e96 c96_4 (rw_iload_n (pc' := 5) (z := a2) rfl rfl ?_)
  refine wp_of e96 c96_5 (xa_R (pc' := 6) (by decide) hW g27786 sh_28 (by decide) (ty_28 _) (by omega) (by omega) rfl (fun r27787 q27788 g27789 => ?_))
  refine wp_of e96 c96_6 (xg_I (pc' := 9) lf_7_107 hW g27789 sh_35 (by decide) (by decide) ty_35_17 rfl rfl (fun b27790 b27791 => ?_))
  refine wp_of e96 c96_9 (rw_istore_n (pc' := 10) (z := H r27787 17) (L' := [(3, vI (H r27787 17)), (0, .ref r0), (1, vI a1), (2, vI a2)]) rfl rfl rfl ?_)
  refine wp_of e96 c96_10 (rw_aload_n (pc' := 11) (v := .ref r0) rfl rfl rfl ?_)
  refine wp_of e96 c96_11 (xg_K (pc' := 14) lf_7_11 hW g0 sh_27 (by decide) (by decide) rfl q27785 rfl ?_)
  refine wp_of e96 c96_14 (rw_iload_n (pc' := 15) (z := a2) rfl rfl ?_)
  refine wp_of e96 c96_15 (xa_K (pc' := 16) (by decide) hW g27786 sh_28 (by decide) (by omega) (by omega) q27788 rfl ?_)
  refine wp_of e96 c96_16 (xg_I (pc' := 19) lf_7_110 hW g27789 sh_35 (by decide) (by decide) ty_35_15 rfl rfl (fun b27792 b27793 => ?_))
  refine wp_of e96 c96_19 (rw_istore (pc' := 21) (z := H r27787 15) (L' := [(4, vI (H r27787 15)), (3, vI (H r27787 17)), (0, .ref r0), (1, vI a1), (2, vI a2)]) rfl rfl rfl ?_)
  refine wp_of e96 c96_21 (rw_iload_n (pc' := 22) (z := H r27787 17) rfl rfl ?_)
  refine wp_of e96 c96_22 (rw_if_le (p1 := 30) (p2 := 25) (by decide) rfl ⟨by omega, by omega⟩ (fun c27794 => ?_) (fun c27794 => ?_))
  · refine wp_of e96 c96_30 (rw_iconst (pc' := 31) rfl ?_)
    exact wp_ireturn e96 c96_31 rfl ⟨rfl, rfl, -1, rfl, ⟨by omega, by omega⟩⟩
  · refine wp_of e96 c96_25 (rw_iload (pc' := 27) (z := H r27787 15) rfl rfl ?_)
    refine wp_of e96 c96_27 (rw_if_gt (p1 := 32) (p2 := 30) (by decide) rfl ⟨by omega, by omega⟩ (fun c27795 => ?_) (fun c27795 => ?_))
    · refine wp_of e96 c96_32 (rw_iload_n (pc' := 33) (z := a1) rfl rfl ?_)
      refine wp_of e96 c96_33 (rw_iload_n (pc' := 34) (z := H r27787 17) rfl rfl ?_)
      refine wp_of e96 c96_34 (rw_idiv (pc' := 35) rfl ⟨by omega, by omega⟩ (by omega) ?_)
      obtain ⟨v27796, e27797⟩ : ∃ x : Int, x = wq_div a1 (H r27787 17) := ⟨_, rfl⟩
      rw [← e27797]
      have b27798 : 0 ≤ v27796 ∧ v27796 ≤ a1 := by
        rw [e27797]
        rw [wq_div_e ⟨by omega, by omega⟩ ⟨by omega, by omega⟩]; exact ⟨Int.ediv_nonneg (by omega) (by omega), Int.ediv_le_self _ (by omega)⟩
      refine wp_of e96 c96_35 (rw_iload (pc' := 37) (z := H r27787 15) rfl rfl ?_)
      refine wp_of e96 c96_37 (rw_irem (pc' := 38) rfl ⟨by omega, by omega⟩ (by omega) ?_)
      obtain ⟨v27799, e27800⟩ : ∃ x : Int, x = wq_rem v27796 (H r27787 15) := ⟨_, rfl⟩
      rw [← e27800]
      have b27801 : 0 ≤ v27799 ∧ v27799 < (H r27787 15) := by
        rw [e27800]
        rw [wq_rem_e ⟨by omega, by omega⟩ ⟨by omega, by omega⟩]; exact ⟨Int.emod_nonneg _ (by omega), Int.emod_lt_of_pos _ (by omega)⟩
      exact wp_ireturn e96 c96_38 rfl ⟨rfl, rfl, v27799, rfl, ⟨by omega, by omega⟩⟩
    · refine wp_of e96 c96_30 (rw_iconst (pc' := 31) rfl ?_)
      exact wp_ireturn e96 c96_31 rfl ⟨rfl, rfl, -1, rfl, ⟨by omega, by omega⟩⟩
/-! StrikeAwake.world(II)I -/
theorem e93 : wq_en 93 = some (0, 4, false, some FieldType.int) := rfl
theorem cg93_0 : mc_cd 93 0 = some (.aload_n 0, 1) ∧ mc_cd 93 1 = some (.aload_n 0, 1) ∧ mc_cd 93 2 = some (.iload_n 2, 1) ∧ mc_cd 93 3 = some (.invokevirtual 105, 3) ∧ mc_cd 93 6 = some (.ifCond .eq 11, 3) ∧ mc_cd 93 9 = some (.iload_n 1, 1) ∧ mc_cd 93 10 = some (.ifCond .lt 7, 3) ∧ mc_cd 93 13 = some (.iconst 1, 1) := by decide +kernel
theorem c93_0 : mc_cd 93 0 = some (.aload_n 0, 1) := cg93_0.1
theorem c93_1 : mc_cd 93 1 = some (.aload_n 0, 1) := cg93_0.2.1
theorem c93_2 : mc_cd 93 2 = some (.iload_n 2, 1) := cg93_0.2.2.1
theorem c93_3 : mc_cd 93 3 = some (.invokevirtual 105, 3) := cg93_0.2.2.2.1
theorem c93_6 : mc_cd 93 6 = some (.ifCond .eq 11, 3) := cg93_0.2.2.2.2.1
theorem c93_9 : mc_cd 93 9 = some (.iload_n 1, 1) := cg93_0.2.2.2.2.2.1
theorem c93_10 : mc_cd 93 10 = some (.ifCond .lt 7, 3) := cg93_0.2.2.2.2.2.2.1
theorem c93_13 : mc_cd 93 13 = some (.iconst 1, 1) := cg93_0.2.2.2.2.2.2.2
theorem cg93_14 : mc_cd 93 14 = some (.goto 4, 3) ∧ mc_cd 93 17 = some (.iconst 0, 1) ∧ mc_cd 93 18 = some (.invokevirtual 174, 3) ∧ mc_cd 93 21 = some (.istore_n 3, 1) ∧ mc_cd 93 22 = some (.iload_n 3, 1) ∧ mc_cd 93 23 = some (.ifCond .eq 9, 3) ∧ mc_cd 93 26 = some (.aload_n 0, 1) ∧ mc_cd 93 27 = some (.iload_n 3, 1) := by decide +kernel
theorem c93_14 : mc_cd 93 14 = some (.goto 4, 3) := cg93_14.1
theorem c93_17 : mc_cd 93 17 = some (.iconst 0, 1) := cg93_14.2.1
theorem c93_18 : mc_cd 93 18 = some (.invokevirtual 174, 3) := cg93_14.2.2.1
theorem c93_21 : mc_cd 93 21 = some (.istore_n 3, 1) := cg93_14.2.2.2.1
theorem c93_22 : mc_cd 93 22 = some (.iload_n 3, 1) := cg93_14.2.2.2.2.1
theorem c93_23 : mc_cd 93 23 = some (.ifCond .eq 9, 3) := cg93_14.2.2.2.2.2.1
theorem c93_26 : mc_cd 93 26 = some (.aload_n 0, 1) := cg93_14.2.2.2.2.2.2.1
theorem c93_27 : mc_cd 93 27 = some (.iload_n 3, 1) := cg93_14.2.2.2.2.2.2.2
theorem cg93_28 : mc_cd 93 28 = some (.invokevirtual 70, 3) ∧ mc_cd 93 31 = some (.ireturn, 1) ∧ mc_cd 93 32 = some (.iload_n 1, 1) ∧ mc_cd 93 33 = some (.aload_n 0, 1) ∧ mc_cd 93 34 = some (.getfield 30, 3) ∧ mc_cd 93 37 = some (.getfield 177, 3) ∧ mc_cd 93 40 = some (.if_icmp .lt 9, 3) ∧ mc_cd 93 43 = some (.aload_n 0, 1) := by decide +kernel
theorem c93_28 : mc_cd 93 28 = some (.invokevirtual 70, 3) := cg93_28.1
theorem c93_31 : mc_cd 93 31 = some (.ireturn, 1) := cg93_28.2.1
theorem c93_32 : mc_cd 93 32 = some (.iload_n 1, 1) := cg93_28.2.2.1
theorem c93_33 : mc_cd 93 33 = some (.aload_n 0, 1) := cg93_28.2.2.2.1
theorem c93_34 : mc_cd 93 34 = some (.getfield 30, 3) := cg93_28.2.2.2.2.1
theorem c93_37 : mc_cd 93 37 = some (.getfield 177, 3) := cg93_28.2.2.2.2.2.1
theorem c93_40 : mc_cd 93 40 = some (.if_icmp .lt 9, 3) := cg93_28.2.2.2.2.2.2.1
theorem c93_43 : mc_cd 93 43 = some (.aload_n 0, 1) := cg93_28.2.2.2.2.2.2.2
theorem cg93_44 : mc_cd 93 44 = some (.iconst 1, 1) ∧ mc_cd 93 45 = some (.invokevirtual 70, 3) ∧ mc_cd 93 48 = some (.ireturn, 1) ∧ mc_cd 93 49 = some (.aload_n 0, 1) ∧ mc_cd 93 50 = some (.aload_n 0, 1) ∧ mc_cd 93 51 = some (.getfield 51, 3) ∧ mc_cd 93 54 = some (.aload_n 0, 1) ∧ mc_cd 93 55 = some (.getfield 30, 3) := by decide +kernel
theorem c93_44 : mc_cd 93 44 = some (.iconst 1, 1) := cg93_44.1
theorem c93_45 : mc_cd 93 45 = some (.invokevirtual 70, 3) := cg93_44.2.1
theorem c93_48 : mc_cd 93 48 = some (.ireturn, 1) := cg93_44.2.2.1
theorem c93_49 : mc_cd 93 49 = some (.aload_n 0, 1) := cg93_44.2.2.2.1
theorem c93_50 : mc_cd 93 50 = some (.aload_n 0, 1) := cg93_44.2.2.2.2.1
theorem c93_51 : mc_cd 93 51 = some (.getfield 51, 3) := cg93_44.2.2.2.2.2.1
theorem c93_54 : mc_cd 93 54 = some (.aload_n 0, 1) := cg93_44.2.2.2.2.2.2.1
theorem c93_55 : mc_cd 93 55 = some (.getfield 30, 3) := cg93_44.2.2.2.2.2.2.2
theorem cg93_58 : mc_cd 93 58 = some (.iload_n 1, 1) ∧ mc_cd 93 59 = some (.invokevirtual 180, 3) ∧ mc_cd 93 62 = some (.iload_n 2, 1) ∧ mc_cd 93 63 = some (.invokevirtual 183, 3) ∧ mc_cd 93 66 = some (.invokevirtual 99, 3) ∧ mc_cd 93 69 = some (.ireturn, 1) := by decide +kernel
theorem c93_58 : mc_cd 93 58 = some (.iload_n 1, 1) := cg93_58.1
theorem c93_59 : mc_cd 93 59 = some (.invokevirtual 180, 3) := cg93_58.2.1
theorem c93_62 : mc_cd 93 62 = some (.iload_n 2, 1) := cg93_58.2.2.1
theorem c93_63 : mc_cd 93 63 = some (.invokevirtual 183, 3) := cg93_58.2.2.2.1
theorem c93_66 : mc_cd 93 66 = some (.invokevirtual 99, 3) := cg93_58.2.2.2.2.1
theorem c93_69 : mc_cd 93 69 = some (.ireturn, 1) := cg93_58.2.2.2.2.2
/-! StrikeAwake.weights()J -/
theorem e97 : wq_en 97 = some (0, 2, false, some FieldType.long) := rfl
theorem cg97_0 : mc_cd 97 0 = some (.aload_n 0, 1) ∧ mc_cd 97 1 = some (.aload_n 0, 1) ∧ mc_cd 97 2 = some (.getfield 58, 3) ∧ mc_cd 97 5 = some (.invokevirtual 174, 3) ∧ mc_cd 97 8 = some (.istore_n 1, 1) ∧ mc_cd 97 9 = some (.iload_n 1, 1) ∧ mc_cd 97 10 = some (.ifCond .eq 10, 3) ∧ mc_cd 97 13 = some (.aload_n 0, 1) := by decide +kernel
theorem c97_0 : mc_cd 97 0 = some (.aload_n 0, 1) := cg97_0.1
theorem c97_1 : mc_cd 97 1 = some (.aload_n 0, 1) := cg97_0.2.1
theorem c97_2 : mc_cd 97 2 = some (.getfield 58, 3) := cg97_0.2.2.1
theorem c97_5 : mc_cd 97 5 = some (.invokevirtual 174, 3) := cg97_0.2.2.2.1
theorem c97_8 : mc_cd 97 8 = some (.istore_n 1, 1) := cg97_0.2.2.2.2.1
theorem c97_9 : mc_cd 97 9 = some (.iload_n 1, 1) := cg97_0.2.2.2.2.2.1
theorem c97_10 : mc_cd 97 10 = some (.ifCond .eq 10, 3) := cg97_0.2.2.2.2.2.2.1
theorem c97_13 : mc_cd 97 13 = some (.aload_n 0, 1) := cg97_0.2.2.2.2.2.2.2
theorem cg97_14 : mc_cd 97 14 = some (.iload_n 1, 1) ∧ mc_cd 97 15 = some (.invokevirtual 70, 3) ∧ mc_cd 97 18 = some (.i2l, 1) ∧ mc_cd 97 19 = some (.lreturn, 1) ∧ mc_cd 97 20 = some (.aload_n 0, 1) ∧ mc_cd 97 21 = some (.iconst 0, 1) ∧ mc_cd 97 22 = some (.putfield 102, 3) ∧ mc_cd 97 25 = some (.aload_n 0, 1) := by decide +kernel
theorem c97_14 : mc_cd 97 14 = some (.iload_n 1, 1) := cg97_14.1
theorem c97_15 : mc_cd 97 15 = some (.invokevirtual 70, 3) := cg97_14.2.1
theorem c97_18 : mc_cd 97 18 = some (.i2l, 1) := cg97_14.2.2.1
theorem c97_19 : mc_cd 97 19 = some (.lreturn, 1) := cg97_14.2.2.2.1
theorem c97_20 : mc_cd 97 20 = some (.aload_n 0, 1) := cg97_14.2.2.2.2.1
theorem c97_21 : mc_cd 97 21 = some (.iconst 0, 1) := cg97_14.2.2.2.2.2.1
theorem c97_22 : mc_cd 97 22 = some (.putfield 102, 3) := cg97_14.2.2.2.2.2.2.1
theorem c97_25 : mc_cd 97 25 = some (.aload_n 0, 1) := cg97_14.2.2.2.2.2.2.2
theorem cg97_26 : mc_cd 97 26 = some (.getfield 30, 3) ∧ mc_cd 97 29 = some (.getfield 187, 3) ∧ mc_cd 97 32 = some (.lreturn, 1) := by decide +kernel
theorem c97_26 : mc_cd 97 26 = some (.getfield 30, 3) := cg97_26.1
theorem c97_29 : mc_cd 97 29 = some (.getfield 187, 3) := cg97_26.2.1
theorem c97_32 : mc_cd 97 32 = some (.lreturn, 1) := cg97_26.2.2
