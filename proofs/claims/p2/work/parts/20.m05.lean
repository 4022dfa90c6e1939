/-! methods (own work, written by wip/gen2/sx.py) -/
/-! StrikeAwake$Walk.isWorld(LStrikeAwake$Parish;)Z -/
theorem e79 : wq_en 79 = some (3, 2, false, some FieldType.boolean) := rfl
theorem c79_0 : mc_cd 79 0 = some (.aload_n 0, 1) := by decide +kernel
theorem c79_1 : mc_cd 79 1 = some (.invokevirtual 118, 3) := by decide +kernel
theorem c79_4 : mc_cd 79 4 = some (.ifCond .ne 17, 3) := by decide +kernel
theorem c79_7 : mc_cd 79 7 = some (.aload_n 0, 1) := by decide +kernel
theorem c79_8 : mc_cd 79 8 = some (.aload_n 1, 1) := by decide +kernel
theorem c79_9 : mc_cd 79 9 = some (.invokevirtual 122, 3) := by decide +kernel
theorem c79_12 : mc_cd 79 12 = some (.bipush 24, 2) := by decide +kernel
theorem c79_14 : mc_cd 79 14 = some (.if_icmp .ne 7, 3) := by decide +kernel
theorem c79_17 : mc_cd 79 17 = some (.iconst 1, 1) := by decide +kernel
theorem c79_18 : mc_cd 79 18 = some (.goto 4, 3) := by decide +kernel
theorem c79_21 : mc_cd 79 21 = some (.iconst 0, 1) := by decide +kernel
theorem c79_22 : mc_cd 79 22 = some (.ireturn, 1) := by decide +kernel
abbrev q_79 (r0 : Nat) (r1 : Nat) (T : wq_T) (H : wq_H) : Option Value → wq_T → wq_H → Prop := fun r T' H' => T = T' ∧ H = H' ∧ ∃ z : Int, some (vI z) = r ∧ (0 ≤ z ∧ z ≤ 1)
set_option maxHeartbeats 4000000 in
theorem s_79 {kt : Nat → Option mc_E} {T : wq_T} {H : wq_H} {r0 : Nat} {r1 : Nat} (hW : WT T H) (g0 : T.2.2.2 r0 = some 6) (g1 : T.2.2.2 r1 = some 27) : wpc kt 3 79 [.ref r0, .ref r1] T H (q_79 r0 r1 T H) := by
  refine wp_enter e79 (Nat.le_of_ble_eq_true rfl) rfl ?_
  show wp _ _ 79 0 [(0, .ref r0), (1, .ref r1)] [] _ H _
  refine wp_of e79 c79_0 (rw_aload_n (pc' := 1) (v := .ref r0) rfl rfl rfl ?_)
  refine wp_of e79 c79_1 (xc_V (pc' := 4) (r := r0) (as := []) (st := []) (lm_3_118) rfl rfl (Nat.le_of_ble_eq_true rfl) hW g0 sh_6 (by decide) rfl (by decide) (s_80 hW g0) (fun R20589 T20590 H20591 p20592 => ?_))
  obtain ⟨e20593, e20595, z20596, e20594, b20597⟩ := p20592
  subst e20593
  subst e20594
  subst e20595
  show wp _ _ 79 4 [(0, .ref r0), (1, .ref r1)] [vI z20596] _ H _
  refine wp_of e79 c79_4 (rw_if_ne (p1 := 21) (p2 := 7) (by decide) rfl ⟨by omega, by omega⟩ (fun c20598 => ?_) (fun c20598 => ?_))
  · refine wp_of e79 c79_21 (rw_iconst (pc' := 22) rfl ?_)
    exact wp_zreturn e79 c79_22 rfl (by omega) ⟨rfl, rfl, 0, rfl, ⟨by omega, by omega⟩⟩
  · refine wp_of e79 c79_7 (rw_aload_n (pc' := 8) (v := .ref r0) rfl rfl rfl ?_)
    refine wp_of e79 c79_8 (rw_aload_n (pc' := 9) (v := .ref r1) rfl rfl rfl ?_)
    refine wp_of e79 c79_9 (xc_V (pc' := 12) (r := r0) (as := [.ref r1]) (st := []) (lm_3_122) rfl rfl (Nat.le_of_ble_eq_true rfl) hW g0 sh_6 (by decide) rfl (by decide) (s_81 hW g0 g1) (fun R20599 T20600 H20601 p20602 => ?_))
    obtain ⟨e20603, e20605, z20606, e20604, b20607⟩ := p20602
    subst e20603
    subst e20604
    subst e20605
    show wp _ _ 79 12 [(0, .ref r0), (1, .ref r1)] [vI z20606] _ H _
    refine wp_of e79 c79_12 (rw_bipush (pc' := 14) (z := 24) rfl (by decide) ?_)
    refine wp_of e79 c79_14 (rw_icmp_ne (p1 := 21) (p2 := 17) (by decide) rfl ⟨by omega, by omega⟩ ⟨by omega, by omega⟩ (fun c20608 => ?_) (fun c20608 => ?_))
    · refine wp_of e79 c79_21 (rw_iconst (pc' := 22) rfl ?_)
      exact wp_zreturn e79 c79_22 rfl (by omega) ⟨rfl, rfl, 0, rfl, ⟨by omega, by omega⟩⟩
    · refine wp_of e79 c79_17 (rw_iconst (pc' := 18) rfl ?_)
      refine wp_of e79 c79_18 (rw_goto (p1 := 22) (by decide) ?_)
      exact wp_zreturn e79 c79_22 rfl (by omega) ⟨rfl, rfl, 1, rfl, ⟨by omega, by omega⟩⟩
/-! StrikeAwake.agrees()I -/
theorem e78 : wq_en 78 = some (0, 2, false, some FieldType.int) := rfl
theorem c78_0 : mc_cd 78 0 = some (.aload_n 0, 1) := by decide +kernel
theorem c78_1 : mc_cd 78 1 = some (.aload_n 0, 1) := by decide +kernel
theorem c78_2 : mc_cd 78 2 = some (.getfield 58, 3) := by decide +kernel
theorem c78_5 : mc_cd 78 5 = some (.invokevirtual 155, 3) := by decide +kernel
theorem c78_8 : mc_cd 78 8 = some (.istore_n 1, 1) := by decide +kernel
theorem c78_9 : mc_cd 78 9 = some (.iload_n 1, 1) := by decide +kernel
theorem c78_10 : mc_cd 78 10 = some (.ifCond .eq 9, 3) := by decide +kernel
theorem c78_13 : mc_cd 78 13 = some (.aload_n 0, 1) := by decide +kernel
theorem c78_14 : mc_cd 78 14 = some (.iload_n 1, 1) := by decide +kernel
theorem c78_15 : mc_cd 78 15 = some (.invokevirtual 70, 3) := by decide +kernel
theorem c78_18 : mc_cd 78 18 = some (.ireturn, 1) := by decide +kernel
theorem c78_19 : mc_cd 78 19 = some (.aload_n 0, 1) := by decide +kernel
theorem c78_20 : mc_cd 78 20 = some (.aload_n 0, 1) := by decide +kernel
theorem c78_21 : mc_cd 78 21 = some (.getfield 23, 3) := by decide +kernel
theorem c78_24 : mc_cd 78 24 = some (.aload_n 0, 1) := by decide +kernel
theorem c78_25 : mc_cd 78 25 = some (.getfield 51, 3) := by decide +kernel
theorem c78_28 : mc_cd 78 28 = some (.invokevirtual 170, 3) := by decide +kernel
theorem c78_31 : mc_cd 78 31 = some (.ifCond .eq 7, 3) := by decide +kernel
theorem c78_34 : mc_cd 78 34 = some (.iconst 1, 1) := by decide +kernel
theorem c78_35 : mc_cd 78 35 = some (.goto 4, 3) := by decide +kernel
theorem c78_38 : mc_cd 78 38 = some (.iconst 0, 1) := by decide +kernel
theorem c78_39 : mc_cd 78 39 = some (.invokevirtual 99, 3) := by decide +kernel
theorem c78_42 : mc_cd 78 42 = some (.ireturn, 1) := by decide +kernel
abbrev q_78 (r0 : Nat) (T : wq_T) (H : wq_H) : Option Value → wq_T → wq_H → Prop := fun r T' H' => T = T' ∧ WT T H' ∧ wfr [(1, 10), (6, 5), (8, 999), (10, 999), (9, 999), (7, 999), (11, 999)] T H H' ∧ ∃ z : Int, some (vI z) = r ∧ ((-2147483648) ≤ z ∧ z ≤ 2147483647)
set_option maxHeartbeats 4000000 in
theorem s_78 {kt : Nat → Option mc_E} {T : wq_T} {H : wq_H} {r0 : Nat} (hW : WT T H) (g0 : T.2.2.2 r0 = some 1) : wpc kt 5 78 [.ref r0] T H (q_78 r0 T H) := by
  refine wp_enter e78 (Nat.le_of_ble_eq_true rfl) rfl ?_
  have f0 : wfr [(1, 10), (6, 5), (8, 999), (10, 999), (9, 999), (7, 999), (11, 999)] T H H := wfr.rf
  show wp _ _ 78 0 [(0, .ref r0)] [] _ H _
  refine wp_of e78 c78_0 (rw_aload_n (pc' := 1) (v := .ref r0) rfl rfl rfl ?_)
  refine wp_of e78 c78_1 (rw_aload_n (pc' := 2) (v := .ref r0) rfl rfl rfl ?_)
  refine wp_of e78 c78_2 (xg_I (pc' := 5) lf_0_58 hW g0 sh_1 (by decide) (by decide) ty_1_8 rfl rfl (fun b20673 b20674 => ?_))
  refine wp_of e78 c78_5 (xc_V (pc' := 8) (r := r0) (as := [vI (H r0 8)]) (st := []) (lm_0_155) rfl rfl (Nat.le_of_ble_eq_true rfl) hW g0 sh_1 (by decide) rfl (by decide) (s_67 hW g0 ⟨by omega, by omega⟩) (fun R20675 T20676 H20677 p20678 => ?_))
  obtain ⟨e20679, w20681, f20682, z20684, e20680, b20685, p20683⟩ := p20678
  subst e20679
  subst e20680
  have f20686 := f0.tr f20682 rfl
  show wp _ _ 78 8 [(0, .ref r0)] [vI z20684] _ H20677 _
  refine wp_of e78 c78_8 (rw_istore_n (pc' := 9) (z := z20684) (L' := [(1, vI z20684), (0, .ref r0)]) rfl rfl rfl ?_)
  refine wp_of e78 c78_9 (rw_iload_n (pc' := 10) (z := z20684) rfl rfl ?_)
  refine wp_of e78 c78_10 (rw_if_eq (p1 := 19) (p2 := 13) (by decide) rfl ⟨by omega, by omega⟩ (fun c20687 => ?_) (fun c20687 => ?_))
  · refine wp_of e78 c78_19 (rw_aload_n (pc' := 20) (v := .ref r0) rfl rfl rfl ?_)
    refine wp_of e78 c78_20 (rw_aload_n (pc' := 21) (v := .ref r0) rfl rfl rfl ?_)
    refine wp_of e78 c78_21 (xg_R (pc' := 24) lf_0_23 w20681 g0 sh_1 (by decide) (by decide) ty_1_2 rfl rfl (fun r20688 q20689 g20690 => ?_))
    refine wp_of e78 c78_24 (rw_aload_n (pc' := 25) (v := .ref r0) rfl rfl rfl ?_)
    refine wp_of e78 c78_25 (xg_R (pc' := 28) lf_0_51 w20681 g0 sh_1 (by decide) (by decide) ty_1_6 rfl rfl (fun r20691 q20692 g20693 => ?_))
    refine wp_of e78 c78_28 (xc_V (pc' := 31) (r := r20688) (as := [.ref r20691]) (st := [.ref r0]) (lm_0_170) rfl rfl (Nat.le_of_ble_eq_true rfl) w20681 g20690 sh_6 (by decide) rfl (by decide) (s_79 w20681 g20690 g20693) (fun R20694 T20695 H20696 p20697 => ?_))
    obtain ⟨e20698, e20700, z20701, e20699, b20702⟩ := p20697
    subst e20698
    subst e20699
    subst e20700
    show wp _ _ 78 31 [(1, vI z20684), (0, .ref r0)] [vI z20701, .ref r0] _ H20677 _
    refine wp_of e78 c78_31 (rw_if_eq (p1 := 38) (p2 := 34) (by decide) rfl ⟨by omega, by omega⟩ (fun c20703 => ?_) (fun c20703 => ?_))
    · refine wp_of e78 c78_38 (rw_iconst (pc' := 39) rfl ?_)
      refine wp_of e78 c78_39 (xc_V (pc' := 42) (r := r0) (as := [vI 0]) (st := []) (lm_0_99) rfl rfl (Nat.le_of_ble_eq_true rfl) w20681 g0 sh_1 (by decide) rfl (by decide) (s_51 w20681 g0 ⟨by omega, by omega⟩) (fun R20704 T20705 H20706 p20707 => ?_))
      obtain ⟨e20708, w20710, f20711, z20712, e20709, b20713⟩ := p20707
      subst e20708
      subst e20709
      have f20714 := f20686.tr f20711 rfl
      show wp _ _ 78 42 [(1, vI z20684), (0, .ref r0)] [vI z20712] _ H20706 _
      exact wp_ireturn e78 c78_42 rfl ⟨rfl, w20710, f20714, z20712, rfl, ⟨by omega, by omega⟩⟩
    · refine wp_of e78 c78_34 (rw_iconst (pc' := 35) rfl ?_)
      refine wp_of e78 c78_35 (rw_goto (p1 := 39) (by decide) ?_)
      refine wp_of e78 c78_39 (xc_V (pc' := 42) (r := r0) (as := [vI 1]) (st := []) (lm_0_99) rfl rfl (Nat.le_of_ble_eq_true rfl) w20681 g0 sh_1 (by decide) rfl (by decide) (s_51 w20681 g0 ⟨by omega, by omega⟩) (fun R20715 T20716 H20717 p20718 => ?_))
      obtain ⟨e20719, w20721, f20722, z20723, e20720, b20724⟩ := p20718
      subst e20719
      subst e20720
      have f20725 := f20686.tr f20722 rfl
      show wp _ _ 78 42 [(1, vI z20684), (0, .ref r0)] [vI z20723] _ H20717 _
      exact wp_ireturn e78 c78_42 rfl ⟨rfl, w20721, f20725, z20723, rfl, ⟨by omega, by omega⟩⟩
  · refine wp_of e78 c78_13 (rw_aload_n (pc' := 14) (v := .ref r0) rfl rfl rfl ?_)
    refine wp_of e78 c78_14 (rw_iload_n (pc' := 15) (z := z20684) rfl rfl ?_)
    refine wp_of e78 c78_15 (xc_V (pc' := 18) (r := r0) (as := [vI z20684]) (st := []) (lm_0_70) rfl rfl (Nat.le_of_ble_eq_true rfl) w20681 g0 sh_1 (by decide) rfl (by decide) (s_12 w20681 g0 ⟨by omega, by omega⟩) (fun R20726 T20727 H20728 p20729 => ?_))
    obtain ⟨e20730, w20732, f20733, z20734, e20731, b20735⟩ := p20729
    subst e20730
    subst e20731
    have f20736 := f20686.tr f20733 rfl
    show wp _ _ 78 18 [(1, vI z20684), (0, .ref r0)] [vI z20734] _ H20728 _
    exact wp_ireturn e78 c78_18 rfl ⟨rfl, w20732, f20736, z20734, rfl, ⟨by omega, by omega⟩⟩
/-! StrikeAwake.barOfLots(Z)I -/
theorem e84 : wq_en 84 = some (0, 2, false, some FieldType.int) := rfl
theorem c84_0 : mc_cd 84 0 = some (.iload_n 1, 1) := by decide +kernel
theorem c84_1 : mc_cd 84 1 = some (.ifCond .ne 5, 3) := by decide +kernel
theorem c84_4 : mc_cd 84 4 = some (.iconst 1, 1) := by decide +kernel
theorem c84_5 : mc_cd 84 5 = some (.ireturn, 1) := by decide +kernel
theorem c84_6 : mc_cd 84 6 = some (.aload_n 0, 1) := by decide +kernel
theorem c84_7 : mc_cd 84 7 = some (.getfield 51, 3) := by decide +kernel
theorem c84_10 : mc_cd 84 10 = some (.getfield 141, 3) := by decide +kernel
theorem c84_13 : mc_cd 84 13 = some (.ldc2_w 348, 3) := by decide +kernel
theorem c84_16 : mc_cd 84 16 = some (.lcmp, 1) := by decide +kernel
theorem c84_17 : mc_cd 84 17 = some (.ifCond .le 7, 3) := by decide +kernel
theorem c84_20 : mc_cd 84 20 = some (.iconst 3, 1) := by decide +kernel
theorem c84_21 : mc_cd 84 21 = some (.goto 4, 3) := by decide +kernel
theorem c84_24 : mc_cd 84 24 = some (.iconst 0, 1) := by decide +kernel
theorem c84_25 : mc_cd 84 25 = some (.ireturn, 1) := by decide +kernel
abbrev q_84 (r0 : Nat) (a1 : Int) (T : wq_T) (H : wq_H) : Option Value → wq_T → wq_H → Prop := fun r T' H' => T = T' ∧ H = H' ∧ ∃ z : Int, some (vI z) = r ∧ (0 ≤ z ∧ z ≤ 6) ∧ (z ≠ 0 ∨ a1 = 1)
set_option maxHeartbeats 4000000 in
theorem s_84 {kt : Nat → Option mc_E} {T : wq_T} {H : wq_H} {r0 : Nat} {a1 : Int} (hW : WT T H) (g0 : T.2.2.2 r0 = some 1) (i1 : 0 ≤ a1 ∧ a1 ≤ 1) : wpc kt 1 84 [.ref r0, vI a1] T H (q_84 r0 a1 T H) := by
  refine wp_enter e84 (Nat.le_of_ble_eq_true rfl) rfl ?_
  show wp _ _ 84 0 [(0, .ref r0), (1, vI a1)] [] _ H _
  refine wp_of e84 c84_0 (rw_iload_n (pc' := 1) (z := a1) rfl rfl ?_)
  refine wp_of e84 c84_1 (rw_if_ne (p1 := 6) (p2 := 4) (by decide) rfl ⟨by omega, by omega⟩ (fun c20745 => ?_) (fun c20745 => ?_))
  · refine wp_of e84 c84_6 (rw_aload_n (pc' := 7) (v := .ref r0) rfl rfl rfl ?_)
    refine wp_of e84 c84_7 (xg_R (pc' := 10) lf_0_51 hW g0 sh_1 (by decide) (by decide) ty_1_6 rfl rfl (fun r20746 q20747 g20748 => ?_))
    refine wp_of e84 c84_10 (xg_L (pc' := 13) lf_0_141 hW g20748 sh_27 (by decide) (by decide) ty_27_18 rfl rfl (fun b20749 b20750 => ?_))
    refine wp_of e84 c84_13 (rw_ldc2 (pc' := 16) (z := 20000) rfl rfl rfl ?_)
    refine wp_of e84 c84_16 (rw_lcmp (pc' := 17) rfl ⟨by omega, by omega⟩ ⟨by omega, by omega⟩ ?_)
    have b20751 := wq_cmp_b (H r20746 18) 20000
    refine wp_of e84 c84_17 (rw_if_le (p1 := 24) (p2 := 20) (by decide) rfl ⟨by omega, by omega⟩ (fun c20752 => ?_) (fun c20752 => ?_))
    · refine wp_of e84 c84_24 (rw_iconst (pc' := 25) rfl ?_)
      exact wp_ireturn e84 c84_25 rfl ⟨rfl, rfl, 0, rfl, ⟨by omega, by omega⟩, by omega⟩
    · refine wp_of e84 c84_20 (rw_iconst (pc' := 21) rfl ?_)
      refine wp_of e84 c84_21 (rw_goto (p1 := 25) (by decide) ?_)
      exact wp_ireturn e84 c84_25 rfl ⟨rfl, rfl, 3, rfl, ⟨by omega, by omega⟩, by omega⟩
  · refine wp_of e84 c84_4 (rw_iconst (pc' := 5) rfl ?_)
    exact wp_ireturn e84 c84_5 rfl ⟨rfl, rfl, 1, rfl, ⟨by omega, by omega⟩, by omega⟩
/-! StrikeAwake$Census.clear()V -/
theorem e86 : wq_en 86 = some (4, 3, false, none) := rfl
theorem c86_0 : mc_cd 86 0 = some (.iconst 0, 1) := by decide +kernel
theorem c86_1 : mc_cd 86 1 = some (.istore_n 1, 1) := by decide +kernel
theorem c86_2 : mc_cd 86 2 = some (.iload_n 1, 1) := by decide +kernel
theorem c86_3 : mc_cd 86 3 = some (.aload_n 0, 1) := by decide +kernel
theorem c86_4 : mc_cd 86 4 = some (.getfield 11, 3) := by decide +kernel
theorem c86_7 : mc_cd 86 7 = some (.arraylength, 1) := by decide +kernel
theorem c86_8 : mc_cd 86 8 = some (.if_icmp .ge 16, 3) := by decide +kernel
theorem c86_11 : mc_cd 86 11 = some (.aload_n 0, 1) := by decide +kernel
theorem c86_12 : mc_cd 86 12 = some (.getfield 11, 3) := by decide +kernel
theorem c86_15 : mc_cd 86 15 = some (.iload_n 1, 1) := by decide +kernel
theorem c86_16 : mc_cd 86 16 = some (.lconst 0, 1) := by decide +kernel
theorem c86_17 : mc_cd 86 17 = some (.lastore, 1) := by decide +kernel
theorem c86_18 : mc_cd 86 18 = some (.iinc 1 1, 3) := by decide +kernel
theorem c86_21 : mc_cd 86 21 = some (.goto (-19), 3) := by decide +kernel
theorem c86_24 : mc_cd 86 24 = some (.iconst 0, 1) := by decide +kernel
theorem c86_25 : mc_cd 86 25 = some (.istore_n 1, 1) := by decide +kernel
theorem c86_26 : mc_cd 86 26 = some (.iload_n 1, 1) := by decide +kernel
theorem c86_27 : mc_cd 86 27 = some (.bipush 6, 2) := by decide +kernel
theorem c86_29 : mc_cd 86 29 = some (.if_icmp .ge 41, 3) := by decide +kernel
theorem c86_32 : mc_cd 86 32 = some (.iconst 0, 1) := by decide +kernel
theorem c86_33 : mc_cd 86 33 = some (.istore_n 2, 1) := by decide +kernel
theorem c86_34 : mc_cd 86 34 = some (.iload_n 2, 1) := by decide +kernel
theorem c86_35 : mc_cd 86 35 = some (.bipush 40, 2) := by decide +kernel
theorem c86_37 : mc_cd 86 37 = some (.if_icmp .ge 27, 3) := by decide +kernel
theorem c86_40 : mc_cd 86 40 = some (.aload_n 0, 1) := by decide +kernel
theorem c86_41 : mc_cd 86 41 = some (.getfield 17, 3) := by decide +kernel
theorem c86_44 : mc_cd 86 44 = some (.iload_n 1, 1) := by decide +kernel
theorem c86_45 : mc_cd 86 45 = some (.aaload, 1) := by decide +kernel
theorem c86_46 : mc_cd 86 46 = some (.iload_n 2, 1) := by decide +kernel
theorem c86_47 : mc_cd 86 47 = some (.iconst 0, 1) := by decide +kernel
theorem c86_48 : mc_cd 86 48 = some (.iastore, 1) := by decide +kernel
theorem c86_49 : mc_cd 86 49 = some (.aload_n 0, 1) := by decide +kernel
theorem c86_50 : mc_cd 86 50 = some (.getfield 22, 3) := by decide +kernel
theorem c86_53 : mc_cd 86 53 = some (.iload_n 1, 1) := by decide +kernel
theorem c86_54 : mc_cd 86 54 = some (.aaload, 1) := by decide +kernel
theorem c86_55 : mc_cd 86 55 = some (.iload_n 2, 1) := by decide +kernel
theorem c86_56 : mc_cd 86 56 = some (.lconst 0, 1) := by decide +kernel
theorem c86_57 : mc_cd 86 57 = some (.lastore, 1) := by decide +kernel
theorem c86_58 : mc_cd 86 58 = some (.iinc 2 1, 3) := by decide +kernel
theorem c86_61 : mc_cd 86 61 = some (.goto (-27), 3) := by decide +kernel
theorem c86_64 : mc_cd 86 64 = some (.iinc 1 1, 3) := by decide +kernel
theorem c86_67 : mc_cd 86 67 = some (.goto (-41), 3) := by decide +kernel
theorem c86_70 : mc_cd 86 70 = some (.aload_n 0, 1) := by decide +kernel
theorem c86_71 : mc_cd 86 71 = some (.iconst 0, 1) := by decide +kernel
theorem c86_72 : mc_cd 86 72 = some (.putfield 62, 3) := by decide +kernel
theorem c86_75 : mc_cd 86 75 = some (.aload_n 0, 1) := by decide +kernel
theorem c86_76 : mc_cd 86 76 = some (.lconst 0, 1) := by decide +kernel
theorem c86_77 : mc_cd 86 77 = some (.putfield 66, 3) := by decide +kernel
theorem c86_80 : mc_cd 86 80 = some (.aload_n 0, 1) := by decide +kernel
theorem c86_81 : mc_cd 86 81 = some (.iconst 0, 1) := by decide +kernel
theorem c86_82 : mc_cd 86 82 = some (.putfield 69, 3) := by decide +kernel
theorem c86_85 : mc_cd 86 85 = some (.aload_n 0, 1) := by decide +kernel
theorem c86_86 : mc_cd 86 86 = some (.lconst 0, 1) := by decide +kernel
theorem c86_87 : mc_cd 86 87 = some (.putfield 72, 3) := by decide +kernel
theorem c86_90 : mc_cd 86 90 = some (.return_, 1) := by decide +kernel
abbrev q_86 (r0 : Nat) (T : wq_T) (H : wq_H) : Option Value → wq_T → wq_H → Prop := fun r T' H' => T = T' ∧ WT T H' ∧ wfr [(12, 5), (12, 6), (12, 7), (12, 8), (15, 999), (17, 999), (13, 999)] T H H' ∧ none = r
set_option maxHeartbeats 4000000 in
theorem s_86 {kt : Nat → Option mc_E} {T : wq_T} {H : wq_H} {r0 : Nat} (hW : WT T H) (g0 : T.2.2.2 r0 = some 12) : wpc kt 1 86 [.ref r0] T H (q_86 r0 T H) := by
  refine wp_enter e86 (Nat.le_of_ble_eq_true rfl) rfl ?_
  have f0 : wfr [(12, 5), (12, 6), (12, 7), (12, 8), (15, 999), (17, 999), (13, 999)] T H H := wfr.rf
  show wp _ _ 86 0 [(0, .ref r0)] [] _ H _
  refine wp_of e86 c86_0 (rw_iconst (pc' := 1) rfl ?_)
  refine wp_of e86 c86_1 (rw_istore_n (pc' := 2) (z := 0) (L' := [(1, vI 0), (0, .ref r0)]) rfl rfl rfl ?_)
  have lp22439 : ∀ (n22440 : Nat) (v22442 : Int) (H22443 : wq_H), WT T H22443 → wfr [(13, 999)] T H H22443 → (0 ≤ v22442 ∧ v22442 ≤ 313) → (313 - v22442).toNat = n22440 → wp kt 0 86 2 [(1, vI v22442), (0, .ref r0)] [] T H22443 (q_86 r0 T H) := by
    intro n22440
    induction n22440 using Nat.strongRecOn with
    | _ n22440 ih22441 =>
      intro v22442 H22443 w22444 f22445 b22446 m22447
      have f22448 := f0.tr f22445 rfl
      refine wp_of e86 c86_2 (rw_iload_n (pc' := 3) (z := v22442) rfl rfl ?_)
      refine wp_of e86 c86_3 (rw_aload_n (pc' := 4) (v := .ref r0) rfl rfl rfl ?_)
      refine wp_of e86 c86_4 (xg_R (pc' := 7) lf_4_11 w22444 g0 sh_12 (by decide) (by decide) ty_12_0 rfl rfl (fun r22449 q22450 g22451 => ?_))
      refine wp_of e86 c86_7 (xa_N (pc' := 8) (n := 313) w22444 g22451 sh_13 (by decide) rfl ?_)
      refine wp_of e86 c86_8 (rw_icmp_ge (p1 := 24) (p2 := 11) (by decide) rfl ⟨by omega, by omega⟩ ⟨by omega, by omega⟩ (fun c22452 => ?_) (fun c22452 => ?_))
      · refine wp_of e86 c86_24 (rw_iconst (pc' := 25) rfl ?_)
        refine wp_of e86 c86_25 (rw_istore_n (pc' := 26) (z := 0) (L' := [(1, vI 0), (0, .ref r0)]) rfl rfl rfl ?_)
        have lp23790 : ∀ (n23791 : Nat) (v23793 : Int) (H23794 : wq_H), WT T H23794 → wfr [(15, 999), (17, 999)] T H22443 H23794 → (0 ≤ v23793 ∧ v23793 ≤ 6) → (6 - v23793).toNat = n23791 → wp kt 0 86 26 [(1, vI v23793), (0, .ref r0)] [] T H23794 (q_86 r0 T H) := by
          intro n23791
          induction n23791 using Nat.strongRecOn with
          | _ n23791 ih23792 =>
            intro v23793 H23794 w23795 f23796 b23797 m23798
            have f23799 := f22448.tr f23796 rfl
            refine wp_of e86 c86_26 (rw_iload_n (pc' := 27) (z := v23793) rfl rfl ?_)
            refine wp_of e86 c86_27 (rw_bipush (pc' := 29) (z := 6) rfl (by decide) ?_)
            refine wp_of e86 c86_29 (rw_icmp_ge (p1 := 70) (p2 := 32) (by decide) rfl ⟨by omega, by omega⟩ ⟨by omega, by omega⟩ (fun c23800 => ?_) (fun c23800 => ?_))
            · refine wp_of e86 c86_70 (rw_aload_n (pc' := 71) (v := .ref r0) rfl rfl rfl ?_)
              refine wp_of e86 c86_71 (rw_iconst (pc' := 72) rfl ?_)
              refine wp_of e86 c86_72 (xp_I (pc' := 75) lf_4_62 w23795 g0 sh_12 (by decide) (by decide) ty_12_5 rfl rfl (by omega) (by omega) ⟨by omega, by omega⟩ rfl (fun H23801 e23802 w23803 => ?_))
              have f23804 := f23799.put' e23802 g0 rfl
              have k23805 : H23801 r0 5 = 0 := wq_u_s e23802
              refine wp_of e86 c86_75 (rw_aload_n (pc' := 76) (v := .ref r0) rfl rfl rfl ?_)
              refine wp_of e86 c86_76 (rw_lconst (pc' := 77) (z := 0) rfl rfl ?_)
              refine wp_of e86 c86_77 (xp_L (pc' := 80) lf_4_66 w23803 g0 sh_12 (by decide) (by decide) ty_12_6 rfl rfl (by omega) (by omega) ⟨by omega, by omega⟩ rfl (fun H23806 e23807 w23808 => ?_))
              have f23809 := f23804.put' e23807 g0 rfl
              have k23810 : H23806 r0 6 = 0 := wq_u_s e23807
              refine wp_of e86 c86_80 (rw_aload_n (pc' := 81) (v := .ref r0) rfl rfl rfl ?_)
              refine wp_of e86 c86_81 (rw_iconst (pc' := 82) rfl ?_)
              refine wp_of e86 c86_82 (xp_I (pc' := 85) lf_4_69 w23808 g0 sh_12 (by decide) (by decide) ty_12_7 rfl rfl (by omega) (by omega) ⟨by omega, by omega⟩ rfl (fun H23811 e23812 w23813 => ?_))
              have f23814 := f23809.put' e23812 g0 rfl
              have k23815 : H23811 r0 7 = 0 := wq_u_s e23812
              refine wp_of e86 c86_85 (rw_aload_n (pc' := 86) (v := .ref r0) rfl rfl rfl ?_)
              refine wp_of e86 c86_86 (rw_lconst (pc' := 87) (z := 0) rfl rfl ?_)
              refine wp_of e86 c86_87 (xp_L (pc' := 90) lf_4_72 w23813 g0 sh_12 (by decide) (by decide) ty_12_8 rfl rfl (by omega) (by omega) ⟨by omega, by omega⟩ rfl (fun H23816 e23817 w23818 => ?_))
              have f23819 := f23814.put' e23817 g0 rfl
              have k23820 : H23816 r0 8 = 0 := wq_u_s e23817
              exact wp_return e86 c86_90 rfl ⟨rfl, w23818, f23819, rfl⟩
            · refine wp_of e86 c86_32 (rw_iconst (pc' := 33) rfl ?_)
              refine wp_of e86 c86_33 (rw_istore_n (pc' := 34) (z := 0) (L' := [(2, vI 0), (1, vI v23793), (0, .ref r0)]) rfl rfl rfl ?_)
              have lp24005 : ∀ (n24006 : Nat) (v24008 : Int) (H24009 : wq_H), WT T H24009 → wfr [(15, 999), (17, 999)] T H23794 H24009 → (0 ≤ v24008 ∧ v24008 ≤ 40) → (40 - v24008).toNat = n24006 → wp kt 0 86 34 [(2, vI v24008), (1, vI v23793), (0, .ref r0)] [] T H24009 (q_86 r0 T H) := by
                intro n24006
                induction n24006 using Nat.strongRecOn with
                | _ n24006 ih24007 =>
                  intro v24008 H24009 w24010 f24011 b24012 m24013
                  have f24014 := f23799.tr f24011 rfl
                  have f24015 := f23796.tr f24011 rfl
                  refine wp_of e86 c86_34 (rw_iload_n (pc' := 35) (z := v24008) rfl rfl ?_)
                  refine wp_of e86 c86_35 (rw_bipush (pc' := 37) (z := 40) rfl (by decide) ?_)
                  refine wp_of e86 c86_37 (rw_icmp_ge (p1 := 64) (p2 := 40) (by decide) rfl ⟨by omega, by omega⟩ ⟨by omega, by omega⟩ (fun c24016 => ?_) (fun c24016 => ?_))
                  · refine wp_of e86 c86_64 (rw_iinc (pc' := 67) (z := v23793) (L' := [(1, vI (v23793 + 1)), (2, vI v24008), (0, .ref r0)]) rfl rfl rfl rfl ?_)
                    refine wp_of e86 c86_67 (rw_goto (p1 := 26) (by decide) ?_)
                    exact wp_lc (ks := [1, 2, 0]) (wl_c rfl (wl_c rfl wl_n)) rfl (by decide) (ih23792 _ (by omega) (v23793 + 1) H24009 w24010 f24015 ⟨by omega, by omega⟩ rfl)
                  · refine wp_of e86 c86_40 (rw_aload_n (pc' := 41) (v := .ref r0) rfl rfl rfl ?_)
                    refine wp_of e86 c86_41 (xg_R (pc' := 44) lf_4_17 w24010 g0 sh_12 (by decide) (by decide) ty_12_1 rfl rfl (fun r24017 q24018 g24019 => ?_))
                    refine wp_of e86 c86_44 (rw_iload_n (pc' := 45) (z := v23793) rfl rfl ?_)
                    refine wp_of e86 c86_45 (xa_R (pc' := 46) (by decide) w24010 g24019 sh_14 (by decide) (ty_14 _) (by omega) (by omega) rfl (fun r24020 q24021 g24022 => ?_))
                    refine wp_of e86 c86_46 (rw_iload_n (pc' := 47) (z := v24008) rfl rfl ?_)
                    refine wp_of e86 c86_47 (rw_iconst (pc' := 48) rfl ?_)
                    refine wp_of e86 c86_48 (xs_I (pc' := 49) w24010 g24022 (by decide) sh_15 (by decide) (ty_15 _) (by omega) (by omega) ⟨by omega, by omega⟩ (by omega) (by omega) rfl (fun H24023 e24024 w24025 => ?_))
                    have f24026 := f24014.put' e24024 g24022 rfl
                    have f24027 := f24015.put' e24024 g24022 rfl
                    have f24028 := f24011.put' e24024 g24022 rfl
                    refine wp_of e86 c86_49 (rw_aload_n (pc' := 50) (v := .ref r0) rfl rfl rfl ?_)
                    refine wp_of e86 c86_50 (xg_R (pc' := 53) lf_4_22 w24025 g0 sh_12 (by decide) (by decide) ty_12_2 rfl rfl (fun r24029 q24030 g24031 => ?_))
                    refine wp_of e86 c86_53 (rw_iload_n (pc' := 54) (z := v23793) rfl rfl ?_)
                    refine wp_of e86 c86_54 (xa_R (pc' := 55) (by decide) w24025 g24031 sh_16 (by decide) (ty_16 _) (by omega) (by omega) rfl (fun r24032 q24033 g24034 => ?_))
                    refine wp_of e86 c86_55 (rw_iload_n (pc' := 56) (z := v24008) rfl rfl ?_)
                    refine wp_of e86 c86_56 (rw_lconst (pc' := 57) (z := 0) rfl rfl ?_)
                    refine wp_of e86 c86_57 (xs_L (pc' := 58) w24025 g24034 (by decide) sh_17 (by decide) (ty_17 _) (by omega) (by omega) ⟨by omega, by omega⟩ (by omega) (by omega) rfl (fun H24035 e24036 w24037 => ?_))
                    have f24038 := f24026.put' e24036 g24034 rfl
                    have f24039 := f24027.put' e24036 g24034 rfl
                    have f24040 := f24028.put' e24036 g24034 rfl
                    refine wp_of e86 c86_58 (rw_iinc (pc' := 61) (z := v24008) (L' := [(2, vI (v24008 + 1)), (1, vI v23793), (0, .ref r0)]) rfl rfl rfl rfl ?_)
                    refine wp_of e86 c86_61 (rw_goto (p1 := 34) (by decide) ?_)
                    exact wp_lc (ks := [2, 1, 0]) (wl_c rfl (wl_c rfl (wl_c rfl wl_n))) rfl (by decide) (ih24007 _ (by omega) (v24008 + 1) H24035 w24037 f24040 ⟨by omega, by omega⟩ rfl)
              exact wp_lc (ks := [2, 1, 0]) (wl_c rfl (wl_c rfl (wl_c rfl wl_n))) rfl (by decide) (lp24005 _ 0 H23794 w23795 wfr.rf ⟨by omega, by omega⟩ rfl)
        exact wp_lc (ks := [1, 0]) (wl_c rfl (wl_c rfl wl_n)) rfl (by decide) (lp23790 _ 0 H22443 w22444 wfr.rf ⟨by omega, by omega⟩ rfl)
      · refine wp_of e86 c86_11 (rw_aload_n (pc' := 12) (v := .ref r0) rfl rfl rfl ?_)
        refine wp_of e86 c86_12 (xg_K (pc' := 15) lf_4_11 w22444 g0 sh_12 (by decide) (by decide) rfl q22450 rfl ?_)
        refine wp_of e86 c86_15 (rw_iload_n (pc' := 16) (z := v22442) rfl rfl ?_)
        refine wp_of e86 c86_16 (rw_lconst (pc' := 17) (z := 0) rfl rfl ?_)
        refine wp_of e86 c86_17 (xs_L (pc' := 18) w22444 g22451 (by decide) sh_13 (by decide) (ty_13 _) (by omega) (by omega) ⟨by omega, by omega⟩ (by omega) (by omega) rfl (fun H24041 e24042 w24043 => ?_))
        have f24044 := f22448.put' e24042 g22451 rfl
        have f24045 := f22445.put' e24042 g22451 rfl
        refine wp_of e86 c86_18 (rw_iinc (pc' := 21) (z := v22442) (L' := [(1, vI (v22442 + 1)), (0, .ref r0)]) rfl rfl rfl rfl ?_)
        refine wp_of e86 c86_21 (rw_goto (p1 := 2) (by decide) ?_)
        exact wp_lc (ks := [1, 0]) (wl_c rfl (wl_c rfl wl_n)) rfl (by decide) (ih22441 _ (by omega) (v22442 + 1) H24041 w24043 f24045 ⟨by omega, by omega⟩ rfl)
  exact wp_lc (ks := [1, 0]) (wl_c rfl (wl_c rfl wl_n)) rfl (by decide) (lp22439 _ 0 H hW wfr.rf ⟨by omega, by omega⟩ rfl)
/-! StrikeAwake$Walk.toFirst(LStrikeAwake$Parish;)V -/
theorem e87 : wq_en 87 = some (3, 3, false, none) := rfl
theorem c87_0 : mc_cd 87 0 = some (.iconst 0, 1) := by decide +kernel
theorem c87_1 : mc_cd 87 1 = some (.istore_n 2, 1) := by decide +kernel
theorem c87_2 : mc_cd 87 2 = some (.iload_n 2, 1) := by decide +kernel
theorem c87_3 : mc_cd 87 3 = some (.bipush 6, 2) := by decide +kernel
theorem c87_5 : mc_cd 87 5 = some (.if_icmp .ge 16, 3) := by decide +kernel
theorem c87_8 : mc_cd 87 8 = some (.aload_n 0, 1) := by decide +kernel
theorem c87_9 : mc_cd 87 9 = some (.getfield 9, 3) := by decide +kernel
theorem c87_12 : mc_cd 87 12 = some (.iload_n 2, 1) := by decide +kernel
theorem c87_13 : mc_cd 87 13 = some (.iconst 0, 1) := by decide +kernel
theorem c87_14 : mc_cd 87 14 = some (.iastore, 1) := by decide +kernel
theorem c87_15 : mc_cd 87 15 = some (.iinc 2 1, 3) := by decide +kernel
theorem c87_18 : mc_cd 87 18 = some (.goto (-16), 3) := by decide +kernel
theorem c87_21 : mc_cd 87 21 = some (.aload_n 0, 1) := by decide +kernel
theorem c87_22 : mc_cd 87 22 = some (.aload_n 1, 1) := by decide +kernel
theorem c87_23 : mc_cd 87 23 = some (.invokevirtual 28, 3) := by decide +kernel
theorem c87_26 : mc_cd 87 26 = some (.aload_n 0, 1) := by decide +kernel
theorem c87_27 : mc_cd 87 27 = some (.aload_n 1, 1) := by decide +kernel
theorem c87_28 : mc_cd 87 28 = some (.iconst 0, 1) := by decide +kernel
theorem c87_29 : mc_cd 87 29 = some (.invokevirtual 32, 3) := by decide +kernel
theorem c87_32 : mc_cd 87 32 = some (.return_, 1) := by decide +kernel
abbrev q_87 (r0 : Nat) (r1 : Nat) (T : wq_T) (H : wq_H) : Option Value → wq_T → wq_H → Prop := fun r T' H' => T = T' ∧ WT T H' ∧ wfr [(6, 5), (8, 999), (10, 999), (9, 999), (7, 999), (11, 999)] T H H' ∧ none = r
set_option maxHeartbeats 4000000 in
theorem s_87 {kt : Nat → Option mc_E} {T : wq_T} {H : wq_H} {r0 : Nat} {r1 : Nat} (hW : WT T H) (g0 : T.2.2.2 r0 = some 6) (g1 : T.2.2.2 r1 = some 27) : wpc kt 3 87 [.ref r0, .ref r1] T H (q_87 r0 r1 T H) := by
  refine wp_enter e87 (Nat.le_of_ble_eq_true rfl) rfl ?_
  have f0 : wfr [(6, 5), (8, 999), (10, 999), (9, 999), (7, 999), (11, 999)] T H H := wfr.rf
  show wp _ _ 87 0 [(0, .ref r0), (1, .ref r1)] [] _ H _
  refine wp_of e87 c87_0 (rw_iconst (pc' := 1) rfl ?_)
  refine wp_of e87 c87_1 (rw_istore_n (pc' := 2) (z := 0) (L' := [(2, vI 0), (0, .ref r0), (1, .ref r1)]) rfl rfl rfl ?_)
  have lp24185 : ∀ (n24186 : Nat) (v24188 : Int) (H24189 : wq_H), WT T H24189 → wfr [(7, 999)] T H H24189 → (0 ≤ v24188 ∧ v24188 ≤ 6) → (6 - v24188).toNat = n24186 → wp kt 2 87 2 [(2, vI v24188), (0, .ref r0), (1, .ref r1)] [] T H24189 (q_87 r0 r1 T H) := by
    intro n24186
    induction n24186 using Nat.strongRecOn with
    | _ n24186 ih24187 =>
      intro v24188 H24189 w24190 f24191 b24192 m24193
      have f24194 := f0.tr f24191 rfl
      refine wp_of e87 c87_2 (rw_iload_n (pc' := 3) (z := v24188) rfl rfl ?_)
      refine wp_of e87 c87_3 (rw_bipush (pc' := 5) (z := 6) rfl (by decide) ?_)
      refine wp_of e87 c87_5 (rw_icmp_ge (p1 := 21) (p2 := 8) (by decide) rfl ⟨by omega, by omega⟩ ⟨by omega, by omega⟩ (fun c24195 => ?_) (fun c24195 => ?_))
      · refine wp_of e87 c87_21 (rw_aload_n (pc' := 22) (v := .ref r0) rfl rfl rfl ?_)
        refine wp_of e87 c87_22 (rw_aload_n (pc' := 23) (v := .ref r1) rfl rfl rfl ?_)
        refine wp_of e87 c87_23 (xc_V (pc' := 26) (r := r0) (as := [.ref r1]) (st := []) (lm_3_28) rfl rfl (Nat.le_of_ble_eq_true rfl) w24190 g0 sh_6 (by decide) rfl (by decide) (s_69 w24190 g0 g1) (fun R24196 T24197 H24198 p24199 => ?_))
        obtain ⟨e24200, w24202, f24203, e24201⟩ := p24199
        subst e24200
        subst e24201
        have f24204 := f24194.tr f24203 rfl
        show wp _ _ 87 26 [(2, vI v24188), (0, .ref r0), (1, .ref r1)] [] _ H24198 _
        refine wp_of e87 c87_26 (rw_aload_n (pc' := 27) (v := .ref r0) rfl rfl rfl ?_)
        refine wp_of e87 c87_27 (rw_aload_n (pc' := 28) (v := .ref r1) rfl rfl rfl ?_)
        refine wp_of e87 c87_28 (rw_iconst (pc' := 29) rfl ?_)
        refine wp_of e87 c87_29 (xc_V (pc' := 32) (r := r0) (as := [.ref r1, vI 0]) (st := []) (lm_3_32) rfl rfl (Nat.le_of_ble_eq_true rfl) w24202 g0 sh_6 (by decide) rfl (by decide) (s_70 w24202 g0 g1 ⟨by omega, by omega⟩) (fun R24205 T24206 H24207 p24208 => ?_))
        obtain ⟨e24209, w24211, f24212, e24210⟩ := p24208
        subst e24209
        subst e24210
        have f24213 := f24204.tr f24212 rfl
        show wp _ _ 87 32 [(2, vI v24188), (0, .ref r0), (1, .ref r1)] [] _ H24207 _
        exact wp_return e87 c87_32 rfl ⟨rfl, w24211, f24213, rfl⟩
      · refine wp_of e87 c87_8 (rw_aload_n (pc' := 9) (v := .ref r0) rfl rfl rfl ?_)
        refine wp_of e87 c87_9 (xg_R (pc' := 12) lf_3_9 w24190 g0 sh_6 (by decide) (by decide) ty_6_0 rfl rfl (fun r24214 q24215 g24216 => ?_))
        refine wp_of e87 c87_12 (rw_iload_n (pc' := 13) (z := v24188) rfl rfl ?_)
        refine wp_of e87 c87_13 (rw_iconst (pc' := 14) rfl ?_)
        refine wp_of e87 c87_14 (xs_I (pc' := 15) w24190 g24216 (by decide) sh_7 (by decide) (ty_7 _) (by omega) (by omega) ⟨by omega, by omega⟩ (by omega) (by omega) rfl (fun H24217 e24218 w24219 => ?_))
        have f24220 := f24194.put' e24218 g24216 rfl
        have f24221 := f24191.put' e24218 g24216 rfl
        refine wp_of e87 c87_15 (rw_iinc (pc' := 18) (z := v24188) (L' := [(2, vI (v24188 + 1)), (0, .ref r0), (1, .ref r1)]) rfl rfl rfl rfl ?_)
        refine wp_of e87 c87_18 (rw_goto (p1 := 2) (by decide) ?_)
        exact wp_lc (ks := [2, 0, 1]) (wl_c rfl (wl_c rfl (wl_c rfl wl_n))) rfl (by decide) (ih24187 _ (by omega) (v24188 + 1) H24217 w24219 f24221 ⟨by omega, by omega⟩ rfl)
  exact wp_lc (ks := [2, 0, 1]) (wl_c rfl (wl_c rfl (wl_c rfl wl_n))) rfl (by decide) (lp24185 _ 0 H hW wfr.rf ⟨by omega, by omega⟩ rfl)
/-! StrikeAwake$Walk.pickOf(I)I -/
theorem e89 : wq_en 89 = some (3, 2, false, some FieldType.int) := rfl
theorem c89_0 : mc_cd 89 0 = some (.aload_n 0, 1) := by decide +kernel
theorem c89_1 : mc_cd 89 1 = some (.getfield 9, 3) := by decide +kernel
theorem c89_4 : mc_cd 89 4 = some (.iload_n 1, 1) := by decide +kernel
theorem c89_5 : mc_cd 89 5 = some (.iaload, 1) := by decide +kernel
theorem c89_6 : mc_cd 89 6 = some (.ireturn, 1) := by decide +kernel
abbrev q_89 (r0 : Nat) (a1 : Int) (T : wq_T) (H : wq_H) : Option Value → wq_T → wq_H → Prop := fun r T' H' => T = T' ∧ H = H' ∧ ∃ z : Int, some (vI z) = r ∧ (0 ≤ z ∧ z ≤ 39)
set_option maxHeartbeats 4000000 in
theorem s_89 {kt : Nat → Option mc_E} {T : wq_T} {H : wq_H} {r0 : Nat} {a1 : Int} (hW : WT T H) (g0 : T.2.2.2 r0 = some 6) (i1 : 0 ≤ a1 ∧ a1 ≤ 5) : wpc kt 1 89 [.ref r0, vI a1] T H (q_89 r0 a1 T H) := by
  refine wp_enter e89 (Nat.le_of_ble_eq_true rfl) rfl ?_
  show wp _ _ 89 0 [(0, .ref r0), (1, vI a1)] [] _ H _
  refine wp_of e89 c89_0 (rw_aload_n (pc' := 1) (v := .ref r0) rfl rfl rfl ?_)
  refine wp_of e89 c89_1 (xg_R (pc' := 4) lf_3_9 hW g0 sh_6 (by decide) (by decide) ty_6_0 rfl rfl (fun r24227 q24228 g24229 => ?_))
  refine wp_of e89 c89_4 (rw_iload_n (pc' := 5) (z := a1) rfl rfl ?_)
  refine wp_of e89 c89_5 (xa_I (so := 0) (pc' := 6) hW g24229 sh_7 (by decide) (ty_7 _) (by omega) (by omega) rfl (fun b24230 b24231 => ?_))
  exact wp_ireturn e89 c89_6 rfl ⟨rfl, rfl, H r24227 (a1.toNat), rfl, ⟨by omega, by omega⟩⟩
/-! StrikeAwake$Census.enterDue(II)V -/
theorem e90 : wq_en 90 = some (4, 3, false, none) := rfl
theorem c90_0 : mc_cd 90 0 = some (.aload_n 0, 1) := by decide +kernel
theorem c90_1 : mc_cd 90 1 = some (.getfield 25, 3) := by decide +kernel
theorem c90_4 : mc_cd 90 4 = some (.iload_n 1, 1) := by decide +kernel
theorem c90_5 : mc_cd 90 5 = some (.aload_n 0, 1) := by decide +kernel
theorem c90_6 : mc_cd 90 6 = some (.getfield 62, 3) := by decide +kernel
theorem c90_9 : mc_cd 90 9 = some (.ifCond .ne 7, 3) := by decide +kernel
theorem c90_12 : mc_cd 90 12 = some (.iload_n 2, 1) := by decide +kernel
theorem c90_13 : mc_cd 90 13 = some (.goto 13, 3) := by decide +kernel
theorem c90_16 : mc_cd 90 16 = some (.aload_n 0, 1) := by decide +kernel
theorem c90_17 : mc_cd 90 17 = some (.getfield 25, 3) := by decide +kernel
theorem c90_20 : mc_cd 90 20 = some (.iload_n 1, 1) := by decide +kernel
theorem c90_21 : mc_cd 90 21 = some (.iaload, 1) := by decide +kernel
theorem c90_22 : mc_cd 90 22 = some (.iload_n 2, 1) := by decide +kernel
theorem c90_23 : mc_cd 90 23 = some (.invokestatic 104, 3) := by decide +kernel
theorem c90_26 : mc_cd 90 26 = some (.iastore, 1) := by decide +kernel
theorem c90_27 : mc_cd 90 27 = some (.aload_n 0, 1) := by decide +kernel
theorem c90_28 : mc_cd 90 28 = some (.getfield 29, 3) := by decide +kernel
theorem c90_31 : mc_cd 90 31 = some (.iload_n 1, 1) := by decide +kernel
theorem c90_32 : mc_cd 90 32 = some (.aload_n 0, 1) := by decide +kernel
theorem c90_33 : mc_cd 90 33 = some (.getfield 62, 3) := by decide +kernel
theorem c90_36 : mc_cd 90 36 = some (.ifCond .ne 7, 3) := by decide +kernel
theorem c90_39 : mc_cd 90 39 = some (.iload_n 2, 1) := by decide +kernel
theorem c90_40 : mc_cd 90 40 = some (.goto 13, 3) := by decide +kernel
theorem c90_43 : mc_cd 90 43 = some (.aload_n 0, 1) := by decide +kernel
theorem c90_44 : mc_cd 90 44 = some (.getfield 29, 3) := by decide +kernel
theorem c90_47 : mc_cd 90 47 = some (.iload_n 1, 1) := by decide +kernel
theorem c90_48 : mc_cd 90 48 = some (.iaload, 1) := by decide +kernel
theorem c90_49 : mc_cd 90 49 = some (.iload_n 2, 1) := by decide +kernel
theorem c90_50 : mc_cd 90 50 = some (.invokestatic 110, 3) := by decide +kernel
theorem c90_53 : mc_cd 90 53 = some (.iastore, 1) := by decide +kernel
theorem c90_54 : mc_cd 90 54 = some (.return_, 1) := by decide +kernel
abbrev q_90 (r0 : Nat) (a1 : Int) (a2 : Int) (T : wq_T) (H : wq_H) : Option Value → wq_T → wq_H → Prop := fun r T' H' => T = T' ∧ WT T H' ∧ wfr [(18, 999), (19, 999)] T H H' ∧ none = r
set_option maxHeartbeats 4000000 in
theorem s_90 {kt : Nat → Option mc_E} {T : wq_T} {H : wq_H} {r0 : Nat} {a1 : Int} {a2 : Int} (hW : WT T H) (g0 : T.2.2.2 r0 = some 12) (i1 : 0 ≤ a1 ∧ a1 ≤ 23) (i2 : (-2147483648) ≤ a2 ∧ a2 ≤ 2147483647) : wpc kt 1 90 [.ref r0, vI a1, vI a2] T H (q_90 r0 a1 a2 T H) := by
  refine wp_enter e90 (Nat.le_of_ble_eq_true rfl) rfl ?_
  have f0 : wfr [(18, 999), (19, 999)] T H H := wfr.rf
  show wp _ _ 90 0 [(0, .ref r0), (1, vI a1), (2, vI a2)] [] _ H _
  refine wp_of e90 c90_0 (rw_aload_n (pc' := 1) (v := .ref r0) rfl rfl rfl ?_)
  refine wp_of e90 c90_1 (xg_R (pc' := 4) lf_4_25 hW g0 sh_12 (by decide) (by decide) ty_12_3 rfl rfl (fun r24280 q24281 g24282 => ?_))
  refine wp_of e90 c90_4 (rw_iload_n (pc' := 5) (z := a1) rfl rfl ?_)
  refine wp_of e90 c90_5 (rw_aload_n (pc' := 6) (v := .ref r0) rfl rfl rfl ?_)
  refine wp_of e90 c90_6 (xg_I (pc' := 9) lf_4_62 hW g0 sh_12 (by decide) (by decide) ty_12_5 rfl rfl (fun b24283 b24284 => ?_))
  refine wp_of e90 c90_9 (rw_if_ne (p1 := 16) (p2 := 12) (by decide) rfl ⟨by omega, by omega⟩ (fun c24285 => ?_) (fun c24285 => ?_))
  · refine wp_of e90 c90_16 (rw_aload_n (pc' := 17) (v := .ref r0) rfl rfl rfl ?_)
    refine wp_of e90 c90_17 (xg_K (pc' := 20) lf_4_25 hW g0 sh_12 (by decide) (by decide) rfl q24281 rfl ?_)
    refine wp_of e90 c90_20 (rw_iload_n (pc' := 21) (z := a1) rfl rfl ?_)
    refine wp_of e90 c90_21 (xa_I (so := 0) (pc' := 22) hW g24282 sh_18 (by decide) (ty_18 _) (by omega) (by omega) rfl (fun b24286 b24287 => ?_))
    refine wp_of e90 c90_22 (rw_iload_n (pc' := 23) (z := a2) rfl rfl ?_)
    refine wp_of e90 c90_23 (rw_math2 (pc' := 26) (z := min (H r24280 (a1.toNat)) a2) rfl rfl ⟨by omega, by omega⟩ ⟨by omega, by omega⟩ (Or.inl ⟨rfl, rfl⟩) (Nat.le_of_ble_eq_true rfl) rfl ?_)
    obtain ⟨v24288, e24289⟩ : ∃ x : Int, x = min (H r24280 (a1.toNat)) a2 := ⟨_, rfl⟩
    rw [← e24289]
    have b24290 : v24288 = (H r24280 (a1.toNat)) ∨ v24288 = a2 := by
      rw [e24289]
      omega
    have b24291 : v24288 ≤ (H r24280 (a1.toNat)) ∧ v24288 ≤ a2 := by
      rw [e24289]
      omega
    refine wp_of e90 c90_26 (xs_I (pc' := 27) hW g24282 (by decide) sh_18 (by decide) (ty_18 _) (by omega) (by omega) ⟨by omega, by omega⟩ (by omega) (by omega) rfl (fun H24292 e24293 w24294 => ?_))
    have f24295 := f0.put' e24293 g24282 rfl
    refine wp_of e90 c90_27 (rw_aload_n (pc' := 28) (v := .ref r0) rfl rfl rfl ?_)
    refine wp_of e90 c90_28 (xg_R (pc' := 31) lf_4_29 w24294 g0 sh_12 (by decide) (by decide) ty_12_4 rfl rfl (fun r24296 q24297 g24298 => ?_))
    refine wp_of e90 c90_31 (rw_iload_n (pc' := 32) (z := a1) rfl rfl ?_)
    refine wp_of e90 c90_32 (rw_aload_n (pc' := 33) (v := .ref r0) rfl rfl rfl ?_)
    have k24299 : H24292 r0 5 = H r0 5 := (wq_u_t e24293 g24282 g0 rfl 5)
    refine wp_of e90 c90_33 (xg_I (pc' := 36) lf_4_62 w24294 g0 sh_12 (by decide) (by decide) ty_12_5 rfl rfl (fun b24300 b24301 => ?_))
    refine wp_of e90 c90_36 (rw_if_ne (p1 := 43) (p2 := 39) (by decide) rfl ⟨by omega, by omega⟩ (fun c24302 => ?_) (fun c24302 => ?_))
    · refine wp_of e90 c90_43 (rw_aload_n (pc' := 44) (v := .ref r0) rfl rfl rfl ?_)
      refine wp_of e90 c90_44 (xg_K (pc' := 47) lf_4_29 w24294 g0 sh_12 (by decide) (by decide) rfl q24297 rfl ?_)
      refine wp_of e90 c90_47 (rw_iload_n (pc' := 48) (z := a1) rfl rfl ?_)
      refine wp_of e90 c90_48 (xa_I (so := 0) (pc' := 49) w24294 g24298 sh_19 (by decide) (ty_19 _) (by omega) (by omega) rfl (fun b24303 b24304 => ?_))
      refine wp_of e90 c90_49 (rw_iload_n (pc' := 50) (z := a2) rfl rfl ?_)
      refine wp_of e90 c90_50 (rw_math2 (pc' := 53) (z := max (H24292 r24296 (a1.toNat)) a2) rfl rfl ⟨by omega, by omega⟩ ⟨by omega, by omega⟩ (Or.inr ⟨rfl, rfl⟩) (Nat.le_of_ble_eq_true rfl) rfl ?_)
      obtain ⟨v24305, e24306⟩ : ∃ x : Int, x = max (H24292 r24296 (a1.toNat)) a2 := ⟨_, rfl⟩
      rw [← e24306]
      have b24307 : v24305 = (H24292 r24296 (a1.toNat)) ∨ v24305 = a2 := by
        rw [e24306]
        omega
      have b24308 : (H24292 r24296 (a1.toNat)) ≤ v24305 ∧ a2 ≤ v24305 := by
        rw [e24306]
        omega
      refine wp_of e90 c90_53 (xs_I (pc' := 54) w24294 g24298 (by decide) sh_19 (by decide) (ty_19 _) (by omega) (by omega) ⟨by omega, by omega⟩ (by omega) (by omega) rfl (fun H24309 e24310 w24311 => ?_))
      have f24312 := f24295.put' e24310 g24298 rfl
      exact wp_return e90 c90_54 rfl ⟨rfl, w24311, f24312, rfl⟩
    · refine wp_of e90 c90_39 (rw_iload_n (pc' := 40) (z := a2) rfl rfl ?_)
      refine wp_of e90 c90_40 (rw_goto (p1 := 53) (by decide) ?_)
      refine wp_of e90 c90_53 (xs_I (pc' := 54) w24294 g24298 (by decide) sh_19 (by decide) (ty_19 _) (by omega) (by omega) ⟨by omega, by omega⟩ (by omega) (by omega) rfl (fun H24313 e24314 w24315 => ?_))
      have f24316 := f24295.put' e24314 g24298 rfl
      exact wp_return e90 c90_54 rfl ⟨rfl, w24315, f24316, rfl⟩
  · refine wp_of e90 c90_12 (rw_iload_n (pc' := 13) (z := a2) rfl rfl ?_)
    refine wp_of e90 c90_13 (rw_goto (p1 := 26) (by decide) ?_)
    refine wp_of e90 c90_26 (xs_I (pc' := 27) hW g24282 (by decide) sh_18 (by decide) (ty_18 _) (by omega) (by omega) ⟨by omega, by omega⟩ (by omega) (by omega) rfl (fun H24317 e24318 w24319 => ?_))
    have f24320 := f0.put' e24318 g24282 rfl
    refine wp_of e90 c90_27 (rw_aload_n (pc' := 28) (v := .ref r0) rfl rfl rfl ?_)
    refine wp_of e90 c90_28 (xg_R (pc' := 31) lf_4_29 w24319 g0 sh_12 (by decide) (by decide) ty_12_4 rfl rfl (fun r24321 q24322 g24323 => ?_))
    refine wp_of e90 c90_31 (rw_iload_n (pc' := 32) (z := a1) rfl rfl ?_)
    refine wp_of e90 c90_32 (rw_aload_n (pc' := 33) (v := .ref r0) rfl rfl rfl ?_)
    have k24324 : H24317 r0 5 = H r0 5 := (wq_u_t e24318 g24282 g0 rfl 5)
    refine wp_of e90 c90_33 (xg_I (pc' := 36) lf_4_62 w24319 g0 sh_12 (by decide) (by decide) ty_12_5 rfl rfl (fun b24325 b24326 => ?_))
    refine wp_of e90 c90_36 (rw_if_ne (p1 := 43) (p2 := 39) (by decide) rfl ⟨by omega, by omega⟩ (fun c24327 => ?_) (fun c24327 => ?_))
    · exfalso
      omega
    · refine wp_of e90 c90_39 (rw_iload_n (pc' := 40) (z := a2) rfl rfl ?_)
      refine wp_of e90 c90_40 (rw_goto (p1 := 53) (by decide) ?_)
      refine wp_of e90 c90_53 (xs_I (pc' := 54) w24319 g24323 (by decide) sh_19 (by decide) (ty_19 _) (by omega) (by omega) ⟨by omega, by omega⟩ (by omega) (by omega) rfl (fun H24328 e24329 w24330 => ?_))
      have f24331 := f24320.put' e24329 g24323 rfl
      exact wp_return e90 c90_54 rfl ⟨rfl, w24330, f24331, rfl⟩
/-! StrikeAwake$Census.enter(LStrikeAwake$Parish;LStrikeAwake$Walk;I)V -/
theorem e88 : wq_en 88 = some (4, 7, false, none) := rfl
theorem c88_0 : mc_cd 88 0 = some (.lconst 1, 1) := by decide +kernel
theorem c88_1 : mc_cd 88 1 = some (.lstore 4, 2) := by decide +kernel
theorem c88_3 : mc_cd 88 3 = some (.iconst 0, 1) := by decide +kernel
theorem c88_4 : mc_cd 88 4 = some (.istore 6, 2) := by decide +kernel
theorem c88_6 : mc_cd 88 6 = some (.iload 6, 2) := by decide +kernel
theorem c88_8 : mc_cd 88 8 = some (.aload_n 1, 1) := by decide +kernel
theorem c88_9 : mc_cd 88 9 = some (.getfield 75, 3) := by decide +kernel
theorem c88_12 : mc_cd 88 12 = some (.if_icmp .ge 31, 3) := by decide +kernel
theorem c88_15 : mc_cd 88 15 = some (.lload 4, 2) := by decide +kernel
theorem c88_17 : mc_cd 88 17 = some (.aload_n 1, 1) := by decide +kernel
theorem c88_18 : mc_cd 88 18 = some (.getfield 78, 3) := by decide +kernel
theorem c88_21 : mc_cd 88 21 = some (.iload 6, 2) := by decide +kernel
theorem c88_23 : mc_cd 88 23 = some (.aaload, 1) := by decide +kernel
theorem c88_24 : mc_cd 88 24 = some (.aload_n 2, 1) := by decide +kernel
theorem c88_25 : mc_cd 88 25 = some (.iload 6, 2) := by decide +kernel
theorem c88_27 : mc_cd 88 27 = some (.invokevirtual 82, 3) := by decide +kernel
theorem c88_30 : mc_cd 88 30 = some (.invokevirtual 86, 3) := by decide +kernel
theorem c88_33 : mc_cd 88 33 = some (.i2l, 1) := by decide +kernel
theorem c88_34 : mc_cd 88 34 = some (.lmul, 1) := by decide +kernel
theorem c88_35 : mc_cd 88 35 = some (.lstore 4, 2) := by decide +kernel
theorem c88_37 : mc_cd 88 37 = some (.iinc 6 1, 3) := by decide +kernel
theorem c88_40 : mc_cd 88 40 = some (.goto (-34), 3) := by decide +kernel
theorem c88_43 : mc_cd 88 43 = some (.iconst 0, 1) := by decide +kernel
theorem c88_44 : mc_cd 88 44 = some (.istore 6, 2) := by decide +kernel
theorem c88_46 : mc_cd 88 46 = some (.iload 6, 2) := by decide +kernel
theorem c88_48 : mc_cd 88 48 = some (.aload_n 1, 1) := by decide +kernel
theorem c88_49 : mc_cd 88 49 = some (.getfield 75, 3) := by decide +kernel
theorem c88_52 : mc_cd 88 52 = some (.if_icmp .ge 46, 3) := by decide +kernel
theorem c88_55 : mc_cd 88 55 = some (.aload_n 0, 1) := by decide +kernel
theorem c88_56 : mc_cd 88 56 = some (.getfield 17, 3) := by decide +kernel
theorem c88_59 : mc_cd 88 59 = some (.iload 6, 2) := by decide +kernel
theorem c88_61 : mc_cd 88 61 = some (.aaload, 1) := by decide +kernel
theorem c88_62 : mc_cd 88 62 = some (.aload_n 2, 1) := by decide +kernel
theorem c88_63 : mc_cd 88 63 = some (.iload 6, 2) := by decide +kernel
theorem c88_65 : mc_cd 88 65 = some (.invokevirtual 82, 3) := by decide +kernel
theorem c88_68 : mc_cd 88 68 = some (.dup2, 1) := by decide +kernel
theorem c88_69 : mc_cd 88 69 = some (.iaload, 1) := by decide +kernel
theorem c88_70 : mc_cd 88 70 = some (.iconst 1, 1) := by decide +kernel
theorem c88_71 : mc_cd 88 71 = some (.iadd, 1) := by decide +kernel
theorem c88_72 : mc_cd 88 72 = some (.iastore, 1) := by decide +kernel
theorem c88_73 : mc_cd 88 73 = some (.aload_n 0, 1) := by decide +kernel
theorem c88_74 : mc_cd 88 74 = some (.getfield 22, 3) := by decide +kernel
theorem c88_77 : mc_cd 88 77 = some (.iload 6, 2) := by decide +kernel
theorem c88_79 : mc_cd 88 79 = some (.aaload, 1) := by decide +kernel
theorem c88_80 : mc_cd 88 80 = some (.aload_n 2, 1) := by decide +kernel
theorem c88_81 : mc_cd 88 81 = some (.iload 6, 2) := by decide +kernel
theorem c88_83 : mc_cd 88 83 = some (.invokevirtual 82, 3) := by decide +kernel
theorem c88_86 : mc_cd 88 86 = some (.dup2, 1) := by decide +kernel
theorem c88_87 : mc_cd 88 87 = some (.laload, 1) := by decide +kernel
theorem c88_88 : mc_cd 88 88 = some (.lload 4, 2) := by decide +kernel
theorem c88_90 : mc_cd 88 90 = some (.ladd, 1) := by decide +kernel
theorem c88_91 : mc_cd 88 91 = some (.lastore, 1) := by decide +kernel
theorem c88_92 : mc_cd 88 92 = some (.iinc 6 1, 3) := by decide +kernel
theorem c88_95 : mc_cd 88 95 = some (.goto (-49), 3) := by decide +kernel
theorem c88_98 : mc_cd 88 98 = some (.iconst 0, 1) := by decide +kernel
theorem c88_99 : mc_cd 88 99 = some (.istore 6, 2) := by decide +kernel
theorem c88_101 : mc_cd 88 101 = some (.iload 6, 2) := by decide +kernel
theorem c88_103 : mc_cd 88 103 = some (.aload_n 1, 1) := by decide +kernel
theorem c88_104 : mc_cd 88 104 = some (.getfield 91, 3) := by decide +kernel
theorem c88_107 : mc_cd 88 107 = some (.if_icmp .ge 31, 3) := by decide +kernel
theorem c88_110 : mc_cd 88 110 = some (.aload_n 0, 1) := by decide +kernel
theorem c88_111 : mc_cd 88 111 = some (.aload_n 1, 1) := by decide +kernel
theorem c88_112 : mc_cd 88 112 = some (.getfield 94, 3) := by decide +kernel
theorem c88_115 : mc_cd 88 115 = some (.iload 6, 2) := by decide +kernel
theorem c88_117 : mc_cd 88 117 = some (.iaload, 1) := by decide +kernel
theorem c88_118 : mc_cd 88 118 = some (.aload_n 2, 1) := by decide +kernel
theorem c88_119 : mc_cd 88 119 = some (.aload_n 1, 1) := by decide +kernel
theorem c88_120 : mc_cd 88 120 = some (.getfield 94, 3) := by decide +kernel
theorem c88_123 : mc_cd 88 123 = some (.iload 6, 2) := by decide +kernel
theorem c88_125 : mc_cd 88 125 = some (.iaload, 1) := by decide +kernel
theorem c88_126 : mc_cd 88 126 = some (.invokevirtual 97, 3) := by decide +kernel
theorem c88_129 : mc_cd 88 129 = some (.invokevirtual 100, 3) := by decide +kernel
theorem c88_132 : mc_cd 88 132 = some (.iinc 6 1, 3) := by decide +kernel
theorem c88_135 : mc_cd 88 135 = some (.goto (-34), 3) := by decide +kernel
theorem c88_138 : mc_cd 88 138 = some (.aload_n 0, 1) := by decide +kernel
theorem c88_139 : mc_cd 88 139 = some (.getfield 11, 3) := by decide +kernel
theorem c88_142 : mc_cd 88 142 = some (.iload_n 3, 1) := by decide +kernel
theorem c88_143 : mc_cd 88 143 = some (.bipush 64, 2) := by decide +kernel
theorem c88_145 : mc_cd 88 145 = some (.idiv, 1) := by decide +kernel
theorem c88_146 : mc_cd 88 146 = some (.dup2, 1) := by decide +kernel
theorem c88_147 : mc_cd 88 147 = some (.laload, 1) := by decide +kernel
theorem c88_148 : mc_cd 88 148 = some (.lconst 1, 1) := by decide +kernel
theorem c88_149 : mc_cd 88 149 = some (.iload_n 3, 1) := by decide +kernel
theorem c88_150 : mc_cd 88 150 = some (.bipush 64, 2) := by decide +kernel
theorem c88_152 : mc_cd 88 152 = some (.irem, 1) := by decide +kernel
theorem c88_153 : mc_cd 88 153 = some (.lshl, 1) := by decide +kernel
theorem c88_154 : mc_cd 88 154 = some (.lor, 1) := by decide +kernel
theorem c88_155 : mc_cd 88 155 = some (.lastore, 1) := by decide +kernel
theorem c88_156 : mc_cd 88 156 = some (.aload_n 0, 1) := by decide +kernel
theorem c88_157 : mc_cd 88 157 = some (.dup, 1) := by decide +kernel
theorem c88_158 : mc_cd 88 158 = some (.getfield 62, 3) := by decide +kernel
theorem c88_161 : mc_cd 88 161 = some (.iconst 1, 1) := by decide +kernel
theorem c88_162 : mc_cd 88 162 = some (.iadd, 1) := by decide +kernel
theorem c88_163 : mc_cd 88 163 = some (.putfield 62, 3) := by decide +kernel
theorem c88_166 : mc_cd 88 166 = some (.aload_n 0, 1) := by decide +kernel
theorem c88_167 : mc_cd 88 167 = some (.dup, 1) := by decide +kernel
theorem c88_168 : mc_cd 88 168 = some (.getfield 66, 3) := by decide +kernel
theorem c88_171 : mc_cd 88 171 = some (.lload 4, 2) := by decide +kernel
theorem c88_173 : mc_cd 88 173 = some (.ladd, 1) := by decide +kernel
theorem c88_174 : mc_cd 88 174 = some (.putfield 66, 3) := by decide +kernel
theorem c88_177 : mc_cd 88 177 = some (.lload 4, 2) := by decide +kernel
theorem c88_179 : mc_cd 88 179 = some (.aload_n 0, 1) := by decide +kernel
theorem c88_180 : mc_cd 88 180 = some (.getfield 72, 3) := by decide +kernel
theorem c88_183 : mc_cd 88 183 = some (.lcmp, 1) := by decide +kernel
theorem c88_184 : mc_cd 88 184 = some (.ifCond .le 14, 3) := by decide +kernel
theorem c88_187 : mc_cd 88 187 = some (.aload_n 0, 1) := by decide +kernel
theorem c88_188 : mc_cd 88 188 = some (.lload 4, 2) := by decide +kernel
theorem c88_190 : mc_cd 88 190 = some (.putfield 72, 3) := by decide +kernel
theorem c88_193 : mc_cd 88 193 = some (.aload_n 0, 1) := by decide +kernel
theorem c88_194 : mc_cd 88 194 = some (.iload_n 3, 1) := by decide +kernel
theorem c88_195 : mc_cd 88 195 = some (.putfield 69, 3) := by decide +kernel
theorem c88_198 : mc_cd 88 198 = some (.return_, 1) := by decide +kernel
abbrev q_88 (r0 : Nat) (r1 : Nat) (r2 : Nat) (a3 : Int) (T : wq_T) (H : wq_H) : Option Value → wq_T → wq_H → Prop := fun r T' H' => T = T' ∧ WT T H' ∧ wfr [(12, 5), (12, 6), (12, 7), (12, 8), (15, 999), (18, 999), (19, 999), (17, 999), (13, 999)] T H H' ∧ none = r
set_option maxHeartbeats 4000000 in
theorem s_88 {kt : Nat → Option mc_E} {T : wq_T} {H : wq_H} {r0 : Nat} {r1 : Nat} {r2 : Nat} {a3 : Int} (hW : WT T H) (g0 : T.2.2.2 r0 = some 12) (g1 : T.2.2.2 r1 = some 27) (g2 : T.2.2.2 r2 = some 6) (i3 : 0 ≤ a3 ∧ a3 ≤ 19999) : wpc kt 2 88 [.ref r0, .ref r1, .ref r2, vI a3] T H (q_88 r0 r1 r2 a3 T H) := by
  refine wp_enter e88 (Nat.le_of_ble_eq_true rfl) rfl ?_
  have f0 : wfr [(12, 5), (12, 6), (12, 7), (12, 8), (15, 999), (18, 999), (19, 999), (17, 999), (13, 999)] T H H := wfr.rf
  show wp _ _ 88 0 [(0, .ref r0), (1, .ref r1), (2, .ref r2), (3, vI a3)] [] _ H _
  refine wp_of e88 c88_0 (rw_lconst (pc' := 1) (z := 1) rfl rfl ?_)
  refine wp_of e88 c88_1 (rw_lstore (pc' := 3) (z := 1) (L' := [(4, vL 1), (0, .ref r0), (1, .ref r1), (2, .ref r2), (3, vI a3)]) rfl rfl rfl ?_)
  refine wp_of e88 c88_3 (rw_iconst (pc' := 4) rfl ?_)
  refine wp_of e88 c88_4 (rw_istore (pc' := 6) (z := 0) (L' := [(6, vI 0), (4, vL 1), (0, .ref r0), (1, .ref r1), (2, .ref r2), (3, vI a3)]) rfl rfl rfl ?_)
  have lp25467 : ∀ (n25468 : Nat) (v25470 : Int) (v25471 : Int), (0 ≤ v25470 ∧ v25470 ≤ 6) → ((-9223372036854775808) ≤ v25471 ∧ v25471 ≤ 9223372036854775807) → (6 - v25470).toNat = n25468 → wp kt 1 88 6 [(6, vI v25470), (4, vL v25471), (0, .ref r0), (1, .ref r1), (2, .ref r2), (3, vI a3)] [] T H (q_88 r0 r1 r2 a3 T H) := by
    intro n25468
    induction n25468 using Nat.strongRecOn with
    | _ n25468 ih25469 =>
      intro v25470 v25471 b25474 b25475 m25476
      refine wp_of e88 c88_6 (rw_iload (pc' := 8) (z := v25470) rfl rfl ?_)
      refine wp_of e88 c88_8 (rw_aload_n (pc' := 9) (v := .ref r1) rfl rfl rfl ?_)
      refine wp_of e88 c88_9 (xg_I (pc' := 12) lf_4_75 hW g1 sh_27 (by decide) (by decide) ty_27_10 rfl rfl (fun b25477 b25478 => ?_))
      refine wp_of e88 c88_12 (rw_icmp_ge (p1 := 43) (p2 := 15) (by decide) rfl ⟨by omega, by omega⟩ ⟨by omega, by omega⟩ (fun c25479 => ?_) (fun c25479 => ?_))
      · refine wp_of e88 c88_43 (rw_iconst (pc' := 44) rfl ?_)
        refine wp_of e88 c88_44 (rw_istore (pc' := 46) (z := 0) (L' := [(6, vI 0), (4, vL v25471), (0, .ref r0), (1, .ref r1), (2, .ref r2), (3, vI a3)]) rfl rfl rfl ?_)
        have lp25830 : ∀ (n25831 : Nat) (v25833 : Int) (H25834 : wq_H), WT T H25834 → wfr [(15, 999), (17, 999)] T H H25834 → (0 ≤ v25833 ∧ v25833 ≤ 6) → (6 - v25833).toNat = n25831 → wp kt 1 88 46 [(6, vI v25833), (4, vL v25471), (0, .ref r0), (1, .ref r1), (2, .ref r2), (3, vI a3)] [] T H25834 (q_88 r0 r1 r2 a3 T H) := by
          intro n25831
          induction n25831 using Nat.strongRecOn with
          | _ n25831 ih25832 =>
            intro v25833 H25834 w25835 f25836 b25837 m25838
            have f25839 := f0.tr f25836 rfl
            refine wp_of e88 c88_46 (rw_iload (pc' := 48) (z := v25833) rfl rfl ?_)
            refine wp_of e88 c88_48 (rw_aload_n (pc' := 49) (v := .ref r1) rfl rfl rfl ?_)
            have k25840 : H25834 r1 10 = H r1 10 := (f25836 r1 10 _ g1 rfl)
            refine wp_of e88 c88_49 (xg_I (pc' := 52) lf_4_75 w25835 g1 sh_27 (by decide) (by decide) ty_27_10 rfl rfl (fun b25841 b25842 => ?_))
            refine wp_of e88 c88_52 (rw_icmp_ge (p1 := 98) (p2 := 55) (by decide) rfl ⟨by omega, by omega⟩ ⟨by omega, by omega⟩ (fun c25843 => ?_) (fun c25843 => ?_))
            · refine wp_of e88 c88_98 (rw_iconst (pc' := 99) rfl ?_)
              refine wp_of e88 c88_99 (rw_istore (pc' := 101) (z := 0) (L' := [(6, vI 0), (4, vL v25471), (0, .ref r0), (1, .ref r1), (2, .ref r2), (3, vI a3)]) rfl rfl rfl ?_)
              have lp26068 : ∀ (n26069 : Nat) (v26071 : Int) (H26072 : wq_H), WT T H26072 → wfr [(18, 999), (19, 999)] T H25834 H26072 → (0 ≤ v26071 ∧ v26071 ≤ 24) → (24 - v26071).toNat = n26069 → wp kt 1 88 101 [(6, vI v26071), (4, vL v25471), (0, .ref r0), (1, .ref r1), (2, .ref r2), (3, vI a3)] [] T H26072 (q_88 r0 r1 r2 a3 T H) := by
                intro n26069
                induction n26069 using Nat.strongRecOn with
                | _ n26069 ih26070 =>
                  intro v26071 H26072 w26073 f26074 b26075 m26076
                  have f26077 := f25839.tr f26074 rfl
                  refine wp_of e88 c88_101 (rw_iload (pc' := 103) (z := v26071) rfl rfl ?_)
                  refine wp_of e88 c88_103 (rw_aload_n (pc' := 104) (v := .ref r1) rfl rfl rfl ?_)
                  refine wp_of e88 c88_104 (xg_I (pc' := 107) lf_4_91 w26073 g1 sh_27 (by decide) (by decide) ty_27_16 rfl rfl (fun b26078 b26079 => ?_))
                  refine wp_of e88 c88_107 (rw_icmp_ge (p1 := 138) (p2 := 110) (by decide) rfl ⟨by omega, by omega⟩ ⟨by omega, by omega⟩ (fun c26080 => ?_) (fun c26080 => ?_))
                  · refine wp_of e88 c88_138 (rw_aload_n (pc' := 139) (v := .ref r0) rfl rfl rfl ?_)
                    refine wp_of e88 c88_139 (xg_R (pc' := 142) lf_4_11 w26073 g0 sh_12 (by decide) (by decide) ty_12_0 rfl rfl (fun r26081 q26082 g26083 => ?_))
                    refine wp_of e88 c88_142 (rw_iload_n (pc' := 143) (z := a3) rfl rfl ?_)
                    refine wp_of e88 c88_143 (rw_bipush (pc' := 145) (z := 64) rfl (by decide) ?_)
                    refine wp_of e88 c88_145 (rw_idiv (pc' := 146) rfl ⟨by omega, by omega⟩ (by omega) ?_)
                    obtain ⟨v26084, e26085⟩ : ∃ x : Int, x = wq_div a3 64 := ⟨_, rfl⟩
                    rw [← e26085]
                    have b26086 : v26084 = a3 / 64 := by
                      rw [e26085]
                      exact wq_div_e ⟨by omega, by omega⟩ ⟨by omega, by omega⟩
                    refine wp_of e88 c88_146 (rw_dup2 (pc' := 147) rfl rfl rfl ?_)
                    refine wp_of e88 c88_147 (xa_L (pc' := 148) w26073 g26083 sh_13 (by decide) (ty_13 _) (by omega) (by omega) rfl (fun b26087 b26088 => ?_))
                    refine wp_of e88 c88_148 (rw_lconst (pc' := 149) (z := 1) rfl rfl ?_)
                    refine wp_of e88 c88_149 (rw_iload_n (pc' := 150) (z := a3) rfl rfl ?_)
                    refine wp_of e88 c88_150 (rw_bipush (pc' := 152) (z := 64) rfl (by decide) ?_)
                    refine wp_of e88 c88_152 (rw_irem (pc' := 153) rfl ⟨by omega, by omega⟩ (by omega) ?_)
                    obtain ⟨v26089, e26090⟩ : ∃ x : Int, x = wq_rem a3 64 := ⟨_, rfl⟩
                    rw [← e26090]
                    have b26091 : v26089 = a3 % 64 := by
                      rw [e26090]
                      exact wq_rem_e ⟨by omega, by omega⟩ ⟨by omega, by omega⟩
                    refine wp_of e88 c88_153 (rw_lshl (pc' := 154) rfl ?_)
                    obtain ⟨v26092, e26093⟩ : ∃ x : Int, x = wl_shl 1 v26089 := ⟨_, rfl⟩
                    rw [← e26093]
                    have b26094 : -9223372036854775808 ≤ v26092 ∧ v26092 ≤ 9223372036854775807 := by
                      rw [e26093]
                      exact wL_shl _ _
                    refine wp_of e88 c88_154 (rw_lor (pc' := 155) rfl ?_)
                    obtain ⟨v26095, e26096⟩ : ∃ x : Int, x = wl_or (H26072 r26081 (v26084.toNat)) v26092 := ⟨_, rfl⟩
                    rw [← e26096]
                    have b26097 : -9223372036854775808 ≤ v26095 ∧ v26095 ≤ 9223372036854775807 := by
                      rw [e26096]
                      exact wL_or _ _
                    refine wp_of e88 c88_155 (xs_L (pc' := 156) w26073 g26083 (by decide) sh_13 (by decide) (ty_13 _) (by omega) (by omega) ⟨by omega, by omega⟩ (by omega) (by omega) rfl (fun H26098 e26099 w26100 => ?_))
                    have f26101 := f26077.put' e26099 g26083 rfl
                    refine wp_of e88 c88_156 (rw_aload_n (pc' := 157) (v := .ref r0) rfl rfl rfl ?_)
                    refine wp_of e88 c88_157 (rw_dup (pc' := 158) rfl rfl ?_)
                    refine wp_of e88 c88_158 (xg_I (pc' := 161) lf_4_62 w26100 g0 sh_12 (by decide) (by decide) ty_12_5 rfl rfl (fun b26102 b26103 => ?_))
                    refine wp_of e88 c88_161 (rw_iconst (pc' := 162) rfl ?_)
                    refine wp_of e88 c88_162 (rw_iaddw (pc' := 163) rfl ?_)
                    obtain ⟨v26104, e26105⟩ : ∃ x : Int, x = wq_w ((H26098 r0 5) + 1) := ⟨_, rfl⟩
                    rw [← e26105]
                    have b26106 : -2147483648 ≤ v26104 ∧ v26104 ≤ 2147483647 := by
                      rw [e26105]
                      exact wI_w _
                    refine wp_of e88 c88_163 (xp_I (pc' := 166) lf_4_62 w26100 g0 sh_12 (by decide) (by decide) ty_12_5 rfl rfl (by omega) (by omega) ⟨by omega, by omega⟩ rfl (fun H26107 e26108 w26109 => ?_))
                    have f26110 := f26101.put' e26108 g0 rfl
                    have k26111 : H26107 r0 5 = v26104 := wq_u_s e26108
                    refine wp_of e88 c88_166 (rw_aload_n (pc' := 167) (v := .ref r0) rfl rfl rfl ?_)
                    refine wp_of e88 c88_167 (rw_dup (pc' := 168) rfl rfl ?_)
                    refine wp_of e88 c88_168 (xg_L (pc' := 171) lf_4_66 w26109 g0 sh_12 (by decide) (by decide) ty_12_6 rfl rfl (fun b26112 b26113 => ?_))
                    refine wp_of e88 c88_171 (rw_lload (pc' := 173) (z := v25471) rfl rfl ?_)
                    refine wp_of e88 c88_173 (rw_laddw (pc' := 174) rfl ?_)
                    obtain ⟨v26114, e26115⟩ : ∃ x : Int, x = wl_w ((H26107 r0 6) + v25471) := ⟨_, rfl⟩
                    rw [← e26115]
                    have b26116 : -9223372036854775808 ≤ v26114 ∧ v26114 ≤ 9223372036854775807 := by
                      rw [e26115]
                      exact wL_w _
                    refine wp_of e88 c88_174 (xp_L (pc' := 177) lf_4_66 w26109 g0 sh_12 (by decide) (by decide) ty_12_6 rfl rfl (by omega) (by omega) ⟨by omega, by omega⟩ rfl (fun H26117 e26118 w26119 => ?_))
                    have f26120 := f26110.put' e26118 g0 rfl
                    have k26121 : H26117 r0 6 = v26114 := wq_u_s e26118
                    refine wp_of e88 c88_177 (rw_lload (pc' := 179) (z := v25471) rfl rfl ?_)
                    refine wp_of e88 c88_179 (rw_aload_n (pc' := 180) (v := .ref r0) rfl rfl rfl ?_)
                    refine wp_of e88 c88_180 (xg_L (pc' := 183) lf_4_72 w26119 g0 sh_12 (by decide) (by decide) ty_12_8 rfl rfl (fun b26122 b26123 => ?_))
                    refine wp_of e88 c88_183 (rw_lcmp (pc' := 184) rfl ⟨by omega, by omega⟩ ⟨by omega, by omega⟩ ?_)
                    have b26124 := wq_cmp_b v25471 (H26117 r0 8)
                    refine wp_of e88 c88_184 (rw_if_le (p1 := 198) (p2 := 187) (by decide) rfl ⟨by omega, by omega⟩ (fun c26125 => ?_) (fun c26125 => ?_))
                    · exact wp_return e88 c88_198 rfl ⟨rfl, w26119, f26120, rfl⟩
                    · refine wp_of e88 c88_187 (rw_aload_n (pc' := 188) (v := .ref r0) rfl rfl rfl ?_)
                      refine wp_of e88 c88_188 (rw_lload (pc' := 190) (z := v25471) rfl rfl ?_)
                      refine wp_of e88 c88_190 (xp_L (pc' := 193) lf_4_72 w26119 g0 sh_12 (by decide) (by decide) ty_12_8 rfl rfl (by omega) (by omega) ⟨by omega, by omega⟩ rfl (fun H26126 e26127 w26128 => ?_))
                      have f26129 := f26120.put' e26127 g0 rfl
                      have k26130 : H26126 r0 8 = v25471 := wq_u_s e26127
                      refine wp_of e88 c88_193 (rw_aload_n (pc' := 194) (v := .ref r0) rfl rfl rfl ?_)
                      refine wp_of e88 c88_194 (rw_iload_n (pc' := 195) (z := a3) rfl rfl ?_)
                      refine wp_of e88 c88_195 (xp_I (pc' := 198) lf_4_69 w26128 g0 sh_12 (by decide) (by decide) ty_12_7 rfl rfl (by omega) (by omega) ⟨by omega, by omega⟩ rfl (fun H26131 e26132 w26133 => ?_))
                      have f26134 := f26129.put' e26132 g0 rfl
                      have k26135 : H26131 r0 7 = a3 := wq_u_s e26132
                      exact wp_return e88 c88_198 rfl ⟨rfl, w26133, f26134, rfl⟩
                  · refine wp_of e88 c88_110 (rw_aload_n (pc' := 111) (v := .ref r0) rfl rfl rfl ?_)
                    refine wp_of e88 c88_111 (rw_aload_n (pc' := 112) (v := .ref r1) rfl rfl rfl ?_)
                    refine wp_of e88 c88_112 (xg_R (pc' := 115) lf_4_94 w26073 g1 sh_27 (by decide) (by decide) ty_27_2 rfl rfl (fun r26136 q26137 g26138 => ?_))
                    refine wp_of e88 c88_115 (rw_iload (pc' := 117) (z := v26071) rfl rfl ?_)
                    refine wp_of e88 c88_117 (xa_I (so := 0) (pc' := 118) w26073 g26138 sh_30 (by decide) (ty_30 _) (by omega) (by omega) rfl (fun b26139 b26140 => ?_))
                    refine wp_of e88 c88_118 (rw_aload_n (pc' := 119) (v := .ref r2) rfl rfl rfl ?_)
                    refine wp_of e88 c88_119 (rw_aload_n (pc' := 120) (v := .ref r1) rfl rfl rfl ?_)
                    refine wp_of e88 c88_120 (xg_K (pc' := 123) lf_4_94 w26073 g1 sh_27 (by decide) (by decide) rfl q26137 rfl ?_)
                    refine wp_of e88 c88_123 (rw_iload (pc' := 125) (z := v26071) rfl rfl ?_)
                    refine wp_of e88 c88_125 (xa_I (so := 0) (pc' := 126) w26073 g26138 sh_30 (by decide) (ty_30 _) (by omega) (by omega) rfl (fun b26141 b26142 => ?_))
                    refine wp_of e88 c88_126 (xc_V (pc' := 129) (r := r2) (as := [vI (H26072 r26136 (v26071.toNat))]) (st := [vI (H26072 r26136 (v26071.toNat)), .ref r0]) (lm_4_97) rfl rfl (Nat.le_of_ble_eq_true rfl) w26073 g2 sh_6 (by decide) rfl (by decide) (s_72 w26073 g2 ⟨by omega, by omega⟩) (fun R26143 T26144 H26145 p26146 => ?_))
                    obtain ⟨e26147, e26149, z26150, e26148, b26151⟩ := p26146
                    subst e26147
                    subst e26148
                    subst e26149
                    show wp _ _ 88 129 [(6, vI v26071), (4, vL v25471), (0, .ref r0), (1, .ref r1), (2, .ref r2), (3, vI a3)] [vI z26150, vI (H26072 r26136 (v26071.toNat)), .ref r0] _ H26072 _
                    refine wp_of e88 c88_129 (xc_V (pc' := 132) (r := r0) (as := [vI (H26072 r26136 (v26071.toNat)), vI z26150]) (st := []) (lm_4_100) rfl rfl (Nat.le_of_ble_eq_true rfl) w26073 g0 sh_12 (by decide) rfl (by decide) (s_90 w26073 g0 ⟨by omega, by omega⟩ ⟨by omega, by omega⟩) (fun R26152 T26153 H26154 p26155 => ?_))
                    obtain ⟨e26156, w26158, f26159, e26157⟩ := p26155
                    subst e26156
                    subst e26157
                    have f26160 := f26077.tr f26159 rfl
                    have f26161 := f26074.tr f26159 rfl
                    show wp _ _ 88 132 [(6, vI v26071), (4, vL v25471), (0, .ref r0), (1, .ref r1), (2, .ref r2), (3, vI a3)] [] _ H26154 _
                    refine wp_of e88 c88_132 (rw_iinc (pc' := 135) (z := v26071) (L' := [(6, vI (v26071 + 1)), (4, vL v25471), (0, .ref r0), (1, .ref r1), (2, .ref r2), (3, vI a3)]) rfl rfl rfl rfl ?_)
                    refine wp_of e88 c88_135 (rw_goto (p1 := 101) (by decide) ?_)
                    exact wp_lc (ks := [6, 4, 0, 1, 2, 3]) (wl_c rfl (wl_c rfl (wl_c rfl (wl_c rfl (wl_c rfl (wl_c rfl wl_n)))))) rfl (by decide) (ih26070 _ (by omega) (v26071 + 1) H26154 w26158 f26161 ⟨by omega, by omega⟩ rfl)
              exact wp_lc (ks := [6, 4, 0, 1, 2, 3]) (wl_c rfl (wl_c rfl (wl_c rfl (wl_c rfl (wl_c rfl (wl_c rfl wl_n)))))) rfl (by decide) (lp26068 _ 0 H25834 w25835 wfr.rf ⟨by omega, by omega⟩ rfl)
            · refine wp_of e88 c88_55 (rw_aload_n (pc' := 56) (v := .ref r0) rfl rfl rfl ?_)
              refine wp_of e88 c88_56 (xg_R (pc' := 59) lf_4_17 w25835 g0 sh_12 (by decide) (by decide) ty_12_1 rfl rfl (fun r26162 q26163 g26164 => ?_))
              refine wp_of e88 c88_59 (rw_iload (pc' := 61) (z := v25833) rfl rfl ?_)
              refine wp_of e88 c88_61 (xa_R (pc' := 62) (by decide) w25835 g26164 sh_14 (by decide) (ty_14 _) (by omega) (by omega) rfl (fun r26165 q26166 g26167 => ?_))
              refine wp_of e88 c88_62 (rw_aload_n (pc' := 63) (v := .ref r2) rfl rfl rfl ?_)
              refine wp_of e88 c88_63 (rw_iload (pc' := 65) (z := v25833) rfl rfl ?_)
              refine wp_of e88 c88_65 (xc_V (pc' := 68) (r := r2) (as := [vI v25833]) (st := [.ref r26165]) (lm_4_82) rfl rfl (Nat.le_of_ble_eq_true rfl) w25835 g2 sh_6 (by decide) rfl (by decide) (s_89 w25835 g2 ⟨by omega, by omega⟩) (fun R26168 T26169 H26170 p26171 => ?_))
              obtain ⟨e26172, e26174, z26175, e26173, b26176⟩ := p26171
              subst e26172
              subst e26173
              subst e26174
              show wp _ _ 88 68 [(6, vI v25833), (4, vL v25471), (0, .ref r0), (1, .ref r1), (2, .ref r2), (3, vI a3)] [vI z26175, .ref r26165] _ H25834 _
              refine wp_of e88 c88_68 (rw_dup2 (pc' := 69) rfl rfl rfl ?_)
              refine wp_of e88 c88_69 (xa_I (so := 0) (pc' := 70) w25835 g26167 sh_15 (by decide) (ty_15 _) (by omega) (by omega) rfl (fun b26177 b26178 => ?_))
              refine wp_of e88 c88_70 (rw_iconst (pc' := 71) rfl ?_)
              refine wp_of e88 c88_71 (rw_iaddw (pc' := 72) rfl ?_)
              obtain ⟨v26179, e26180⟩ : ∃ x : Int, x = wq_w ((H25834 r26165 (z26175.toNat)) + 1) := ⟨_, rfl⟩
              rw [← e26180]
              have b26181 : -2147483648 ≤ v26179 ∧ v26179 ≤ 2147483647 := by
                rw [e26180]
                exact wI_w _
              refine wp_of e88 c88_72 (xs_I (pc' := 73) w25835 g26167 (by decide) sh_15 (by decide) (ty_15 _) (by omega) (by omega) ⟨by omega, by omega⟩ (by omega) (by omega) rfl (fun H26182 e26183 w26184 => ?_))
              have f26185 := f25839.put' e26183 g26167 rfl
              have f26186 := f25836.put' e26183 g26167 rfl
              refine wp_of e88 c88_73 (rw_aload_n (pc' := 74) (v := .ref r0) rfl rfl rfl ?_)
              refine wp_of e88 c88_74 (xg_R (pc' := 77) lf_4_22 w26184 g0 sh_12 (by decide) (by decide) ty_12_2 rfl rfl (fun r26187 q26188 g26189 => ?_))
              refine wp_of e88 c88_77 (rw_iload (pc' := 79) (z := v25833) rfl rfl ?_)
              refine wp_of e88 c88_79 (xa_R (pc' := 80) (by decide) w26184 g26189 sh_16 (by decide) (ty_16 _) (by omega) (by omega) rfl (fun r26190 q26191 g26192 => ?_))
              refine wp_of e88 c88_80 (rw_aload_n (pc' := 81) (v := .ref r2) rfl rfl rfl ?_)
              refine wp_of e88 c88_81 (rw_iload (pc' := 83) (z := v25833) rfl rfl ?_)
              refine wp_of e88 c88_83 (xc_V (pc' := 86) (r := r2) (as := [vI v25833]) (st := [.ref r26190]) (lm_4_82) rfl rfl (Nat.le_of_ble_eq_true rfl) w26184 g2 sh_6 (by decide) rfl (by decide) (s_89 w26184 g2 ⟨by omega, by omega⟩) (fun R26193 T26194 H26195 p26196 => ?_))
              obtain ⟨e26197, e26199, z26200, e26198, b26201⟩ := p26196
              subst e26197
              subst e26198
              subst e26199
              show wp _ _ 88 86 [(6, vI v25833), (4, vL v25471), (0, .ref r0), (1, .ref r1), (2, .ref r2), (3, vI a3)] [vI z26200, .ref r26190] _ H26182 _
              refine wp_of e88 c88_86 (rw_dup2 (pc' := 87) rfl rfl rfl ?_)
              refine wp_of e88 c88_87 (xa_L (pc' := 88) w26184 g26192 sh_17 (by decide) (ty_17 _) (by omega) (by omega) rfl (fun b26202 b26203 => ?_))
              refine wp_of e88 c88_88 (rw_lload (pc' := 90) (z := v25471) rfl rfl ?_)
              refine wp_of e88 c88_90 (rw_laddw (pc' := 91) rfl ?_)
              obtain ⟨v26204, e26205⟩ : ∃ x : Int, x = wl_w ((H26182 r26190 (z26200.toNat)) + v25471) := ⟨_, rfl⟩
              rw [← e26205]
              have b26206 : -9223372036854775808 ≤ v26204 ∧ v26204 ≤ 9223372036854775807 := by
                rw [e26205]
                exact wL_w _
              refine wp_of e88 c88_91 (xs_L (pc' := 92) w26184 g26192 (by decide) sh_17 (by decide) (ty_17 _) (by omega) (by omega) ⟨by omega, by omega⟩ (by omega) (by omega) rfl (fun H26207 e26208 w26209 => ?_))
              have f26210 := f26185.put' e26208 g26192 rfl
              have f26211 := f26186.put' e26208 g26192 rfl
              refine wp_of e88 c88_92 (rw_iinc (pc' := 95) (z := v25833) (L' := [(6, vI (v25833 + 1)), (4, vL v25471), (0, .ref r0), (1, .ref r1), (2, .ref r2), (3, vI a3)]) rfl rfl rfl rfl ?_)
              refine wp_of e88 c88_95 (rw_goto (p1 := 46) (by decide) ?_)
              exact wp_lc (ks := [6, 4, 0, 1, 2, 3]) (wl_c rfl (wl_c rfl (wl_c rfl (wl_c rfl (wl_c rfl (wl_c rfl wl_n)))))) rfl (by decide) (ih25832 _ (by omega) (v25833 + 1) H26207 w26209 f26211 ⟨by omega, by omega⟩ rfl)
        exact wp_lc (ks := [6, 4, 0, 1, 2, 3]) (wl_c rfl (wl_c rfl (wl_c rfl (wl_c rfl (wl_c rfl (wl_c rfl wl_n)))))) rfl (by decide) (lp25830 _ 0 H hW wfr.rf ⟨by omega, by omega⟩ rfl)
      · refine wp_of e88 c88_15 (rw_lload (pc' := 17) (z := v25471) rfl rfl ?_)
        refine wp_of e88 c88_17 (rw_aload_n (pc' := 18) (v := .ref r1) rfl rfl rfl ?_)
        refine wp_of e88 c88_18 (xg_R (pc' := 21) lf_4_78 hW g1 sh_27 (by decide) (by decide) ty_27_0 rfl rfl (fun r26212 q26213 g26214 => ?_))
        refine wp_of e88 c88_21 (rw_iload (pc' := 23) (z := v25470) rfl rfl ?_)
        refine wp_of e88 c88_23 (xa_R (pc' := 24) (by decide) hW g26214 sh_28 (by decide) (ty_28 _) (by omega) (by omega) rfl (fun r26215 q26216 g26217 => ?_))
        refine wp_of e88 c88_24 (rw_aload_n (pc' := 25) (v := .ref r2) rfl rfl rfl ?_)
        refine wp_of e88 c88_25 (rw_iload (pc' := 27) (z := v25470) rfl rfl ?_)
        refine wp_of e88 c88_27 (xc_V (pc' := 30) (r := r2) (as := [vI v25470]) (st := [.ref r26215, vL v25471]) (lm_4_82) rfl rfl (Nat.le_of_ble_eq_true rfl) hW g2 sh_6 (by decide) rfl (by decide) (s_89 hW g2 ⟨by omega, by omega⟩) (fun R26218 T26219 H26220 p26221 => ?_))
        obtain ⟨e26222, e26224, z26225, e26223, b26226⟩ := p26221
        subst e26222
        subst e26223
        subst e26224
        show wp _ _ 88 30 [(6, vI v25470), (4, vL v25471), (0, .ref r0), (1, .ref r1), (2, .ref r2), (3, vI a3)] [vI z26225, .ref r26215, vL v25471] _ H _
        refine wp_of e88 c88_30 (xc_V (pc' := 33) (r := r26215) (as := [vI z26225]) (st := [vL v25471]) (lm_4_86) rfl rfl (Nat.le_of_ble_eq_true rfl) hW g26217 sh_35 (by decide) rfl (by decide) (s_58 hW g26217 ⟨by omega, by omega⟩) (fun R26227 T26228 H26229 p26230 => ?_))
        obtain ⟨e26231, e26233, z26234, e26232, b26235⟩ := p26230
        subst e26231
        subst e26232
        subst e26233
        show wp _ _ 88 33 [(6, vI v25470), (4, vL v25471), (0, .ref r0), (1, .ref r1), (2, .ref r2), (3, vI a3)] [vI z26234, vL v25471] _ H _
        refine wp_of e88 c88_33 (rw_i2l (pc' := 34) rfl ⟨by omega, by omega⟩ ?_)
        refine wp_of e88 c88_34 (rw_lmulw (pc' := 35) rfl ?_)
        obtain ⟨v26236, e26237⟩ : ∃ x : Int, x = wl_w (v25471 * z26234) := ⟨_, rfl⟩
        rw [← e26237]
        have b26238 : -9223372036854775808 ≤ v26236 ∧ v26236 ≤ 9223372036854775807 := by
          rw [e26237]
          exact wL_w _
        refine wp_of e88 c88_35 (rw_lstore (pc' := 37) (z := v26236) (L' := [(4, vL v26236), (6, vI v25470), (0, .ref r0), (1, .ref r1), (2, .ref r2), (3, vI a3)]) rfl rfl rfl ?_)
        refine wp_of e88 c88_37 (rw_iinc (pc' := 40) (z := v25470) (L' := [(6, vI (v25470 + 1)), (4, vL v26236), (0, .ref r0), (1, .ref r1), (2, .ref r2), (3, vI a3)]) rfl rfl rfl rfl ?_)
        refine wp_of e88 c88_40 (rw_goto (p1 := 6) (by decide) ?_)
        exact wp_lc (ks := [6, 4, 0, 1, 2, 3]) (wl_c rfl (wl_c rfl (wl_c rfl (wl_c rfl (wl_c rfl (wl_c rfl wl_n)))))) rfl (by decide) (ih25469 _ (by omega) (v25470 + 1) v26236 ⟨by omega, by omega⟩ ⟨by omega, by omega⟩ rfl)
  exact wp_lc (ks := [6, 4, 0, 1, 2, 3]) (wl_c rfl (wl_c rfl (wl_c rfl (wl_c rfl (wl_c rfl (wl_c rfl wl_n)))))) rfl (by decide) (lp25467 _ 0 1 ⟨by omega, by omega⟩ ⟨by omega, by omega⟩ rfl)
/-! StrikeAwake$Walk.step(LStrikeAwake$Parish;)V -/
theorem e91 : wq_en 91 = some (3, 4, false, none) := rfl
theorem c91_0 : mc_cd 91 0 = some (.iconst 0, 1) := by decide +kernel
theorem c91_1 : mc_cd 91 1 = some (.istore_n 2, 1) := by decide +kernel
theorem c91_2 : mc_cd 91 2 = some (.aload_n 0, 1) := by decide +kernel
theorem c91_3 : mc_cd 91 3 = some (.getfield 51, 3) := by decide +kernel
theorem c91_6 : mc_cd 91 6 = some (.iconst 1, 1) := by decide +kernel
theorem c91_7 : mc_cd 91 7 = some (.isub, 1) := by decide +kernel
theorem c91_8 : mc_cd 91 8 = some (.istore_n 3, 1) := by decide +kernel
theorem c91_9 : mc_cd 91 9 = some (.iload_n 3, 1) := by decide +kernel
theorem c91_10 : mc_cd 91 10 = some (.ifCond .lt 49, 3) := by decide +kernel
theorem c91_13 : mc_cd 91 13 = some (.aload_n 0, 1) := by decide +kernel
theorem c91_14 : mc_cd 91 14 = some (.getfield 9, 3) := by decide +kernel
theorem c91_17 : mc_cd 91 17 = some (.iload_n 3, 1) := by decide +kernel
theorem c91_18 : mc_cd 91 18 = some (.dup2, 1) := by decide +kernel
theorem c91_19 : mc_cd 91 19 = some (.iaload, 1) := by decide +kernel
theorem c91_20 : mc_cd 91 20 = some (.iconst 1, 1) := by decide +kernel
theorem c91_21 : mc_cd 91 21 = some (.iadd, 1) := by decide +kernel
theorem c91_22 : mc_cd 91 22 = some (.iastore, 1) := by decide +kernel
theorem c91_23 : mc_cd 91 23 = some (.aload_n 0, 1) := by decide +kernel
theorem c91_24 : mc_cd 91 24 = some (.getfield 9, 3) := by decide +kernel
theorem c91_27 : mc_cd 91 27 = some (.iload_n 3, 1) := by decide +kernel
theorem c91_28 : mc_cd 91 28 = some (.iaload, 1) := by decide +kernel
theorem c91_29 : mc_cd 91 29 = some (.aload_n 1, 1) := by decide +kernel
theorem c91_30 : mc_cd 91 30 = some (.getfield 42, 3) := by decide +kernel
theorem c91_33 : mc_cd 91 33 = some (.iload_n 3, 1) := by decide +kernel
theorem c91_34 : mc_cd 91 34 = some (.aaload, 1) := by decide +kernel
theorem c91_35 : mc_cd 91 35 = some (.getfield 52, 3) := by decide +kernel
theorem c91_38 : mc_cd 91 38 = some (.if_icmp .ge 8, 3) := by decide +kernel
theorem c91_41 : mc_cd 91 41 = some (.iload_n 3, 1) := by decide +kernel
theorem c91_42 : mc_cd 91 42 = some (.istore_n 2, 1) := by decide +kernel
theorem c91_43 : mc_cd 91 43 = some (.goto 16, 3) := by decide +kernel
theorem c91_46 : mc_cd 91 46 = some (.aload_n 0, 1) := by decide +kernel
theorem c91_47 : mc_cd 91 47 = some (.getfield 9, 3) := by decide +kernel
theorem c91_50 : mc_cd 91 50 = some (.iload_n 3, 1) := by decide +kernel
theorem c91_51 : mc_cd 91 51 = some (.iconst 0, 1) := by decide +kernel
theorem c91_52 : mc_cd 91 52 = some (.iastore, 1) := by decide +kernel
theorem c91_53 : mc_cd 91 53 = some (.iinc 3 (-1), 3) := by decide +kernel
theorem c91_56 : mc_cd 91 56 = some (.goto (-47), 3) := by decide +kernel
theorem c91_59 : mc_cd 91 59 = some (.aload_n 0, 1) := by decide +kernel
theorem c91_60 : mc_cd 91 60 = some (.aload_n 1, 1) := by decide +kernel
theorem c91_61 : mc_cd 91 61 = some (.iload_n 2, 1) := by decide +kernel
theorem c91_62 : mc_cd 91 62 = some (.invokevirtual 32, 3) := by decide +kernel
theorem c91_65 : mc_cd 91 65 = some (.return_, 1) := by decide +kernel
abbrev q_91 (r0 : Nat) (r1 : Nat) (T : wq_T) (H : wq_H) : Option Value → wq_T → wq_H → Prop := fun r T' H' => T = T' ∧ WT T H' ∧ wfr [(8, 999), (10, 999), (9, 999), (7, 999), (11, 999)] T H H' ∧ none = r
set_option maxHeartbeats 4000000 in
theorem s_91 {kt : Nat → Option mc_E} {T : wq_T} {H : wq_H} {r0 : Nat} {r1 : Nat} (hW : WT T H) (g0 : T.2.2.2 r0 = some 6) (g1 : T.2.2.2 r1 = some 27) : wpc kt 3 91 [.ref r0, .ref r1] T H (q_91 r0 r1 T H) := by
  refine wp_enter e91 (Nat.le_of_ble_eq_true rfl) rfl ?_
  have f0 : wfr [(8, 999), (10, 999), (9, 999), (7, 999), (11, 999)] T H H := wfr.rf
  show wp _ _ 91 0 [(0, .ref r0), (1, .ref r1)] [] _ H _
  refine wp_of e91 c91_0 (rw_iconst (pc' := 1) rfl ?_)
  refine wp_of e91 c91_1 (rw_istore_n (pc' := 2) (z := 0) (L' := [(2, vI 0), (0, .ref r0), (1, .ref r1)]) rfl rfl rfl ?_)
  refine wp_of e91 c91_2 (rw_aload_n (pc' := 3) (v := .ref r0) rfl rfl rfl ?_)
  refine wp_of e91 c91_3 (xg_I (pc' := 6) lf_3_51 hW g0 sh_6 (by decide) (by decide) ty_6_5 rfl rfl (fun b1 b2 => ?_))
  refine wp_of e91 c91_6 (rw_iconst (pc' := 7) rfl ?_)
  refine wp_of e91 c91_7 (rw_isub (pc' := 8) rfl ?_)
  refine wp_of e91 c91_8 (rw_istore_n (pc' := 9) (z := (H r0 5) - 1) (L' := [(3, vI ((H r0 5) - 1)), (2, vI 0), (0, .ref r0), (1, .ref r1)]) rfl rfl rfl ?_)
  have lp : ∀ (n : Nat) (v : Int) (H1 : wq_H), WT T H1 → wfr [(7, 999)] T H H1 → ((-1) ≤ v ∧ v ≤ 5) → (v - (-1)).toNat = n → wp kt 2 91 9 [(3, vI v), (2, vI 0), (0, .ref r0), (1, .ref r1)] [] T H1 (q_91 r0 r1 T H) := by
    intro n
    induction n using Nat.strongRecOn with
    | _ n ih =>
      intro v H1 w1 f1 b3 m1
      have f2 := f0.tr f1 rfl
      refine wp_of e91 c91_9 (rw_iload_n (pc' := 10) (z := v) rfl rfl ?_)
      refine wp_of e91 c91_10 (rw_if_lt (p1 := 59) (p2 := 13) (by decide) rfl ⟨by omega, by omega⟩ (fun c1 => ?_) (fun c1 => ?_))
      · refine wp_of e91 c91_59 (rw_aload_n (pc' := 60) (v := .ref r0) rfl rfl rfl ?_)
        refine wp_of e91 c91_60 (rw_aload_n (pc' := 61) (v := .ref r1) rfl rfl rfl ?_)
        refine wp_of e91 c91_61 (rw_iload_n (pc' := 62) (z := 0) rfl rfl ?_)
        refine wp_of e91 c91_62 (xc_V (pc' := 65) (r := r0) (as := [.ref r1, vI 0]) (st := []) (lm_3_32) rfl rfl (Nat.le_of_ble_eq_true rfl) w1 g0 sh_6 (by decide) rfl (by decide) (s_70 w1 g0 g1 ⟨by omega, by omega⟩) (fun R9 T9 H9 p9 => ?_))
        obtain ⟨e7, w9, f9, e8⟩ := p9
        subst e7
        subst e8
        have f10 := f2.tr f9 rfl
        show wp _ _ 91 65 [(3, vI v), (2, vI 0), (0, .ref r0), (1, .ref r1)] [] _ H9 _
        exact wp_return e91 c91_65 rfl ⟨rfl, w9, f10, rfl⟩
      · refine wp_of e91 c91_13 (rw_aload_n (pc' := 14) (v := .ref r0) rfl rfl rfl ?_)
        refine wp_of e91 c91_14 (xg_R (pc' := 17) lf_3_9 w1 g0 sh_6 (by decide) (by decide) ty_6_0 rfl rfl (fun rp q1 gp => ?_))
        refine wp_of e91 c91_17 (rw_iload_n (pc' := 18) (z := v) rfl rfl ?_)
        refine wp_of e91 c91_18 (rw_dup2 (pc' := 19) rfl rfl rfl ?_)
        refine wp_of e91 c91_19 (xa_I (so := 0) (pc' := 20) w1 gp sh_7 (by decide) (ty_7 _) (by omega) (by omega) rfl (fun b5 b6 => ?_))
        refine wp_of e91 c91_20 (rw_iconst (pc' := 21) rfl ?_)
        refine wp_of e91 c91_21 (rw_iadd (pc' := 22) rfl ?_)
        refine wp_of e91 c91_22 (rw_iastore (pc' := 23) (w1.sh gp sh_7) (w1.hi gp (by decide)) (by decide) ⟨by omega, by omega⟩ (by omega) (by omega) rfl ?_)
        obtain ⟨H2, e2⟩ : ∃ X : wq_H, X = wq_u H1 rp v.toNat (H1 rp v.toNat + 1) := ⟨_, rfl⟩
        rw [← e2]
        have k2 : H2 rp v.toNat = H1 rp v.toNat + 1 := wq_u_s e2
        obtain ⟨l9, hl9, hj9, -⟩ := lf_3_9
        obtain ⟨l42, hl42, hj42, -⟩ := lf_3_42
        obtain ⟨l52, hl52, hj52, -⟩ := lf_3_52
        have hc0 := wq_hc (a := r0) (c := 3) (j := 0) (n := 6) (w1.hi g0 (by decide)) (by decide)
        have q2 : H2 r0 0 = (rp : Int) := (wq_u_t e2 gp g0 rfl 0).trans q1
        refine wp_of e91 c91_23 (rw_aload_n (pc' := 24) (v := .ref r0) rfl rfl rfl ?_)
        refine wp_of e91 c91_24 (rw_getR (pc' := 27) hl9 hj9 (w1.sh g0 sh_6) hc0 rfl q2 rfl ?_)
        refine wp_of e91 c91_27 (rw_iload_n (pc' := 28) (z := v) rfl rfl ?_)
        refine wp_of e91 c91_28 (rw_iaload (pc' := 29) (w1.sh gp sh_7) ⟨by decide, rfl, Bool.or_true _, by decide⟩ (by omega) (by omega) rfl rfl ?_)
        obtain ⟨ra, q3, ga⟩ := w1.ref g1 (t' := 28) (n := 19) (j := 0) (p := 0) (q := 0) rfl (by decide) rfl
        have q4 : H2 r1 0 = (ra : Int) := (wq_u_t e2 gp g1 rfl 0).trans q3
        refine wp_of e91 c91_29 (rw_aload_n (pc' := 30) (v := .ref r1) rfl rfl rfl ?_)
        refine wp_of e91 c91_30 (rw_getR (pc' := 33) hl42 hj42 (w1.sh g1 sh_27) (wq_hc (w1.hi g1 (by decide)) (by decide)) rfl q4 rfl ?_)
        refine wp_of e91 c91_33 (rw_iload_n (pc' := 34) (z := v) rfl rfl ?_)
        obtain ⟨rs, q5, gs⟩ := w1.ref ga (t' := 35) (n := 6) (j := v.toNat) (p := 0) (q := 0) rfl (by omega) rfl
        have q6 : H2 ra v.toNat = (rs : Int) := (wq_u_t e2 gp ga rfl _).trans q5
        refine wp_of e91 c91_34 (rw_aaload (pc' := 35) (w1.sh ga sh_28) ⟨by decide, rfl, Bool.or_true _, by decide⟩ (by omega) (by omega) rfl q6 rfl ?_)
        have b7 : (0 : Int) ≤ H1 rs 15 ∧ H1 rs 15 ≤ 40 := w1.box gs (n := 18) rfl (by decide) rfl
        have k3 : H2 rs 15 = H1 rs 15 := wq_u_t e2 gp gs rfl 15
        refine wp_of e91 c91_35 (rw_getI (pc' := 38) hl52 hj52 (w1.sh gs sh_35) (wq_hc (w1.hi gs (by decide)) (by decide)) rfl rfl ?_)
        refine wp_of e91 c91_38 (rw_icmp_ge (p1 := 46) (p2 := 41) (by decide) rfl ⟨by omega, by omega⟩ ⟨by omega, by omega⟩ (fun c2 => ?_) (fun c2 => ?_))
        · refine wp_of e91 c91_46 (rw_aload_n (pc' := 47) (v := .ref r0) rfl rfl rfl ?_)
          refine wp_of e91 c91_47 (rw_getR (pc' := 50) hl9 hj9 (w1.sh g0 sh_6) hc0 rfl q2 rfl ?_)
          refine wp_of e91 c91_50 (rw_iload_n (pc' := 51) (z := v) rfl rfl ?_)
          refine wp_of e91 c91_51 (rw_iconst (pc' := 52) rfl ?_)
          refine wp_of e91 c91_52 (rw_iastore (pc' := 53) (w1.sh gp sh_7) (w1.hi gp (by decide)) (by decide) ⟨by omega, by omega⟩ (by omega) (by omega) rfl ?_)
          have e3 : wq_u H2 rp v.toNat 0 = wq_u H1 rp v.toNat 0 := by
            funext b i
            by_cases hq : b = rp ∧ i = v.toNat
            · obtain ⟨rfl, rfl⟩ := hq
              rw [wq_u_eq, wq_u_eq]
            · rw [wq_u_ne hq, wq_u_ne hq, e2, wq_u_ne hq]
          rw [e3]
          have w3 : WT T (wq_u H1 rp v.toNat 0) := w1.putB gp (ty_7 _) (by omega) (by omega)
          have f3 : wfr [(7, 999)] T H (wq_u H1 rp v.toNat 0) := f1.put gp rfl
          refine wp_of e91 c91_53 (rw_iinc (pc' := 56) (z := v) (L' := [(3, vI (v + (-1))), (2, vI 0), (0, .ref r0), (1, .ref r1)]) rfl rfl rfl rfl ?_)
          refine wp_of e91 c91_56 (rw_goto (p1 := 9) (by decide) ?_)
          exact wp_lc (ks := [3, 2, 0, 1]) (wl_c rfl (wl_c rfl (wl_c rfl (wl_c rfl wl_n)))) rfl (by decide) (ih _ (by omega) (v + (-1)) _ w3 f3 ⟨by omega, by omega⟩ rfl)
        · have w2 : WT T H2 := by
            rw [e2]
            exact w1.putB gp (ty_7 _) (by omega) (by omega)
          have f3 := f2.put' e2 gp rfl
          refine wp_of e91 c91_41 (rw_iload_n (pc' := 42) (z := v) rfl rfl ?_)
          refine wp_of e91 c91_42 (rw_istore_n (pc' := 43) (z := v) (L' := [(2, vI v), (3, vI v), (0, .ref r0), (1, .ref r1)]) rfl rfl rfl ?_)
          refine wp_of e91 c91_43 (rw_goto (p1 := 59) (by decide) ?_)
          refine wp_of e91 c91_59 (rw_aload_n (pc' := 60) (v := .ref r0) rfl rfl rfl ?_)
          refine wp_of e91 c91_60 (rw_aload_n (pc' := 61) (v := .ref r1) rfl rfl rfl ?_)
          refine wp_of e91 c91_61 (rw_iload_n (pc' := 62) (z := v) rfl rfl ?_)
          refine wp_of e91 c91_62 (xc_V (pc' := 65) (r := r0) (as := [.ref r1, vI v]) (st := []) (lm_3_32) rfl rfl (Nat.le_of_ble_eq_true rfl) w2 g0 sh_6 (by decide) rfl (by decide) (s_70 w2 g0 g1 ⟨by omega, by omega⟩) (fun R9 T9 H9 p9 => ?_))
          obtain ⟨e7, w9, f9, e8⟩ := p9
          subst e7
          subst e8
          have f10 := f3.tr f9 rfl
          show wp _ _ 91 65 [(2, vI v), (3, vI v), (0, .ref r0), (1, .ref r1)] [] _ H9 _
          exact wp_return e91 c91_65 rfl ⟨rfl, w9, f10, rfl⟩
  exact wp_lc (ks := [3, 2, 0, 1]) (wl_c rfl (wl_c rfl (wl_c rfl (wl_c rfl wl_n)))) rfl (by decide) (lp _ ((H r0 5) - 1) H hW wfr.rf ⟨by omega, by omega⟩ rfl)
/-! StrikeAwake$Census.renew(LStrikeAwake$Parish;LStrikeAwake$Walk;)V -/
theorem e85 : wq_en 85 = some (4, 4, false, none) := rfl
theorem c85_0 : mc_cd 85 0 = some (.aload_n 0, 1) := by decide +kernel
theorem c85_1 : mc_cd 85 1 = some (.getfield 32, 3) := by decide +kernel
theorem c85_4 : mc_cd 85 4 = some (.ifCond .eq 4, 3) := by decide +kernel
theorem c85_7 : mc_cd 85 7 = some (.return_, 1) := by decide +kernel
theorem c85_8 : mc_cd 85 8 = some (.aload_n 0, 1) := by decide +kernel
theorem c85_9 : mc_cd 85 9 = some (.invokevirtual 36, 3) := by decide +kernel
theorem c85_12 : mc_cd 85 12 = some (.aload_n 2, 1) := by decide +kernel
theorem c85_13 : mc_cd 85 13 = some (.aload_n 1, 1) := by decide +kernel
theorem c85_14 : mc_cd 85 14 = some (.invokevirtual 39, 3) := by decide +kernel
theorem c85_17 : mc_cd 85 17 = some (.iconst 0, 1) := by decide +kernel
theorem c85_18 : mc_cd 85 18 = some (.istore_n 3, 1) := by decide +kernel
theorem c85_19 : mc_cd 85 19 = some (.iload_n 3, 1) := by decide +kernel
theorem c85_20 : mc_cd 85 20 = some (.i2l, 1) := by decide +kernel
theorem c85_21 : mc_cd 85 21 = some (.aload_n 1, 1) := by decide +kernel
theorem c85_22 : mc_cd 85 22 = some (.getfield 45, 3) := by decide +kernel
theorem c85_25 : mc_cd 85 25 = some (.lcmp, 1) := by decide +kernel
theorem c85_26 : mc_cd 85 26 = some (.ifCond .ge 36, 3) := by decide +kernel
theorem c85_29 : mc_cd 85 29 = some (.iload_n 3, 1) := by decide +kernel
theorem c85_30 : mc_cd 85 30 = some (.sipush 20000, 3) := by decide +kernel
theorem c85_33 : mc_cd 85 33 = some (.if_icmp .ge 29, 3) := by decide +kernel
theorem c85_36 : mc_cd 85 36 = some (.aload_n 2, 1) := by decide +kernel
theorem c85_37 : mc_cd 85 37 = some (.aload_n 1, 1) := by decide +kernel
theorem c85_38 : mc_cd 85 38 = some (.invokevirtual 51, 3) := by decide +kernel
theorem c85_41 : mc_cd 85 41 = some (.ifCond .eq 10, 3) := by decide +kernel
theorem c85_44 : mc_cd 85 44 = some (.aload_n 0, 1) := by decide +kernel
theorem c85_45 : mc_cd 85 45 = some (.aload_n 1, 1) := by decide +kernel
theorem c85_46 : mc_cd 85 46 = some (.aload_n 2, 1) := by decide +kernel
theorem c85_47 : mc_cd 85 47 = some (.iload_n 3, 1) := by decide +kernel
theorem c85_48 : mc_cd 85 48 = some (.invokevirtual 55, 3) := by decide +kernel
theorem c85_51 : mc_cd 85 51 = some (.aload_n 2, 1) := by decide +kernel
theorem c85_52 : mc_cd 85 52 = some (.aload_n 1, 1) := by decide +kernel
theorem c85_53 : mc_cd 85 53 = some (.invokevirtual 59, 3) := by decide +kernel
theorem c85_56 : mc_cd 85 56 = some (.iinc 3 1, 3) := by decide +kernel
theorem c85_59 : mc_cd 85 59 = some (.goto (-40), 3) := by decide +kernel
theorem c85_62 : mc_cd 85 62 = some (.aload_n 0, 1) := by decide +kernel
theorem c85_63 : mc_cd 85 63 = some (.iconst 1, 1) := by decide +kernel
theorem c85_64 : mc_cd 85 64 = some (.putfield 32, 3) := by decide +kernel
theorem c85_67 : mc_cd 85 67 = some (.return_, 1) := by decide +kernel
abbrev q_85 (r0 : Nat) (r1 : Nat) (r2 : Nat) (T : wq_T) (H : wq_H) : Option Value → wq_T → wq_H → Prop := fun r T' H' => T = T' ∧ WT T H' ∧ wfr [(12, 5), (12, 6), (12, 7), (12, 8), (12, 9), (6, 5), (8, 999), (10, 999), (15, 999), (9, 999), (18, 999), (19, 999), (7, 999), (11, 999), (17, 999), (13, 999)] T H H' ∧ none = r
set_option maxHeartbeats 4000000 in
theorem s_85 {kt : Nat → Option mc_E} {T : wq_T} {H : wq_H} {r0 : Nat} {r1 : Nat} {r2 : Nat} (hW : WT T H) (g0 : T.2.2.2 r0 = some 12) (g1 : T.2.2.2 r1 = some 27) (g2 : T.2.2.2 r2 = some 6) : wpc kt 4 85 [.ref r0, .ref r1, .ref r2] T H (q_85 r0 r1 r2 T H) := by
  refine wp_enter e85 (Nat.le_of_ble_eq_true rfl) rfl ?_
  have f0 : wfr [(12, 5), (12, 6), (12, 7), (12, 8), (12, 9), (6, 5), (8, 999), (10, 999), (15, 999), (9, 999), (18, 999), (19, 999), (7, 999), (11, 999), (17, 999), (13, 999)] T H H := wfr.rf
  show wp _ _ 85 0 [(0, .ref r0), (1, .ref r1), (2, .ref r2)] [] _ H _
  refine wp_of e85 c85_0 (rw_aload_n (pc' := 1) (v := .ref r0) rfl rfl rfl ?_)
  refine wp_of e85 c85_1 (xg_I (pc' := 4) lf_4_32 hW g0 sh_12 (by decide) (by decide) ty_12_9 rfl rfl (fun b26751 b26752 => ?_))
  refine wp_of e85 c85_4 (rw_if_eq (p1 := 8) (p2 := 7) (by decide) rfl ⟨by omega, by omega⟩ (fun c26753 => ?_) (fun c26753 => ?_))
  · refine wp_of e85 c85_8 (rw_aload_n (pc' := 9) (v := .ref r0) rfl rfl rfl ?_)
    refine wp_of e85 c85_9 (xc_V (pc' := 12) (r := r0) (as := []) (st := []) (lm_4_36) rfl rfl (Nat.le_of_ble_eq_true rfl) hW g0 sh_12 (by decide) rfl (by decide) (s_86 hW g0) (fun R26754 T26755 H26756 p26757 => ?_))
    obtain ⟨e26758, w26760, f26761, e26759⟩ := p26757
    subst e26758
    subst e26759
    have f26762 := f0.tr f26761 rfl
    show wp _ _ 85 12 [(0, .ref r0), (1, .ref r1), (2, .ref r2)] [] _ H26756 _
    refine wp_of e85 c85_12 (rw_aload_n (pc' := 13) (v := .ref r2) rfl rfl rfl ?_)
    refine wp_of e85 c85_13 (rw_aload_n (pc' := 14) (v := .ref r1) rfl rfl rfl ?_)
    refine wp_of e85 c85_14 (xc_V (pc' := 17) (r := r2) (as := [.ref r1]) (st := []) (lm_4_39) rfl rfl (Nat.le_of_ble_eq_true rfl) w26760 g2 sh_6 (by decide) rfl (by decide) (s_87 w26760 g2 g1) (fun R26763 T26764 H26765 p26766 => ?_))
    obtain ⟨e26767, w26769, f26770, e26768⟩ := p26766
    subst e26767
    subst e26768
    have f26771 := f26762.tr f26770 rfl
    show wp _ _ 85 17 [(0, .ref r0), (1, .ref r1), (2, .ref r2)] [] _ H26765 _
    refine wp_of e85 c85_17 (rw_iconst (pc' := 18) rfl ?_)
    refine wp_of e85 c85_18 (rw_istore_n (pc' := 19) (z := 0) (L' := [(3, vI 0), (0, .ref r0), (1, .ref r1), (2, .ref r2)]) rfl rfl rfl ?_)
    have lp27108 : ∀ (n27109 : Nat) (v27111 : Int) (H27112 : wq_H), WT T H27112 → wfr [(12, 5), (12, 6), (12, 7), (12, 8), (8, 999), (10, 999), (15, 999), (9, 999), (18, 999), (19, 999), (7, 999), (11, 999), (17, 999), (13, 999)] T H26765 H27112 → (0 ≤ v27111 ∧ v27111 ≤ 20000) → (20000 - v27111).toNat = n27109 → wp kt 3 85 19 [(3, vI v27111), (0, .ref r0), (1, .ref r1), (2, .ref r2)] [] T H27112 (q_85 r0 r1 r2 T H) := by
      intro n27109
      induction n27109 using Nat.strongRecOn with
      | _ n27109 ih27110 =>
        intro v27111 H27112 w27113 f27114 b27115 m27116
        have f27117 := f26771.tr f27114 rfl
        refine wp_of e85 c85_19 (rw_iload_n (pc' := 20) (z := v27111) rfl rfl ?_)
        refine wp_of e85 c85_20 (rw_i2l (pc' := 21) rfl ⟨by omega, by omega⟩ ?_)
        refine wp_of e85 c85_21 (rw_aload_n (pc' := 22) (v := .ref r1) rfl rfl rfl ?_)
        refine wp_of e85 c85_22 (xg_L (pc' := 25) lf_4_45 w27113 g1 sh_27 (by decide) (by decide) ty_27_18 rfl rfl (fun b27118 b27119 => ?_))
        refine wp_of e85 c85_25 (rw_lcmp (pc' := 26) rfl ⟨by omega, by omega⟩ ⟨by omega, by omega⟩ ?_)
        have b27120 := wq_cmp_b v27111 (H27112 r1 18)
        refine wp_of e85 c85_26 (rw_if_ge (p1 := 62) (p2 := 29) (by decide) rfl ⟨by omega, by omega⟩ (fun c27121 => ?_) (fun c27121 => ?_))
        · refine wp_of e85 c85_62 (rw_aload_n (pc' := 63) (v := .ref r0) rfl rfl rfl ?_)
          refine wp_of e85 c85_63 (rw_iconst (pc' := 64) rfl ?_)
          refine wp_of e85 c85_64 (xp_Z (pc' := 67) lf_4_32 w27113 g0 sh_12 (by decide) (by decide) ty_12_9 rfl rfl (by omega) (by omega) rfl (fun H27122 e27123 w27124 => ?_))
          have f27125 := f27117.put' e27123 g0 rfl
          have k27126 : H27122 r0 9 = 1 := wq_u_s e27123
          exact wp_return e85 c85_67 rfl ⟨rfl, w27124, f27125, rfl⟩
        · refine wp_of e85 c85_29 (rw_iload_n (pc' := 30) (z := v27111) rfl rfl ?_)
          refine wp_of e85 c85_30 (rw_sipush (pc' := 33) (z := 20000) rfl (by decide) ?_)
          refine wp_of e85 c85_33 (rw_icmp_ge (p1 := 62) (p2 := 36) (by decide) rfl ⟨by omega, by omega⟩ ⟨by omega, by omega⟩ (fun c27127 => ?_) (fun c27127 => ?_))
          · refine wp_of e85 c85_62 (rw_aload_n (pc' := 63) (v := .ref r0) rfl rfl rfl ?_)
            refine wp_of e85 c85_63 (rw_iconst (pc' := 64) rfl ?_)
            refine wp_of e85 c85_64 (xp_Z (pc' := 67) lf_4_32 w27113 g0 sh_12 (by decide) (by decide) ty_12_9 rfl rfl (by omega) (by omega) rfl (fun H27128 e27129 w27130 => ?_))
            have f27131 := f27117.put' e27129 g0 rfl
            have k27132 : H27128 r0 9 = 1 := wq_u_s e27129
            exact wp_return e85 c85_67 rfl ⟨rfl, w27130, f27131, rfl⟩
          · refine wp_of e85 c85_36 (rw_aload_n (pc' := 37) (v := .ref r2) rfl rfl rfl ?_)
            refine wp_of e85 c85_37 (rw_aload_n (pc' := 38) (v := .ref r1) rfl rfl rfl ?_)
            refine wp_of e85 c85_38 (xc_V (pc' := 41) (r := r2) (as := [.ref r1]) (st := []) (lm_4_51) rfl rfl (Nat.le_of_ble_eq_true rfl) w27113 g2 sh_6 (by decide) rfl (by decide) (s_79 w27113 g2 g1) (fun R27133 T27134 H27135 p27136 => ?_))
            obtain ⟨e27137, e27139, z27140, e27138, b27141⟩ := p27136
            subst e27137
            subst e27138
            subst e27139
            show wp _ _ 85 41 [(3, vI v27111), (0, .ref r0), (1, .ref r1), (2, .ref r2)] [vI z27140] _ H27112 _
            refine wp_of e85 c85_41 (rw_if_eq (p1 := 51) (p2 := 44) (by decide) rfl ⟨by omega, by omega⟩ (fun c27142 => ?_) (fun c27142 => ?_))
            · refine wp_of e85 c85_51 (rw_aload_n (pc' := 52) (v := .ref r2) rfl rfl rfl ?_)
              refine wp_of e85 c85_52 (rw_aload_n (pc' := 53) (v := .ref r1) rfl rfl rfl ?_)
              refine wp_of e85 c85_53 (xc_V (pc' := 56) (r := r2) (as := [.ref r1]) (st := []) (lm_4_59) rfl rfl (Nat.le_of_ble_eq_true rfl) w27113 g2 sh_6 (by decide) rfl (by decide) (s_91 w27113 g2 g1) (fun R27143 T27144 H27145 p27146 => ?_))
              obtain ⟨e27147, w27149, f27150, e27148⟩ := p27146
              subst e27147
              subst e27148
              have f27151 := f27117.tr f27150 rfl
              have f27152 := f27114.tr f27150 rfl
              show wp _ _ 85 56 [(3, vI v27111), (0, .ref r0), (1, .ref r1), (2, .ref r2)] [] _ H27145 _
              refine wp_of e85 c85_56 (rw_iinc (pc' := 59) (z := v27111) (L' := [(3, vI (v27111 + 1)), (0, .ref r0), (1, .ref r1), (2, .ref r2)]) rfl rfl rfl rfl ?_)
              refine wp_of e85 c85_59 (rw_goto (p1 := 19) (by decide) ?_)
              exact wp_lc (ks := [3, 0, 1, 2]) (wl_c rfl (wl_c rfl (wl_c rfl (wl_c rfl wl_n)))) rfl (by decide) (ih27110 _ (by omega) (v27111 + 1) H27145 w27149 f27152 ⟨by omega, by omega⟩ rfl)
            · refine wp_of e85 c85_44 (rw_aload_n (pc' := 45) (v := .ref r0) rfl rfl rfl ?_)
              refine wp_of e85 c85_45 (rw_aload_n (pc' := 46) (v := .ref r1) rfl rfl rfl ?_)
              refine wp_of e85 c85_46 (rw_aload_n (pc' := 47) (v := .ref r2) rfl rfl rfl ?_)
              refine wp_of e85 c85_47 (rw_iload_n (pc' := 48) (z := v27111) rfl rfl ?_)
              refine wp_of e85 c85_48 (xc_V (pc' := 51) (r := r0) (as := [.ref r1, .ref r2, vI v27111]) (st := []) (lm_4_55) rfl rfl (Nat.le_of_ble_eq_true rfl) w27113 g0 sh_12 (by decide) rfl (by decide) (s_88 w27113 g0 g1 g2 ⟨by omega, by omega⟩) (fun R27153 T27154 H27155 p27156 => ?_))
              obtain ⟨e27157, w27159, f27160, e27158⟩ := p27156
              subst e27157
              subst e27158
              have f27161 := f27117.tr f27160 rfl
              have f27162 := f27114.tr f27160 rfl
              show wp _ _ 85 51 [(3, vI v27111), (0, .ref r0), (1, .ref r1), (2, .ref r2)] [] _ H27155 _
              refine wp_of e85 c85_51 (rw_aload_n (pc' := 52) (v := .ref r2) rfl rfl rfl ?_)
              refine wp_of e85 c85_52 (rw_aload_n (pc' := 53) (v := .ref r1) rfl rfl rfl ?_)
              refine wp_of e85 c85_53 (xc_V (pc' := 56) (r := r2) (as := [.ref r1]) (st := []) (lm_4_59) rfl rfl (Nat.le_of_ble_eq_true rfl) w27159 g2 sh_6 (by decide) rfl (by decide) (s_91 w27159 g2 g1) (fun R27163 T27164 H27165 p27166 => ?_))
              obtain ⟨e27167, w27169, f27170, e27168⟩ := p27166
              subst e27167
              subst e27168
              have f27171 := f27161.tr f27170 rfl
              have f27172 := f27162.tr f27170 rfl
              show wp _ _ 85 56 [(3, vI v27111), (0, .ref r0), (1, .ref r1), (2, .ref r2)] [] _ H27165 _
              refine wp_of e85 c85_56 (rw_iinc (pc' := 59) (z := v27111) (L' := [(3, vI (v27111 + 1)), (0, .ref r0), (1, .ref r1), (2, .ref r2)]) rfl rfl rfl rfl ?_)
              refine wp_of e85 c85_59 (rw_goto (p1 := 19) (by decide) ?_)
              exact wp_lc (ks := [3, 0, 1, 2]) (wl_c rfl (wl_c rfl (wl_c rfl (wl_c rfl wl_n)))) rfl (by decide) (ih27110 _ (by omega) (v27111 + 1) H27165 w27169 f27172 ⟨by omega, by omega⟩ rfl)
    exact wp_lc (ks := [3, 0, 1, 2]) (wl_c rfl (wl_c rfl (wl_c rfl (wl_c rfl wl_n)))) rfl (by decide) (lp27108 _ 0 H26765 w26769 wfr.rf ⟨by omega, by omega⟩ rfl)
  · exact wp_return e85 c85_7 rfl ⟨rfl, hW, f0, rfl⟩
/-! StrikeAwake.barOfWorlds(Z)I -/
theorem e83 : wq_en 83 = some (0, 3, false, some FieldType.int) := rfl
theorem c83_0 : mc_cd 83 0 = some (.aload_n 0, 1) := by decide +kernel
theorem c83_1 : mc_cd 83 1 = some (.iload_n 1, 1) := by decide +kernel
theorem c83_2 : mc_cd 83 2 = some (.invokevirtual 245, 3) := by decide +kernel
theorem c83_5 : mc_cd 83 5 = some (.istore_n 2, 1) := by decide +kernel
theorem c83_6 : mc_cd 83 6 = some (.iload_n 2, 1) := by decide +kernel
theorem c83_7 : mc_cd 83 7 = some (.ifCond .ne 18, 3) := by decide +kernel
theorem c83_10 : mc_cd 83 10 = some (.aload_n 0, 1) := by decide +kernel
theorem c83_11 : mc_cd 83 11 = some (.getfield 30, 3) := by decide +kernel
theorem c83_14 : mc_cd 83 14 = some (.aload_n 0, 1) := by decide +kernel
theorem c83_15 : mc_cd 83 15 = some (.getfield 51, 3) := by decide +kernel
theorem c83_18 : mc_cd 83 18 = some (.aload_n 0, 1) := by decide +kernel
theorem c83_19 : mc_cd 83 19 = some (.getfield 23, 3) := by decide +kernel
theorem c83_22 : mc_cd 83 22 = some (.invokevirtual 254, 3) := by decide +kernel
theorem c83_25 : mc_cd 83 25 = some (.iload_n 2, 1) := by decide +kernel
theorem c83_26 : mc_cd 83 26 = some (.ireturn, 1) := by decide +kernel
abbrev q_83 (r0 : Nat) (a1 : Int) (T : wq_T) (H : wq_H) : Option Value → wq_T → wq_H → Prop := fun r T' H' => T = T' ∧ WT T H' ∧ wfr [(12, 5), (12, 6), (12, 7), (12, 8), (12, 9), (6, 5), (8, 999), (10, 999), (15, 999), (9, 999), (18, 999), (19, 999), (7, 999), (11, 999), (17, 999), (13, 999)] T H H' ∧ ∃ z : Int, some (vI z) = r ∧ (0 ≤ z ∧ z ≤ 6) ∧ (z ≠ 0 ∨ a1 = 1)
set_option maxHeartbeats 4000000 in
theorem s_83 {kt : Nat → Option mc_E} {T : wq_T} {H : wq_H} {r0 : Nat} {a1 : Int} (hW : WT T H) (g0 : T.2.2.2 r0 = some 1) (i1 : 0 ≤ a1 ∧ a1 ≤ 1) : wpc kt 5 83 [.ref r0, vI a1] T H (q_83 r0 a1 T H) := by
  refine wp_enter e83 (Nat.le_of_ble_eq_true rfl) rfl ?_
  have f0 : wfr [(12, 5), (12, 6), (12, 7), (12, 8), (12, 9), (6, 5), (8, 999), (10, 999), (15, 999), (9, 999), (18, 999), (19, 999), (7, 999), (11, 999), (17, 999), (13, 999)] T H H := wfr.rf
  show wp _ _ 83 0 [(0, .ref r0), (1, vI a1)] [] _ H _
  refine wp_of e83 c83_0 (rw_aload_n (pc' := 1) (v := .ref r0) rfl rfl rfl ?_)
  refine wp_of e83 c83_1 (rw_iload_n (pc' := 2) (z := a1) rfl rfl ?_)
  refine wp_of e83 c83_2 (xc_V (pc' := 5) (r := r0) (as := [vI a1]) (st := []) (lm_0_245) rfl rfl (Nat.le_of_ble_eq_true rfl) hW g0 sh_1 (by decide) rfl (by decide) (s_84 hW g0 ⟨by omega, by omega⟩) (fun R27202 T27203 H27204 p27205 => ?_))
  obtain ⟨e27206, e27208, z27210, e27207, b27211, p27209⟩ := p27205
  subst e27206
  subst e27207
  subst e27208
  show wp _ _ 83 5 [(0, .ref r0), (1, vI a1)] [vI z27210] _ H _
  refine wp_of e83 c83_5 (rw_istore_n (pc' := 6) (z := z27210) (L' := [(2, vI z27210), (0, .ref r0), (1, vI a1)]) rfl rfl rfl ?_)
  refine wp_of e83 c83_6 (rw_iload_n (pc' := 7) (z := z27210) rfl rfl ?_)
  refine wp_of e83 c83_7 (rw_if_ne (p1 := 25) (p2 := 10) (by decide) rfl ⟨by omega, by omega⟩ (fun c27212 => ?_) (fun c27212 => ?_))
  · refine wp_of e83 c83_25 (rw_iload_n (pc' := 26) (z := z27210) rfl rfl ?_)
    exact wp_ireturn e83 c83_26 rfl ⟨rfl, hW, f0, z27210, rfl, ⟨by omega, by omega⟩, by omega⟩
  · refine wp_of e83 c83_10 (rw_aload_n (pc' := 11) (v := .ref r0) rfl rfl rfl ?_)
    refine wp_of e83 c83_11 (xg_R (pc' := 14) lf_0_30 hW g0 sh_1 (by decide) (by decide) ty_1_3 rfl rfl (fun r27213 q27214 g27215 => ?_))
    refine wp_of e83 c83_14 (rw_aload_n (pc' := 15) (v := .ref r0) rfl rfl rfl ?_)
    refine wp_of e83 c83_15 (xg_R (pc' := 18) lf_0_51 hW g0 sh_1 (by decide) (by decide) ty_1_6 rfl rfl (fun r27216 q27217 g27218 => ?_))
    refine wp_of e83 c83_18 (rw_aload_n (pc' := 19) (v := .ref r0) rfl rfl rfl ?_)
    refine wp_of e83 c83_19 (xg_R (pc' := 22) lf_0_23 hW g0 sh_1 (by decide) (by decide) ty_1_2 rfl rfl (fun r27219 q27220 g27221 => ?_))
    refine wp_of e83 c83_22 (xc_V (pc' := 25) (r := r27213) (as := [.ref r27216, .ref r27219]) (st := []) (lm_0_254) rfl rfl (Nat.le_of_ble_eq_true rfl) hW g27215 sh_12 (by decide) rfl (by decide) (s_85 hW g27215 g27218 g27221) (fun R27222 T27223 H27224 p27225 => ?_))
    obtain ⟨e27226, w27228, f27229, e27227⟩ := p27225
    subst e27226
    subst e27227
    have f27230 := f0.tr f27229 rfl
    show wp _ _ 83 25 [(2, vI z27210), (0, .ref r0), (1, vI a1)] [] _ H27224 _
    refine wp_of e83 c83_25 (rw_iload_n (pc' := 26) (z := z27210) rfl rfl ?_)
    exact wp_ireturn e83 c83_26 rfl ⟨rfl, w27228, f27230, z27210, rfl, ⟨by omega, by omega⟩, by omega⟩
/-! StrikeAwake.worlds()I -/
theorem e82 : wq_en 82 = some (0, 2, false, some FieldType.int) := rfl
theorem c82_0 : mc_cd 82 0 = some (.aload_n 0, 1) := by decide +kernel
theorem c82_1 : mc_cd 82 1 = some (.aload_n 0, 1) := by decide +kernel
theorem c82_2 : mc_cd 82 2 = some (.getfield 58, 3) := by decide +kernel
theorem c82_5 : mc_cd 82 5 = some (.invokevirtual 174, 3) := by decide +kernel
theorem c82_8 : mc_cd 82 8 = some (.istore_n 1, 1) := by decide +kernel
theorem c82_9 : mc_cd 82 9 = some (.iload_n 1, 1) := by decide +kernel
theorem c82_10 : mc_cd 82 10 = some (.ifCond .eq 9, 3) := by decide +kernel
theorem c82_13 : mc_cd 82 13 = some (.aload_n 0, 1) := by decide +kernel
theorem c82_14 : mc_cd 82 14 = some (.iload_n 1, 1) := by decide +kernel
theorem c82_15 : mc_cd 82 15 = some (.invokevirtual 70, 3) := by decide +kernel
theorem c82_18 : mc_cd 82 18 = some (.ireturn, 1) := by decide +kernel
theorem c82_19 : mc_cd 82 19 = some (.aload_n 0, 1) := by decide +kernel
theorem c82_20 : mc_cd 82 20 = some (.aload_n 0, 1) := by decide +kernel
theorem c82_21 : mc_cd 82 21 = some (.getfield 30, 3) := by decide +kernel
theorem c82_24 : mc_cd 82 24 = some (.getfield 177, 3) := by decide +kernel
theorem c82_27 : mc_cd 82 27 = some (.invokevirtual 99, 3) := by decide +kernel
theorem c82_30 : mc_cd 82 30 = some (.ireturn, 1) := by decide +kernel
abbrev q_82 (r0 : Nat) (T : wq_T) (H : wq_H) : Option Value → wq_T → wq_H → Prop := fun r T' H' => T = T' ∧ WT T H' ∧ wfr [(12, 5), (12, 6), (12, 7), (12, 8), (12, 9), (1, 10), (6, 5), (8, 999), (10, 999), (15, 999), (9, 999), (18, 999), (19, 999), (7, 999), (11, 999), (17, 999), (13, 999)] T H H' ∧ ∃ z : Int, some (vI z) = r ∧ ((-2147483648) ≤ z ∧ z ≤ 2147483647)
set_option maxHeartbeats 4000000 in
theorem s_82 {kt : Nat → Option mc_E} {T : wq_T} {H : wq_H} {r0 : Nat} (hW : WT T H) (g0 : T.2.2.2 r0 = some 1) : wpc kt 6 82 [.ref r0] T H (q_82 r0 T H) := by
  refine wp_enter e82 (Nat.le_of_ble_eq_true rfl) rfl ?_
  have f0 : wfr [(12, 5), (12, 6), (12, 7), (12, 8), (12, 9), (1, 10), (6, 5), (8, 999), (10, 999), (15, 999), (9, 999), (18, 999), (19, 999), (7, 999), (11, 999), (17, 999), (13, 999)] T H H := wfr.rf
  show wp _ _ 82 0 [(0, .ref r0)] [] _ H _
  refine wp_of e82 c82_0 (rw_aload_n (pc' := 1) (v := .ref r0) rfl rfl rfl ?_)
  refine wp_of e82 c82_1 (rw_aload_n (pc' := 2) (v := .ref r0) rfl rfl rfl ?_)
  refine wp_of e82 c82_2 (xg_I (pc' := 5) lf_0_58 hW g0 sh_1 (by decide) (by decide) ty_1_8 rfl rfl (fun b27273 b27274 => ?_))
  refine wp_of e82 c82_5 (xc_V (pc' := 8) (r := r0) (as := [vI (H r0 8)]) (st := []) (lm_0_174) rfl rfl (Nat.le_of_ble_eq_true rfl) hW g0 sh_1 (by decide) rfl (by decide) (s_83 hW g0 ⟨by omega, by omega⟩) (fun R27275 T27276 H27277 p27278 => ?_))
  obtain ⟨e27279, w27281, f27282, z27284, e27280, b27285, p27283⟩ := p27278
  subst e27279
  subst e27280
  have f27286 := f0.tr f27282 rfl
  show wp _ _ 82 8 [(0, .ref r0)] [vI z27284] _ H27277 _
  refine wp_of e82 c82_8 (rw_istore_n (pc' := 9) (z := z27284) (L' := [(1, vI z27284), (0, .ref r0)]) rfl rfl rfl ?_)
  refine wp_of e82 c82_9 (rw_iload_n (pc' := 10) (z := z27284) rfl rfl ?_)
  refine wp_of e82 c82_10 (rw_if_eq (p1 := 19) (p2 := 13) (by decide) rfl ⟨by omega, by omega⟩ (fun c27287 => ?_) (fun c27287 => ?_))
  · refine wp_of e82 c82_19 (rw_aload_n (pc' := 20) (v := .ref r0) rfl rfl rfl ?_)
    refine wp_of e82 c82_20 (rw_aload_n (pc' := 21) (v := .ref r0) rfl rfl rfl ?_)
    refine wp_of e82 c82_21 (xg_R (pc' := 24) lf_0_30 w27281 g0 sh_1 (by decide) (by decide) ty_1_3 rfl rfl (fun r27288 q27289 g27290 => ?_))
    refine wp_of e82 c82_24 (xg_I (pc' := 27) lf_0_177 w27281 g27290 sh_12 (by decide) (by decide) ty_12_5 rfl rfl (fun b27291 b27292 => ?_))
    refine wp_of e82 c82_27 (xc_V (pc' := 30) (r := r0) (as := [vI (H27277 r27288 5)]) (st := []) (lm_0_99) rfl rfl (Nat.le_of_ble_eq_true rfl) w27281 g0 sh_1 (by decide) rfl (by decide) (s_51 w27281 g0 ⟨by omega, by omega⟩) (fun R27293 T27294 H27295 p27296 => ?_))
    obtain ⟨e27297, w27299, f27300, z27301, e27298, b27302⟩ := p27296
    subst e27297
    subst e27298
    have f27303 := f27286.tr f27300 rfl
    show wp _ _ 82 30 [(1, vI z27284), (0, .ref r0)] [vI z27301] _ H27295 _
    exact wp_ireturn e82 c82_30 rfl ⟨rfl, w27299, f27303, z27301, rfl, ⟨by omega, by omega⟩⟩
  · refine wp_of e82 c82_13 (rw_aload_n (pc' := 14) (v := .ref r0) rfl rfl rfl ?_)
    refine wp_of e82 c82_14 (rw_iload_n (pc' := 15) (z := z27284) rfl rfl ?_)
    refine wp_of e82 c82_15 (xc_V (pc' := 18) (r := r0) (as := [vI z27284]) (st := []) (lm_0_70) rfl rfl (Nat.le_of_ble_eq_true rfl) w27281 g0 sh_1 (by decide) rfl (by decide) (s_12 w27281 g0 ⟨by omega, by omega⟩) (fun R27304 T27305 H27306 p27307 => ?_))
    obtain ⟨e27308, w27310, f27311, z27312, e27309, b27313⟩ := p27307
    subst e27308
    subst e27309
    have f27314 := f27286.tr f27311 rfl
    show wp _ _ 82 18 [(1, vI z27284), (0, .ref r0)] [vI z27312] _ H27306 _
    exact wp_ireturn e82 c82_18 rfl ⟨rfl, w27310, f27314, z27312, rfl, ⟨by omega, by omega⟩⟩
/-! StrikeAwake.can()I -/
theorem e92 : wq_en 92 = some (0, 2, false, some FieldType.int) := rfl
theorem c92_0 : mc_cd 92 0 = some (.aload_n 0, 1) := by decide +kernel
theorem c92_1 : mc_cd 92 1 = some (.aload_n 0, 1) := by decide +kernel
theorem c92_2 : mc_cd 92 2 = some (.getfield 58, 3) := by decide +kernel
theorem c92_5 : mc_cd 92 5 = some (.invokevirtual 174, 3) := by decide +kernel
theorem c92_8 : mc_cd 92 8 = some (.istore_n 1, 1) := by decide +kernel
theorem c92_9 : mc_cd 92 9 = some (.iload_n 1, 1) := by decide +kernel
theorem c92_10 : mc_cd 92 10 = some (.ifCond .eq 9, 3) := by decide +kernel
theorem c92_13 : mc_cd 92 13 = some (.aload_n 0, 1) := by decide +kernel
theorem c92_14 : mc_cd 92 14 = some (.iload_n 1, 1) := by decide +kernel
theorem c92_15 : mc_cd 92 15 = some (.invokevirtual 70, 3) := by decide +kernel
theorem c92_18 : mc_cd 92 18 = some (.ireturn, 1) := by decide +kernel
theorem c92_19 : mc_cd 92 19 = some (.aload_n 0, 1) := by decide +kernel
theorem c92_20 : mc_cd 92 20 = some (.aload_n 0, 1) := by decide +kernel
theorem c92_21 : mc_cd 92 21 = some (.getfield 30, 3) := by decide +kernel
theorem c92_24 : mc_cd 92 24 = some (.getfield 177, 3) := by decide +kernel
theorem c92_27 : mc_cd 92 27 = some (.ifCond .le 7, 3) := by decide +kernel
theorem c92_30 : mc_cd 92 30 = some (.iconst 1, 1) := by decide +kernel
theorem c92_31 : mc_cd 92 31 = some (.goto 4, 3) := by decide +kernel
theorem c92_34 : mc_cd 92 34 = some (.iconst 0, 1) := by decide +kernel
theorem c92_35 : mc_cd 92 35 = some (.invokevirtual 99, 3) := by decide +kernel
theorem c92_38 : mc_cd 92 38 = some (.ireturn, 1) := by decide +kernel
abbrev q_92 (r0 : Nat) (T : wq_T) (H : wq_H) : Option Value → wq_T → wq_H → Prop := fun r T' H' => T = T' ∧ WT T H' ∧ wfr [(12, 5), (12, 6), (12, 7), (12, 8), (12, 9), (1, 10), (6, 5), (8, 999), (10, 999), (15, 999), (9, 999), (18, 999), (19, 999), (7, 999), (11, 999), (17, 999), (13, 999)] T H H' ∧ ∃ z : Int, some (vI z) = r ∧ ((-2147483648) ≤ z ∧ z ≤ 2147483647)
set_option maxHeartbeats 4000000 in
theorem s_92 {kt : Nat → Option mc_E} {T : wq_T} {H : wq_H} {r0 : Nat} (hW : WT T H) (g0 : T.2.2.2 r0 = some 1) : wpc kt 6 92 [.ref r0] T H (q_92 r0 T H) := by
  refine wp_enter e92 (Nat.le_of_ble_eq_true rfl) rfl ?_
  have f0 : wfr [(12, 5), (12, 6), (12, 7), (12, 8), (12, 9), (1, 10), (6, 5), (8, 999), (10, 999), (15, 999), (9, 999), (18, 999), (19, 999), (7, 999), (11, 999), (17, 999), (13, 999)] T H H := wfr.rf
  show wp _ _ 92 0 [(0, .ref r0)] [] _ H _
  refine wp_of e92 c92_0 (rw_aload_n (pc' := 1) (v := .ref r0) rfl rfl rfl ?_)
  refine wp_of e92 c92_1 (rw_aload_n (pc' := 2) (v := .ref r0) rfl rfl rfl ?_)
  refine wp_of e92 c92_2 (xg_I (pc' := 5) lf_0_58 hW g0 sh_1 (by decide) (by decide) ty_1_8 rfl rfl (fun b27369 b27370 => ?_))
  refine wp_of e92 c92_5 (xc_V (pc' := 8) (r := r0) (as := [vI (H r0 8)]) (st := []) (lm_0_174) rfl rfl (Nat.le_of_ble_eq_true rfl) hW g0 sh_1 (by decide) rfl (by decide) (s_83 hW g0 ⟨by omega, by omega⟩) (fun R27371 T27372 H27373 p27374 => ?_))
  obtain ⟨e27375, w27377, f27378, z27380, e27376, b27381, p27379⟩ := p27374
  subst e27375
  subst e27376
  have f27382 := f0.tr f27378 rfl
  show wp _ _ 92 8 [(0, .ref r0)] [vI z27380] _ H27373 _
  refine wp_of e92 c92_8 (rw_istore_n (pc' := 9) (z := z27380) (L' := [(1, vI z27380), (0, .ref r0)]) rfl rfl rfl ?_)
  refine wp_of e92 c92_9 (rw_iload_n (pc' := 10) (z := z27380) rfl rfl ?_)
  refine wp_of e92 c92_10 (rw_if_eq (p1 := 19) (p2 := 13) (by decide) rfl ⟨by omega, by omega⟩ (fun c27383 => ?_) (fun c27383 => ?_))
  · refine wp_of e92 c92_19 (rw_aload_n (pc' := 20) (v := .ref r0) rfl rfl rfl ?_)
    refine wp_of e92 c92_20 (rw_aload_n (pc' := 21) (v := .ref r0) rfl rfl rfl ?_)
    refine wp_of e92 c92_21 (xg_R (pc' := 24) lf_0_30 w27377 g0 sh_1 (by decide) (by decide) ty_1_3 rfl rfl (fun r27384 q27385 g27386 => ?_))
    refine wp_of e92 c92_24 (xg_I (pc' := 27) lf_0_177 w27377 g27386 sh_12 (by decide) (by decide) ty_12_5 rfl rfl (fun b27387 b27388 => ?_))
    refine wp_of e92 c92_27 (rw_if_le (p1 := 34) (p2 := 30) (by decide) rfl ⟨by omega, by omega⟩ (fun c27389 => ?_) (fun c27389 => ?_))
    · refine wp_of e92 c92_34 (rw_iconst (pc' := 35) rfl ?_)
      refine wp_of e92 c92_35 (xc_V (pc' := 38) (r := r0) (as := [vI 0]) (st := []) (lm_0_99) rfl rfl (Nat.le_of_ble_eq_true rfl) w27377 g0 sh_1 (by decide) rfl (by decide) (s_51 w27377 g0 ⟨by omega, by omega⟩) (fun R27390 T27391 H27392 p27393 => ?_))
      obtain ⟨e27394, w27396, f27397, z27398, e27395, b27399⟩ := p27393
      subst e27394
      subst e27395
      have f27400 := f27382.tr f27397 rfl
      show wp _ _ 92 38 [(1, vI z27380), (0, .ref r0)] [vI z27398] _ H27392 _
      exact wp_ireturn e92 c92_38 rfl ⟨rfl, w27396, f27400, z27398, rfl, ⟨by omega, by omega⟩⟩
    · refine wp_of e92 c92_30 (rw_iconst (pc' := 31) rfl ?_)
      refine wp_of e92 c92_31 (rw_goto (p1 := 35) (by decide) ?_)
      refine wp_of e92 c92_35 (xc_V (pc' := 38) (r := r0) (as := [vI 1]) (st := []) (lm_0_99) rfl rfl (Nat.le_of_ble_eq_true rfl) w27377 g0 sh_1 (by decide) rfl (by decide) (s_51 w27377 g0 ⟨by omega, by omega⟩) (fun R27401 T27402 H27403 p27404 => ?_))
      obtain ⟨e27405, w27407, f27408, z27409, e27406, b27410⟩ := p27404
      subst e27405
      subst e27406
      have f27411 := f27382.tr f27408 rfl
      show wp _ _ 92 38 [(1, vI z27380), (0, .ref r0)] [vI z27409] _ H27403 _
      exact wp_ireturn e92 c92_38 rfl ⟨rfl, w27407, f27411, z27409, rfl, ⟨by omega, by omega⟩⟩
  · refine wp_of e92 c92_13 (rw_aload_n (pc' := 14) (v := .ref r0) rfl rfl rfl ?_)
    refine wp_of e92 c92_14 (rw_iload_n (pc' := 15) (z := z27380) rfl rfl ?_)
    refine wp_of e92 c92_15 (xc_V (pc' := 18) (r := r0) (as := [vI z27380]) (st := []) (lm_0_70) rfl rfl (Nat.le_of_ble_eq_true rfl) w27377 g0 sh_1 (by decide) rfl (by decide) (s_12 w27377 g0 ⟨by omega, by omega⟩) (fun R27412 T27413 H27414 p27415 => ?_))
    obtain ⟨e27416, w27418, f27419, z27420, e27417, b27421⟩ := p27415
    subst e27416
    subst e27417
    have f27422 := f27382.tr f27419 rfl
    show wp _ _ 92 18 [(1, vI z27380), (0, .ref r0)] [vI z27420] _ H27414 _
    exact wp_ireturn e92 c92_18 rfl ⟨rfl, w27418, f27422, z27420, rfl, ⟨by omega, by omega⟩⟩
/-! StrikeAwake$Census.isWorld(I)Z -/
theorem e95 : wq_en 95 = some (4, 2, false, some FieldType.boolean) := rfl
theorem c95_0 : mc_cd 95 0 = some (.aload_n 0, 1) := by decide +kernel
theorem c95_1 : mc_cd 95 1 = some (.getfield 11, 3) := by decide +kernel
theorem c95_4 : mc_cd 95 4 = some (.iload_n 1, 1) := by decide +kernel
theorem c95_5 : mc_cd 95 5 = some (.bipush 64, 2) := by decide +kernel
theorem c95_7 : mc_cd 95 7 = some (.idiv, 1) := by decide +kernel
theorem c95_8 : mc_cd 95 8 = some (.laload, 1) := by decide +kernel
theorem c95_9 : mc_cd 95 9 = some (.iload_n 1, 1) := by decide +kernel
theorem c95_10 : mc_cd 95 10 = some (.bipush 64, 2) := by decide +kernel
theorem c95_12 : mc_cd 95 12 = some (.irem, 1) := by decide +kernel
theorem c95_13 : mc_cd 95 13 = some (.lshr, 1) := by decide +kernel
theorem c95_14 : mc_cd 95 14 = some (.lconst 1, 1) := by decide +kernel
theorem c95_15 : mc_cd 95 15 = some (.land, 1) := by decide +kernel
theorem c95_16 : mc_cd 95 16 = some (.lconst 0, 1) := by decide +kernel
theorem c95_17 : mc_cd 95 17 = some (.lcmp, 1) := by decide +kernel
theorem c95_18 : mc_cd 95 18 = some (.ifCond .eq 7, 3) := by decide +kernel
theorem c95_21 : mc_cd 95 21 = some (.iconst 1, 1) := by decide +kernel
theorem c95_22 : mc_cd 95 22 = some (.goto 4, 3) := by decide +kernel
theorem c95_25 : mc_cd 95 25 = some (.iconst 0, 1) := by decide +kernel
theorem c95_26 : mc_cd 95 26 = some (.ireturn, 1) := by decide +kernel
abbrev q_95 (r0 : Nat) (a1 : Int) (T : wq_T) (H : wq_H) : Option Value → wq_T → wq_H → Prop := fun r T' H' => T = T' ∧ H = H' ∧ ∃ z : Int, some (vI z) = r ∧ (0 ≤ z ∧ z ≤ 1)
set_option maxHeartbeats 4000000 in
theorem s_95 {kt : Nat → Option mc_E} {T : wq_T} {H : wq_H} {r0 : Nat} {a1 : Int} (hW : WT T H) (g0 : T.2.2.2 r0 = some 12) (i1 : 0 ≤ a1 ∧ a1 ≤ 19999) : wpc kt 1 95 [.ref r0, vI a1] T H (q_95 r0 a1 T H) := by
  refine wp_enter e95 (Nat.le_of_ble_eq_true rfl) rfl ?_
  show wp _ _ 95 0 [(0, .ref r0), (1, vI a1)] [] _ H _
  refine wp_of e95 c95_0 (rw_aload_n (pc' := 1) (v := .ref r0) rfl rfl rfl ?_)
  refine wp_of e95 c95_1 (xg_R (pc' := 4) lf_4_11 hW g0 sh_12 (by decide) (by decide) ty_12_0 rfl rfl (fun r27438 q27439 g27440 => ?_))
  refine wp_of e95 c95_4 (rw_iload_n (pc' := 5) (z := a1) rfl rfl ?_)
  refine wp_of e95 c95_5 (rw_bipush (pc' := 7) (z := 64) rfl (by decide) ?_)
  refine wp_of e95 c95_7 (rw_idiv (pc' := 8) rfl ⟨by omega, by omega⟩ (by omega) ?_)
  obtain ⟨v27441, e27442⟩ : ∃ x : Int, x = wq_div a1 64 := ⟨_, rfl⟩
  rw [← e27442]
  have b27443 : v27441 = a1 / 64 := by
    rw [e27442]
    exact wq_div_e ⟨by omega, by omega⟩ ⟨by omega, by omega⟩
  refine wp_of e95 c95_8 (xa_L (pc' := 9) hW g27440 sh_13 (by decide) (ty_13 _) (by omega) (by omega) rfl (fun b27444 b27445 => ?_))
  refine wp_of e95 c95_9 (rw_iload_n (pc' := 10) (z := a1) rfl rfl ?_)
  refine wp_of e95 c95_10 (rw_bipush (pc' := 12) (z := 64) rfl (by decide) ?_)
  refine wp_of e95 c95_12 (rw_irem (pc' := 13) rfl ⟨by omega, by omega⟩ (by omega) ?_)
  obtain ⟨v27446, e27447⟩ : ∃ x : Int, x = wq_rem a1 64 := ⟨_, rfl⟩
  rw [← e27447]
  have b27448 : v27446 = a1 % 64 := by
    rw [e27447]
    exact wq_rem_e ⟨by omega, by omega⟩ ⟨by omega, by omega⟩
  refine wp_of e95 c95_13 (rw_lshr (pc' := 14) rfl ?_)
  obtain ⟨v27449, e27450⟩ : ∃ x : Int, x = wl_shr (H r27438 (v27441.toNat)) v27446 := ⟨_, rfl⟩
  rw [← e27450]
  have b27451 : -9223372036854775808 ≤ v27449 ∧ v27449 ≤ 9223372036854775807 := by
    rw [e27450]
    exact wL_shr _ _
  refine wp_of e95 c95_14 (rw_lconst (pc' := 15) (z := 1) rfl rfl ?_)
  refine wp_of e95 c95_15 (rw_land (pc' := 16) rfl ?_)
  obtain ⟨v27452, e27453⟩ : ∃ x : Int, x = wl_and v27449 1 := ⟨_, rfl⟩
  rw [← e27453]
  have b27454 : -9223372036854775808 ≤ v27452 ∧ v27452 ≤ 9223372036854775807 := by
    rw [e27453]
    exact wL_and _ _
  refine wp_of e95 c95_16 (rw_lconst (pc' := 17) (z := 0) rfl rfl ?_)
  refine wp_of e95 c95_17 (rw_lcmp (pc' := 18) rfl ⟨by omega, by omega⟩ ⟨by omega, by omega⟩ ?_)
  have b27455 := wq_cmp_b v27452 0
  refine wp_of e95 c95_18 (rw_if_eq (p1 := 25) (p2 := 21) (by decide) rfl ⟨by omega, by omega⟩ (fun c27456 => ?_) (fun c27456 => ?_))
  · refine wp_of e95 c95_25 (rw_iconst (pc' := 26) rfl ?_)
    exact wp_zreturn e95 c95_26 rfl (by omega) ⟨rfl, rfl, 0, rfl, ⟨by omega, by omega⟩⟩
  · refine wp_of e95 c95_21 (rw_iconst (pc' := 22) rfl ?_)
    refine wp_of e95 c95_22 (rw_goto (p1 := 26) (by decide) ?_)
    exact wp_zreturn e95 c95_26 rfl (by omega) ⟨rfl, rfl, 1, rfl, ⟨by omega, by omega⟩⟩
/-! StrikeAwake$Census.numberOf(I)I -/
theorem e94 : wq_en 94 = some (4, 4, false, some FieldType.int) := rfl
theorem c94_0 : mc_cd 94 0 = some (.iconst 0, 1) := by decide +kernel
theorem c94_1 : mc_cd 94 1 = some (.istore_n 2, 1) := by decide +kernel
theorem c94_2 : mc_cd 94 2 = some (.iconst 0, 1) := by decide +kernel
theorem c94_3 : mc_cd 94 3 = some (.istore_n 3, 1) := by decide +kernel
theorem c94_4 : mc_cd 94 4 = some (.iload_n 3, 1) := by decide +kernel
theorem c94_5 : mc_cd 94 5 = some (.sipush 20000, 3) := by decide +kernel
theorem c94_8 : mc_cd 94 8 = some (.if_icmp .ge 27, 3) := by decide +kernel
theorem c94_11 : mc_cd 94 11 = some (.aload_n 0, 1) := by decide +kernel
theorem c94_12 : mc_cd 94 12 = some (.iload_n 3, 1) := by decide +kernel
theorem c94_13 : mc_cd 94 13 = some (.invokevirtual 113, 3) := by decide +kernel
theorem c94_16 : mc_cd 94 16 = some (.ifCond .eq 13, 3) := by decide +kernel
theorem c94_19 : mc_cd 94 19 = some (.iload_n 2, 1) := by decide +kernel
theorem c94_20 : mc_cd 94 20 = some (.iload_n 1, 1) := by decide +kernel
theorem c94_21 : mc_cd 94 21 = some (.if_icmp .ne 5, 3) := by decide +kernel
theorem c94_24 : mc_cd 94 24 = some (.iload_n 3, 1) := by decide +kernel
theorem c94_25 : mc_cd 94 25 = some (.ireturn, 1) := by decide +kernel
theorem c94_26 : mc_cd 94 26 = some (.iinc 2 1, 3) := by decide +kernel
theorem c94_29 : mc_cd 94 29 = some (.iinc 3 1, 3) := by decide +kernel
theorem c94_32 : mc_cd 94 32 = some (.goto (-28), 3) := by decide +kernel
theorem c94_35 : mc_cd 94 35 = some (.iconst 0, 1) := by decide +kernel
theorem c94_36 : mc_cd 94 36 = some (.ireturn, 1) := by decide +kernel
abbrev q_94 (r0 : Nat) (a1 : Int) (T : wq_T) (H : wq_H) : Option Value → wq_T → wq_H → Prop := fun r T' H' => T = T' ∧ H = H' ∧ ∃ z : Int, some (vI z) = r ∧ (0 ≤ z ∧ z ≤ 19999)
set_option maxHeartbeats 4000000 in
theorem s_94 {kt : Nat → Option mc_E} {T : wq_T} {H : wq_H} {r0 : Nat} {a1 : Int} (hW : WT T H) (g0 : T.2.2.2 r0 = some 12) (i1 : (-2147483648) ≤ a1 ∧ a1 ≤ 2147483647) : wpc kt 2 94 [.ref r0, vI a1] T H (q_94 r0 a1 T H) := by
  refine wp_enter e94 (Nat.le_of_ble_eq_true rfl) rfl ?_
  show wp _ _ 94 0 [(0, .ref r0), (1, vI a1)] [] _ H _
  refine wp_of e94 c94_0 (rw_iconst (pc' := 1) rfl ?_)
  refine wp_of e94 c94_1 (rw_istore_n (pc' := 2) (z := 0) (L' := [(2, vI 0), (0, .ref r0), (1, vI a1)]) rfl rfl rfl ?_)
  refine wp_of e94 c94_2 (rw_iconst (pc' := 3) rfl ?_)
  refine wp_of e94 c94_3 (rw_istore_n (pc' := 4) (z := 0) (L' := [(3, vI 0), (2, vI 0), (0, .ref r0), (1, vI a1)]) rfl rfl rfl ?_)
  have lp27662 : ∀ (n27663 : Nat) (v27665 : Int) (v27666 : Int), (0 ≤ v27665 ∧ v27665 ≤ 20000) → (0 ≤ v27666 ∧ v27666 ≤ 20000) → (v27666 ≤ v27665) → (20000 - v27665).toNat = n27663 → wp kt 1 94 4 [(3, vI v27665), (2, vI v27666), (0, .ref r0), (1, vI a1)] [] T H (q_94 r0 a1 T H) := by
    intro n27663
    induction n27663 using Nat.strongRecOn with
    | _ n27663 ih27664 =>
      intro v27665 v27666 b27669 b27670 x27671 m27672
      refine wp_of e94 c94_4 (rw_iload_n (pc' := 5) (z := v27665) rfl rfl ?_)
      refine wp_of e94 c94_5 (rw_sipush (pc' := 8) (z := 20000) rfl (by decide) ?_)
      refine wp_of e94 c94_8 (rw_icmp_ge (p1 := 35) (p2 := 11) (by decide) rfl ⟨by omega, by omega⟩ ⟨by omega, by omega⟩ (fun c27673 => ?_) (fun c27673 => ?_))
      · refine wp_of e94 c94_35 (rw_iconst (pc' := 36) rfl ?_)
        exact wp_ireturn e94 c94_36 rfl ⟨rfl, rfl, 0, rfl, ⟨by omega, by omega⟩⟩
      · refine wp_of e94 c94_11 (rw_aload_n (pc' := 12) (v := .ref r0) rfl rfl rfl ?_)
        refine wp_of e94 c94_12 (rw_iload_n (pc' := 13) (z := v27665) rfl rfl ?_)
        refine wp_of e94 c94_13 (xc_V (pc' := 16) (r := r0) (as := [vI v27665]) (st := []) (lm_4_113) rfl rfl (Nat.le_of_ble_eq_true rfl) hW g0 sh_12 (by decide) rfl (by decide) (s_95 hW g0 ⟨by omega, by omega⟩) (fun R27674 T27675 H27676 p27677 => ?_))
        obtain ⟨e27678, e27680, z27681, e27679, b27682⟩ := p27677
        subst e27678
        subst e27679
        subst e27680
        show wp _ _ 94 16 [(3, vI v27665), (2, vI v27666), (0, .ref r0), (1, vI a1)] [vI z27681] _ H _
        refine wp_of e94 c94_16 (rw_if_eq (p1 := 29) (p2 := 19) (by decide) rfl ⟨by omega, by omega⟩ (fun c27683 => ?_) (fun c27683 => ?_))
        · refine wp_of e94 c94_29 (rw_iinc (pc' := 32) (z := v27665) (L' := [(3, vI (v27665 + 1)), (2, vI v27666), (0, .ref r0), (1, vI a1)]) rfl rfl rfl rfl ?_)
          refine wp_of e94 c94_32 (rw_goto (p1 := 4) (by decide) ?_)
          exact wp_lc (ks := [3, 2, 0, 1]) (wl_c rfl (wl_c rfl (wl_c rfl (wl_c rfl wl_n)))) rfl (by decide) (ih27664 _ (by omega) (v27665 + 1) v27666 ⟨by omega, by omega⟩ ⟨by omega, by omega⟩ (by omega) rfl)
        · refine wp_of e94 c94_19 (rw_iload_n (pc' := 20) (z := v27666) rfl rfl ?_)
          refine wp_of e94 c94_20 (rw_iload_n (pc' := 21) (z := a1) rfl rfl ?_)
          refine wp_of e94 c94_21 (rw_icmp_ne (p1 := 26) (p2 := 24) (by decide) rfl ⟨by omega, by omega⟩ ⟨by omega, by omega⟩ (fun c27684 => ?_) (fun c27684 => ?_))
          · refine wp_of e94 c94_26 (rw_iinc (pc' := 29) (z := v27666) (L' := [(2, vI (v27666 + 1)), (3, vI v27665), (0, .ref r0), (1, vI a1)]) rfl rfl rfl rfl ?_)
            refine wp_of e94 c94_29 (rw_iinc (pc' := 32) (z := v27665) (L' := [(3, vI (v27665 + 1)), (2, vI (v27666 + 1)), (0, .ref r0), (1, vI a1)]) rfl rfl rfl rfl ?_)
            refine wp_of e94 c94_32 (rw_goto (p1 := 4) (by decide) ?_)
            exact wp_lc (ks := [3, 2, 0, 1]) (wl_c rfl (wl_c rfl (wl_c rfl (wl_c rfl wl_n)))) rfl (by decide) (ih27664 _ (by omega) (v27665 + 1) (v27666 + 1) ⟨by omega, by omega⟩ ⟨by omega, by omega⟩ (by omega) rfl)
          · refine wp_of e94 c94_24 (rw_iload_n (pc' := 25) (z := v27665) rfl rfl ?_)
            exact wp_ireturn e94 c94_25 rfl ⟨rfl, rfl, v27665, rfl, ⟨by omega, by omega⟩⟩
  exact wp_lc (ks := [3, 2, 0, 1]) (wl_c rfl (wl_c rfl (wl_c rfl (wl_c rfl wl_n)))) rfl (by decide) (lp27662 _ 0 0 ⟨by omega, by omega⟩ ⟨by omega, by omega⟩ (by omega) rfl)
/-! StrikeAwake$Parish.spanIn(II)I -/
theorem e96 : wq_en 96 = some (7, 5, false, some FieldType.int) := rfl
theorem c96_0 : mc_cd 96 0 = some (.aload_n 0, 1) := by decide +kernel
theorem c96_1 : mc_cd 96 1 = some (.getfield 11, 3) := by decide +kernel
theorem c96_4 : mc_cd 96 4 = some (.iload_n 2, 1) := by decide +kernel
theorem c96_5 : mc_cd 96 5 = some (.aaload, 1) := by decide +kernel
theorem c96_6 : mc_cd 96 6 = some (.getfield 107, 3) := by decide +kernel
theorem c96_9 : mc_cd 96 9 = some (.istore_n 3, 1) := by decide +kernel
theorem c96_10 : mc_cd 96 10 = some (.aload_n 0, 1) := by decide +kernel
theorem c96_11 : mc_cd 96 11 = some (.getfield 11, 3) := by decide +kernel
theorem c96_14 : mc_cd 96 14 = some (.iload_n 2, 1) := by decide +kernel
theorem c96_15 : mc_cd 96 15 = some (.aaload, 1) := by decide +kernel
theorem c96_16 : mc_cd 96 16 = some (.getfield 110, 3) := by decide +kernel
theorem c96_19 : mc_cd 96 19 = some (.istore 4, 2) := by decide +kernel
theorem c96_21 : mc_cd 96 21 = some (.iload_n 3, 1) := by decide +kernel
theorem c96_22 : mc_cd 96 22 = some (.ifCond .le 8, 3) := by decide +kernel
theorem c96_25 : mc_cd 96 25 = some (.iload 4, 2) := by decide +kernel
theorem c96_27 : mc_cd 96 27 = some (.ifCond .gt 5, 3) := by decide +kernel
theorem c96_30 : mc_cd 96 30 = some (.iconst (-1), 1) := by decide +kernel
theorem c96_31 : mc_cd 96 31 = some (.ireturn, 1) := by decide +kernel
theorem c96_32 : mc_cd 96 32 = some (.iload_n 1, 1) := by decide +kernel
theorem c96_33 : mc_cd 96 33 = some (.iload_n 3, 1) := by decide +kernel
theorem c96_34 : mc_cd 96 34 = some (.idiv, 1) := by decide +kernel
theorem c96_35 : mc_cd 96 35 = some (.iload 4, 2) := by decide +kernel
theorem c96_37 : mc_cd 96 37 = some (.irem, 1) := by decide +kernel
theorem c96_38 : mc_cd 96 38 = some (.ireturn, 1) := by decide +kernel
abbrev q_96 (r0 : Nat) (a1 : Int) (a2 : Int) (T : wq_T) (H : wq_H) : Option Value → wq_T → wq_H → Prop := fun r T' H' => T = T' ∧ H = H' ∧ ∃ z : Int, some (vI z) = r ∧ ((-1) ≤ z ∧ z ≤ 39)
set_option maxHeartbeats 4000000 in
theorem s_96 {kt : Nat → Option mc_E} {T : wq_T} {H : wq_H} {r0 : Nat} {a1 : Int} {a2 : Int} (hW : WT T H) (g0 : T.2.2.2 r0 = some 27) (i1 : 0 ≤ a1 ∧ a1 ≤ 2147483647) (i2 : 0 ≤ a2 ∧ a2 ≤ 5) : wpc kt 1 96 [.ref r0, vI a1, vI a2] T H (q_96 r0 a1 a2 T H) := by
  refine wp_enter e96 (Nat.le_of_ble_eq_true rfl) rfl ?_
  show wp _ _ 96 0 [(0, .ref r0), (1, vI a1), (2, vI a2)] [] _ H _
  refine wp_of e96 c96_0 (rw_aload_n (pc' := 1) (v := .ref r0) rfl rfl rfl ?_)
  refine wp_of e96 c96_1 (xg_R (pc' := 4) lf_7_11 hW g0 sh_27 (by decide) (by decide) ty_27_0 rfl rfl (fun r27701 q27702 g27703 => ?_))
  refine wp_of e96 c96_4 (rw_iload_n (pc' := 5) (z := a2) rfl rfl ?_)
  refine wp_of e96 c96_5 (xa_R (pc' := 6) (by decide) hW g27703 sh_28 (by decide) (ty_28 _) (by omega) (by omega) rfl (fun r27704 q27705 g27706 => ?_))
  refine wp_of e96 c96_6 (xg_I (pc' := 9) lf_7_107 hW g27706 sh_35 (by decide) (by decide) ty_35_17 rfl rfl (fun b27707 b27708 => ?_))
  refine wp_of e96 c96_9 (rw_istore_n (pc' := 10) (z := H r27704 17) (L' := [(3, vI (H r27704 17)), (0, .ref r0), (1, vI a1), (2, vI a2)]) rfl rfl rfl ?_)
  refine wp_of e96 c96_10 (rw_aload_n (pc' := 11) (v := .ref r0) rfl rfl rfl ?_)
  refine wp_of e96 c96_11 (xg_K (pc' := 14) lf_7_11 hW g0 sh_27 (by decide) (by decide) rfl q27702 rfl ?_)
  refine wp_of e96 c96_14 (rw_iload_n (pc' := 15) (z := a2) rfl rfl ?_)
  refine wp_of e96 c96_15 (xa_K (pc' := 16) (by decide) hW g27703 sh_28 (by decide) (by omega) (by omega) q27705 rfl ?_)
  refine wp_of e96 c96_16 (xg_I (pc' := 19) lf_7_110 hW g27706 sh_35 (by decide) (by decide) ty_35_15 rfl rfl (fun b27709 b27710 => ?_))
  refine wp_of e96 c96_19 (rw_istore (pc' := 21) (z := H r27704 15) (L' := [(4, vI (H r27704 15)), (3, vI (H r27704 17)), (0, .ref r0), (1, vI a1), (2, vI a2)]) rfl rfl rfl ?_)
  refine wp_of e96 c96_21 (rw_iload_n (pc' := 22) (z := H r27704 17) rfl rfl ?_)
  refine wp_of e96 c96_22 (rw_if_le (p1 := 30) (p2 := 25) (by decide) rfl ⟨by omega, by omega⟩ (fun c27711 => ?_) (fun c27711 => ?_))
  · refine wp_of e96 c96_30 (rw_iconst (pc' := 31) rfl ?_)
    exact wp_ireturn e96 c96_31 rfl ⟨rfl, rfl, -1, rfl, ⟨by omega, by omega⟩⟩
  · refine wp_of e96 c96_25 (rw_iload (pc' := 27) (z := H r27704 15) rfl rfl ?_)
    refine wp_of e96 c96_27 (rw_if_gt (p1 := 32) (p2 := 30) (by decide) rfl ⟨by omega, by omega⟩ (fun c27712 => ?_) (fun c27712 => ?_))
    · refine wp_of e96 c96_32 (rw_iload_n (pc' := 33) (z := a1) rfl rfl ?_)
      refine wp_of e96 c96_33 (rw_iload_n (pc' := 34) (z := H r27704 17) rfl rfl ?_)
      refine wp_of e96 c96_34 (rw_idiv (pc' := 35) rfl ⟨by omega, by omega⟩ (by omega) ?_)
      obtain ⟨v27713, e27714⟩ : ∃ x : Int, x = wq_div a1 (H r27704 17) := ⟨_, rfl⟩
      rw [← e27714]
      have b27715 : 0 ≤ v27713 ∧ v27713 ≤ a1 := by
        rw [e27714]
        rw [wq_div_e ⟨by omega, by omega⟩ ⟨by omega, by omega⟩]; exact ⟨Int.ediv_nonneg (by omega) (by omega), Int.ediv_le_self _ (by omega)⟩
      refine wp_of e96 c96_35 (rw_iload (pc' := 37) (z := H r27704 15) rfl rfl ?_)
      refine wp_of e96 c96_37 (rw_irem (pc' := 38) rfl ⟨by omega, by omega⟩ (by omega) ?_)
      obtain ⟨v27716, e27717⟩ : ∃ x : Int, x = wq_rem v27713 (H r27704 15) := ⟨_, rfl⟩
      rw [← e27717]
      have b27718 : 0 ≤ v27716 ∧ v27716 < (H r27704 15) := by
        rw [e27717]
        rw [wq_rem_e ⟨by omega, by omega⟩ ⟨by omega, by omega⟩]; exact ⟨Int.emod_nonneg _ (by omega), Int.emod_lt_of_pos _ (by omega)⟩
      exact wp_ireturn e96 c96_38 rfl ⟨rfl, rfl, v27716, rfl, ⟨by omega, by omega⟩⟩
    · refine wp_of e96 c96_30 (rw_iconst (pc' := 31) rfl ?_)
      exact wp_ireturn e96 c96_31 rfl ⟨rfl, rfl, -1, rfl, ⟨by omega, by omega⟩⟩
/-! StrikeAwake.world(II)I -/
theorem e93 : wq_en 93 = some (0, 4, false, some FieldType.int) := rfl
theorem c93_0 : mc_cd 93 0 = some (.aload_n 0, 1) := by decide +kernel
theorem c93_1 : mc_cd 93 1 = some (.aload_n 0, 1) := by decide +kernel
theorem c93_2 : mc_cd 93 2 = some (.iload_n 2, 1) := by decide +kernel
theorem c93_3 : mc_cd 93 3 = some (.invokevirtual 105, 3) := by decide +kernel
theorem c93_6 : mc_cd 93 6 = some (.ifCond .eq 11, 3) := by decide +kernel
theorem c93_9 : mc_cd 93 9 = some (.iload_n 1, 1) := by decide +kernel
theorem c93_10 : mc_cd 93 10 = some (.ifCond .lt 7, 3) := by decide +kernel
theorem c93_13 : mc_cd 93 13 = some (.iconst 1, 1) := by decide +kernel
theorem c93_14 : mc_cd 93 14 = some (.goto 4, 3) := by decide +kernel
theorem c93_17 : mc_cd 93 17 = some (.iconst 0, 1) := by decide +kernel
theorem c93_18 : mc_cd 93 18 = some (.invokevirtual 174, 3) := by decide +kernel
theorem c93_21 : mc_cd 93 21 = some (.istore_n 3, 1) := by decide +kernel
theorem c93_22 : mc_cd 93 22 = some (.iload_n 3, 1) := by decide +kernel
theorem c93_23 : mc_cd 93 23 = some (.ifCond .eq 9, 3) := by decide +kernel
theorem c93_26 : mc_cd 93 26 = some (.aload_n 0, 1) := by decide +kernel
theorem c93_27 : mc_cd 93 27 = some (.iload_n 3, 1) := by decide +kernel
theorem c93_28 : mc_cd 93 28 = some (.invokevirtual 70, 3) := by decide +kernel
theorem c93_31 : mc_cd 93 31 = some (.ireturn, 1) := by decide +kernel
theorem c93_32 : mc_cd 93 32 = some (.iload_n 1, 1) := by decide +kernel
theorem c93_33 : mc_cd 93 33 = some (.aload_n 0, 1) := by decide +kernel
theorem c93_34 : mc_cd 93 34 = some (.getfield 30, 3) := by decide +kernel
theorem c93_37 : mc_cd 93 37 = some (.getfield 177, 3) := by decide +kernel
theorem c93_40 : mc_cd 93 40 = some (.if_icmp .lt 9, 3) := by decide +kernel
theorem c93_43 : mc_cd 93 43 = some (.aload_n 0, 1) := by decide +kernel
theorem c93_44 : mc_cd 93 44 = some (.iconst 1, 1) := by decide +kernel
theorem c93_45 : mc_cd 93 45 = some (.invokevirtual 70, 3) := by decide +kernel
theorem c93_48 : mc_cd 93 48 = some (.ireturn, 1) := by decide +kernel
theorem c93_49 : mc_cd 93 49 = some (.aload_n 0, 1) := by decide +kernel
theorem c93_50 : mc_cd 93 50 = some (.aload_n 0, 1) := by decide +kernel
theorem c93_51 : mc_cd 93 51 = some (.getfield 51, 3) := by decide +kernel
theorem c93_54 : mc_cd 93 54 = some (.aload_n 0, 1) := by decide +kernel
theorem c93_55 : mc_cd 93 55 = some (.getfield 30, 3) := by decide +kernel
theorem c93_58 : mc_cd 93 58 = some (.iload_n 1, 1) := by decide +kernel
theorem c93_59 : mc_cd 93 59 = some (.invokevirtual 180, 3) := by decide +kernel
theorem c93_62 : mc_cd 93 62 = some (.iload_n 2, 1) := by decide +kernel
theorem c93_63 : mc_cd 93 63 = some (.invokevirtual 183, 3) := by decide +kernel
theorem c93_66 : mc_cd 93 66 = some (.invokevirtual 99, 3) := by decide +kernel
theorem c93_69 : mc_cd 93 69 = some (.ireturn, 1) := by decide +kernel
abbrev q_93 (r0 : Nat) (a1 : Int) (a2 : Int) (T : wq_T) (H : wq_H) : Option Value → wq_T → wq_H → Prop := fun r T' H' => T = T' ∧ WT T H' ∧ wfr [(12, 5), (12, 6), (12, 7), (12, 8), (12, 9), (1, 10), (6, 5), (8, 999), (10, 999), (15, 999), (9, 999), (18, 999), (19, 999), (7, 999), (11, 999), (17, 999), (13, 999)] T H H' ∧ ∃ z : Int, some (vI z) = r ∧ ((-2147483648) ≤ z ∧ z ≤ 2147483647)
set_option maxHeartbeats 4000000 in
theorem s_93 {kt : Nat → Option mc_E} {T : wq_T} {H : wq_H} {r0 : Nat} {a1 : Int} {a2 : Int} (hW : WT T H) (g0 : T.2.2.2 r0 = some 1) (i1 : (-2147483648) ≤ a1 ∧ a1 ≤ 2147483647) (i2 : (-2147483648) ≤ a2 ∧ a2 ≤ 2147483647) : wpc kt 6 93 [.ref r0, vI a1, vI a2] T H (q_93 r0 a1 a2 T H) := by
  refine wp_enter e93 (Nat.le_of_ble_eq_true rfl) rfl ?_
  have f0 : wfr [(12, 5), (12, 6), (12, 7), (12, 8), (12, 9), (1, 10), (6, 5), (8, 999), (10, 999), (15, 999), (9, 999), (18, 999), (19, 999), (7, 999), (11, 999), (17, 999), (13, 999)] T H H := wfr.rf
  show wp _ _ 93 0 [(0, .ref r0), (1, vI a1), (2, vI a2)] [] _ H _
  refine wp_of e93 c93_0 (rw_aload_n (pc' := 1) (v := .ref r0) rfl rfl rfl ?_)
  refine wp_of e93 c93_1 (rw_aload_n (pc' := 2) (v := .ref r0) rfl rfl rfl ?_)
  refine wp_of e93 c93_2 (rw_iload_n (pc' := 3) (z := a2) rfl rfl ?_)
  refine wp_of e93 c93_3 (xc_V (pc' := 6) (r := r0) (as := [vI a2]) (st := [.ref r0]) (lm_0_105) rfl rfl (Nat.le_of_ble_eq_true rfl) hW g0 sh_1 (by decide) rfl (by decide) (s_55 hW g0 ⟨by omega, by omega⟩) (fun R27852 T27853 H27854 p27855 => ?_))
  obtain ⟨e27856, e27858, z27860, e27857, b27861, p27859⟩ := p27855
  subst e27856
  subst e27857
  subst e27858
  show wp _ _ 93 6 [(0, .ref r0), (1, vI a1), (2, vI a2)] [vI z27860, .ref r0] _ H _
  refine wp_of e93 c93_6 (rw_if_eq (p1 := 17) (p2 := 9) (by decide) rfl ⟨by omega, by omega⟩ (fun c27862 => ?_) (fun c27862 => ?_))
  · refine wp_of e93 c93_17 (rw_iconst (pc' := 18) rfl ?_)
    refine wp_of e93 c93_18 (xc_V (pc' := 21) (r := r0) (as := [vI 0]) (st := []) (lm_0_174) rfl rfl (Nat.le_of_ble_eq_true rfl) hW g0 sh_1 (by decide) rfl (by decide) (s_83 hW g0 ⟨by omega, by omega⟩) (fun R27863 T27864 H27865 p27866 => ?_))
    obtain ⟨e27867, w27869, f27870, z27872, e27868, b27873, p27871⟩ := p27866
    subst e27867
    subst e27868
    have f27874 := f0.tr f27870 rfl
    show wp _ _ 93 21 [(0, .ref r0), (1, vI a1), (2, vI a2)] [vI z27872] _ H27865 _
    refine wp_of e93 c93_21 (rw_istore_n (pc' := 22) (z := z27872) (L' := [(3, vI z27872), (0, .ref r0), (1, vI a1), (2, vI a2)]) rfl rfl rfl ?_)
    refine wp_of e93 c93_22 (rw_iload_n (pc' := 23) (z := z27872) rfl rfl ?_)
    refine wp_of e93 c93_23 (rw_if_eq (p1 := 32) (p2 := 26) (by decide) rfl ⟨by omega, by omega⟩ (fun c27875 => ?_) (fun c27875 => ?_))
    · exfalso
      omega
    · refine wp_of e93 c93_26 (rw_aload_n (pc' := 27) (v := .ref r0) rfl rfl rfl ?_)
      refine wp_of e93 c93_27 (rw_iload_n (pc' := 28) (z := z27872) rfl rfl ?_)
      refine wp_of e93 c93_28 (xc_V (pc' := 31) (r := r0) (as := [vI z27872]) (st := []) (lm_0_70) rfl rfl (Nat.le_of_ble_eq_true rfl) w27869 g0 sh_1 (by decide) rfl (by decide) (s_12 w27869 g0 ⟨by omega, by omega⟩) (fun R27876 T27877 H27878 p27879 => ?_))
      obtain ⟨e27880, w27882, f27883, z27884, e27881, b27885⟩ := p27879
      subst e27880
      subst e27881
      have f27886 := f27874.tr f27883 rfl
      show wp _ _ 93 31 [(3, vI z27872), (0, .ref r0), (1, vI a1), (2, vI a2)] [vI z27884] _ H27878 _
      exact wp_ireturn e93 c93_31 rfl ⟨rfl, w27882, f27886, z27884, rfl, ⟨by omega, by omega⟩⟩
  · refine wp_of e93 c93_9 (rw_iload_n (pc' := 10) (z := a1) rfl rfl ?_)
    refine wp_of e93 c93_10 (rw_if_lt (p1 := 17) (p2 := 13) (by decide) rfl ⟨by omega, by omega⟩ (fun c27887 => ?_) (fun c27887 => ?_))
    · refine wp_of e93 c93_17 (rw_iconst (pc' := 18) rfl ?_)
      refine wp_of e93 c93_18 (xc_V (pc' := 21) (r := r0) (as := [vI 0]) (st := []) (lm_0_174) rfl rfl (Nat.le_of_ble_eq_true rfl) hW g0 sh_1 (by decide) rfl (by decide) (s_83 hW g0 ⟨by omega, by omega⟩) (fun R27888 T27889 H27890 p27891 => ?_))
      obtain ⟨e27892, w27894, f27895, z27897, e27893, b27898, p27896⟩ := p27891
      subst e27892
      subst e27893
      have f27899 := f0.tr f27895 rfl
      show wp _ _ 93 21 [(0, .ref r0), (1, vI a1), (2, vI a2)] [vI z27897] _ H27890 _
      refine wp_of e93 c93_21 (rw_istore_n (pc' := 22) (z := z27897) (L' := [(3, vI z27897), (0, .ref r0), (1, vI a1), (2, vI a2)]) rfl rfl rfl ?_)
      refine wp_of e93 c93_22 (rw_iload_n (pc' := 23) (z := z27897) rfl rfl ?_)
      refine wp_of e93 c93_23 (rw_if_eq (p1 := 32) (p2 := 26) (by decide) rfl ⟨by omega, by omega⟩ (fun c27900 => ?_) (fun c27900 => ?_))
      · exfalso
        omega
      · refine wp_of e93 c93_26 (rw_aload_n (pc' := 27) (v := .ref r0) rfl rfl rfl ?_)
        refine wp_of e93 c93_27 (rw_iload_n (pc' := 28) (z := z27897) rfl rfl ?_)
        refine wp_of e93 c93_28 (xc_V (pc' := 31) (r := r0) (as := [vI z27897]) (st := []) (lm_0_70) rfl rfl (Nat.le_of_ble_eq_true rfl) w27894 g0 sh_1 (by decide) rfl (by decide) (s_12 w27894 g0 ⟨by omega, by omega⟩) (fun R27901 T27902 H27903 p27904 => ?_))
        obtain ⟨e27905, w27907, f27908, z27909, e27906, b27910⟩ := p27904
        subst e27905
        subst e27906
        have f27911 := f27899.tr f27908 rfl
        show wp _ _ 93 31 [(3, vI z27897), (0, .ref r0), (1, vI a1), (2, vI a2)] [vI z27909] _ H27903 _
        exact wp_ireturn e93 c93_31 rfl ⟨rfl, w27907, f27911, z27909, rfl, ⟨by omega, by omega⟩⟩
    · refine wp_of e93 c93_13 (rw_iconst (pc' := 14) rfl ?_)
      refine wp_of e93 c93_14 (rw_goto (p1 := 18) (by decide) ?_)
      refine wp_of e93 c93_18 (xc_V (pc' := 21) (r := r0) (as := [vI 1]) (st := []) (lm_0_174) rfl rfl (Nat.le_of_ble_eq_true rfl) hW g0 sh_1 (by decide) rfl (by decide) (s_83 hW g0 ⟨by omega, by omega⟩) (fun R27912 T27913 H27914 p27915 => ?_))
      obtain ⟨e27916, w27918, f27919, z27921, e27917, b27922, p27920⟩ := p27915
      subst e27916
      subst e27917
      have f27923 := f0.tr f27919 rfl
      show wp _ _ 93 21 [(0, .ref r0), (1, vI a1), (2, vI a2)] [vI z27921] _ H27914 _
      refine wp_of e93 c93_21 (rw_istore_n (pc' := 22) (z := z27921) (L' := [(3, vI z27921), (0, .ref r0), (1, vI a1), (2, vI a2)]) rfl rfl rfl ?_)
      refine wp_of e93 c93_22 (rw_iload_n (pc' := 23) (z := z27921) rfl rfl ?_)
      refine wp_of e93 c93_23 (rw_if_eq (p1 := 32) (p2 := 26) (by decide) rfl ⟨by omega, by omega⟩ (fun c27924 => ?_) (fun c27924 => ?_))
      · refine wp_of e93 c93_32 (rw_iload_n (pc' := 33) (z := a1) rfl rfl ?_)
        refine wp_of e93 c93_33 (rw_aload_n (pc' := 34) (v := .ref r0) rfl rfl rfl ?_)
        refine wp_of e93 c93_34 (xg_R (pc' := 37) lf_0_30 w27918 g0 sh_1 (by decide) (by decide) ty_1_3 rfl rfl (fun r27925 q27926 g27927 => ?_))
        refine wp_of e93 c93_37 (xg_I (pc' := 40) lf_0_177 w27918 g27927 sh_12 (by decide) (by decide) ty_12_5 rfl rfl (fun b27928 b27929 => ?_))
        refine wp_of e93 c93_40 (rw_icmp_lt (p1 := 49) (p2 := 43) (by decide) rfl ⟨by omega, by omega⟩ ⟨by omega, by omega⟩ (fun c27930 => ?_) (fun c27930 => ?_))
        · refine wp_of e93 c93_49 (rw_aload_n (pc' := 50) (v := .ref r0) rfl rfl rfl ?_)
          refine wp_of e93 c93_50 (rw_aload_n (pc' := 51) (v := .ref r0) rfl rfl rfl ?_)
          refine wp_of e93 c93_51 (xg_R (pc' := 54) lf_0_51 w27918 g0 sh_1 (by decide) (by decide) ty_1_6 rfl rfl (fun r27931 q27932 g27933 => ?_))
          refine wp_of e93 c93_54 (rw_aload_n (pc' := 55) (v := .ref r0) rfl rfl rfl ?_)
          refine wp_of e93 c93_55 (xg_K (pc' := 58) lf_0_30 w27918 g0 sh_1 (by decide) (by decide) rfl q27926 rfl ?_)
          refine wp_of e93 c93_58 (rw_iload_n (pc' := 59) (z := a1) rfl rfl ?_)
          refine wp_of e93 c93_59 (xc_V (pc' := 62) (r := r27925) (as := [vI a1]) (st := [.ref r27931, .ref r0]) (lm_0_180) rfl rfl (Nat.le_of_ble_eq_true rfl) w27918 g27927 sh_12 (by decide) rfl (by decide) (s_94 w27918 g27927 ⟨by omega, by omega⟩) (fun R27934 T27935 H27936 p27937 => ?_))
          obtain ⟨e27938, e27940, z27941, e27939, b27942⟩ := p27937
          subst e27938
          subst e27939
          subst e27940
          show wp _ _ 93 62 [(3, vI z27921), (0, .ref r0), (1, vI a1), (2, vI a2)] [vI z27941, .ref r27931, .ref r0] _ H27914 _
          refine wp_of e93 c93_62 (rw_iload_n (pc' := 63) (z := a2) rfl rfl ?_)
          refine wp_of e93 c93_63 (xc_V (pc' := 66) (r := r27931) (as := [vI z27941, vI a2]) (st := [.ref r0]) (lm_0_183) rfl rfl (Nat.le_of_ble_eq_true rfl) w27918 g27933 sh_27 (by decide) rfl (by decide) (s_96 w27918 g27933 ⟨by omega, by omega⟩ ⟨by omega, by omega⟩) (fun R27943 T27944 H27945 p27946 => ?_))
          obtain ⟨e27947, e27949, z27950, e27948, b27951⟩ := p27946
          subst e27947
          subst e27948
          subst e27949
          show wp _ _ 93 66 [(3, vI z27921), (0, .ref r0), (1, vI a1), (2, vI a2)] [vI z27950, .ref r0] _ H27914 _
          refine wp_of e93 c93_66 (xc_V (pc' := 69) (r := r0) (as := [vI z27950]) (st := []) (lm_0_99) rfl rfl (Nat.le_of_ble_eq_true rfl) w27918 g0 sh_1 (by decide) rfl (by decide) (s_51 w27918 g0 ⟨by omega, by omega⟩) (fun R27952 T27953 H27954 p27955 => ?_))
          obtain ⟨e27956, w27958, f27959, z27960, e27957, b27961⟩ := p27955
          subst e27956
          subst e27957
          have f27962 := f27923.tr f27959 rfl
          show wp _ _ 93 69 [(3, vI z27921), (0, .ref r0), (1, vI a1), (2, vI a2)] [vI z27960] _ H27954 _
          exact wp_ireturn e93 c93_69 rfl ⟨rfl, w27958, f27962, z27960, rfl, ⟨by omega, by omega⟩⟩
        · refine wp_of e93 c93_43 (rw_aload_n (pc' := 44) (v := .ref r0) rfl rfl rfl ?_)
          refine wp_of e93 c93_44 (rw_iconst (pc' := 45) rfl ?_)
          refine wp_of e93 c93_45 (xc_V (pc' := 48) (r := r0) (as := [vI 1]) (st := []) (lm_0_70) rfl rfl (Nat.le_of_ble_eq_true rfl) w27918 g0 sh_1 (by decide) rfl (by decide) (s_12 w27918 g0 ⟨by omega, by omega⟩) (fun R27963 T27964 H27965 p27966 => ?_))
          obtain ⟨e27967, w27969, f27970, z27971, e27968, b27972⟩ := p27966
          subst e27967
          subst e27968
          have f27973 := f27923.tr f27970 rfl
          show wp _ _ 93 48 [(3, vI z27921), (0, .ref r0), (1, vI a1), (2, vI a2)] [vI z27971] _ H27965 _
          exact wp_ireturn e93 c93_48 rfl ⟨rfl, w27969, f27973, z27971, rfl, ⟨by omega, by omega⟩⟩
      · refine wp_of e93 c93_26 (rw_aload_n (pc' := 27) (v := .ref r0) rfl rfl rfl ?_)
        refine wp_of e93 c93_27 (rw_iload_n (pc' := 28) (z := z27921) rfl rfl ?_)
        refine wp_of e93 c93_28 (xc_V (pc' := 31) (r := r0) (as := [vI z27921]) (st := []) (lm_0_70) rfl rfl (Nat.le_of_ble_eq_true rfl) w27918 g0 sh_1 (by decide) rfl (by decide) (s_12 w27918 g0 ⟨by omega, by omega⟩) (fun R27974 T27975 H27976 p27977 => ?_))
        obtain ⟨e27978, w27980, f27981, z27982, e27979, b27983⟩ := p27977
        subst e27978
        subst e27979
        have f27984 := f27923.tr f27981 rfl
        show wp _ _ 93 31 [(3, vI z27921), (0, .ref r0), (1, vI a1), (2, vI a2)] [vI z27982] _ H27976 _
        exact wp_ireturn e93 c93_31 rfl ⟨rfl, w27980, f27984, z27982, rfl, ⟨by omega, by omega⟩⟩
/-! StrikeAwake.weights()J -/
theorem e97 : wq_en 97 = some (0, 2, false, some FieldType.long) := rfl
theorem c97_0 : mc_cd 97 0 = some (.aload_n 0, 1) := by decide +kernel
theorem c97_1 : mc_cd 97 1 = some (.aload_n 0, 1) := by decide +kernel
theorem c97_2 : mc_cd 97 2 = some (.getfield 58, 3) := by decide +kernel
theorem c97_5 : mc_cd 97 5 = some (.invokevirtual 174, 3) := by decide +kernel
theorem c97_8 : mc_cd 97 8 = some (.istore_n 1, 1) := by decide +kernel
theorem c97_9 : mc_cd 97 9 = some (.iload_n 1, 1) := by decide +kernel
theorem c97_10 : mc_cd 97 10 = some (.ifCond .eq 10, 3) := by decide +kernel
theorem c97_13 : mc_cd 97 13 = some (.aload_n 0, 1) := by decide +kernel
theorem c97_14 : mc_cd 97 14 = some (.iload_n 1, 1) := by decide +kernel
theorem c97_15 : mc_cd 97 15 = some (.invokevirtual 70, 3) := by decide +kernel
theorem c97_18 : mc_cd 97 18 = some (.i2l, 1) := by decide +kernel
theorem c97_19 : mc_cd 97 19 = some (.lreturn, 1) := by decide +kernel
theorem c97_20 : mc_cd 97 20 = some (.aload_n 0, 1) := by decide +kernel
theorem c97_21 : mc_cd 97 21 = some (.iconst 0, 1) := by decide +kernel
theorem c97_22 : mc_cd 97 22 = some (.putfield 102, 3) := by decide +kernel
theorem c97_25 : mc_cd 97 25 = some (.aload_n 0, 1) := by decide +kernel
theorem c97_26 : mc_cd 97 26 = some (.getfield 30, 3) := by decide +kernel
theorem c97_29 : mc_cd 97 29 = some (.getfield 187, 3) := by decide +kernel
theorem c97_32 : mc_cd 97 32 = some (.lreturn, 1) := by decide +kernel
abbrev q_97 (r0 : Nat) (T : wq_T) (H : wq_H) : Option Value → wq_T → wq_H → Prop := fun r T' H' => T = T' ∧ WT T H' ∧ wfr [(12, 5), (12, 6), (12, 7), (12, 8), (12, 9), (1, 10), (6, 5), (8, 999), (10, 999), (15, 999), (9, 999), (18, 999), (19, 999), (7, 999), (11, 999), (17, 999), (13, 999)] T H H' ∧ ∃ z : Int, some (vL z) = r ∧ ((-9223372036854775808) ≤ z ∧ z ≤ 9223372036854775807)
set_option maxHeartbeats 4000000 in
theorem s_97 {kt : Nat → Option mc_E} {T : wq_T} {H : wq_H} {r0 : Nat} (hW : WT T H) (g0 : T.2.2.2 r0 = some 1) : wpc kt 6 97 [.ref r0] T H (q_97 r0 T H) := by
  refine wp_enter e97 (Nat.le_of_ble_eq_true rfl) rfl ?_
  have f0 : wfr [(12, 5), (12, 6), (12, 7), (12, 8), (12, 9), (1, 10), (6, 5), (8, 999), (10, 999), (15, 999), (9, 999), (18, 999), (19, 999), (7, 999), (11, 999), (17, 999), (13, 999)] T H H := wfr.rf
  show wp _ _ 97 0 [(0, .ref r0)] [] _ H _
  refine wp_of e97 c97_0 (rw_aload_n (pc' := 1) (v := .ref r0) rfl rfl rfl ?_)
  refine wp_of e97 c97_1 (rw_aload_n (pc' := 2) (v := .ref r0) rfl rfl rfl ?_)
  refine wp_of e97 c97_2 (xg_I (pc' := 5) lf_0_58 hW g0 sh_1 (by decide) (by decide) ty_1_8 rfl rfl (fun b28021 b28022 => ?_))
  refine wp_of e97 c97_5 (xc_V (pc' := 8) (r := r0) (as := [vI (H r0 8)]) (st := []) (lm_0_174) rfl rfl (Nat.le_of_ble_eq_true rfl) hW g0 sh_1 (by decide) rfl (by decide) (s_83 hW g0 ⟨by omega, by omega⟩) (fun R28023 T28024 H28025 p28026 => ?_))
  obtain ⟨e28027, w28029, f28030, z28032, e28028, b28033, p28031⟩ := p28026
  subst e28027
  subst e28028
  have f28034 := f0.tr f28030 rfl
  show wp _ _ 97 8 [(0, .ref r0)] [vI z28032] _ H28025 _
  refine wp_of e97 c97_8 (rw_istore_n (pc' := 9) (z := z28032) (L' := [(1, vI z28032), (0, .ref r0)]) rfl rfl rfl ?_)
  refine wp_of e97 c97_9 (rw_iload_n (pc' := 10) (z := z28032) rfl rfl ?_)
  refine wp_of e97 c97_10 (rw_if_eq (p1 := 20) (p2 := 13) (by decide) rfl ⟨by omega, by omega⟩ (fun c28035 => ?_) (fun c28035 => ?_))
  · refine wp_of e97 c97_20 (rw_aload_n (pc' := 21) (v := .ref r0) rfl rfl rfl ?_)
    refine wp_of e97 c97_21 (rw_iconst (pc' := 22) rfl ?_)
    refine wp_of e97 c97_22 (xp_I (pc' := 25) lf_0_102 w28029 g0 sh_1 (by decide) (by decide) ty_1_10 rfl rfl (by omega) (by omega) ⟨by omega, by omega⟩ rfl (fun H28036 e28037 w28038 => ?_))
    have f28039 := f28034.put' e28037 g0 rfl
    have k28040 : H28036 r0 10 = 0 := wq_u_s e28037
    refine wp_of e97 c97_25 (rw_aload_n (pc' := 26) (v := .ref r0) rfl rfl rfl ?_)
    refine wp_of e97 c97_26 (xg_R (pc' := 29) lf_0_30 w28038 g0 sh_1 (by decide) (by decide) ty_1_3 rfl rfl (fun r28041 q28042 g28043 => ?_))
    refine wp_of e97 c97_29 (xg_L (pc' := 32) lf_0_187 w28038 g28043 sh_12 (by decide) (by decide) ty_12_6 rfl rfl (fun b28044 b28045 => ?_))
    exact wp_lreturn e97 c97_32 rfl ⟨rfl, w28038, f28039, H28036 r28041 6, rfl, ⟨by omega, by omega⟩⟩
  · refine wp_of e97 c97_13 (rw_aload_n (pc' := 14) (v := .ref r0) rfl rfl rfl ?_)
    refine wp_of e97 c97_14 (rw_iload_n (pc' := 15) (z := z28032) rfl rfl ?_)
    refine wp_of e97 c97_15 (xc_V (pc' := 18) (r := r0) (as := [vI z28032]) (st := []) (lm_0_70) rfl rfl (Nat.le_of_ble_eq_true rfl) w28029 g0 sh_1 (by decide) rfl (by decide) (s_12 w28029 g0 ⟨by omega, by omega⟩) (fun R28046 T28047 H28048 p28049 => ?_))
    obtain ⟨e28050, w28052, f28053, z28054, e28051, b28055⟩ := p28049
    subst e28050
    subst e28051
    have f28056 := f28034.tr f28053 rfl
    show wp _ _ 97 18 [(1, vI z28032), (0, .ref r0)] [vI z28054] _ H28048 _
    refine wp_of e97 c97_18 (rw_i2l (pc' := 19) rfl ⟨by omega, by omega⟩ ?_)
    exact wp_lreturn e97 c97_19 rfl ⟨rfl, w28052, f28056, z28054, rfl, ⟨by omega, by omega⟩⟩
