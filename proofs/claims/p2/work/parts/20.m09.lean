/-! methods (own work, written by wip/gen2/sx.py) -/
/-! StrikeAwake.proof()I -/
theorem e137 : wq_en 137 = some (0, 1, false, some FieldType.int) := rfl
theorem c137_0 : mc_cd 137 0 = some (.aload_n 0, 1) := by decide +kernel
theorem c137_1 : mc_cd 137 1 = some (.getfield 58, 3) := by decide +kernel
theorem c137_4 : mc_cd 137 4 = some (.ifCond .ne 9, 3) := by decide +kernel
theorem c137_7 : mc_cd 137 7 = some (.aload_n 0, 1) := by decide +kernel
theorem c137_8 : mc_cd 137 8 = some (.iconst 1, 1) := by decide +kernel
theorem c137_9 : mc_cd 137 9 = some (.invokevirtual 70, 3) := by decide +kernel
theorem c137_12 : mc_cd 137 12 = some (.ireturn, 1) := by decide +kernel
theorem c137_13 : mc_cd 137 13 = some (.aload_n 0, 1) := by decide +kernel
theorem c137_14 : mc_cd 137 14 = some (.getfield 51, 3) := by decide +kernel
theorem c137_17 : mc_cd 137 17 = some (.getfield 141, 3) := by decide +kernel
theorem c137_20 : mc_cd 137 20 = some (.ldc2_w 252, 3) := by decide +kernel
theorem c137_23 : mc_cd 137 23 = some (.lcmp, 1) := by decide +kernel
theorem c137_24 : mc_cd 137 24 = some (.ifCond .le 9, 3) := by decide +kernel
theorem c137_27 : mc_cd 137 27 = some (.aload_n 0, 1) := by decide +kernel
theorem c137_28 : mc_cd 137 28 = some (.iconst 3, 1) := by decide +kernel
theorem c137_29 : mc_cd 137 29 = some (.invokevirtual 70, 3) := by decide +kernel
theorem c137_32 : mc_cd 137 32 = some (.ireturn, 1) := by decide +kernel
theorem c137_33 : mc_cd 137 33 = some (.aload_n 0, 1) := by decide +kernel
theorem c137_34 : mc_cd 137 34 = some (.getfield 30, 3) := by decide +kernel
theorem c137_37 : mc_cd 137 37 = some (.aload_n 0, 1) := by decide +kernel
theorem c137_38 : mc_cd 137 38 = some (.getfield 51, 3) := by decide +kernel
theorem c137_41 : mc_cd 137 41 = some (.aload_n 0, 1) := by decide +kernel
theorem c137_42 : mc_cd 137 42 = some (.getfield 23, 3) := by decide +kernel
theorem c137_45 : mc_cd 137 45 = some (.invokevirtual 254, 3) := by decide +kernel
theorem c137_48 : mc_cd 137 48 = some (.aload_n 0, 1) := by decide +kernel
theorem c137_49 : mc_cd 137 49 = some (.getfield 30, 3) := by decide +kernel
theorem c137_52 : mc_cd 137 52 = some (.getfield 177, 3) := by decide +kernel
theorem c137_55 : mc_cd 137 55 = some (.ifCond .le 9, 3) := by decide +kernel
theorem c137_58 : mc_cd 137 58 = some (.aload_n 0, 1) := by decide +kernel
theorem c137_59 : mc_cd 137 59 = some (.iconst 5, 1) := by decide +kernel
theorem c137_60 : mc_cd 137 60 = some (.invokevirtual 70, 3) := by decide +kernel
theorem c137_63 : mc_cd 137 63 = some (.ireturn, 1) := by decide +kernel
theorem c137_64 : mc_cd 137 64 = some (.aload_n 0, 1) := by decide +kernel
theorem c137_65 : mc_cd 137 65 = some (.aload_n 0, 1) := by decide +kernel
theorem c137_66 : mc_cd 137 66 = some (.getfield 44, 3) := by decide +kernel
theorem c137_69 : mc_cd 137 69 = some (.aload_n 0, 1) := by decide +kernel
theorem c137_70 : mc_cd 137 70 = some (.getfield 51, 3) := by decide +kernel
theorem c137_73 : mc_cd 137 73 = some (.aload_n 0, 1) := by decide +kernel
theorem c137_74 : mc_cd 137 74 = some (.getfield 23, 3) := by decide +kernel
theorem c137_77 : mc_cd 137 77 = some (.invokevirtual 258, 3) := by decide +kernel
theorem c137_80 : mc_cd 137 80 = some (.invokevirtual 99, 3) := by decide +kernel
theorem c137_83 : mc_cd 137 83 = some (.ireturn, 1) := by decide +kernel
abbrev q_137 (r0 : Nat) (T : wq_T) (H : wq_H) : Option Value → wq_T → wq_H → Prop := fun r T' H' => T = T' ∧ WT T H' ∧ wfr [(12, 5), (12, 6), (12, 7), (12, 8), (12, 9), (25, 1), (25, 2), (1, 10), (6, 5), (8, 999), (10, 999), (26, 999), (15, 999), (9, 999), (18, 999), (19, 999), (7, 999), (11, 999), (17, 999), (13, 999)] T H H' ∧ ∃ z : Int, some (vI z) = r ∧ ((-2147483648) ≤ z ∧ z ≤ 2147483647)
set_option maxHeartbeats 4000000 in
theorem s_137 {kt : Nat → Option mc_E} {T : wq_T} {H : wq_H} {r0 : Nat} (hW : WT T H) (g0 : T.2.2.2 r0 = some 1) : wpc kt 6 137 [.ref r0] T H (q_137 r0 T H) := by
  refine wp_enter e137 (Nat.le_of_ble_eq_true rfl) rfl ?_
  have f0 : wfr [(12, 5), (12, 6), (12, 7), (12, 8), (12, 9), (25, 1), (25, 2), (1, 10), (6, 5), (8, 999), (10, 999), (26, 999), (15, 999), (9, 999), (18, 999), (19, 999), (7, 999), (11, 999), (17, 999), (13, 999)] T H H := wfr.rf
  show wp _ _ 137 0 [(0, .ref r0)] [] _ H _
  refine wp_of e137 c137_0 (rw_aload_n (pc' := 1) (v := .ref r0) rfl rfl rfl ?_)
  refine wp_of e137 c137_1 (xg_I (pc' := 4) lf_0_58 hW g0 sh_1 (by decide) (by decide) ty_1_8 rfl rfl (fun b73726 b73727 => ?_))
  refine wp_of e137 c137_4 (rw_if_ne (p1 := 13) (p2 := 7) (by decide) rfl ⟨by omega, by omega⟩ (fun c73728 => ?_) (fun c73728 => ?_))
  · refine wp_of e137 c137_13 (rw_aload_n (pc' := 14) (v := .ref r0) rfl rfl rfl ?_)
    refine wp_of e137 c137_14 (xg_R (pc' := 17) lf_0_51 hW g0 sh_1 (by decide) (by decide) ty_1_6 rfl rfl (fun r73729 q73730 g73731 => ?_))
    refine wp_of e137 c137_17 (xg_L (pc' := 20) lf_0_141 hW g73731 sh_27 (by decide) (by decide) ty_27_18 rfl rfl (fun b73732 b73733 => ?_))
    refine wp_of e137 c137_20 (rw_ldc2 (pc' := 23) (z := 5000) rfl rfl rfl ?_)
    refine wp_of e137 c137_23 (rw_lcmp (pc' := 24) rfl ⟨by omega, by omega⟩ ⟨by omega, by omega⟩ ?_)
    have b73734 := wq_cmp_b (H r73729 18) 5000
    refine wp_of e137 c137_24 (rw_if_le (p1 := 33) (p2 := 27) (by decide) rfl ⟨by omega, by omega⟩ (fun c73735 => ?_) (fun c73735 => ?_))
    · refine wp_of e137 c137_33 (rw_aload_n (pc' := 34) (v := .ref r0) rfl rfl rfl ?_)
      refine wp_of e137 c137_34 (xg_R (pc' := 37) lf_0_30 hW g0 sh_1 (by decide) (by decide) ty_1_3 rfl rfl (fun r73736 q73737 g73738 => ?_))
      refine wp_of e137 c137_37 (rw_aload_n (pc' := 38) (v := .ref r0) rfl rfl rfl ?_)
      refine wp_of e137 c137_38 (xg_K (pc' := 41) lf_0_51 hW g0 sh_1 (by decide) (by decide) rfl q73730 rfl ?_)
      refine wp_of e137 c137_41 (rw_aload_n (pc' := 42) (v := .ref r0) rfl rfl rfl ?_)
      refine wp_of e137 c137_42 (xg_R (pc' := 45) lf_0_23 hW g0 sh_1 (by decide) (by decide) ty_1_2 rfl rfl (fun r73739 q73740 g73741 => ?_))
      refine wp_of e137 c137_45 (xc_V (pc' := 48) (r := r73736) (as := [.ref r73729, .ref r73739]) (st := []) (lm_0_254) rfl rfl (Nat.le_of_ble_eq_true rfl) hW g73738 sh_12 (by decide) rfl (by decide) (s_85 hW g73738 g73731 g73741) (fun R73742 T73743 H73744 p73745 => ?_))
      obtain ⟨e73746, w73748, f73749, e73747⟩ := p73745
      subst e73746
      subst e73747
      have f73750 := f0.tr f73749 rfl
      show wp _ _ 137 48 [(0, .ref r0)] [] _ H73744 _
      refine wp_of e137 c137_48 (rw_aload_n (pc' := 49) (v := .ref r0) rfl rfl rfl ?_)
      have k73751 : H73744 r0 3 = H r0 3 := (f73749 r0 3 _ g0 rfl)
      have q73752 : H73744 r0 3 = (r73736 : Int) := k73751.trans q73737
      refine wp_of e137 c137_49 (xg_K (pc' := 52) lf_0_30 w73748 g0 sh_1 (by decide) (by decide) rfl q73752 rfl ?_)
      refine wp_of e137 c137_52 (xg_I (pc' := 55) lf_0_177 w73748 g73738 sh_12 (by decide) (by decide) ty_12_5 rfl rfl (fun b73753 b73754 => ?_))
      refine wp_of e137 c137_55 (rw_if_le (p1 := 64) (p2 := 58) (by decide) rfl ⟨by omega, by omega⟩ (fun c73755 => ?_) (fun c73755 => ?_))
      · refine wp_of e137 c137_64 (rw_aload_n (pc' := 65) (v := .ref r0) rfl rfl rfl ?_)
        refine wp_of e137 c137_65 (rw_aload_n (pc' := 66) (v := .ref r0) rfl rfl rfl ?_)
        refine wp_of e137 c137_66 (xg_R (pc' := 69) lf_0_44 w73748 g0 sh_1 (by decide) (by decide) ty_1_5 rfl rfl (fun r73756 q73757 g73758 => ?_))
        refine wp_of e137 c137_69 (rw_aload_n (pc' := 70) (v := .ref r0) rfl rfl rfl ?_)
        have k73759 : H73744 r0 6 = H r0 6 := (f73749 r0 6 _ g0 rfl)
        have q73760 : H73744 r0 6 = (r73729 : Int) := k73759.trans q73730
        refine wp_of e137 c137_70 (xg_K (pc' := 73) lf_0_51 w73748 g0 sh_1 (by decide) (by decide) rfl q73760 rfl ?_)
        refine wp_of e137 c137_73 (rw_aload_n (pc' := 74) (v := .ref r0) rfl rfl rfl ?_)
        have k73761 : H73744 r0 2 = H r0 2 := (f73749 r0 2 _ g0 rfl)
        have q73762 : H73744 r0 2 = (r73739 : Int) := k73761.trans q73740
        refine wp_of e137 c137_74 (xg_K (pc' := 77) lf_0_23 w73748 g0 sh_1 (by decide) (by decide) rfl q73762 rfl ?_)
        refine wp_of e137 c137_77 (xc_V (pc' := 80) (r := r73756) (as := [.ref r73729, .ref r73739]) (st := [.ref r0]) (lm_0_258) rfl rfl (Nat.le_of_ble_eq_true rfl) w73748 g73758 sh_25 (by decide) rfl (by decide) (s_138 w73748 g73758 g73731 g73741) (fun R73763 T73764 H73765 p73766 => ?_))
        obtain ⟨e73767, w73769, f73770, z73771, e73768, b73772⟩ := p73766
        subst e73767
        subst e73768
        have f73773 := f73750.tr f73770 rfl
        show wp _ _ 137 80 [(0, .ref r0)] [vI z73771, .ref r0] _ H73765 _
        refine wp_of e137 c137_80 (xc_V (pc' := 83) (r := r0) (as := [vI z73771]) (st := []) (lm_0_99) rfl rfl (Nat.le_of_ble_eq_true rfl) w73769 g0 sh_1 (by decide) rfl (by decide) (s_51 w73769 g0 ⟨by omega, by omega⟩) (fun R73774 T73775 H73776 p73777 => ?_))
        obtain ⟨e73778, w73780, f73781, z73782, e73779, b73783⟩ := p73777
        subst e73778
        subst e73779
        have f73784 := f73773.tr f73781 rfl
        show wp _ _ 137 83 [(0, .ref r0)] [vI z73782] _ H73776 _
        exact wp_ireturn e137 c137_83 rfl ⟨rfl, w73780, f73784, z73782, rfl, ⟨by omega, by omega⟩⟩
      · refine wp_of e137 c137_58 (rw_aload_n (pc' := 59) (v := .ref r0) rfl rfl rfl ?_)
        refine wp_of e137 c137_59 (rw_iconst (pc' := 60) rfl ?_)
        refine wp_of e137 c137_60 (xc_V (pc' := 63) (r := r0) (as := [vI 5]) (st := []) (lm_0_70) rfl rfl (Nat.le_of_ble_eq_true rfl) w73748 g0 sh_1 (by decide) rfl (by decide) (s_12 w73748 g0 ⟨by omega, by omega⟩) (fun R73785 T73786 H73787 p73788 => ?_))
        obtain ⟨e73789, w73791, f73792, z73793, e73790, b73794⟩ := p73788
        subst e73789
        subst e73790
        have f73795 := f73750.tr f73792 rfl
        show wp _ _ 137 63 [(0, .ref r0)] [vI z73793] _ H73787 _
        exact wp_ireturn e137 c137_63 rfl ⟨rfl, w73791, f73795, z73793, rfl, ⟨by omega, by omega⟩⟩
    · refine wp_of e137 c137_27 (rw_aload_n (pc' := 28) (v := .ref r0) rfl rfl rfl ?_)
      refine wp_of e137 c137_28 (rw_iconst (pc' := 29) rfl ?_)
      refine wp_of e137 c137_29 (xc_V (pc' := 32) (r := r0) (as := [vI 3]) (st := []) (lm_0_70) rfl rfl (Nat.le_of_ble_eq_true rfl) hW g0 sh_1 (by decide) rfl (by decide) (s_12 hW g0 ⟨by omega, by omega⟩) (fun R73796 T73797 H73798 p73799 => ?_))
      obtain ⟨e73800, w73802, f73803, z73804, e73801, b73805⟩ := p73799
      subst e73800
      subst e73801
      have f73806 := f0.tr f73803 rfl
      show wp _ _ 137 32 [(0, .ref r0)] [vI z73804] _ H73798 _
      exact wp_ireturn e137 c137_32 rfl ⟨rfl, w73802, f73806, z73804, rfl, ⟨by omega, by omega⟩⟩
  · refine wp_of e137 c137_7 (rw_aload_n (pc' := 8) (v := .ref r0) rfl rfl rfl ?_)
    refine wp_of e137 c137_8 (rw_iconst (pc' := 9) rfl ?_)
    refine wp_of e137 c137_9 (xc_V (pc' := 12) (r := r0) (as := [vI 1]) (st := []) (lm_0_70) rfl rfl (Nat.le_of_ble_eq_true rfl) hW g0 sh_1 (by decide) rfl (by decide) (s_12 hW g0 ⟨by omega, by omega⟩) (fun R73807 T73808 H73809 p73810 => ?_))
    obtain ⟨e73811, w73813, f73814, z73815, e73812, b73816⟩ := p73810
    subst e73811
    subst e73812
    have f73817 := f0.tr f73814 rfl
    show wp _ _ 137 12 [(0, .ref r0)] [vI z73815] _ H73809 _
    exact wp_ireturn e137 c137_12 rfl ⟨rfl, w73813, f73817, z73815, rfl, ⟨by omega, by omega⟩⟩
/-! StrikeAwake.part(IZ)I -/
theorem e146 : wq_en 146 = some (0, 5, false, some FieldType.int) := rfl
theorem c146_0 : mc_cd 146 0 = some (.aload_n 0, 1) := by decide +kernel
theorem c146_1 : mc_cd 146 1 = some (.aload_n 0, 1) := by decide +kernel
theorem c146_2 : mc_cd 146 2 = some (.iload_n 1, 1) := by decide +kernel
theorem c146_3 : mc_cd 146 3 = some (.invokevirtual 132, 3) := by decide +kernel
theorem c146_6 : mc_cd 146 6 = some (.ifCond .eq 19, 3) := by decide +kernel
theorem c146_9 : mc_cd 146 9 = some (.aload_n 0, 1) := by decide +kernel
theorem c146_10 : mc_cd 146 10 = some (.getfield 51, 3) := by decide +kernel
theorem c146_13 : mc_cd 146 13 = some (.getfield 262, 3) := by decide +kernel
theorem c146_16 : mc_cd 146 16 = some (.iload_n 1, 1) := by decide +kernel
theorem c146_17 : mc_cd 146 17 = some (.iaload, 1) := by decide +kernel
theorem c146_18 : mc_cd 146 18 = some (.ifCond .lt 7, 3) := by decide +kernel
theorem c146_21 : mc_cd 146 21 = some (.iconst 1, 1) := by decide +kernel
theorem c146_22 : mc_cd 146 22 = some (.goto 4, 3) := by decide +kernel
theorem c146_25 : mc_cd 146 25 = some (.iconst 0, 1) := by decide +kernel
theorem c146_26 : mc_cd 146 26 = some (.invokevirtual 198, 3) := by decide +kernel
theorem c146_29 : mc_cd 146 29 = some (.istore_n 3, 1) := by decide +kernel
theorem c146_30 : mc_cd 146 30 = some (.iload_n 3, 1) := by decide +kernel
theorem c146_31 : mc_cd 146 31 = some (.ifCond .eq 12, 3) := by decide +kernel
theorem c146_34 : mc_cd 146 34 = some (.aload_n 0, 1) := by decide +kernel
theorem c146_35 : mc_cd 146 35 = some (.iload_n 3, 1) := by decide +kernel
theorem c146_36 : mc_cd 146 36 = some (.putfield 102, 3) := by decide +kernel
theorem c146_39 : mc_cd 146 39 = some (.sipush (-1000), 3) := by decide +kernel
theorem c146_42 : mc_cd 146 42 = some (.ireturn, 1) := by decide +kernel
theorem c146_43 : mc_cd 146 43 = some (.iload_n 2, 1) := by decide +kernel
theorem c146_44 : mc_cd 146 44 = some (.ifCond .eq 15, 3) := by decide +kernel
theorem c146_47 : mc_cd 146 47 = some (.aload_n 0, 1) := by decide +kernel
theorem c146_48 : mc_cd 146 48 = some (.getfield 30, 3) := by decide +kernel
theorem c146_51 : mc_cd 146 51 = some (.getfield 265, 3) := by decide +kernel
theorem c146_54 : mc_cd 146 54 = some (.iload_n 1, 1) := by decide +kernel
theorem c146_55 : mc_cd 146 55 = some (.iaload, 1) := by decide +kernel
theorem c146_56 : mc_cd 146 56 = some (.goto 12, 3) := by decide +kernel
theorem c146_59 : mc_cd 146 59 = some (.aload_n 0, 1) := by decide +kernel
theorem c146_60 : mc_cd 146 60 = some (.getfield 30, 3) := by decide +kernel
theorem c146_63 : mc_cd 146 63 = some (.getfield 268, 3) := by decide +kernel
theorem c146_66 : mc_cd 146 66 = some (.iload_n 1, 1) := by decide +kernel
theorem c146_67 : mc_cd 146 67 = some (.iaload, 1) := by decide +kernel
theorem c146_68 : mc_cd 146 68 = some (.istore 4, 2) := by decide +kernel
theorem c146_70 : mc_cd 146 70 = some (.aload_n 0, 1) := by decide +kernel
theorem c146_71 : mc_cd 146 71 = some (.aload_n 0, 1) := by decide +kernel
theorem c146_72 : mc_cd 146 72 = some (.getfield 51, 3) := by decide +kernel
theorem c146_75 : mc_cd 146 75 = some (.getfield 262, 3) := by decide +kernel
theorem c146_78 : mc_cd 146 78 = some (.iload_n 1, 1) := by decide +kernel
theorem c146_79 : mc_cd 146 79 = some (.iaload, 1) := by decide +kernel
theorem c146_80 : mc_cd 146 80 = some (.iload 4, 2) := by decide +kernel
theorem c146_82 : mc_cd 146 82 = some (.isub, 1) := by decide +kernel
theorem c146_83 : mc_cd 146 83 = some (.invokevirtual 99, 3) := by decide +kernel
theorem c146_86 : mc_cd 146 86 = some (.ireturn, 1) := by decide +kernel
abbrev q_146 (r0 : Nat) (a1 : Int) (a2 : Int) (T : wq_T) (H : wq_H) : Option Value → wq_T → wq_H → Prop := fun r T' H' => T = T' ∧ WT T H' ∧ wfr [(12, 5), (12, 6), (12, 7), (12, 8), (12, 9), (1, 10), (6, 5), (8, 999), (10, 999), (15, 999), (9, 999), (18, 999), (19, 999), (7, 999), (11, 999), (17, 999), (13, 999)] T H H' ∧ ∃ z : Int, some (vI z) = r ∧ ((-2147483648) ≤ z ∧ z ≤ 2147483647)
set_option maxHeartbeats 4000000 in
theorem s_146 {kt : Nat → Option mc_E} {T : wq_T} {H : wq_H} {r0 : Nat} {a1 : Int} {a2 : Int} (hW : WT T H) (g0 : T.2.2.2 r0 = some 1) (i1 : (-2147483648) ≤ a1 ∧ a1 ≤ 2147483647) (i2 : 0 ≤ a2 ∧ a2 ≤ 1) : wpc kt 7 146 [.ref r0, vI a1, vI a2] T H (q_146 r0 a1 a2 T H) := by
  refine wp_enter e146 (Nat.le_of_ble_eq_true rfl) rfl ?_
  have f0 : wfr [(12, 5), (12, 6), (12, 7), (12, 8), (12, 9), (1, 10), (6, 5), (8, 999), (10, 999), (15, 999), (9, 999), (18, 999), (19, 999), (7, 999), (11, 999), (17, 999), (13, 999)] T H H := wfr.rf
  show wp _ _ 146 0 [(0, .ref r0), (1, vI a1), (2, vI a2)] [] _ H _
  refine wp_of e146 c146_0 (rw_aload_n (pc' := 1) (v := .ref r0) rfl rfl rfl ?_)
  refine wp_of e146 c146_1 (rw_aload_n (pc' := 2) (v := .ref r0) rfl rfl rfl ?_)
  refine wp_of e146 c146_2 (rw_iload_n (pc' := 3) (z := a1) rfl rfl ?_)
  refine wp_of e146 c146_3 (xc_V (pc' := 6) (r := r0) (as := [vI a1]) (st := [.ref r0]) (lm_0_132) rfl rfl (Nat.le_of_ble_eq_true rfl) hW g0 sh_1 (by decide) rfl (by decide) (s_60 hW g0 ⟨by omega, by omega⟩) (fun R73949 T73950 H73951 p73952 => ?_))
  obtain ⟨e73953, e73955, z73957, e73954, b73958, p73956⟩ := p73952
  subst e73953
  subst e73954
  subst e73955
  show wp _ _ 146 6 [(0, .ref r0), (1, vI a1), (2, vI a2)] [vI z73957, .ref r0] _ H _
  refine wp_of e146 c146_6 (rw_if_eq (p1 := 25) (p2 := 9) (by decide) rfl ⟨by omega, by omega⟩ (fun c73959 => ?_) (fun c73959 => ?_))
  · refine wp_of e146 c146_25 (rw_iconst (pc' := 26) rfl ?_)
    refine wp_of e146 c146_26 (xc_V (pc' := 29) (r := r0) (as := [vI 0]) (st := []) (lm_0_198) rfl rfl (Nat.le_of_ble_eq_true rfl) hW g0 sh_1 (by decide) rfl (by decide) (s_102 hW g0 ⟨by omega, by omega⟩) (fun R73960 T73961 H73962 p73963 => ?_))
    obtain ⟨e73964, w73966, f73967, z73969, e73965, b73970, p73968⟩ := p73963
    subst e73964
    subst e73965
    have f73971 := f0.tr f73967 rfl
    show wp _ _ 146 29 [(0, .ref r0), (1, vI a1), (2, vI a2)] [vI z73969] _ H73962 _
    refine wp_of e146 c146_29 (rw_istore_n (pc' := 30) (z := z73969) (L' := [(3, vI z73969), (0, .ref r0), (1, vI a1), (2, vI a2)]) rfl rfl rfl ?_)
    refine wp_of e146 c146_30 (rw_iload_n (pc' := 31) (z := z73969) rfl rfl ?_)
    refine wp_of e146 c146_31 (rw_if_eq (p1 := 43) (p2 := 34) (by decide) rfl ⟨by omega, by omega⟩ (fun c73972 => ?_) (fun c73972 => ?_))
    · exfalso
      omega
    · refine wp_of e146 c146_34 (rw_aload_n (pc' := 35) (v := .ref r0) rfl rfl rfl ?_)
      refine wp_of e146 c146_35 (rw_iload_n (pc' := 36) (z := z73969) rfl rfl ?_)
      refine wp_of e146 c146_36 (xp_I (pc' := 39) lf_0_102 w73966 g0 sh_1 (by decide) (by decide) ty_1_10 rfl rfl (by omega) (by omega) ⟨by omega, by omega⟩ rfl (fun H73973 e73974 w73975 => ?_))
      have f73976 := f73971.put' e73974 g0 rfl
      have k73977 : H73973 r0 10 = z73969 := wq_u_s e73974
      refine wp_of e146 c146_39 (rw_sipush (pc' := 42) (z := -1000) rfl (by decide) ?_)
      exact wp_ireturn e146 c146_42 rfl ⟨rfl, w73975, f73976, -1000, rfl, ⟨by omega, by omega⟩⟩
  · refine wp_of e146 c146_9 (rw_aload_n (pc' := 10) (v := .ref r0) rfl rfl rfl ?_)
    refine wp_of e146 c146_10 (xg_R (pc' := 13) lf_0_51 hW g0 sh_1 (by decide) (by decide) ty_1_6 rfl rfl (fun r73978 q73979 g73980 => ?_))
    refine wp_of e146 c146_13 (xg_R (pc' := 16) lf_0_262 hW g73980 sh_27 (by decide) (by decide) ty_27_1 rfl rfl (fun r73981 q73982 g73983 => ?_))
    refine wp_of e146 c146_16 (rw_iload_n (pc' := 17) (z := a1) rfl rfl ?_)
    refine wp_of e146 c146_17 (xa_I (so := 0) (pc' := 18) hW g73983 sh_29 (by decide) (ty_29 _) (by omega) (by omega) rfl (fun b73984 b73985 => ?_))
    refine wp_of e146 c146_18 (rw_if_lt (p1 := 25) (p2 := 21) (by decide) rfl ⟨by omega, by omega⟩ (fun c73986 => ?_) (fun c73986 => ?_))
    · refine wp_of e146 c146_25 (rw_iconst (pc' := 26) rfl ?_)
      refine wp_of e146 c146_26 (xc_V (pc' := 29) (r := r0) (as := [vI 0]) (st := []) (lm_0_198) rfl rfl (Nat.le_of_ble_eq_true rfl) hW g0 sh_1 (by decide) rfl (by decide) (s_102 hW g0 ⟨by omega, by omega⟩) (fun R73987 T73988 H73989 p73990 => ?_))
      obtain ⟨e73991, w73993, f73994, z73996, e73992, b73997, p73995⟩ := p73990
      subst e73991
      subst e73992
      have f73998 := f0.tr f73994 rfl
      show wp _ _ 146 29 [(0, .ref r0), (1, vI a1), (2, vI a2)] [vI z73996] _ H73989 _
      refine wp_of e146 c146_29 (rw_istore_n (pc' := 30) (z := z73996) (L' := [(3, vI z73996), (0, .ref r0), (1, vI a1), (2, vI a2)]) rfl rfl rfl ?_)
      refine wp_of e146 c146_30 (rw_iload_n (pc' := 31) (z := z73996) rfl rfl ?_)
      refine wp_of e146 c146_31 (rw_if_eq (p1 := 43) (p2 := 34) (by decide) rfl ⟨by omega, by omega⟩ (fun c73999 => ?_) (fun c73999 => ?_))
      · exfalso
        omega
      · refine wp_of e146 c146_34 (rw_aload_n (pc' := 35) (v := .ref r0) rfl rfl rfl ?_)
        refine wp_of e146 c146_35 (rw_iload_n (pc' := 36) (z := z73996) rfl rfl ?_)
        refine wp_of e146 c146_36 (xp_I (pc' := 39) lf_0_102 w73993 g0 sh_1 (by decide) (by decide) ty_1_10 rfl rfl (by omega) (by omega) ⟨by omega, by omega⟩ rfl (fun H74000 e74001 w74002 => ?_))
        have f74003 := f73998.put' e74001 g0 rfl
        have k74004 : H74000 r0 10 = z73996 := wq_u_s e74001
        refine wp_of e146 c146_39 (rw_sipush (pc' := 42) (z := -1000) rfl (by decide) ?_)
        exact wp_ireturn e146 c146_42 rfl ⟨rfl, w74002, f74003, -1000, rfl, ⟨by omega, by omega⟩⟩
    · refine wp_of e146 c146_21 (rw_iconst (pc' := 22) rfl ?_)
      refine wp_of e146 c146_22 (rw_goto (p1 := 26) (by decide) ?_)
      refine wp_of e146 c146_26 (xc_V (pc' := 29) (r := r0) (as := [vI 1]) (st := []) (lm_0_198) rfl rfl (Nat.le_of_ble_eq_true rfl) hW g0 sh_1 (by decide) rfl (by decide) (s_102 hW g0 ⟨by omega, by omega⟩) (fun R74005 T74006 H74007 p74008 => ?_))
      obtain ⟨e74009, w74011, f74012, z74014, e74010, b74015, p74013⟩ := p74008
      subst e74009
      subst e74010
      have f74016 := f0.tr f74012 rfl
      show wp _ _ 146 29 [(0, .ref r0), (1, vI a1), (2, vI a2)] [vI z74014] _ H74007 _
      refine wp_of e146 c146_29 (rw_istore_n (pc' := 30) (z := z74014) (L' := [(3, vI z74014), (0, .ref r0), (1, vI a1), (2, vI a2)]) rfl rfl rfl ?_)
      refine wp_of e146 c146_30 (rw_iload_n (pc' := 31) (z := z74014) rfl rfl ?_)
      refine wp_of e146 c146_31 (rw_if_eq (p1 := 43) (p2 := 34) (by decide) rfl ⟨by omega, by omega⟩ (fun c74017 => ?_) (fun c74017 => ?_))
      · refine wp_of e146 c146_43 (rw_iload_n (pc' := 44) (z := a2) rfl rfl ?_)
        refine wp_of e146 c146_44 (rw_if_eq (p1 := 59) (p2 := 47) (by decide) rfl ⟨by omega, by omega⟩ (fun c74018 => ?_) (fun c74018 => ?_))
        · refine wp_of e146 c146_59 (rw_aload_n (pc' := 60) (v := .ref r0) rfl rfl rfl ?_)
          refine wp_of e146 c146_60 (xg_R (pc' := 63) lf_0_30 w74011 g0 sh_1 (by decide) (by decide) ty_1_3 rfl rfl (fun r74019 q74020 g74021 => ?_))
          refine wp_of e146 c146_63 (xg_R (pc' := 66) lf_0_268 w74011 g74021 sh_12 (by decide) (by decide) ty_12_4 rfl rfl (fun r74022 q74023 g74024 => ?_))
          refine wp_of e146 c146_66 (rw_iload_n (pc' := 67) (z := a1) rfl rfl ?_)
          refine wp_of e146 c146_67 (xa_I (so := 0) (pc' := 68) w74011 g74024 sh_19 (by decide) (ty_19 _) (by omega) (by omega) rfl (fun b74025 b74026 => ?_))
          refine wp_of e146 c146_68 (rw_istore (pc' := 70) (z := H74007 r74022 (a1.toNat)) (L' := [(4, vI (H74007 r74022 (a1.toNat))), (3, vI z74014), (0, .ref r0), (1, vI a1), (2, vI a2)]) rfl rfl rfl ?_)
          refine wp_of e146 c146_70 (rw_aload_n (pc' := 71) (v := .ref r0) rfl rfl rfl ?_)
          refine wp_of e146 c146_71 (rw_aload_n (pc' := 72) (v := .ref r0) rfl rfl rfl ?_)
          have k74027 : H74007 r0 6 = H r0 6 := (f74012 r0 6 _ g0 rfl)
          have q74028 : H74007 r0 6 = (r73978 : Int) := k74027.trans q73979
          refine wp_of e146 c146_72 (xg_K (pc' := 75) lf_0_51 w74011 g0 sh_1 (by decide) (by decide) rfl q74028 rfl ?_)
          have k74029 : H74007 r73978 1 = H r73978 1 := (f74012 r73978 1 _ g73980 rfl)
          have q74030 : H74007 r73978 1 = (r73981 : Int) := k74029.trans q73982
          refine wp_of e146 c146_75 (xg_K (pc' := 78) lf_0_262 w74011 g73980 sh_27 (by decide) (by decide) rfl q74030 rfl ?_)
          refine wp_of e146 c146_78 (rw_iload_n (pc' := 79) (z := a1) rfl rfl ?_)
          have k74031 : H74007 r73981 (a1.toNat) = H r73981 (a1.toNat) := (f74012 r73981 (a1.toNat) _ g73983 rfl)
          refine wp_of e146 c146_79 (xa_I (so := 0) (pc' := 80) w74011 g73983 sh_29 (by decide) (ty_29 _) (by omega) (by omega) rfl (fun b74032 b74033 => ?_))
          refine wp_of e146 c146_80 (rw_iload (pc' := 82) (z := H74007 r74022 (a1.toNat)) rfl rfl ?_)
          refine wp_of e146 c146_82 (rw_isubw (pc' := 83) rfl ?_)
          obtain ⟨v74034, e74035⟩ : ∃ x : Int, x = wq_w ((H74007 r73981 (a1.toNat)) - (H74007 r74022 (a1.toNat))) := ⟨_, rfl⟩
          rw [← e74035]
          have b74036 : -2147483648 ≤ v74034 ∧ v74034 ≤ 2147483647 := by
            rw [e74035]
            exact wI_w _
          refine wp_of e146 c146_83 (xc_V (pc' := 86) (r := r0) (as := [vI v74034]) (st := []) (lm_0_99) rfl rfl (Nat.le_of_ble_eq_true rfl) w74011 g0 sh_1 (by decide) rfl (by decide) (s_51 w74011 g0 ⟨by omega, by omega⟩) (fun R74037 T74038 H74039 p74040 => ?_))
          obtain ⟨e74041, w74043, f74044, z74045, e74042, b74046⟩ := p74040
          subst e74041
          subst e74042
          have f74047 := f74016.tr f74044 rfl
          show wp _ _ 146 86 [(4, vI (H74007 r74022 (a1.toNat))), (3, vI z74014), (0, .ref r0), (1, vI a1), (2, vI a2)] [vI z74045] _ H74039 _
          exact wp_ireturn e146 c146_86 rfl ⟨rfl, w74043, f74047, z74045, rfl, ⟨by omega, by omega⟩⟩
        · refine wp_of e146 c146_47 (rw_aload_n (pc' := 48) (v := .ref r0) rfl rfl rfl ?_)
          refine wp_of e146 c146_48 (xg_R (pc' := 51) lf_0_30 w74011 g0 sh_1 (by decide) (by decide) ty_1_3 rfl rfl (fun r74048 q74049 g74050 => ?_))
          refine wp_of e146 c146_51 (xg_R (pc' := 54) lf_0_265 w74011 g74050 sh_12 (by decide) (by decide) ty_12_3 rfl rfl (fun r74051 q74052 g74053 => ?_))
          refine wp_of e146 c146_54 (rw_iload_n (pc' := 55) (z := a1) rfl rfl ?_)
          refine wp_of e146 c146_55 (xa_I (so := 0) (pc' := 56) w74011 g74053 sh_18 (by decide) (ty_18 _) (by omega) (by omega) rfl (fun b74054 b74055 => ?_))
          refine wp_of e146 c146_56 (rw_goto (p1 := 68) (by decide) ?_)
          refine wp_of e146 c146_68 (rw_istore (pc' := 70) (z := H74007 r74051 (a1.toNat)) (L' := [(4, vI (H74007 r74051 (a1.toNat))), (3, vI z74014), (0, .ref r0), (1, vI a1), (2, vI a2)]) rfl rfl rfl ?_)
          refine wp_of e146 c146_70 (rw_aload_n (pc' := 71) (v := .ref r0) rfl rfl rfl ?_)
          refine wp_of e146 c146_71 (rw_aload_n (pc' := 72) (v := .ref r0) rfl rfl rfl ?_)
          have k74056 : H74007 r0 6 = H r0 6 := (f74012 r0 6 _ g0 rfl)
          have q74057 : H74007 r0 6 = (r73978 : Int) := k74056.trans q73979
          refine wp_of e146 c146_72 (xg_K (pc' := 75) lf_0_51 w74011 g0 sh_1 (by decide) (by decide) rfl q74057 rfl ?_)
          have k74058 : H74007 r73978 1 = H r73978 1 := (f74012 r73978 1 _ g73980 rfl)
          have q74059 : H74007 r73978 1 = (r73981 : Int) := k74058.trans q73982
          refine wp_of e146 c146_75 (xg_K (pc' := 78) lf_0_262 w74011 g73980 sh_27 (by decide) (by decide) rfl q74059 rfl ?_)
          refine wp_of e146 c146_78 (rw_iload_n (pc' := 79) (z := a1) rfl rfl ?_)
          have k74060 : H74007 r73981 (a1.toNat) = H r73981 (a1.toNat) := (f74012 r73981 (a1.toNat) _ g73983 rfl)
          refine wp_of e146 c146_79 (xa_I (so := 0) (pc' := 80) w74011 g73983 sh_29 (by decide) (ty_29 _) (by omega) (by omega) rfl (fun b74061 b74062 => ?_))
          refine wp_of e146 c146_80 (rw_iload (pc' := 82) (z := H74007 r74051 (a1.toNat)) rfl rfl ?_)
          refine wp_of e146 c146_82 (rw_isubw (pc' := 83) rfl ?_)
          obtain ⟨v74063, e74064⟩ : ∃ x : Int, x = wq_w ((H74007 r73981 (a1.toNat)) - (H74007 r74051 (a1.toNat))) := ⟨_, rfl⟩
          rw [← e74064]
          have b74065 : -2147483648 ≤ v74063 ∧ v74063 ≤ 2147483647 := by
            rw [e74064]
            exact wI_w _
          refine wp_of e146 c146_83 (xc_V (pc' := 86) (r := r0) (as := [vI v74063]) (st := []) (lm_0_99) rfl rfl (Nat.le_of_ble_eq_true rfl) w74011 g0 sh_1 (by decide) rfl (by decide) (s_51 w74011 g0 ⟨by omega, by omega⟩) (fun R74066 T74067 H74068 p74069 => ?_))
          obtain ⟨e74070, w74072, f74073, z74074, e74071, b74075⟩ := p74069
          subst e74070
          subst e74071
          have f74076 := f74016.tr f74073 rfl
          show wp _ _ 146 86 [(4, vI (H74007 r74051 (a1.toNat))), (3, vI z74014), (0, .ref r0), (1, vI a1), (2, vI a2)] [vI z74074] _ H74068 _
          exact wp_ireturn e146 c146_86 rfl ⟨rfl, w74072, f74076, z74074, rfl, ⟨by omega, by omega⟩⟩
      · refine wp_of e146 c146_34 (rw_aload_n (pc' := 35) (v := .ref r0) rfl rfl rfl ?_)
        refine wp_of e146 c146_35 (rw_iload_n (pc' := 36) (z := z74014) rfl rfl ?_)
        refine wp_of e146 c146_36 (xp_I (pc' := 39) lf_0_102 w74011 g0 sh_1 (by decide) (by decide) ty_1_10 rfl rfl (by omega) (by omega) ⟨by omega, by omega⟩ rfl (fun H74077 e74078 w74079 => ?_))
        have f74080 := f74016.put' e74078 g0 rfl
        have k74081 : H74077 r0 10 = z74014 := wq_u_s e74078
        refine wp_of e146 c146_39 (rw_sipush (pc' := 42) (z := -1000) rfl (by decide) ?_)
        exact wp_ireturn e146 c146_42 rfl ⟨rfl, w74079, f74080, -1000, rfl, ⟨by omega, by omega⟩⟩
/-! StrikeAwake$Walk.silentHours(LStrikeAwake$Parish;)I -/
theorem e148 : wq_en 148 = some (3, 2, false, some FieldType.int) := rfl
theorem c148_0 : mc_cd 148 0 = some (.aload_n 1, 1) := by decide +kernel
theorem c148_1 : mc_cd 148 1 = some (.invokevirtual 88, 3) := by decide +kernel
theorem c148_4 : mc_cd 148 4 = some (.aload_n 0, 1) := by decide +kernel
theorem c148_5 : mc_cd 148 5 = some (.getfield 22, 3) := by decide +kernel
theorem c148_8 : mc_cd 148 8 = some (.aload_n 0, 1) := by decide +kernel
theorem c148_9 : mc_cd 148 9 = some (.getfield 51, 3) := by decide +kernel
theorem c148_12 : mc_cd 148 12 = some (.iaload, 1) := by decide +kernel
theorem c148_13 : mc_cd 148 13 = some (.iconst (-1), 1) := by decide +kernel
theorem c148_14 : mc_cd 148 14 = some (.ixor, 1) := by decide +kernel
theorem c148_15 : mc_cd 148 15 = some (.iand, 1) := by decide +kernel
theorem c148_16 : mc_cd 148 16 = some (.ireturn, 1) := by decide +kernel
abbrev q_148 (r0 : Nat) (r1 : Nat) (T : wq_T) (H : wq_H) : Option Value → wq_T → wq_H → Prop := fun r T' H' => T = T' ∧ H = H' ∧ ∃ z : Int, some (vI z) = r ∧ ((-2147483648) ≤ z ∧ z ≤ 2147483647)
set_option maxHeartbeats 4000000 in
theorem s_148 {kt : Nat → Option mc_E} {T : wq_T} {H : wq_H} {r0 : Nat} {r1 : Nat} (hW : WT T H) (g0 : T.2.2.2 r0 = some 6) (g1 : T.2.2.2 r1 = some 27) : wpc kt 3 148 [.ref r0, .ref r1] T H (q_148 r0 r1 T H) := by
  refine wp_enter e148 (Nat.le_of_ble_eq_true rfl) rfl ?_
  show wp _ _ 148 0 [(0, .ref r0), (1, .ref r1)] [] _ H _
  refine wp_of e148 c148_0 (rw_aload_n (pc' := 1) (v := .ref r1) rfl rfl rfl ?_)
  refine wp_of e148 c148_1 (xc_V (pc' := 4) (r := r1) (as := []) (st := []) (lm_3_88) rfl rfl (Nat.le_of_ble_eq_true rfl) hW g1 sh_27 (by decide) rfl (by decide) (s_45 hW g1) (fun R74102 T74103 H74104 p74105 => ?_))
  obtain ⟨e74106, e74108, z74109, e74107, b74110⟩ := p74105
  subst e74106
  subst e74107
  subst e74108
  show wp _ _ 148 4 [(0, .ref r0), (1, .ref r1)] [vI z74109] _ H _
  refine wp_of e148 c148_4 (rw_aload_n (pc' := 5) (v := .ref r0) rfl rfl rfl ?_)
  refine wp_of e148 c148_5 (xg_R (pc' := 8) lf_3_22 hW g0 sh_6 (by decide) (by decide) ty_6_3 rfl rfl (fun r74111 q74112 g74113 => ?_))
  refine wp_of e148 c148_8 (rw_aload_n (pc' := 9) (v := .ref r0) rfl rfl rfl ?_)
  refine wp_of e148 c148_9 (xg_I (pc' := 12) lf_3_51 hW g0 sh_6 (by decide) (by decide) ty_6_5 rfl rfl (fun b74114 b74115 => ?_))
  refine wp_of e148 c148_12 (xa_I (so := 0) (pc' := 13) hW g74113 sh_10 (by decide) (ty_10 _) (by omega) (by omega) rfl (fun b74116 b74117 => ?_))
  refine wp_of e148 c148_13 (rw_iconst (pc' := 14) rfl ?_)
  refine wp_of e148 c148_14 (rw_ixor (pc' := 15) rfl ?_)
  obtain ⟨v74118, e74119⟩ : ∃ x : Int, x = wq_xor (H r74111 ((H r0 5).toNat)) (-1) := ⟨_, rfl⟩
  rw [← e74119]
  have b74120 : -2147483648 ≤ v74118 ∧ v74118 ≤ 2147483647 := by
    rw [e74119]
    exact wI_xor _ _
  refine wp_of e148 c148_15 (rw_iand (pc' := 16) rfl ?_)
  obtain ⟨v74121, e74122⟩ : ∃ x : Int, x = wq_and z74109 v74118 := ⟨_, rfl⟩
  rw [← e74122]
  have b74123 : -2147483648 ≤ v74121 ∧ v74121 ≤ 2147483647 := by
    rw [e74122]
    exact wI_and _ _
  exact wp_ireturn e148 c148_16 rfl ⟨rfl, rfl, v74121, rfl, ⟨by omega, by omega⟩⟩
/-! StrikeAwake.nothing()I -/
theorem e147 : wq_en 147 = some (0, 4, false, some FieldType.int) := rfl
theorem c147_0 : mc_cd 147 0 = some (.aload_n 0, 1) := by decide +kernel
theorem c147_1 : mc_cd 147 1 = some (.aload_n 0, 1) := by decide +kernel
theorem c147_2 : mc_cd 147 2 = some (.getfield 58, 3) := by decide +kernel
theorem c147_5 : mc_cd 147 5 = some (.invokevirtual 245, 3) := by decide +kernel
theorem c147_8 : mc_cd 147 8 = some (.istore_n 1, 1) := by decide +kernel
theorem c147_9 : mc_cd 147 9 = some (.iload_n 1, 1) := by decide +kernel
theorem c147_10 : mc_cd 147 10 = some (.ifCond .eq 9, 3) := by decide +kernel
theorem c147_13 : mc_cd 147 13 = some (.aload_n 0, 1) := by decide +kernel
theorem c147_14 : mc_cd 147 14 = some (.iload_n 1, 1) := by decide +kernel
theorem c147_15 : mc_cd 147 15 = some (.invokevirtual 70, 3) := by decide +kernel
theorem c147_18 : mc_cd 147 18 = some (.ireturn, 1) := by decide +kernel
theorem c147_19 : mc_cd 147 19 = some (.iconst 0, 1) := by decide +kernel
theorem c147_20 : mc_cd 147 20 = some (.istore_n 2, 1) := by decide +kernel
theorem c147_21 : mc_cd 147 21 = some (.aload_n 0, 1) := by decide +kernel
theorem c147_22 : mc_cd 147 22 = some (.getfield 23, 3) := by decide +kernel
theorem c147_25 : mc_cd 147 25 = some (.aload_n 0, 1) := by decide +kernel
theorem c147_26 : mc_cd 147 26 = some (.getfield 51, 3) := by decide +kernel
theorem c147_29 : mc_cd 147 29 = some (.invokevirtual 271, 3) := by decide +kernel
theorem c147_32 : mc_cd 147 32 = some (.iconst 0, 1) := by decide +kernel
theorem c147_33 : mc_cd 147 33 = some (.istore_n 3, 1) := by decide +kernel
theorem c147_34 : mc_cd 147 34 = some (.iload_n 3, 1) := by decide +kernel
theorem c147_35 : mc_cd 147 35 = some (.i2l, 1) := by decide +kernel
theorem c147_36 : mc_cd 147 36 = some (.aload_n 0, 1) := by decide +kernel
theorem c147_37 : mc_cd 147 37 = some (.getfield 51, 3) := by decide +kernel
theorem c147_40 : mc_cd 147 40 = some (.getfield 141, 3) := by decide +kernel
theorem c147_43 : mc_cd 147 43 = some (.lcmp, 1) := by decide +kernel
theorem c147_44 : mc_cd 147 44 = some (.ifCond .ge 51, 3) := by decide +kernel
theorem c147_47 : mc_cd 147 47 = some (.iload_n 3, 1) := by decide +kernel
theorem c147_48 : mc_cd 147 48 = some (.sipush 20000, 3) := by decide +kernel
theorem c147_51 : mc_cd 147 51 = some (.if_icmp .ge 44, 3) := by decide +kernel
theorem c147_54 : mc_cd 147 54 = some (.aload_n 0, 1) := by decide +kernel
theorem c147_55 : mc_cd 147 55 = some (.getfield 23, 3) := by decide +kernel
theorem c147_58 : mc_cd 147 58 = some (.invokevirtual 275, 3) := by decide +kernel
theorem c147_61 : mc_cd 147 61 = some (.ifCond .ne 17, 3) := by decide +kernel
theorem c147_64 : mc_cd 147 64 = some (.iload_n 2, 1) := by decide +kernel
theorem c147_65 : mc_cd 147 65 = some (.aload_n 0, 1) := by decide +kernel
theorem c147_66 : mc_cd 147 66 = some (.getfield 23, 3) := by decide +kernel
theorem c147_69 : mc_cd 147 69 = some (.aload_n 0, 1) := by decide +kernel
theorem c147_70 : mc_cd 147 70 = some (.getfield 51, 3) := by decide +kernel
theorem c147_73 : mc_cd 147 73 = some (.invokevirtual 278, 3) := by decide +kernel
theorem c147_76 : mc_cd 147 76 = some (.ior, 1) := by decide +kernel
theorem c147_77 : mc_cd 147 77 = some (.istore_n 2, 1) := by decide +kernel
theorem c147_78 : mc_cd 147 78 = some (.aload_n 0, 1) := by decide +kernel
theorem c147_79 : mc_cd 147 79 = some (.getfield 23, 3) := by decide +kernel
theorem c147_82 : mc_cd 147 82 = some (.aload_n 0, 1) := by decide +kernel
theorem c147_83 : mc_cd 147 83 = some (.getfield 51, 3) := by decide +kernel
theorem c147_86 : mc_cd 147 86 = some (.invokevirtual 281, 3) := by decide +kernel
theorem c147_89 : mc_cd 147 89 = some (.iinc 3 1, 3) := by decide +kernel
theorem c147_92 : mc_cd 147 92 = some (.goto (-58), 3) := by decide +kernel
theorem c147_95 : mc_cd 147 95 = some (.aload_n 0, 1) := by decide +kernel
theorem c147_96 : mc_cd 147 96 = some (.iload_n 2, 1) := by decide +kernel
theorem c147_97 : mc_cd 147 97 = some (.invokevirtual 99, 3) := by decide +kernel
theorem c147_100 : mc_cd 147 100 = some (.ireturn, 1) := by decide +kernel
abbrev q_147 (r0 : Nat) (T : wq_T) (H : wq_H) : Option Value → wq_T → wq_H → Prop := fun r T' H' => T = T' ∧ WT T H' ∧ wfr [(1, 10), (6, 5), (8, 999), (10, 999), (9, 999), (7, 999), (11, 999)] T H H' ∧ ∃ z : Int, some (vI z) = r ∧ ((-2147483648) ≤ z ∧ z ≤ 2147483647)
set_option maxHeartbeats 4000000 in
theorem s_147 {kt : Nat → Option mc_E} {T : wq_T} {H : wq_H} {r0 : Nat} (hW : WT T H) (g0 : T.2.2.2 r0 = some 1) : wpc kt 4 147 [.ref r0] T H (q_147 r0 T H) := by
  refine wp_enter e147 (Nat.le_of_ble_eq_true rfl) rfl ?_
  have f0 : wfr [(1, 10), (6, 5), (8, 999), (10, 999), (9, 999), (7, 999), (11, 999)] T H H := wfr.rf
  show wp _ _ 147 0 [(0, .ref r0)] [] _ H _
  refine wp_of e147 c147_0 (rw_aload_n (pc' := 1) (v := .ref r0) rfl rfl rfl ?_)
  refine wp_of e147 c147_1 (rw_aload_n (pc' := 2) (v := .ref r0) rfl rfl rfl ?_)
  refine wp_of e147 c147_2 (xg_I (pc' := 5) lf_0_58 hW g0 sh_1 (by decide) (by decide) ty_1_8 rfl rfl (fun b74618 b74619 => ?_))
  refine wp_of e147 c147_5 (xc_V (pc' := 8) (r := r0) (as := [vI (H r0 8)]) (st := []) (lm_0_245) rfl rfl (Nat.le_of_ble_eq_true rfl) hW g0 sh_1 (by decide) rfl (by decide) (s_84 hW g0 ⟨by omega, by omega⟩) (fun R74620 T74621 H74622 p74623 => ?_))
  obtain ⟨e74624, e74626, z74628, e74625, b74629, p74627⟩ := p74623
  subst e74624
  subst e74625
  subst e74626
  show wp _ _ 147 8 [(0, .ref r0)] [vI z74628] _ H _
  refine wp_of e147 c147_8 (rw_istore_n (pc' := 9) (z := z74628) (L' := [(1, vI z74628), (0, .ref r0)]) rfl rfl rfl ?_)
  refine wp_of e147 c147_9 (rw_iload_n (pc' := 10) (z := z74628) rfl rfl ?_)
  refine wp_of e147 c147_10 (rw_if_eq (p1 := 19) (p2 := 13) (by decide) rfl ⟨by omega, by omega⟩ (fun c74630 => ?_) (fun c74630 => ?_))
  · refine wp_of e147 c147_19 (rw_iconst (pc' := 20) rfl ?_)
    refine wp_of e147 c147_20 (rw_istore_n (pc' := 21) (z := 0) (L' := [(2, vI 0), (1, vI z74628), (0, .ref r0)]) rfl rfl rfl ?_)
    refine wp_of e147 c147_21 (rw_aload_n (pc' := 22) (v := .ref r0) rfl rfl rfl ?_)
    refine wp_of e147 c147_22 (xg_R (pc' := 25) lf_0_23 hW g0 sh_1 (by decide) (by decide) ty_1_2 rfl rfl (fun r74631 q74632 g74633 => ?_))
    refine wp_of e147 c147_25 (rw_aload_n (pc' := 26) (v := .ref r0) rfl rfl rfl ?_)
    refine wp_of e147 c147_26 (xg_R (pc' := 29) lf_0_51 hW g0 sh_1 (by decide) (by decide) ty_1_6 rfl rfl (fun r74634 q74635 g74636 => ?_))
    refine wp_of e147 c147_29 (xc_V (pc' := 32) (r := r74631) (as := [.ref r74634]) (st := []) (lm_0_271) rfl rfl (Nat.le_of_ble_eq_true rfl) hW g74633 sh_6 (by decide) rfl (by decide) (s_87 hW g74633 g74636) (fun R74637 T74638 H74639 p74640 => ?_))
    obtain ⟨e74641, w74643, f74644, e74642⟩ := p74640
    subst e74641
    subst e74642
    have f74645 := f0.tr f74644 rfl
    show wp _ _ 147 32 [(2, vI 0), (1, vI z74628), (0, .ref r0)] [] _ H74639 _
    refine wp_of e147 c147_32 (rw_iconst (pc' := 33) rfl ?_)
    refine wp_of e147 c147_33 (rw_istore_n (pc' := 34) (z := 0) (L' := [(3, vI 0), (2, vI 0), (1, vI z74628), (0, .ref r0)]) rfl rfl rfl ?_)
    have lp75030 : ∀ (n75031 : Nat) (v75033 : Int) (v75034 : Int) (H75035 : wq_H), WT T H75035 → wfr [(8, 999), (10, 999), (9, 999), (7, 999), (11, 999)] T H74639 H75035 → (0 ≤ v75033 ∧ v75033 ≤ 20000) → ((-2147483648) ≤ v75034 ∧ v75034 ≤ 2147483647) → (20000 - v75033).toNat = n75031 → wp kt 3 147 34 [(3, vI v75033), (2, vI v75034), (0, .ref r0)] [] T H75035 (q_147 r0 T H) := by
      intro n75031
      induction n75031 using Nat.strongRecOn with
      | _ n75031 ih75032 =>
        intro v75033 v75034 H75035 w75036 f75037 b75038 b75039 m75040
        have f75041 := f74645.tr f75037 rfl
        refine wp_of e147 c147_34 (rw_iload_n (pc' := 35) (z := v75033) rfl rfl ?_)
        refine wp_of e147 c147_35 (rw_i2l (pc' := 36) rfl ⟨by omega, by omega⟩ ?_)
        refine wp_of e147 c147_36 (rw_aload_n (pc' := 37) (v := .ref r0) rfl rfl rfl ?_)
        have k75042 : H75035 r0 6 = H r0 6 := ((f75037 r0 6 _ g0 rfl).trans (f74644 r0 6 _ g0 rfl))
        have q75043 : H75035 r0 6 = (r74634 : Int) := k75042.trans q74635
        refine wp_of e147 c147_37 (xg_K (pc' := 40) lf_0_51 w75036 g0 sh_1 (by decide) (by decide) rfl q75043 rfl ?_)
        refine wp_of e147 c147_40 (xg_L (pc' := 43) lf_0_141 w75036 g74636 sh_27 (by decide) (by decide) ty_27_18 rfl rfl (fun b75044 b75045 => ?_))
        refine wp_of e147 c147_43 (rw_lcmp (pc' := 44) rfl ⟨by omega, by omega⟩ ⟨by omega, by omega⟩ ?_)
        have b75046 := wq_cmp_b v75033 (H75035 r74634 18)
        refine wp_of e147 c147_44 (rw_if_ge (p1 := 95) (p2 := 47) (by decide) rfl ⟨by omega, by omega⟩ (fun c75047 => ?_) (fun c75047 => ?_))
        · refine wp_of e147 c147_95 (rw_aload_n (pc' := 96) (v := .ref r0) rfl rfl rfl ?_)
          refine wp_of e147 c147_96 (rw_iload_n (pc' := 97) (z := v75034) rfl rfl ?_)
          refine wp_of e147 c147_97 (xc_V (pc' := 100) (r := r0) (as := [vI v75034]) (st := []) (lm_0_99) rfl rfl (Nat.le_of_ble_eq_true rfl) w75036 g0 sh_1 (by decide) rfl (by decide) (s_51 w75036 g0 ⟨by omega, by omega⟩) (fun R75048 T75049 H75050 p75051 => ?_))
          obtain ⟨e75052, w75054, f75055, z75056, e75053, b75057⟩ := p75051
          subst e75052
          subst e75053
          have f75058 := f75041.tr f75055 rfl
          show wp _ _ 147 100 [(3, vI v75033), (2, vI v75034), (0, .ref r0)] [vI z75056] _ H75050 _
          exact wp_ireturn e147 c147_100 rfl ⟨rfl, w75054, f75058, z75056, rfl, ⟨by omega, by omega⟩⟩
        · refine wp_of e147 c147_47 (rw_iload_n (pc' := 48) (z := v75033) rfl rfl ?_)
          refine wp_of e147 c147_48 (rw_sipush (pc' := 51) (z := 20000) rfl (by decide) ?_)
          refine wp_of e147 c147_51 (rw_icmp_ge (p1 := 95) (p2 := 54) (by decide) rfl ⟨by omega, by omega⟩ ⟨by omega, by omega⟩ (fun c75059 => ?_) (fun c75059 => ?_))
          · refine wp_of e147 c147_95 (rw_aload_n (pc' := 96) (v := .ref r0) rfl rfl rfl ?_)
            refine wp_of e147 c147_96 (rw_iload_n (pc' := 97) (z := v75034) rfl rfl ?_)
            refine wp_of e147 c147_97 (xc_V (pc' := 100) (r := r0) (as := [vI v75034]) (st := []) (lm_0_99) rfl rfl (Nat.le_of_ble_eq_true rfl) w75036 g0 sh_1 (by decide) rfl (by decide) (s_51 w75036 g0 ⟨by omega, by omega⟩) (fun R75060 T75061 H75062 p75063 => ?_))
            obtain ⟨e75064, w75066, f75067, z75068, e75065, b75069⟩ := p75063
            subst e75064
            subst e75065
            have f75070 := f75041.tr f75067 rfl
            show wp _ _ 147 100 [(3, vI v75033), (2, vI v75034), (0, .ref r0)] [vI z75068] _ H75062 _
            exact wp_ireturn e147 c147_100 rfl ⟨rfl, w75066, f75070, z75068, rfl, ⟨by omega, by omega⟩⟩
          · refine wp_of e147 c147_54 (rw_aload_n (pc' := 55) (v := .ref r0) rfl rfl rfl ?_)
            have k75071 : H75035 r0 2 = H r0 2 := ((f75037 r0 2 _ g0 rfl).trans (f74644 r0 2 _ g0 rfl))
            have q75072 : H75035 r0 2 = (r74631 : Int) := k75071.trans q74632
            refine wp_of e147 c147_55 (xg_K (pc' := 58) lf_0_23 w75036 g0 sh_1 (by decide) (by decide) rfl q75072 rfl ?_)
            refine wp_of e147 c147_58 (xc_V (pc' := 61) (r := r74631) (as := []) (st := []) (lm_0_275) rfl rfl (Nat.le_of_ble_eq_true rfl) w75036 g74633 sh_6 (by decide) rfl (by decide) (s_80 w75036 g74633) (fun R75073 T75074 H75075 p75076 => ?_))
            obtain ⟨e75077, e75079, z75080, e75078, b75081⟩ := p75076
            subst e75077
            subst e75078
            subst e75079
            show wp _ _ 147 61 [(3, vI v75033), (2, vI v75034), (0, .ref r0)] [vI z75080] _ H75035 _
            refine wp_of e147 c147_61 (rw_if_ne (p1 := 78) (p2 := 64) (by decide) rfl ⟨by omega, by omega⟩ (fun c75082 => ?_) (fun c75082 => ?_))
            · refine wp_of e147 c147_78 (rw_aload_n (pc' := 79) (v := .ref r0) rfl rfl rfl ?_)
              refine wp_of e147 c147_79 (xg_K (pc' := 82) lf_0_23 w75036 g0 sh_1 (by decide) (by decide) rfl q75072 rfl ?_)
              refine wp_of e147 c147_82 (rw_aload_n (pc' := 83) (v := .ref r0) rfl rfl rfl ?_)
              refine wp_of e147 c147_83 (xg_K (pc' := 86) lf_0_51 w75036 g0 sh_1 (by decide) (by decide) rfl q75043 rfl ?_)
              refine wp_of e147 c147_86 (xc_V (pc' := 89) (r := r74631) (as := [.ref r74634]) (st := []) (lm_0_281) rfl rfl (Nat.le_of_ble_eq_true rfl) w75036 g74633 sh_6 (by decide) rfl (by decide) (s_91 w75036 g74633 g74636) (fun R75083 T75084 H75085 p75086 => ?_))
              obtain ⟨e75087, w75089, f75090, e75088⟩ := p75086
              subst e75087
              subst e75088
              have f75091 := f75041.tr f75090 rfl
              have f75092 := f75037.tr f75090 rfl
              show wp _ _ 147 89 [(3, vI v75033), (2, vI v75034), (0, .ref r0)] [] _ H75085 _
              refine wp_of e147 c147_89 (rw_iinc (pc' := 92) (z := v75033) (L' := [(3, vI (v75033 + 1)), (2, vI v75034), (0, .ref r0)]) rfl rfl rfl rfl ?_)
              refine wp_of e147 c147_92 (rw_goto (p1 := 34) (by decide) ?_)
              exact wp_lc (ks := [3, 2, 0]) (wl_c rfl (wl_c rfl (wl_c rfl wl_n))) rfl (by decide) (ih75032 _ (by omega) (v75033 + 1) v75034 H75085 w75089 f75092 ⟨by omega, by omega⟩ ⟨by omega, by omega⟩ rfl)
            · refine wp_of e147 c147_64 (rw_iload_n (pc' := 65) (z := v75034) rfl rfl ?_)
              refine wp_of e147 c147_65 (rw_aload_n (pc' := 66) (v := .ref r0) rfl rfl rfl ?_)
              refine wp_of e147 c147_66 (xg_K (pc' := 69) lf_0_23 w75036 g0 sh_1 (by decide) (by decide) rfl q75072 rfl ?_)
              refine wp_of e147 c147_69 (rw_aload_n (pc' := 70) (v := .ref r0) rfl rfl rfl ?_)
              refine wp_of e147 c147_70 (xg_K (pc' := 73) lf_0_51 w75036 g0 sh_1 (by decide) (by decide) rfl q75043 rfl ?_)
              refine wp_of e147 c147_73 (xc_V (pc' := 76) (r := r74631) (as := [.ref r74634]) (st := [vI v75034]) (lm_0_278) rfl rfl (Nat.le_of_ble_eq_true rfl) w75036 g74633 sh_6 (by decide) rfl (by decide) (s_148 w75036 g74633 g74636) (fun R75093 T75094 H75095 p75096 => ?_))
              obtain ⟨e75097, e75099, z75100, e75098, b75101⟩ := p75096
              subst e75097
              subst e75098
              subst e75099
              show wp _ _ 147 76 [(3, vI v75033), (2, vI v75034), (0, .ref r0)] [vI z75100, vI v75034] _ H75035 _
              refine wp_of e147 c147_76 (rw_ior (pc' := 77) rfl ?_)
              obtain ⟨v75102, e75103⟩ : ∃ x : Int, x = wq_or v75034 z75100 := ⟨_, rfl⟩
              rw [← e75103]
              have b75104 : -2147483648 ≤ v75102 ∧ v75102 ≤ 2147483647 := by
                rw [e75103]
                exact wI_or _ _
              refine wp_of e147 c147_77 (rw_istore_n (pc' := 78) (z := v75102) (L' := [(2, vI v75102), (3, vI v75033), (0, .ref r0)]) rfl rfl rfl ?_)
              refine wp_of e147 c147_78 (rw_aload_n (pc' := 79) (v := .ref r0) rfl rfl rfl ?_)
              refine wp_of e147 c147_79 (xg_K (pc' := 82) lf_0_23 w75036 g0 sh_1 (by decide) (by decide) rfl q75072 rfl ?_)
              refine wp_of e147 c147_82 (rw_aload_n (pc' := 83) (v := .ref r0) rfl rfl rfl ?_)
              refine wp_of e147 c147_83 (xg_K (pc' := 86) lf_0_51 w75036 g0 sh_1 (by decide) (by decide) rfl q75043 rfl ?_)
              refine wp_of e147 c147_86 (xc_V (pc' := 89) (r := r74631) (as := [.ref r74634]) (st := []) (lm_0_281) rfl rfl (Nat.le_of_ble_eq_true rfl) w75036 g74633 sh_6 (by decide) rfl (by decide) (s_91 w75036 g74633 g74636) (fun R75105 T75106 H75107 p75108 => ?_))
              obtain ⟨e75109, w75111, f75112, e75110⟩ := p75108
              subst e75109
              subst e75110
              have f75113 := f75041.tr f75112 rfl
              have f75114 := f75037.tr f75112 rfl
              show wp _ _ 147 89 [(2, vI v75102), (3, vI v75033), (0, .ref r0)] [] _ H75107 _
              refine wp_of e147 c147_89 (rw_iinc (pc' := 92) (z := v75033) (L' := [(3, vI (v75033 + 1)), (2, vI v75102), (0, .ref r0)]) rfl rfl rfl rfl ?_)
              refine wp_of e147 c147_92 (rw_goto (p1 := 34) (by decide) ?_)
              exact wp_lc (ks := [3, 2, 0]) (wl_c rfl (wl_c rfl (wl_c rfl wl_n))) rfl (by decide) (ih75032 _ (by omega) (v75033 + 1) v75102 H75107 w75111 f75114 ⟨by omega, by omega⟩ ⟨by omega, by omega⟩ rfl)
    exact wp_lc (ks := [3, 2, 1, 0]) (wl_c rfl (wl_c rfl (wl_c rfl wl_n))) rfl (by decide) (lp75030 _ 0 0 H74639 w74643 wfr.rf ⟨by omega, by omega⟩ ⟨by omega, by omega⟩ rfl)
  · refine wp_of e147 c147_13 (rw_aload_n (pc' := 14) (v := .ref r0) rfl rfl rfl ?_)
    refine wp_of e147 c147_14 (rw_iload_n (pc' := 15) (z := z74628) rfl rfl ?_)
    refine wp_of e147 c147_15 (xc_V (pc' := 18) (r := r0) (as := [vI z74628]) (st := []) (lm_0_70) rfl rfl (Nat.le_of_ble_eq_true rfl) hW g0 sh_1 (by decide) rfl (by decide) (s_12 hW g0 ⟨by omega, by omega⟩) (fun R75115 T75116 H75117 p75118 => ?_))
    obtain ⟨e75119, w75121, f75122, z75123, e75120, b75124⟩ := p75118
    subst e75119
    subst e75120
    have f75125 := f0.tr f75122 rfl
    show wp _ _ 147 18 [(1, vI z74628), (0, .ref r0)] [vI z75123] _ H75117 _
    exact wp_ireturn e147 c147_18 rfl ⟨rfl, w75121, f75125, z75123, rfl, ⟨by omega, by omega⟩⟩
/-! StrikeAwake$Parish.hoursOffered(I)I -/
theorem e151 : wq_en 151 = some (7, 4, false, some FieldType.int) := rfl
theorem c151_0 : mc_cd 151 0 = some (.iconst 0, 1) := by decide +kernel
theorem c151_1 : mc_cd 151 1 = some (.istore_n 2, 1) := by decide +kernel
theorem c151_2 : mc_cd 151 2 = some (.iconst 0, 1) := by decide +kernel
theorem c151_3 : mc_cd 151 3 = some (.istore_n 3, 1) := by decide +kernel
theorem c151_4 : mc_cd 151 4 = some (.iload_n 3, 1) := by decide +kernel
theorem c151_5 : mc_cd 151 5 = some (.aload_n 0, 1) := by decide +kernel
theorem c151_6 : mc_cd 151 6 = some (.getfield 62, 3) := by decide +kernel
theorem c151_9 : mc_cd 151 9 = some (.if_icmp .ge 26, 3) := by decide +kernel
theorem c151_12 : mc_cd 151 12 = some (.iload_n 1, 1) := by decide +kernel
theorem c151_13 : mc_cd 151 13 = some (.iload_n 3, 1) := by decide +kernel
theorem c151_14 : mc_cd 151 14 = some (.invokestatic 121, 3) := by decide +kernel
theorem c151_17 : mc_cd 151 17 = some (.ifCond .eq 12, 3) := by decide +kernel
theorem c151_20 : mc_cd 151 20 = some (.iload_n 2, 1) := by decide +kernel
theorem c151_21 : mc_cd 151 21 = some (.aload_n 0, 1) := by decide +kernel
theorem c151_22 : mc_cd 151 22 = some (.getfield 33, 3) := by decide +kernel
theorem c151_25 : mc_cd 151 25 = some (.iload_n 3, 1) := by decide +kernel
theorem c151_26 : mc_cd 151 26 = some (.iaload, 1) := by decide +kernel
theorem c151_27 : mc_cd 151 27 = some (.ior, 1) := by decide +kernel
theorem c151_28 : mc_cd 151 28 = some (.istore_n 2, 1) := by decide +kernel
theorem c151_29 : mc_cd 151 29 = some (.iinc 3 1, 3) := by decide +kernel
theorem c151_32 : mc_cd 151 32 = some (.goto (-28), 3) := by decide +kernel
theorem c151_35 : mc_cd 151 35 = some (.iload_n 2, 1) := by decide +kernel
theorem c151_36 : mc_cd 151 36 = some (.ireturn, 1) := by decide +kernel
abbrev q_151 (r0 : Nat) (a1 : Int) (T : wq_T) (H : wq_H) : Option Value → wq_T → wq_H → Prop := fun r T' H' => T = T' ∧ H = H' ∧ ∃ z : Int, some (vI z) = r ∧ ((-2147483648) ≤ z ∧ z ≤ 2147483647)
set_option maxHeartbeats 4000000 in
theorem s_151 {kt : Nat → Option mc_E} {T : wq_T} {H : wq_H} {r0 : Nat} {a1 : Int} (hW : WT T H) (g0 : T.2.2.2 r0 = some 27) (i1 : (-2147483648) ≤ a1 ∧ a1 ≤ 2147483647) : wpc kt 2 151 [.ref r0, vI a1] T H (q_151 r0 a1 T H) := by
  refine wp_enter e151 (Nat.le_of_ble_eq_true rfl) rfl ?_
  show wp _ _ 151 0 [(0, .ref r0), (1, vI a1)] [] _ H _
  refine wp_of e151 c151_0 (rw_iconst (pc' := 1) rfl ?_)
  refine wp_of e151 c151_1 (rw_istore_n (pc' := 2) (z := 0) (L' := [(2, vI 0), (0, .ref r0), (1, vI a1)]) rfl rfl rfl ?_)
  refine wp_of e151 c151_2 (rw_iconst (pc' := 3) rfl ?_)
  refine wp_of e151 c151_3 (rw_istore_n (pc' := 4) (z := 0) (L' := [(3, vI 0), (2, vI 0), (0, .ref r0), (1, vI a1)]) rfl rfl rfl ?_)
  have lp75427 : ∀ (n75428 : Nat) (v75430 : Int) (v75431 : Int), (0 ≤ v75430 ∧ v75430 ≤ 6) → ((-2147483648) ≤ v75431 ∧ v75431 ≤ 2147483647) → (6 - v75430).toNat = n75428 → wp kt 1 151 4 [(3, vI v75430), (2, vI v75431), (0, .ref r0), (1, vI a1)] [] T H (q_151 r0 a1 T H) := by
    intro n75428
    induction n75428 using Nat.strongRecOn with
    | _ n75428 ih75429 =>
      intro v75430 v75431 b75434 b75435 m75436
      refine wp_of e151 c151_4 (rw_iload_n (pc' := 5) (z := v75430) rfl rfl ?_)
      refine wp_of e151 c151_5 (rw_aload_n (pc' := 6) (v := .ref r0) rfl rfl rfl ?_)
      refine wp_of e151 c151_6 (xg_I (pc' := 9) lf_7_62 hW g0 sh_27 (by decide) (by decide) ty_27_14 rfl rfl (fun b75437 b75438 => ?_))
      refine wp_of e151 c151_9 (rw_icmp_ge (p1 := 35) (p2 := 12) (by decide) rfl ⟨by omega, by omega⟩ ⟨by omega, by omega⟩ (fun c75439 => ?_) (fun c75439 => ?_))
      · refine wp_of e151 c151_35 (rw_iload_n (pc' := 36) (z := v75431) rfl rfl ?_)
        exact wp_ireturn e151 c151_36 rfl ⟨rfl, rfl, v75431, rfl, ⟨by omega, by omega⟩⟩
      · refine wp_of e151 c151_12 (rw_iload_n (pc' := 13) (z := a1) rfl rfl ?_)
        refine wp_of e151 c151_13 (rw_iload_n (pc' := 14) (z := v75430) rfl rfl ?_)
        refine wp_of e151 c151_14 (xc_S (pc' := 17) (as := [vI a1, vI v75430]) (st := []) (lm_7_121) rfl rfl (Nat.le_of_ble_eq_true rfl) rfl (by decide) (s_36 hW ⟨by omega, by omega⟩ ⟨by omega, by omega⟩) (fun R75440 T75441 H75442 p75443 => ?_))
        obtain ⟨e75444, e75446, z75447, e75445, b75448⟩ := p75443
        subst e75444
        subst e75445
        subst e75446
        show wp _ _ 151 17 [(3, vI v75430), (2, vI v75431), (0, .ref r0), (1, vI a1)] [vI z75447] _ H _
        refine wp_of e151 c151_17 (rw_if_eq (p1 := 29) (p2 := 20) (by decide) rfl ⟨by omega, by omega⟩ (fun c75449 => ?_) (fun c75449 => ?_))
        · refine wp_of e151 c151_29 (rw_iinc (pc' := 32) (z := v75430) (L' := [(3, vI (v75430 + 1)), (2, vI v75431), (0, .ref r0), (1, vI a1)]) rfl rfl rfl rfl ?_)
          refine wp_of e151 c151_32 (rw_goto (p1 := 4) (by decide) ?_)
          exact wp_lc (ks := [3, 2, 0, 1]) (wl_c rfl (wl_c rfl (wl_c rfl (wl_c rfl wl_n)))) rfl (by decide) (ih75429 _ (by omega) (v75430 + 1) v75431 ⟨by omega, by omega⟩ ⟨by omega, by omega⟩ rfl)
        · refine wp_of e151 c151_20 (rw_iload_n (pc' := 21) (z := v75431) rfl rfl ?_)
          refine wp_of e151 c151_21 (rw_aload_n (pc' := 22) (v := .ref r0) rfl rfl rfl ?_)
          refine wp_of e151 c151_22 (xg_R (pc' := 25) lf_7_33 hW g0 sh_27 (by decide) (by decide) ty_27_6 rfl rfl (fun r75450 q75451 g75452 => ?_))
          refine wp_of e151 c151_25 (rw_iload_n (pc' := 26) (z := v75430) rfl rfl ?_)
          refine wp_of e151 c151_26 (xa_I (so := 0) (pc' := 27) hW g75452 sh_34 (by decide) (ty_34 _) (by omega) (by omega) rfl (fun b75453 b75454 => ?_))
          refine wp_of e151 c151_27 (rw_ior (pc' := 28) rfl ?_)
          obtain ⟨v75455, e75456⟩ : ∃ x : Int, x = wq_or v75431 (H r75450 (v75430.toNat)) := ⟨_, rfl⟩
          rw [← e75456]
          have b75457 : -2147483648 ≤ v75455 ∧ v75455 ≤ 2147483647 := by
            rw [e75456]
            exact wI_or _ _
          refine wp_of e151 c151_28 (rw_istore_n (pc' := 29) (z := v75455) (L' := [(2, vI v75455), (3, vI v75430), (0, .ref r0), (1, vI a1)]) rfl rfl rfl ?_)
          refine wp_of e151 c151_29 (rw_iinc (pc' := 32) (z := v75430) (L' := [(3, vI (v75430 + 1)), (2, vI v75455), (0, .ref r0), (1, vI a1)]) rfl rfl rfl rfl ?_)
          refine wp_of e151 c151_32 (rw_goto (p1 := 4) (by decide) ?_)
          exact wp_lc (ks := [3, 2, 0, 1]) (wl_c rfl (wl_c rfl (wl_c rfl (wl_c rfl wl_n)))) rfl (by decide) (ih75429 _ (by omega) (v75430 + 1) v75455 ⟨by omega, by omega⟩ ⟨by omega, by omega⟩ rfl)
  exact wp_lc (ks := [3, 2, 0, 1]) (wl_c rfl (wl_c rfl (wl_c rfl (wl_c rfl wl_n)))) rfl (by decide) (lp75427 _ 0 0 ⟨by omega, by omega⟩ ⟨by omega, by omega⟩ rfl)
/-! StrikeAwake$Parish.fewestOffers()I -/
theorem e150 : wq_en 150 = some (7, 4, false, some FieldType.int) := rfl
theorem c150_0 : mc_cd 150 0 = some (.aload_n 0, 1) := by decide +kernel
theorem c150_1 : mc_cd 150 1 = some (.invokevirtual 96, 3) := by decide +kernel
theorem c150_4 : mc_cd 150 4 = some (.istore_n 1, 1) := by decide +kernel
theorem c150_5 : mc_cd 150 5 = some (.iconst 1, 1) := by decide +kernel
theorem c150_6 : mc_cd 150 6 = some (.istore_n 2, 1) := by decide +kernel
theorem c150_7 : mc_cd 150 7 = some (.iload_n 2, 1) := by decide +kernel
theorem c150_8 : mc_cd 150 8 = some (.aload_n 0, 1) := by decide +kernel
theorem c150_9 : mc_cd 150 9 = some (.getfield 62, 3) := by decide +kernel
theorem c150_12 : mc_cd 150 12 = some (.if_icmp .gt 46, 3) := by decide +kernel
theorem c150_15 : mc_cd 150 15 = some (.iconst 1, 1) := by decide +kernel
theorem c150_16 : mc_cd 150 16 = some (.istore_n 3, 1) := by decide +kernel
theorem c150_17 : mc_cd 150 17 = some (.iload_n 3, 1) := by decide +kernel
theorem c150_18 : mc_cd 150 18 = some (.iconst 1, 1) := by decide +kernel
theorem c150_19 : mc_cd 150 19 = some (.aload_n 0, 1) := by decide +kernel
theorem c150_20 : mc_cd 150 20 = some (.getfield 62, 3) := by decide +kernel
theorem c150_23 : mc_cd 150 23 = some (.ishl, 1) := by decide +kernel
theorem c150_24 : mc_cd 150 24 = some (.if_icmp .ge 28, 3) := by decide +kernel
theorem c150_27 : mc_cd 150 27 = some (.iload_n 3, 1) := by decide +kernel
theorem c150_28 : mc_cd 150 28 = some (.invokestatic 113, 3) := by decide +kernel
theorem c150_31 : mc_cd 150 31 = some (.iload_n 2, 1) := by decide +kernel
theorem c150_32 : mc_cd 150 32 = some (.if_icmp .ne 14, 3) := by decide +kernel
theorem c150_35 : mc_cd 150 35 = some (.aload_n 0, 1) := by decide +kernel
theorem c150_36 : mc_cd 150 36 = some (.iload_n 3, 1) := by decide +kernel
theorem c150_37 : mc_cd 150 37 = some (.invokevirtual 118, 3) := by decide +kernel
theorem c150_40 : mc_cd 150 40 = some (.iload_n 1, 1) := by decide +kernel
theorem c150_41 : mc_cd 150 41 = some (.if_icmp .ne 5, 3) := by decide +kernel
theorem c150_44 : mc_cd 150 44 = some (.iload_n 3, 1) := by decide +kernel
theorem c150_45 : mc_cd 150 45 = some (.ireturn, 1) := by decide +kernel
theorem c150_46 : mc_cd 150 46 = some (.iinc 3 1, 3) := by decide +kernel
theorem c150_49 : mc_cd 150 49 = some (.goto (-32), 3) := by decide +kernel
theorem c150_52 : mc_cd 150 52 = some (.iinc 2 1, 3) := by decide +kernel
theorem c150_55 : mc_cd 150 55 = some (.goto (-48), 3) := by decide +kernel
theorem c150_58 : mc_cd 150 58 = some (.bipush (-2), 2) := by decide +kernel
theorem c150_60 : mc_cd 150 60 = some (.ireturn, 1) := by decide +kernel
abbrev q_150 (r0 : Nat) (T : wq_T) (H : wq_H) : Option Value → wq_T → wq_H → Prop := fun r T' H' => T = T' ∧ H = H' ∧ ∃ z : Int, some (vI z) = r ∧ ((-2147483648) ≤ z ∧ z ≤ 2147483647)
set_option maxHeartbeats 4000000 in
theorem s_150 {kt : Nat → Option mc_E} {T : wq_T} {H : wq_H} {r0 : Nat} (hW : WT T H) (g0 : T.2.2.2 r0 = some 27) : wpc kt 3 150 [.ref r0] T H (q_150 r0 T H) := by
  refine wp_enter e150 (Nat.le_of_ble_eq_true rfl) rfl ?_
  show wp _ _ 150 0 [(0, .ref r0)] [] _ H _
  refine wp_of e150 c150_0 (rw_aload_n (pc' := 1) (v := .ref r0) rfl rfl rfl ?_)
  refine wp_of e150 c150_1 (xc_V (pc' := 4) (r := r0) (as := []) (st := []) (lm_7_96) rfl rfl (Nat.le_of_ble_eq_true rfl) hW g0 sh_27 (by decide) rfl (by decide) (s_45 hW g0) (fun R77364 T77365 H77366 p77367 => ?_))
  obtain ⟨e77368, e77370, z77371, e77369, b77372⟩ := p77367
  subst e77368
  subst e77369
  subst e77370
  show wp _ _ 150 4 [(0, .ref r0)] [vI z77371] _ H _
  refine wp_of e150 c150_4 (rw_istore_n (pc' := 5) (z := z77371) (L' := [(1, vI z77371), (0, .ref r0)]) rfl rfl rfl ?_)
  refine wp_of e150 c150_5 (rw_iconst (pc' := 6) rfl ?_)
  refine wp_of e150 c150_6 (rw_istore_n (pc' := 7) (z := 1) (L' := [(2, vI 1), (1, vI z77371), (0, .ref r0)]) rfl rfl rfl ?_)
  have lp79032 : ∀ (n79033 : Nat) (v79035 : Int), (1 ≤ v79035 ∧ v79035 ≤ 7) → (7 - v79035).toNat = n79033 → wp kt 2 150 7 [(2, vI v79035), (1, vI z77371), (0, .ref r0)] [] T H (q_150 r0 T H) := by
    intro n79033
    induction n79033 using Nat.strongRecOn with
    | _ n79033 ih79034 =>
      intro v79035 b79038 m79039
      refine wp_of e150 c150_7 (rw_iload_n (pc' := 8) (z := v79035) rfl rfl ?_)
      refine wp_of e150 c150_8 (rw_aload_n (pc' := 9) (v := .ref r0) rfl rfl rfl ?_)
      refine wp_of e150 c150_9 (xg_I (pc' := 12) lf_7_62 hW g0 sh_27 (by decide) (by decide) ty_27_14 rfl rfl (fun b79040 b79041 => ?_))
      refine wp_of e150 c150_12 (rw_icmp_gt (p1 := 58) (p2 := 15) (by decide) rfl ⟨by omega, by omega⟩ ⟨by omega, by omega⟩ (fun c79042 => ?_) (fun c79042 => ?_))
      · refine wp_of e150 c150_58 (rw_bipush (pc' := 60) (z := -2) rfl (by decide) ?_)
        exact wp_ireturn e150 c150_60 rfl ⟨rfl, rfl, -2, rfl, ⟨by omega, by omega⟩⟩
      · refine wp_of e150 c150_15 (rw_iconst (pc' := 16) rfl ?_)
        refine wp_of e150 c150_16 (rw_istore_n (pc' := 17) (z := 1) (L' := [(3, vI 1), (2, vI v79035), (1, vI z77371), (0, .ref r0)]) rfl rfl rfl ?_)
        have lp79251 : ∀ (n79252 : Nat) (v79254 : Int), (1 ≤ v79254 ∧ v79254 ≤ 2147483647) → (2147483647 - v79254).toNat = n79252 → wp kt 2 150 17 [(3, vI v79254), (2, vI v79035), (1, vI z77371), (0, .ref r0)] [] T H (q_150 r0 T H) := by
          intro n79252
          induction n79252 using Nat.strongRecOn with
          | _ n79252 ih79253 =>
            intro v79254 b79257 m79258
            refine wp_of e150 c150_17 (rw_iload_n (pc' := 18) (z := v79254) rfl rfl ?_)
            refine wp_of e150 c150_18 (rw_iconst (pc' := 19) rfl ?_)
            refine wp_of e150 c150_19 (rw_aload_n (pc' := 20) (v := .ref r0) rfl rfl rfl ?_)
            refine wp_of e150 c150_20 (xg_I (pc' := 23) lf_7_62 hW g0 sh_27 (by decide) (by decide) ty_27_14 rfl rfl (fun b79259 b79260 => ?_))
            refine wp_of e150 c150_23 (rw_ishl (pc' := 24) rfl ?_)
            obtain ⟨v79261, e79262⟩ : ∃ x : Int, x = wq_shl 1 (H r0 14) := ⟨_, rfl⟩
            rw [← e79262]
            have b79263 : -2147483648 ≤ v79261 ∧ v79261 ≤ 2147483647 := by
              rw [e79262]
              exact wI_shl _ _
            refine wp_of e150 c150_24 (rw_icmp_ge (p1 := 52) (p2 := 27) (by decide) rfl ⟨by omega, by omega⟩ ⟨by omega, by omega⟩ (fun c79264 => ?_) (fun c79264 => ?_))
            · refine wp_of e150 c150_52 (rw_iinc (pc' := 55) (z := v79035) (L' := [(2, vI (v79035 + 1)), (3, vI v79254), (1, vI z77371), (0, .ref r0)]) rfl rfl rfl rfl ?_)
              refine wp_of e150 c150_55 (rw_goto (p1 := 7) (by decide) ?_)
              exact wp_lc (ks := [2, 3, 1, 0]) (wl_c rfl (wl_c rfl (wl_c rfl wl_n))) rfl (by decide) (ih79034 _ (by omega) (v79035 + 1) ⟨by omega, by omega⟩ rfl)
            · refine wp_of e150 c150_27 (rw_iload_n (pc' := 28) (z := v79254) rfl rfl ?_)
              refine wp_of e150 c150_28 (xc_S (pc' := 31) (as := [vI v79254]) (st := []) (lm_7_113) rfl rfl (Nat.le_of_ble_eq_true rfl) rfl (by decide) (s_126 hW ⟨by omega, by omega⟩) (fun R79265 T79266 H79267 p79268 => ?_))
              obtain ⟨e79269, e79271, z79272, e79270, b79273⟩ := p79268
              subst e79269
              subst e79270
              subst e79271
              show wp _ _ 150 31 [(3, vI v79254), (2, vI v79035), (1, vI z77371), (0, .ref r0)] [vI z79272] _ H _
              refine wp_of e150 c150_31 (rw_iload_n (pc' := 32) (z := v79035) rfl rfl ?_)
              refine wp_of e150 c150_32 (rw_icmp_ne (p1 := 46) (p2 := 35) (by decide) rfl ⟨by omega, by omega⟩ ⟨by omega, by omega⟩ (fun c79274 => ?_) (fun c79274 => ?_))
              · refine wp_of e150 c150_46 (rw_iinc (pc' := 49) (z := v79254) (L' := [(3, vI (v79254 + 1)), (2, vI v79035), (1, vI z77371), (0, .ref r0)]) rfl rfl rfl rfl ?_)
                refine wp_of e150 c150_49 (rw_goto (p1 := 17) (by decide) ?_)
                exact wp_lc (ks := [3, 2, 1, 0]) (wl_c rfl (wl_c rfl (wl_c rfl (wl_c rfl wl_n)))) rfl (by decide) (ih79253 _ (by omega) (v79254 + 1) ⟨by omega, by omega⟩ rfl)
              · refine wp_of e150 c150_35 (rw_aload_n (pc' := 36) (v := .ref r0) rfl rfl rfl ?_)
                refine wp_of e150 c150_36 (rw_iload_n (pc' := 37) (z := v79254) rfl rfl ?_)
                refine wp_of e150 c150_37 (xc_V (pc' := 40) (r := r0) (as := [vI v79254]) (st := []) (lm_7_118) rfl rfl (Nat.le_of_ble_eq_true rfl) hW g0 sh_27 (by decide) rfl (by decide) (s_151 hW g0 ⟨by omega, by omega⟩) (fun R79275 T79276 H79277 p79278 => ?_))
                obtain ⟨e79279, e79281, z79282, e79280, b79283⟩ := p79278
                subst e79279
                subst e79280
                subst e79281
                show wp _ _ 150 40 [(3, vI v79254), (2, vI v79035), (1, vI z77371), (0, .ref r0)] [vI z79282] _ H _
                refine wp_of e150 c150_40 (rw_iload_n (pc' := 41) (z := z77371) rfl rfl ?_)
                refine wp_of e150 c150_41 (rw_icmp_ne (p1 := 46) (p2 := 44) (by decide) rfl ⟨by omega, by omega⟩ ⟨by omega, by omega⟩ (fun c79284 => ?_) (fun c79284 => ?_))
                · refine wp_of e150 c150_46 (rw_iinc (pc' := 49) (z := v79254) (L' := [(3, vI (v79254 + 1)), (2, vI v79035), (1, vI z77371), (0, .ref r0)]) rfl rfl rfl rfl ?_)
                  refine wp_of e150 c150_49 (rw_goto (p1 := 17) (by decide) ?_)
                  exact wp_lc (ks := [3, 2, 1, 0]) (wl_c rfl (wl_c rfl (wl_c rfl (wl_c rfl wl_n)))) rfl (by decide) (ih79253 _ (by omega) (v79254 + 1) ⟨by omega, by omega⟩ rfl)
                · refine wp_of e150 c150_44 (rw_iload_n (pc' := 45) (z := v79254) rfl rfl ?_)
                  exact wp_ireturn e150 c150_45 rfl ⟨rfl, rfl, v79254, rfl, ⟨by omega, by omega⟩⟩
        exact wp_lc (ks := [3, 2, 1, 0]) (wl_c rfl (wl_c rfl (wl_c rfl (wl_c rfl wl_n)))) rfl (by decide) (lp79251 _ 1 ⟨by omega, by omega⟩ rfl)
  exact wp_lc (ks := [2, 1, 0]) (wl_c rfl (wl_c rfl (wl_c rfl wl_n))) rfl (by decide) (lp79032 _ 1 ⟨by omega, by omega⟩ rfl)
/-! StrikeAwake.keep()I -/
theorem e149 : wq_en 149 = some (0, 1, false, some FieldType.int) := rfl
theorem c149_0 : mc_cd 149 0 = some (.aload_n 0, 1) := by decide +kernel
theorem c149_1 : mc_cd 149 1 = some (.getfield 58, 3) := by decide +kernel
theorem c149_4 : mc_cd 149 4 = some (.ifCond .ne 9, 3) := by decide +kernel
theorem c149_7 : mc_cd 149 7 = some (.aload_n 0, 1) := by decide +kernel
theorem c149_8 : mc_cd 149 8 = some (.iconst 1, 1) := by decide +kernel
theorem c149_9 : mc_cd 149 9 = some (.invokevirtual 70, 3) := by decide +kernel
theorem c149_12 : mc_cd 149 12 = some (.ireturn, 1) := by decide +kernel
theorem c149_13 : mc_cd 149 13 = some (.aload_n 0, 1) := by decide +kernel
theorem c149_14 : mc_cd 149 14 = some (.aload_n 0, 1) := by decide +kernel
theorem c149_15 : mc_cd 149 15 = some (.getfield 51, 3) := by decide +kernel
theorem c149_18 : mc_cd 149 18 = some (.invokevirtual 284, 3) := by decide +kernel
theorem c149_21 : mc_cd 149 21 = some (.invokevirtual 99, 3) := by decide +kernel
theorem c149_24 : mc_cd 149 24 = some (.ireturn, 1) := by decide +kernel
abbrev q_149 (r0 : Nat) (T : wq_T) (H : wq_H) : Option Value → wq_T → wq_H → Prop := fun r T' H' => T = T' ∧ WT T H' ∧ wfr [(1, 10)] T H H' ∧ ∃ z : Int, some (vI z) = r ∧ ((-2147483648) ≤ z ∧ z ≤ 2147483647)
set_option maxHeartbeats 4000000 in
theorem s_149 {kt : Nat → Option mc_E} {T : wq_T} {H : wq_H} {r0 : Nat} (hW : WT T H) (g0 : T.2.2.2 r0 = some 1) : wpc kt 4 149 [.ref r0] T H (q_149 r0 T H) := by
  refine wp_enter e149 (Nat.le_of_ble_eq_true rfl) rfl ?_
  have f0 : wfr [(1, 10)] T H H := wfr.rf
  show wp _ _ 149 0 [(0, .ref r0)] [] _ H _
  refine wp_of e149 c149_0 (rw_aload_n (pc' := 1) (v := .ref r0) rfl rfl rfl ?_)
  refine wp_of e149 c149_1 (xg_I (pc' := 4) lf_0_58 hW g0 sh_1 (by decide) (by decide) ty_1_8 rfl rfl (fun b79322 b79323 => ?_))
  refine wp_of e149 c149_4 (rw_if_ne (p1 := 13) (p2 := 7) (by decide) rfl ⟨by omega, by omega⟩ (fun c79324 => ?_) (fun c79324 => ?_))
  · refine wp_of e149 c149_13 (rw_aload_n (pc' := 14) (v := .ref r0) rfl rfl rfl ?_)
    refine wp_of e149 c149_14 (rw_aload_n (pc' := 15) (v := .ref r0) rfl rfl rfl ?_)
    refine wp_of e149 c149_15 (xg_R (pc' := 18) lf_0_51 hW g0 sh_1 (by decide) (by decide) ty_1_6 rfl rfl (fun r79325 q79326 g79327 => ?_))
    refine wp_of e149 c149_18 (xc_V (pc' := 21) (r := r79325) (as := []) (st := [.ref r0]) (lm_0_284) rfl rfl (Nat.le_of_ble_eq_true rfl) hW g79327 sh_27 (by decide) rfl (by decide) (s_150 hW g79327) (fun R79328 T79329 H79330 p79331 => ?_))
    obtain ⟨e79332, e79334, z79335, e79333, b79336⟩ := p79331
    subst e79332
    subst e79333
    subst e79334
    show wp _ _ 149 21 [(0, .ref r0)] [vI z79335, .ref r0] _ H _
    refine wp_of e149 c149_21 (xc_V (pc' := 24) (r := r0) (as := [vI z79335]) (st := []) (lm_0_99) rfl rfl (Nat.le_of_ble_eq_true rfl) hW g0 sh_1 (by decide) rfl (by decide) (s_51 hW g0 ⟨by omega, by omega⟩) (fun R79337 T79338 H79339 p79340 => ?_))
    obtain ⟨e79341, w79343, f79344, z79345, e79342, b79346⟩ := p79340
    subst e79341
    subst e79342
    have f79347 := f0.tr f79344 rfl
    show wp _ _ 149 24 [(0, .ref r0)] [vI z79345] _ H79339 _
    exact wp_ireturn e149 c149_24 rfl ⟨rfl, w79343, f79347, z79345, rfl, ⟨by omega, by omega⟩⟩
  · refine wp_of e149 c149_7 (rw_aload_n (pc' := 8) (v := .ref r0) rfl rfl rfl ?_)
    refine wp_of e149 c149_8 (rw_iconst (pc' := 9) rfl ?_)
    refine wp_of e149 c149_9 (xc_V (pc' := 12) (r := r0) (as := [vI 1]) (st := []) (lm_0_70) rfl rfl (Nat.le_of_ble_eq_true rfl) hW g0 sh_1 (by decide) rfl (by decide) (s_12 hW g0 ⟨by omega, by omega⟩) (fun R79348 T79349 H79350 p79351 => ?_))
    obtain ⟨e79352, w79354, f79355, z79356, e79353, b79357⟩ := p79351
    subst e79352
    subst e79353
    have f79358 := f0.tr f79355 rfl
    show wp _ _ 149 12 [(0, .ref r0)] [vI z79356] _ H79350 _
    exact wp_ireturn e149 c149_12 rfl ⟨rfl, w79354, f79358, z79356, rfl, ⟨by omega, by omega⟩⟩
/-! StrikeAwake.quiet(I)I -/
theorem e152 : wq_en 152 = some (0, 2, false, some FieldType.int) := rfl
theorem c152_0 : mc_cd 152 0 = some (.aload_n 0, 1) := by decide +kernel
theorem c152_1 : mc_cd 152 1 = some (.getfield 58, 3) := by decide +kernel
theorem c152_4 : mc_cd 152 4 = some (.ifCond .ne 9, 3) := by decide +kernel
theorem c152_7 : mc_cd 152 7 = some (.aload_n 0, 1) := by decide +kernel
theorem c152_8 : mc_cd 152 8 = some (.iconst 1, 1) := by decide +kernel
theorem c152_9 : mc_cd 152 9 = some (.invokevirtual 70, 3) := by decide +kernel
theorem c152_12 : mc_cd 152 12 = some (.ireturn, 1) := by decide +kernel
theorem c152_13 : mc_cd 152 13 = some (.iload_n 1, 1) := by decide +kernel
theorem c152_14 : mc_cd 152 14 = some (.ifCond .lt 9, 3) := by decide +kernel
theorem c152_17 : mc_cd 152 17 = some (.iload_n 1, 1) := by decide +kernel
theorem c152_18 : mc_cd 152 18 = some (.bipush 99, 2) := by decide +kernel
theorem c152_20 : mc_cd 152 20 = some (.if_icmp .le 9, 3) := by decide +kernel
theorem c152_23 : mc_cd 152 23 = some (.aload_n 0, 1) := by decide +kernel
theorem c152_24 : mc_cd 152 24 = some (.iconst 2, 1) := by decide +kernel
theorem c152_25 : mc_cd 152 25 = some (.invokevirtual 70, 3) := by decide +kernel
theorem c152_28 : mc_cd 152 28 = some (.ireturn, 1) := by decide +kernel
theorem c152_29 : mc_cd 152 29 = some (.aload_n 0, 1) := by decide +kernel
theorem c152_30 : mc_cd 152 30 = some (.aload_n 0, 1) := by decide +kernel
theorem c152_31 : mc_cd 152 31 = some (.getfield 51, 3) := by decide +kernel
theorem c152_34 : mc_cd 152 34 = some (.iload_n 1, 1) := by decide +kernel
theorem c152_35 : mc_cd 152 35 = some (.invokevirtual 288, 3) := by decide +kernel
theorem c152_38 : mc_cd 152 38 = some (.invokevirtual 99, 3) := by decide +kernel
theorem c152_41 : mc_cd 152 41 = some (.ireturn, 1) := by decide +kernel
abbrev q_152 (r0 : Nat) (a1 : Int) (T : wq_T) (H : wq_H) : Option Value → wq_T → wq_H → Prop := fun r T' H' => T = T' ∧ WT T H' ∧ wfr [(1, 10)] T H H' ∧ ∃ z : Int, some (vI z) = r ∧ ((-2147483648) ≤ z ∧ z ≤ 2147483647)
set_option maxHeartbeats 4000000 in
theorem s_152 {kt : Nat → Option mc_E} {T : wq_T} {H : wq_H} {r0 : Nat} {a1 : Int} (hW : WT T H) (g0 : T.2.2.2 r0 = some 1) (i1 : (-2147483648) ≤ a1 ∧ a1 ≤ 2147483647) : wpc kt 2 152 [.ref r0, vI a1] T H (q_152 r0 a1 T H) := by
  refine wp_enter e152 (Nat.le_of_ble_eq_true rfl) rfl ?_
  have f0 : wfr [(1, 10)] T H H := wfr.rf
  show wp _ _ 152 0 [(0, .ref r0), (1, vI a1)] [] _ H _
  refine wp_of e152 c152_0 (rw_aload_n (pc' := 1) (v := .ref r0) rfl rfl rfl ?_)
  refine wp_of e152 c152_1 (xg_I (pc' := 4) lf_0_58 hW g0 sh_1 (by decide) (by decide) ty_1_8 rfl rfl (fun b79420 b79421 => ?_))
  refine wp_of e152 c152_4 (rw_if_ne (p1 := 13) (p2 := 7) (by decide) rfl ⟨by omega, by omega⟩ (fun c79422 => ?_) (fun c79422 => ?_))
  · refine wp_of e152 c152_13 (rw_iload_n (pc' := 14) (z := a1) rfl rfl ?_)
    refine wp_of e152 c152_14 (rw_if_lt (p1 := 23) (p2 := 17) (by decide) rfl ⟨by omega, by omega⟩ (fun c79423 => ?_) (fun c79423 => ?_))
    · refine wp_of e152 c152_23 (rw_aload_n (pc' := 24) (v := .ref r0) rfl rfl rfl ?_)
      refine wp_of e152 c152_24 (rw_iconst (pc' := 25) rfl ?_)
      refine wp_of e152 c152_25 (xc_V (pc' := 28) (r := r0) (as := [vI 2]) (st := []) (lm_0_70) rfl rfl (Nat.le_of_ble_eq_true rfl) hW g0 sh_1 (by decide) rfl (by decide) (s_12 hW g0 ⟨by omega, by omega⟩) (fun R79424 T79425 H79426 p79427 => ?_))
      obtain ⟨e79428, w79430, f79431, z79432, e79429, b79433⟩ := p79427
      subst e79428
      subst e79429
      have f79434 := f0.tr f79431 rfl
      show wp _ _ 152 28 [(0, .ref r0), (1, vI a1)] [vI z79432] _ H79426 _
      exact wp_ireturn e152 c152_28 rfl ⟨rfl, w79430, f79434, z79432, rfl, ⟨by omega, by omega⟩⟩
    · refine wp_of e152 c152_17 (rw_iload_n (pc' := 18) (z := a1) rfl rfl ?_)
      refine wp_of e152 c152_18 (rw_bipush (pc' := 20) (z := 99) rfl (by decide) ?_)
      refine wp_of e152 c152_20 (rw_icmp_le (p1 := 29) (p2 := 23) (by decide) rfl ⟨by omega, by omega⟩ ⟨by omega, by omega⟩ (fun c79435 => ?_) (fun c79435 => ?_))
      · refine wp_of e152 c152_29 (rw_aload_n (pc' := 30) (v := .ref r0) rfl rfl rfl ?_)
        refine wp_of e152 c152_30 (rw_aload_n (pc' := 31) (v := .ref r0) rfl rfl rfl ?_)
        refine wp_of e152 c152_31 (xg_R (pc' := 34) lf_0_51 hW g0 sh_1 (by decide) (by decide) ty_1_6 rfl rfl (fun r79436 q79437 g79438 => ?_))
        refine wp_of e152 c152_34 (rw_iload_n (pc' := 35) (z := a1) rfl rfl ?_)
        refine wp_of e152 c152_35 (xc_V (pc' := 38) (r := r79436) (as := [vI a1]) (st := [.ref r0]) (lm_0_288) rfl rfl (Nat.le_of_ble_eq_true rfl) hW g79438 sh_27 (by decide) rfl (by decide) (s_46 hW g79438 ⟨by omega, by omega⟩) (fun R79439 T79440 H79441 p79442 => ?_))
        obtain ⟨e79443, e79445, z79446, e79444, b79447⟩ := p79442
        subst e79443
        subst e79444
        subst e79445
        show wp _ _ 152 38 [(0, .ref r0), (1, vI a1)] [vI z79446, .ref r0] _ H _
        refine wp_of e152 c152_38 (xc_V (pc' := 41) (r := r0) (as := [vI z79446]) (st := []) (lm_0_99) rfl rfl (Nat.le_of_ble_eq_true rfl) hW g0 sh_1 (by decide) rfl (by decide) (s_51 hW g0 ⟨by omega, by omega⟩) (fun R79448 T79449 H79450 p79451 => ?_))
        obtain ⟨e79452, w79454, f79455, z79456, e79453, b79457⟩ := p79451
        subst e79452
        subst e79453
        have f79458 := f0.tr f79455 rfl
        show wp _ _ 152 41 [(0, .ref r0), (1, vI a1)] [vI z79456] _ H79450 _
        exact wp_ireturn e152 c152_41 rfl ⟨rfl, w79454, f79458, z79456, rfl, ⟨by omega, by omega⟩⟩
      · refine wp_of e152 c152_23 (rw_aload_n (pc' := 24) (v := .ref r0) rfl rfl rfl ?_)
        refine wp_of e152 c152_24 (rw_iconst (pc' := 25) rfl ?_)
        refine wp_of e152 c152_25 (xc_V (pc' := 28) (r := r0) (as := [vI 2]) (st := []) (lm_0_70) rfl rfl (Nat.le_of_ble_eq_true rfl) hW g0 sh_1 (by decide) rfl (by decide) (s_12 hW g0 ⟨by omega, by omega⟩) (fun R79459 T79460 H79461 p79462 => ?_))
        obtain ⟨e79463, w79465, f79466, z79467, e79464, b79468⟩ := p79462
        subst e79463
        subst e79464
        have f79469 := f0.tr f79466 rfl
        show wp _ _ 152 28 [(0, .ref r0), (1, vI a1)] [vI z79467] _ H79461 _
        exact wp_ireturn e152 c152_28 rfl ⟨rfl, w79465, f79469, z79467, rfl, ⟨by omega, by omega⟩⟩
  · refine wp_of e152 c152_7 (rw_aload_n (pc' := 8) (v := .ref r0) rfl rfl rfl ?_)
    refine wp_of e152 c152_8 (rw_iconst (pc' := 9) rfl ?_)
    refine wp_of e152 c152_9 (xc_V (pc' := 12) (r := r0) (as := [vI 1]) (st := []) (lm_0_70) rfl rfl (Nat.le_of_ble_eq_true rfl) hW g0 sh_1 (by decide) rfl (by decide) (s_12 hW g0 ⟨by omega, by omega⟩) (fun R79470 T79471 H79472 p79473 => ?_))
    obtain ⟨e79474, w79476, f79477, z79478, e79475, b79479⟩ := p79473
    subst e79474
    subst e79475
    have f79480 := f0.tr f79477 rfl
    show wp _ _ 152 12 [(0, .ref r0), (1, vI a1)] [vI z79478] _ H79472 _
    exact wp_ireturn e152 c152_12 rfl ⟨rfl, w79476, f79480, z79478, rfl, ⟨by omega, by omega⟩⟩
/-! StrikeAwake.strike(II)I -/
theorem e153 : wq_en 153 = some (0, 3, false, some FieldType.int) := rfl
theorem c153_0 : mc_cd 153 0 = some (.aload_n 0, 1) := by decide +kernel
theorem c153_1 : mc_cd 153 1 = some (.iload_n 1, 1) := by decide +kernel
theorem c153_2 : mc_cd 153 2 = some (.invokevirtual 132, 3) := by decide +kernel
theorem c153_5 : mc_cd 153 5 = some (.ifCond .ne 9, 3) := by decide +kernel
theorem c153_8 : mc_cd 153 8 = some (.aload_n 0, 1) := by decide +kernel
theorem c153_9 : mc_cd 153 9 = some (.iconst 1, 1) := by decide +kernel
theorem c153_10 : mc_cd 153 10 = some (.invokevirtual 70, 3) := by decide +kernel
theorem c153_13 : mc_cd 153 13 = some (.ireturn, 1) := by decide +kernel
theorem c153_14 : mc_cd 153 14 = some (.iload_n 2, 1) := by decide +kernel
theorem c153_15 : mc_cd 153 15 = some (.ifCond .lt 9, 3) := by decide +kernel
theorem c153_18 : mc_cd 153 18 = some (.iload_n 2, 1) := by decide +kernel
theorem c153_19 : mc_cd 153 19 = some (.bipush 99, 2) := by decide +kernel
theorem c153_21 : mc_cd 153 21 = some (.if_icmp .le 9, 3) := by decide +kernel
theorem c153_24 : mc_cd 153 24 = some (.aload_n 0, 1) := by decide +kernel
theorem c153_25 : mc_cd 153 25 = some (.iconst 2, 1) := by decide +kernel
theorem c153_26 : mc_cd 153 26 = some (.invokevirtual 70, 3) := by decide +kernel
theorem c153_29 : mc_cd 153 29 = some (.ireturn, 1) := by decide +kernel
theorem c153_30 : mc_cd 153 30 = some (.aload_n 0, 1) := by decide +kernel
theorem c153_31 : mc_cd 153 31 = some (.getfield 51, 3) := by decide +kernel
theorem c153_34 : mc_cd 153 34 = some (.iload_n 1, 1) := by decide +kernel
theorem c153_35 : mc_cd 153 35 = some (.iload_n 2, 1) := by decide +kernel
theorem c153_36 : mc_cd 153 36 = some (.invokevirtual 291, 3) := by decide +kernel
theorem c153_39 : mc_cd 153 39 = some (.aload_n 0, 1) := by decide +kernel
theorem c153_40 : mc_cd 153 40 = some (.getfield 30, 3) := by decide +kernel
theorem c153_43 : mc_cd 153 43 = some (.invokevirtual 93, 3) := by decide +kernel
theorem c153_46 : mc_cd 153 46 = some (.aload_n 0, 1) := by decide +kernel
theorem c153_47 : mc_cd 153 47 = some (.aload_n 0, 1) := by decide +kernel
theorem c153_48 : mc_cd 153 48 = some (.getfield 51, 3) := by decide +kernel
theorem c153_51 : mc_cd 153 51 = some (.getfield 295, 3) := by decide +kernel
theorem c153_54 : mc_cd 153 54 = some (.invokevirtual 99, 3) := by decide +kernel
theorem c153_57 : mc_cd 153 57 = some (.ireturn, 1) := by decide +kernel
abbrev q_153 (r0 : Nat) (a1 : Int) (a2 : Int) (T : wq_T) (H : wq_H) : Option Value → wq_T → wq_H → Prop := fun r T' H' => T = T' ∧ WT T H' ∧ wfr [(12, 9), (27, 16), (1, 10), (29, 999), (30, 999)] T H H' ∧ ∃ z : Int, some (vI z) = r ∧ ((-2147483648) ≤ z ∧ z ≤ 2147483647)
set_option maxHeartbeats 4000000 in
theorem s_153 {kt : Nat → Option mc_E} {T : wq_T} {H : wq_H} {r0 : Nat} {a1 : Int} {a2 : Int} (hW : WT T H) (g0 : T.2.2.2 r0 = some 1) (i1 : (-2147483648) ≤ a1 ∧ a1 ≤ 2147483647) (i2 : (-2147483648) ≤ a2 ∧ a2 ≤ 2147483647) : wpc kt 3 153 [.ref r0, vI a1, vI a2] T H (q_153 r0 a1 a2 T H) := by
  refine wp_enter e153 (Nat.le_of_ble_eq_true rfl) rfl ?_
  have f0 : wfr [(12, 9), (27, 16), (1, 10), (29, 999), (30, 999)] T H H := wfr.rf
  show wp _ _ 153 0 [(0, .ref r0), (1, vI a1), (2, vI a2)] [] _ H _
  refine wp_of e153 c153_0 (rw_aload_n (pc' := 1) (v := .ref r0) rfl rfl rfl ?_)
  refine wp_of e153 c153_1 (rw_iload_n (pc' := 2) (z := a1) rfl rfl ?_)
  refine wp_of e153 c153_2 (xc_V (pc' := 5) (r := r0) (as := [vI a1]) (st := []) (lm_0_132) rfl rfl (Nat.le_of_ble_eq_true rfl) hW g0 sh_1 (by decide) rfl (by decide) (s_60 hW g0 ⟨by omega, by omega⟩) (fun R79566 T79567 H79568 p79569 => ?_))
  obtain ⟨e79570, e79572, z79574, e79571, b79575, p79573⟩ := p79569
  subst e79570
  subst e79571
  subst e79572
  show wp _ _ 153 5 [(0, .ref r0), (1, vI a1), (2, vI a2)] [vI z79574] _ H _
  refine wp_of e153 c153_5 (rw_if_ne (p1 := 14) (p2 := 8) (by decide) rfl ⟨by omega, by omega⟩ (fun c79576 => ?_) (fun c79576 => ?_))
  · refine wp_of e153 c153_14 (rw_iload_n (pc' := 15) (z := a2) rfl rfl ?_)
    refine wp_of e153 c153_15 (rw_if_lt (p1 := 24) (p2 := 18) (by decide) rfl ⟨by omega, by omega⟩ (fun c79577 => ?_) (fun c79577 => ?_))
    · refine wp_of e153 c153_24 (rw_aload_n (pc' := 25) (v := .ref r0) rfl rfl rfl ?_)
      refine wp_of e153 c153_25 (rw_iconst (pc' := 26) rfl ?_)
      refine wp_of e153 c153_26 (xc_V (pc' := 29) (r := r0) (as := [vI 2]) (st := []) (lm_0_70) rfl rfl (Nat.le_of_ble_eq_true rfl) hW g0 sh_1 (by decide) rfl (by decide) (s_12 hW g0 ⟨by omega, by omega⟩) (fun R79578 T79579 H79580 p79581 => ?_))
      obtain ⟨e79582, w79584, f79585, z79586, e79583, b79587⟩ := p79581
      subst e79582
      subst e79583
      have f79588 := f0.tr f79585 rfl
      show wp _ _ 153 29 [(0, .ref r0), (1, vI a1), (2, vI a2)] [vI z79586] _ H79580 _
      exact wp_ireturn e153 c153_29 rfl ⟨rfl, w79584, f79588, z79586, rfl, ⟨by omega, by omega⟩⟩
    · refine wp_of e153 c153_18 (rw_iload_n (pc' := 19) (z := a2) rfl rfl ?_)
      refine wp_of e153 c153_19 (rw_bipush (pc' := 21) (z := 99) rfl (by decide) ?_)
      refine wp_of e153 c153_21 (rw_icmp_le (p1 := 30) (p2 := 24) (by decide) rfl ⟨by omega, by omega⟩ ⟨by omega, by omega⟩ (fun c79589 => ?_) (fun c79589 => ?_))
      · refine wp_of e153 c153_30 (rw_aload_n (pc' := 31) (v := .ref r0) rfl rfl rfl ?_)
        refine wp_of e153 c153_31 (xg_R (pc' := 34) lf_0_51 hW g0 sh_1 (by decide) (by decide) ty_1_6 rfl rfl (fun r79590 q79591 g79592 => ?_))
        refine wp_of e153 c153_34 (rw_iload_n (pc' := 35) (z := a1) rfl rfl ?_)
        refine wp_of e153 c153_35 (rw_iload_n (pc' := 36) (z := a2) rfl rfl ?_)
        refine wp_of e153 c153_36 (xc_V (pc' := 39) (r := r79590) (as := [vI a1, vI a2]) (st := []) (lm_0_291) rfl rfl (Nat.le_of_ble_eq_true rfl) hW g79592 sh_27 (by decide) rfl (by decide) (s_40 hW g79592 ⟨by omega, by omega⟩ ⟨by omega, by omega⟩) (fun R79593 T79594 H79595 p79596 => ?_))
        obtain ⟨e79597, w79599, f79600, e79598⟩ := p79596
        subst e79597
        subst e79598
        have f79601 := f0.tr f79600 rfl
        show wp _ _ 153 39 [(0, .ref r0), (1, vI a1), (2, vI a2)] [] _ H79595 _
        refine wp_of e153 c153_39 (rw_aload_n (pc' := 40) (v := .ref r0) rfl rfl rfl ?_)
        refine wp_of e153 c153_40 (xg_R (pc' := 43) lf_0_30 w79599 g0 sh_1 (by decide) (by decide) ty_1_3 rfl rfl (fun r79602 q79603 g79604 => ?_))
        refine wp_of e153 c153_43 (xc_V (pc' := 46) (r := r79602) (as := []) (st := []) (lm_0_93) rfl rfl (Nat.le_of_ble_eq_true rfl) w79599 g79604 sh_12 (by decide) rfl (by decide) (s_50 w79599 g79604) (fun R79605 T79606 H79607 p79608 => ?_))
        obtain ⟨e79609, w79611, f79612, e79610⟩ := p79608
        subst e79609
        subst e79610
        have f79613 := f79601.tr f79612 rfl
        show wp _ _ 153 46 [(0, .ref r0), (1, vI a1), (2, vI a2)] [] _ H79607 _
        refine wp_of e153 c153_46 (rw_aload_n (pc' := 47) (v := .ref r0) rfl rfl rfl ?_)
        refine wp_of e153 c153_47 (rw_aload_n (pc' := 48) (v := .ref r0) rfl rfl rfl ?_)
        have k79614 : H79607 r0 6 = H r0 6 := ((f79612 r0 6 _ g0 rfl).trans (f79600 r0 6 _ g0 rfl))
        have q79615 : H79607 r0 6 = (r79590 : Int) := k79614.trans q79591
        refine wp_of e153 c153_48 (xg_K (pc' := 51) lf_0_51 w79611 g0 sh_1 (by decide) (by decide) rfl q79615 rfl ?_)
        refine wp_of e153 c153_51 (xg_I (pc' := 54) lf_0_295 w79611 g79592 sh_27 (by decide) (by decide) ty_27_16 rfl rfl (fun b79616 b79617 => ?_))
        refine wp_of e153 c153_54 (xc_V (pc' := 57) (r := r0) (as := [vI (H79607 r79590 16)]) (st := []) (lm_0_99) rfl rfl (Nat.le_of_ble_eq_true rfl) w79611 g0 sh_1 (by decide) rfl (by decide) (s_51 w79611 g0 ⟨by omega, by omega⟩) (fun R79618 T79619 H79620 p79621 => ?_))
        obtain ⟨e79622, w79624, f79625, z79626, e79623, b79627⟩ := p79621
        subst e79622
        subst e79623
        have f79628 := f79613.tr f79625 rfl
        show wp _ _ 153 57 [(0, .ref r0), (1, vI a1), (2, vI a2)] [vI z79626] _ H79620 _
        exact wp_ireturn e153 c153_57 rfl ⟨rfl, w79624, f79628, z79626, rfl, ⟨by omega, by omega⟩⟩
      · refine wp_of e153 c153_24 (rw_aload_n (pc' := 25) (v := .ref r0) rfl rfl rfl ?_)
        refine wp_of e153 c153_25 (rw_iconst (pc' := 26) rfl ?_)
        refine wp_of e153 c153_26 (xc_V (pc' := 29) (r := r0) (as := [vI 2]) (st := []) (lm_0_70) rfl rfl (Nat.le_of_ble_eq_true rfl) hW g0 sh_1 (by decide) rfl (by decide) (s_12 hW g0 ⟨by omega, by omega⟩) (fun R79629 T79630 H79631 p79632 => ?_))
        obtain ⟨e79633, w79635, f79636, z79637, e79634, b79638⟩ := p79632
        subst e79633
        subst e79634
        have f79639 := f0.tr f79636 rfl
        show wp _ _ 153 29 [(0, .ref r0), (1, vI a1), (2, vI a2)] [vI z79637] _ H79631 _
        exact wp_ireturn e153 c153_29 rfl ⟨rfl, w79635, f79639, z79637, rfl, ⟨by omega, by omega⟩⟩
  · refine wp_of e153 c153_8 (rw_aload_n (pc' := 9) (v := .ref r0) rfl rfl rfl ?_)
    refine wp_of e153 c153_9 (rw_iconst (pc' := 10) rfl ?_)
    refine wp_of e153 c153_10 (xc_V (pc' := 13) (r := r0) (as := [vI 1]) (st := []) (lm_0_70) rfl rfl (Nat.le_of_ble_eq_true rfl) hW g0 sh_1 (by decide) rfl (by decide) (s_12 hW g0 ⟨by omega, by omega⟩) (fun R79640 T79641 H79642 p79643 => ?_))
    obtain ⟨e79644, w79646, f79647, z79648, e79645, b79649⟩ := p79643
    subst e79644
    subst e79645
    have f79650 := f0.tr f79647 rfl
    show wp _ _ 153 13 [(0, .ref r0), (1, vI a1), (2, vI a2)] [vI z79648] _ H79642 _
    exact wp_ireturn e153 c153_13 rfl ⟨rfl, w79646, f79650, z79648, rfl, ⟨by omega, by omega⟩⟩
/-! StrikeAwake.still(I)Z -/
theorem e154 : wq_en 154 = some (0, 2, false, some FieldType.boolean) := rfl
theorem c154_0 : mc_cd 154 0 = some (.aload_n 0, 1) := by decide +kernel
theorem c154_1 : mc_cd 154 1 = some (.iload_n 1, 1) := by decide +kernel
theorem c154_2 : mc_cd 154 2 = some (.invokevirtual 132, 3) := by decide +kernel
theorem c154_5 : mc_cd 154 5 = some (.ifCond .eq 15, 3) := by decide +kernel
theorem c154_8 : mc_cd 154 8 = some (.aload_n 0, 1) := by decide +kernel
theorem c154_9 : mc_cd 154 9 = some (.getfield 51, 3) := by decide +kernel
theorem c154_12 : mc_cd 154 12 = some (.getfield 262, 3) := by decide +kernel
theorem c154_15 : mc_cd 154 15 = some (.iload_n 1, 1) := by decide +kernel
theorem c154_16 : mc_cd 154 16 = some (.iaload, 1) := by decide +kernel
theorem c154_17 : mc_cd 154 17 = some (.ifCond .ge 9, 3) := by decide +kernel
theorem c154_20 : mc_cd 154 20 = some (.aload_n 0, 1) := by decide +kernel
theorem c154_21 : mc_cd 154 21 = some (.iconst 1, 1) := by decide +kernel
theorem c154_22 : mc_cd 154 22 = some (.invokevirtual 145, 3) := by decide +kernel
theorem c154_25 : mc_cd 154 25 = some (.ireturn, 1) := by decide +kernel
theorem c154_26 : mc_cd 154 26 = some (.aload_n 0, 1) := by decide +kernel
theorem c154_27 : mc_cd 154 27 = some (.getfield 51, 3) := by decide +kernel
theorem c154_30 : mc_cd 154 30 = some (.iload_n 1, 1) := by decide +kernel
theorem c154_31 : mc_cd 154 31 = some (.bipush (-2), 2) := by decide +kernel
theorem c154_33 : mc_cd 154 33 = some (.invokevirtual 291, 3) := by decide +kernel
theorem c154_36 : mc_cd 154 36 = some (.aload_n 0, 1) := by decide +kernel
theorem c154_37 : mc_cd 154 37 = some (.getfield 30, 3) := by decide +kernel
theorem c154_40 : mc_cd 154 40 = some (.invokevirtual 93, 3) := by decide +kernel
theorem c154_43 : mc_cd 154 43 = some (.aload_n 0, 1) := by decide +kernel
theorem c154_44 : mc_cd 154 44 = some (.invokevirtual 151, 3) := by decide +kernel
theorem c154_47 : mc_cd 154 47 = some (.ireturn, 1) := by decide +kernel
abbrev q_154 (r0 : Nat) (a1 : Int) (T : wq_T) (H : wq_H) : Option Value → wq_T → wq_H → Prop := fun r T' H' => T = T' ∧ WT T H' ∧ wfr [(12, 9), (27, 16), (1, 10), (29, 999), (30, 999)] T H H' ∧ ∃ z : Int, some (vI z) = r ∧ (0 ≤ z ∧ z ≤ 1)
set_option maxHeartbeats 4000000 in
theorem s_154 {kt : Nat → Option mc_E} {T : wq_T} {H : wq_H} {r0 : Nat} {a1 : Int} (hW : WT T H) (g0 : T.2.2.2 r0 = some 1) (i1 : (-2147483648) ≤ a1 ∧ a1 ≤ 2147483647) : wpc kt 3 154 [.ref r0, vI a1] T H (q_154 r0 a1 T H) := by
  refine wp_enter e154 (Nat.le_of_ble_eq_true rfl) rfl ?_
  have f0 : wfr [(12, 9), (27, 16), (1, 10), (29, 999), (30, 999)] T H H := wfr.rf
  show wp _ _ 154 0 [(0, .ref r0), (1, vI a1)] [] _ H _
  refine wp_of e154 c154_0 (rw_aload_n (pc' := 1) (v := .ref r0) rfl rfl rfl ?_)
  refine wp_of e154 c154_1 (rw_iload_n (pc' := 2) (z := a1) rfl rfl ?_)
  refine wp_of e154 c154_2 (xc_V (pc' := 5) (r := r0) (as := [vI a1]) (st := []) (lm_0_132) rfl rfl (Nat.le_of_ble_eq_true rfl) hW g0 sh_1 (by decide) rfl (by decide) (s_60 hW g0 ⟨by omega, by omega⟩) (fun R79725 T79726 H79727 p79728 => ?_))
  obtain ⟨e79729, e79731, z79733, e79730, b79734, p79732⟩ := p79728
  subst e79729
  subst e79730
  subst e79731
  show wp _ _ 154 5 [(0, .ref r0), (1, vI a1)] [vI z79733] _ H _
  refine wp_of e154 c154_5 (rw_if_eq (p1 := 20) (p2 := 8) (by decide) rfl ⟨by omega, by omega⟩ (fun c79735 => ?_) (fun c79735 => ?_))
  · refine wp_of e154 c154_20 (rw_aload_n (pc' := 21) (v := .ref r0) rfl rfl rfl ?_)
    refine wp_of e154 c154_21 (rw_iconst (pc' := 22) rfl ?_)
    refine wp_of e154 c154_22 (xc_V (pc' := 25) (r := r0) (as := [vI 1]) (st := []) (lm_0_145) rfl rfl (Nat.le_of_ble_eq_true rfl) hW g0 sh_1 (by decide) rfl (by decide) (s_63 hW g0 ⟨by omega, by omega⟩) (fun R79736 T79737 H79738 p79739 => ?_))
    obtain ⟨e79740, w79742, f79743, z79744, e79741, b79745⟩ := p79739
    subst e79740
    subst e79741
    have f79746 := f0.tr f79743 rfl
    show wp _ _ 154 25 [(0, .ref r0), (1, vI a1)] [vI z79744] _ H79738 _
    exact wp_zreturn e154 c154_25 rfl (by omega) ⟨rfl, w79742, f79746, z79744, rfl, ⟨by omega, by omega⟩⟩
  · refine wp_of e154 c154_8 (rw_aload_n (pc' := 9) (v := .ref r0) rfl rfl rfl ?_)
    refine wp_of e154 c154_9 (xg_R (pc' := 12) lf_0_51 hW g0 sh_1 (by decide) (by decide) ty_1_6 rfl rfl (fun r79747 q79748 g79749 => ?_))
    refine wp_of e154 c154_12 (xg_R (pc' := 15) lf_0_262 hW g79749 sh_27 (by decide) (by decide) ty_27_1 rfl rfl (fun r79750 q79751 g79752 => ?_))
    refine wp_of e154 c154_15 (rw_iload_n (pc' := 16) (z := a1) rfl rfl ?_)
    refine wp_of e154 c154_16 (xa_I (so := 0) (pc' := 17) hW g79752 sh_29 (by decide) (ty_29 _) (by omega) (by omega) rfl (fun b79753 b79754 => ?_))
    refine wp_of e154 c154_17 (rw_if_ge (p1 := 26) (p2 := 20) (by decide) rfl ⟨by omega, by omega⟩ (fun c79755 => ?_) (fun c79755 => ?_))
    · refine wp_of e154 c154_26 (rw_aload_n (pc' := 27) (v := .ref r0) rfl rfl rfl ?_)
      refine wp_of e154 c154_27 (xg_K (pc' := 30) lf_0_51 hW g0 sh_1 (by decide) (by decide) rfl q79748 rfl ?_)
      refine wp_of e154 c154_30 (rw_iload_n (pc' := 31) (z := a1) rfl rfl ?_)
      refine wp_of e154 c154_31 (rw_bipush (pc' := 33) (z := -2) rfl (by decide) ?_)
      refine wp_of e154 c154_33 (xc_V (pc' := 36) (r := r79747) (as := [vI a1, vI (-2)]) (st := []) (lm_0_291) rfl rfl (Nat.le_of_ble_eq_true rfl) hW g79749 sh_27 (by decide) rfl (by decide) (s_40 hW g79749 ⟨by omega, by omega⟩ ⟨by omega, by omega⟩) (fun R79756 T79757 H79758 p79759 => ?_))
      obtain ⟨e79760, w79762, f79763, e79761⟩ := p79759
      subst e79760
      subst e79761
      have f79764 := f0.tr f79763 rfl
      show wp _ _ 154 36 [(0, .ref r0), (1, vI a1)] [] _ H79758 _
      refine wp_of e154 c154_36 (rw_aload_n (pc' := 37) (v := .ref r0) rfl rfl rfl ?_)
      refine wp_of e154 c154_37 (xg_R (pc' := 40) lf_0_30 w79762 g0 sh_1 (by decide) (by decide) ty_1_3 rfl rfl (fun r79765 q79766 g79767 => ?_))
      refine wp_of e154 c154_40 (xc_V (pc' := 43) (r := r79765) (as := []) (st := []) (lm_0_93) rfl rfl (Nat.le_of_ble_eq_true rfl) w79762 g79767 sh_12 (by decide) rfl (by decide) (s_50 w79762 g79767) (fun R79768 T79769 H79770 p79771 => ?_))
      obtain ⟨e79772, w79774, f79775, e79773⟩ := p79771
      subst e79772
      subst e79773
      have f79776 := f79764.tr f79775 rfl
      show wp _ _ 154 43 [(0, .ref r0), (1, vI a1)] [] _ H79770 _
      refine wp_of e154 c154_43 (rw_aload_n (pc' := 44) (v := .ref r0) rfl rfl rfl ?_)
      refine wp_of e154 c154_44 (xc_V (pc' := 47) (r := r0) (as := []) (st := []) (lm_0_151) rfl rfl (Nat.le_of_ble_eq_true rfl) w79774 g0 sh_1 (by decide) rfl (by decide) (s_64 w79774 g0) (fun R79777 T79778 H79779 p79780 => ?_))
      obtain ⟨e79781, w79783, f79784, z79785, e79782, b79786⟩ := p79780
      subst e79781
      subst e79782
      have f79787 := f79776.tr f79784 rfl
      show wp _ _ 154 47 [(0, .ref r0), (1, vI a1)] [vI z79785] _ H79779 _
      exact wp_zreturn e154 c154_47 rfl (by omega) ⟨rfl, w79783, f79787, z79785, rfl, ⟨by omega, by omega⟩⟩
    · refine wp_of e154 c154_20 (rw_aload_n (pc' := 21) (v := .ref r0) rfl rfl rfl ?_)
      refine wp_of e154 c154_21 (rw_iconst (pc' := 22) rfl ?_)
      refine wp_of e154 c154_22 (xc_V (pc' := 25) (r := r0) (as := [vI 1]) (st := []) (lm_0_145) rfl rfl (Nat.le_of_ble_eq_true rfl) hW g0 sh_1 (by decide) rfl (by decide) (s_63 hW g0 ⟨by omega, by omega⟩) (fun R79788 T79789 H79790 p79791 => ?_))
      obtain ⟨e79792, w79794, f79795, z79796, e79793, b79797⟩ := p79791
      subst e79792
      subst e79793
      have f79798 := f0.tr f79795 rfl
      show wp _ _ 154 25 [(0, .ref r0), (1, vI a1)] [vI z79796] _ H79790 _
      exact wp_zreturn e154 c154_25 rfl (by omega) ⟨rfl, w79794, f79798, z79796, rfl, ⟨by omega, by omega⟩⟩
/-! StrikeAwake.struck(I)I -/
theorem e155 : wq_en 155 = some (0, 2, false, some FieldType.int) := rfl
theorem c155_0 : mc_cd 155 0 = some (.aload_n 0, 1) := by decide +kernel
theorem c155_1 : mc_cd 155 1 = some (.iload_n 1, 1) := by decide +kernel
theorem c155_2 : mc_cd 155 2 = some (.invokevirtual 132, 3) := by decide +kernel
theorem c155_5 : mc_cd 155 5 = some (.ifCond .ne 9, 3) := by decide +kernel
theorem c155_8 : mc_cd 155 8 = some (.aload_n 0, 1) := by decide +kernel
theorem c155_9 : mc_cd 155 9 = some (.iconst 1, 1) := by decide +kernel
theorem c155_10 : mc_cd 155 10 = some (.invokevirtual 70, 3) := by decide +kernel
theorem c155_13 : mc_cd 155 13 = some (.ireturn, 1) := by decide +kernel
theorem c155_14 : mc_cd 155 14 = some (.aload_n 0, 1) := by decide +kernel
theorem c155_15 : mc_cd 155 15 = some (.aload_n 0, 1) := by decide +kernel
theorem c155_16 : mc_cd 155 16 = some (.getfield 51, 3) := by decide +kernel
theorem c155_19 : mc_cd 155 19 = some (.getfield 262, 3) := by decide +kernel
theorem c155_22 : mc_cd 155 22 = some (.iload_n 1, 1) := by decide +kernel
theorem c155_23 : mc_cd 155 23 = some (.iaload, 1) := by decide +kernel
theorem c155_24 : mc_cd 155 24 = some (.invokevirtual 99, 3) := by decide +kernel
theorem c155_27 : mc_cd 155 27 = some (.ireturn, 1) := by decide +kernel
abbrev q_155 (r0 : Nat) (a1 : Int) (T : wq_T) (H : wq_H) : Option Value → wq_T → wq_H → Prop := fun r T' H' => T = T' ∧ WT T H' ∧ wfr [(1, 10)] T H H' ∧ ∃ z : Int, some (vI z) = r ∧ ((-2147483648) ≤ z ∧ z ≤ 2147483647)
set_option maxHeartbeats 4000000 in
theorem s_155 {kt : Nat → Option mc_E} {T : wq_T} {H : wq_H} {r0 : Nat} {a1 : Int} (hW : WT T H) (g0 : T.2.2.2 r0 = some 1) (i1 : (-2147483648) ≤ a1 ∧ a1 ≤ 2147483647) : wpc kt 2 155 [.ref r0, vI a1] T H (q_155 r0 a1 T H) := by
  refine wp_enter e155 (Nat.le_of_ble_eq_true rfl) rfl ?_
  have f0 : wfr [(1, 10)] T H H := wfr.rf
  show wp _ _ 155 0 [(0, .ref r0), (1, vI a1)] [] _ H _
  refine wp_of e155 c155_0 (rw_aload_n (pc' := 1) (v := .ref r0) rfl rfl rfl ?_)
  refine wp_of e155 c155_1 (rw_iload_n (pc' := 2) (z := a1) rfl rfl ?_)
  refine wp_of e155 c155_2 (xc_V (pc' := 5) (r := r0) (as := [vI a1]) (st := []) (lm_0_132) rfl rfl (Nat.le_of_ble_eq_true rfl) hW g0 sh_1 (by decide) rfl (by decide) (s_60 hW g0 ⟨by omega, by omega⟩) (fun R79840 T79841 H79842 p79843 => ?_))
  obtain ⟨e79844, e79846, z79848, e79845, b79849, p79847⟩ := p79843
  subst e79844
  subst e79845
  subst e79846
  show wp _ _ 155 5 [(0, .ref r0), (1, vI a1)] [vI z79848] _ H _
  refine wp_of e155 c155_5 (rw_if_ne (p1 := 14) (p2 := 8) (by decide) rfl ⟨by omega, by omega⟩ (fun c79850 => ?_) (fun c79850 => ?_))
  · refine wp_of e155 c155_14 (rw_aload_n (pc' := 15) (v := .ref r0) rfl rfl rfl ?_)
    refine wp_of e155 c155_15 (rw_aload_n (pc' := 16) (v := .ref r0) rfl rfl rfl ?_)
    refine wp_of e155 c155_16 (xg_R (pc' := 19) lf_0_51 hW g0 sh_1 (by decide) (by decide) ty_1_6 rfl rfl (fun r79851 q79852 g79853 => ?_))
    refine wp_of e155 c155_19 (xg_R (pc' := 22) lf_0_262 hW g79853 sh_27 (by decide) (by decide) ty_27_1 rfl rfl (fun r79854 q79855 g79856 => ?_))
    refine wp_of e155 c155_22 (rw_iload_n (pc' := 23) (z := a1) rfl rfl ?_)
    refine wp_of e155 c155_23 (xa_I (so := 0) (pc' := 24) hW g79856 sh_29 (by decide) (ty_29 _) (by omega) (by omega) rfl (fun b79857 b79858 => ?_))
    refine wp_of e155 c155_24 (xc_V (pc' := 27) (r := r0) (as := [vI (H r79854 (a1.toNat))]) (st := []) (lm_0_99) rfl rfl (Nat.le_of_ble_eq_true rfl) hW g0 sh_1 (by decide) rfl (by decide) (s_51 hW g0 ⟨by omega, by omega⟩) (fun R79859 T79860 H79861 p79862 => ?_))
    obtain ⟨e79863, w79865, f79866, z79867, e79864, b79868⟩ := p79862
    subst e79863
    subst e79864
    have f79869 := f0.tr f79866 rfl
    show wp _ _ 155 27 [(0, .ref r0), (1, vI a1)] [vI z79867] _ H79861 _
    exact wp_ireturn e155 c155_27 rfl ⟨rfl, w79865, f79869, z79867, rfl, ⟨by omega, by omega⟩⟩
  · refine wp_of e155 c155_8 (rw_aload_n (pc' := 9) (v := .ref r0) rfl rfl rfl ?_)
    refine wp_of e155 c155_9 (rw_iconst (pc' := 10) rfl ?_)
    refine wp_of e155 c155_10 (xc_V (pc' := 13) (r := r0) (as := [vI 1]) (st := []) (lm_0_70) rfl rfl (Nat.le_of_ble_eq_true rfl) hW g0 sh_1 (by decide) rfl (by decide) (s_12 hW g0 ⟨by omega, by omega⟩) (fun R79870 T79871 H79872 p79873 => ?_))
    obtain ⟨e79874, w79876, f79877, z79878, e79875, b79879⟩ := p79873
    subst e79874
    subst e79875
    have f79880 := f0.tr f79877 rfl
    show wp _ _ 155 13 [(0, .ref r0), (1, vI a1)] [vI z79878] _ H79872 _
    exact wp_ireturn e155 c155_13 rfl ⟨rfl, w79876, f79880, z79878, rfl, ⟨by omega, by omega⟩⟩
/-! StrikeAwake.seek()I -/
theorem e156 : wq_en 156 = some (0, 3, false, some FieldType.int) := rfl
theorem c156_0 : mc_cd 156 0 = some (.aload_n 0, 1) := by decide +kernel
theorem c156_1 : mc_cd 156 1 = some (.aload_n 0, 1) := by decide +kernel
theorem c156_2 : mc_cd 156 2 = some (.getfield 58, 3) := by decide +kernel
theorem c156_5 : mc_cd 156 5 = some (.invokevirtual 174, 3) := by decide +kernel
theorem c156_8 : mc_cd 156 8 = some (.istore_n 1, 1) := by decide +kernel
theorem c156_9 : mc_cd 156 9 = some (.iload_n 1, 1) := by decide +kernel
theorem c156_10 : mc_cd 156 10 = some (.ifCond .eq 9, 3) := by decide +kernel
theorem c156_13 : mc_cd 156 13 = some (.aload_n 0, 1) := by decide +kernel
theorem c156_14 : mc_cd 156 14 = some (.iload_n 1, 1) := by decide +kernel
theorem c156_15 : mc_cd 156 15 = some (.invokevirtual 70, 3) := by decide +kernel
theorem c156_18 : mc_cd 156 18 = some (.ireturn, 1) := by decide +kernel
theorem c156_19 : mc_cd 156 19 = some (.aload_n 0, 1) := by decide +kernel
theorem c156_20 : mc_cd 156 20 = some (.getfield 30, 3) := by decide +kernel
theorem c156_23 : mc_cd 156 23 = some (.aload_n 0, 1) := by decide +kernel
theorem c156_24 : mc_cd 156 24 = some (.getfield 51, 3) := by decide +kernel
theorem c156_27 : mc_cd 156 27 = some (.getfield 298, 3) := by decide +kernel
theorem c156_30 : mc_cd 156 30 = some (.aload_n 0, 1) := by decide +kernel
theorem c156_31 : mc_cd 156 31 = some (.getfield 51, 3) := by decide +kernel
theorem c156_34 : mc_cd 156 34 = some (.invokevirtual 301, 3) := by decide +kernel
theorem c156_37 : mc_cd 156 37 = some (.istore_n 2, 1) := by decide +kernel
theorem c156_38 : mc_cd 156 38 = some (.iload_n 2, 1) := by decide +kernel
theorem c156_39 : mc_cd 156 39 = some (.ifCond .ge 10, 3) := by decide +kernel
theorem c156_42 : mc_cd 156 42 = some (.aload_n 0, 1) := by decide +kernel
theorem c156_43 : mc_cd 156 43 = some (.bipush 6, 2) := by decide +kernel
theorem c156_45 : mc_cd 156 45 = some (.invokevirtual 70, 3) := by decide +kernel
theorem c156_48 : mc_cd 156 48 = some (.ireturn, 1) := by decide +kernel
theorem c156_49 : mc_cd 156 49 = some (.aload_n 0, 1) := by decide +kernel
theorem c156_50 : mc_cd 156 50 = some (.getfield 51, 3) := by decide +kernel
theorem c156_53 : mc_cd 156 53 = some (.iload_n 2, 1) := by decide +kernel
theorem c156_54 : mc_cd 156 54 = some (.iconst 1, 1) := by decide +kernel
theorem c156_55 : mc_cd 156 55 = some (.iadd, 1) := by decide +kernel
theorem c156_56 : mc_cd 156 56 = some (.putfield 298, 3) := by decide +kernel
theorem c156_59 : mc_cd 156 59 = some (.aload_n 0, 1) := by decide +kernel
theorem c156_60 : mc_cd 156 60 = some (.iload_n 2, 1) := by decide +kernel
theorem c156_61 : mc_cd 156 61 = some (.invokevirtual 99, 3) := by decide +kernel
theorem c156_64 : mc_cd 156 64 = some (.ireturn, 1) := by decide +kernel
abbrev q_156 (r0 : Nat) (T : wq_T) (H : wq_H) : Option Value → wq_T → wq_H → Prop := fun r T' H' => T = T' ∧ WT T H' ∧ wfr [(12, 5), (12, 6), (12, 7), (12, 8), (12, 9), (27, 17), (1, 10), (6, 5), (8, 999), (10, 999), (15, 999), (9, 999), (18, 999), (19, 999), (7, 999), (11, 999), (17, 999), (13, 999)] T H H' ∧ ∃ z : Int, some (vI z) = r ∧ ((-2147483648) ≤ z ∧ z ≤ 2147483647)
set_option maxHeartbeats 4000000 in
theorem s_156 {kt : Nat → Option mc_E} {T : wq_T} {H : wq_H} {r0 : Nat} (hW : WT T H) (g0 : T.2.2.2 r0 = some 1) : wpc kt 6 156 [.ref r0] T H (q_156 r0 T H) := by
  refine wp_enter e156 (Nat.le_of_ble_eq_true rfl) rfl ?_
  have f0 : wfr [(12, 5), (12, 6), (12, 7), (12, 8), (12, 9), (27, 17), (1, 10), (6, 5), (8, 999), (10, 999), (15, 999), (9, 999), (18, 999), (19, 999), (7, 999), (11, 999), (17, 999), (13, 999)] T H H := wfr.rf
  show wp _ _ 156 0 [(0, .ref r0)] [] _ H _
  refine wp_of e156 c156_0 (rw_aload_n (pc' := 1) (v := .ref r0) rfl rfl rfl ?_)
  refine wp_of e156 c156_1 (rw_aload_n (pc' := 2) (v := .ref r0) rfl rfl rfl ?_)
  refine wp_of e156 c156_2 (xg_I (pc' := 5) lf_0_58 hW g0 sh_1 (by decide) (by decide) ty_1_8 rfl rfl (fun b79952 b79953 => ?_))
  refine wp_of e156 c156_5 (xc_V (pc' := 8) (r := r0) (as := [vI (H r0 8)]) (st := []) (lm_0_174) rfl rfl (Nat.le_of_ble_eq_true rfl) hW g0 sh_1 (by decide) rfl (by decide) (s_83 hW g0 ⟨by omega, by omega⟩) (fun R79954 T79955 H79956 p79957 => ?_))
  obtain ⟨e79958, w79960, f79961, z79963, e79959, b79964, p79962⟩ := p79957
  subst e79958
  subst e79959
  have f79965 := f0.tr f79961 rfl
  show wp _ _ 156 8 [(0, .ref r0)] [vI z79963] _ H79956 _
  refine wp_of e156 c156_8 (rw_istore_n (pc' := 9) (z := z79963) (L' := [(1, vI z79963), (0, .ref r0)]) rfl rfl rfl ?_)
  refine wp_of e156 c156_9 (rw_iload_n (pc' := 10) (z := z79963) rfl rfl ?_)
  refine wp_of e156 c156_10 (rw_if_eq (p1 := 19) (p2 := 13) (by decide) rfl ⟨by omega, by omega⟩ (fun c79966 => ?_) (fun c79966 => ?_))
  · refine wp_of e156 c156_19 (rw_aload_n (pc' := 20) (v := .ref r0) rfl rfl rfl ?_)
    refine wp_of e156 c156_20 (xg_R (pc' := 23) lf_0_30 w79960 g0 sh_1 (by decide) (by decide) ty_1_3 rfl rfl (fun r79967 q79968 g79969 => ?_))
    refine wp_of e156 c156_23 (rw_aload_n (pc' := 24) (v := .ref r0) rfl rfl rfl ?_)
    refine wp_of e156 c156_24 (xg_R (pc' := 27) lf_0_51 w79960 g0 sh_1 (by decide) (by decide) ty_1_6 rfl rfl (fun r79970 q79971 g79972 => ?_))
    refine wp_of e156 c156_27 (xg_I (pc' := 30) lf_0_298 w79960 g79972 sh_27 (by decide) (by decide) ty_27_17 rfl rfl (fun b79973 b79974 => ?_))
    refine wp_of e156 c156_30 (rw_aload_n (pc' := 31) (v := .ref r0) rfl rfl rfl ?_)
    refine wp_of e156 c156_31 (xg_K (pc' := 34) lf_0_51 w79960 g0 sh_1 (by decide) (by decide) rfl q79971 rfl ?_)
    refine wp_of e156 c156_34 (xc_V (pc' := 37) (r := r79967) (as := [vI (H79956 r79970 17), .ref r79970]) (st := []) (lm_0_301) rfl rfl (Nat.le_of_ble_eq_true rfl) w79960 g79969 sh_12 (by decide) rfl (by decide) (s_124 w79960 g79969 ⟨by omega, by omega⟩ g79972) (fun R79975 T79976 H79977 p79978 => ?_))
    obtain ⟨e79979, e79981, z79982, e79980, b79983⟩ := p79978
    subst e79979
    subst e79980
    subst e79981
    show wp _ _ 156 37 [(1, vI z79963), (0, .ref r0)] [vI z79982] _ H79956 _
    refine wp_of e156 c156_37 (rw_istore_n (pc' := 38) (z := z79982) (L' := [(2, vI z79982), (1, vI z79963), (0, .ref r0)]) rfl rfl rfl ?_)
    refine wp_of e156 c156_38 (rw_iload_n (pc' := 39) (z := z79982) rfl rfl ?_)
    refine wp_of e156 c156_39 (rw_if_ge (p1 := 49) (p2 := 42) (by decide) rfl ⟨by omega, by omega⟩ (fun c79984 => ?_) (fun c79984 => ?_))
    · refine wp_of e156 c156_49 (rw_aload_n (pc' := 50) (v := .ref r0) rfl rfl rfl ?_)
      refine wp_of e156 c156_50 (xg_K (pc' := 53) lf_0_51 w79960 g0 sh_1 (by decide) (by decide) rfl q79971 rfl ?_)
      refine wp_of e156 c156_53 (rw_iload_n (pc' := 54) (z := z79982) rfl rfl ?_)
      refine wp_of e156 c156_54 (rw_iconst (pc' := 55) rfl ?_)
      refine wp_of e156 c156_55 (rw_iadd (pc' := 56) rfl ?_)
      refine wp_of e156 c156_56 (xp_I (pc' := 59) lf_0_298 w79960 g79972 sh_27 (by decide) (by decide) ty_27_17 rfl rfl (by omega) (by omega) ⟨by omega, by omega⟩ rfl (fun H79985 e79986 w79987 => ?_))
      have f79988 := f79965.put' e79986 g79972 rfl
      have k79989 : H79985 r79970 17 = z79982 + 1 := wq_u_s e79986
      refine wp_of e156 c156_59 (rw_aload_n (pc' := 60) (v := .ref r0) rfl rfl rfl ?_)
      refine wp_of e156 c156_60 (rw_iload_n (pc' := 61) (z := z79982) rfl rfl ?_)
      refine wp_of e156 c156_61 (xc_V (pc' := 64) (r := r0) (as := [vI z79982]) (st := []) (lm_0_99) rfl rfl (Nat.le_of_ble_eq_true rfl) w79987 g0 sh_1 (by decide) rfl (by decide) (s_51 w79987 g0 ⟨by omega, by omega⟩) (fun R79990 T79991 H79992 p79993 => ?_))
      obtain ⟨e79994, w79996, f79997, z79998, e79995, b79999⟩ := p79993
      subst e79994
      subst e79995
      have f80000 := f79988.tr f79997 rfl
      show wp _ _ 156 64 [(2, vI z79982), (1, vI z79963), (0, .ref r0)] [vI z79998] _ H79992 _
      exact wp_ireturn e156 c156_64 rfl ⟨rfl, w79996, f80000, z79998, rfl, ⟨by omega, by omega⟩⟩
    · refine wp_of e156 c156_42 (rw_aload_n (pc' := 43) (v := .ref r0) rfl rfl rfl ?_)
      refine wp_of e156 c156_43 (rw_bipush (pc' := 45) (z := 6) rfl (by decide) ?_)
      refine wp_of e156 c156_45 (xc_V (pc' := 48) (r := r0) (as := [vI 6]) (st := []) (lm_0_70) rfl rfl (Nat.le_of_ble_eq_true rfl) w79960 g0 sh_1 (by decide) rfl (by decide) (s_12 w79960 g0 ⟨by omega, by omega⟩) (fun R80001 T80002 H80003 p80004 => ?_))
      obtain ⟨e80005, w80007, f80008, z80009, e80006, b80010⟩ := p80004
      subst e80005
      subst e80006
      have f80011 := f79965.tr f80008 rfl
      show wp _ _ 156 48 [(2, vI z79982), (1, vI z79963), (0, .ref r0)] [vI z80009] _ H80003 _
      exact wp_ireturn e156 c156_48 rfl ⟨rfl, w80007, f80011, z80009, rfl, ⟨by omega, by omega⟩⟩
  · refine wp_of e156 c156_13 (rw_aload_n (pc' := 14) (v := .ref r0) rfl rfl rfl ?_)
    refine wp_of e156 c156_14 (rw_iload_n (pc' := 15) (z := z79963) rfl rfl ?_)
    refine wp_of e156 c156_15 (xc_V (pc' := 18) (r := r0) (as := [vI z79963]) (st := []) (lm_0_70) rfl rfl (Nat.le_of_ble_eq_true rfl) w79960 g0 sh_1 (by decide) rfl (by decide) (s_12 w79960 g0 ⟨by omega, by omega⟩) (fun R80012 T80013 H80014 p80015 => ?_))
    obtain ⟨e80016, w80018, f80019, z80020, e80017, b80021⟩ := p80015
    subst e80016
    subst e80017
    have f80022 := f79965.tr f80019 rfl
    show wp _ _ 156 18 [(1, vI z79963), (0, .ref r0)] [vI z80020] _ H80014 _
    exact wp_ireturn e156 c156_18 rfl ⟨rfl, w80018, f80022, z80020, rfl, ⟨by omega, by omega⟩⟩
/-! StrikeAwake.lot(II)I -/
theorem e157 : wq_en 157 = some (0, 4, false, some FieldType.int) := rfl
theorem c157_0 : mc_cd 157 0 = some (.aload_n 0, 1) := by decide +kernel
theorem c157_1 : mc_cd 157 1 = some (.aload_n 0, 1) := by decide +kernel
theorem c157_2 : mc_cd 157 2 = some (.iload_n 2, 1) := by decide +kernel
theorem c157_3 : mc_cd 157 3 = some (.invokevirtual 105, 3) := by decide +kernel
theorem c157_6 : mc_cd 157 6 = some (.ifCond .eq 24, 3) := by decide +kernel
theorem c157_9 : mc_cd 157 9 = some (.iload_n 1, 1) := by decide +kernel
theorem c157_10 : mc_cd 157 10 = some (.ifCond .lt 20, 3) := by decide +kernel
theorem c157_13 : mc_cd 157 13 = some (.iload_n 1, 1) := by decide +kernel
theorem c157_14 : mc_cd 157 14 = some (.i2l, 1) := by decide +kernel
theorem c157_15 : mc_cd 157 15 = some (.aload_n 0, 1) := by decide +kernel
theorem c157_16 : mc_cd 157 16 = some (.getfield 51, 3) := by decide +kernel
theorem c157_19 : mc_cd 157 19 = some (.getfield 141, 3) := by decide +kernel
theorem c157_22 : mc_cd 157 22 = some (.lcmp, 1) := by decide +kernel
theorem c157_23 : mc_cd 157 23 = some (.ifCond .ge 7, 3) := by decide +kernel
theorem c157_26 : mc_cd 157 26 = some (.iconst 1, 1) := by decide +kernel
theorem c157_27 : mc_cd 157 27 = some (.goto 4, 3) := by decide +kernel
theorem c157_30 : mc_cd 157 30 = some (.iconst 0, 1) := by decide +kernel
theorem c157_31 : mc_cd 157 31 = some (.invokevirtual 245, 3) := by decide +kernel
theorem c157_34 : mc_cd 157 34 = some (.istore_n 3, 1) := by decide +kernel
theorem c157_35 : mc_cd 157 35 = some (.iload_n 3, 1) := by decide +kernel
theorem c157_36 : mc_cd 157 36 = some (.ifCond .eq 9, 3) := by decide +kernel
theorem c157_39 : mc_cd 157 39 = some (.aload_n 0, 1) := by decide +kernel
theorem c157_40 : mc_cd 157 40 = some (.iload_n 3, 1) := by decide +kernel
theorem c157_41 : mc_cd 157 41 = some (.invokevirtual 70, 3) := by decide +kernel
theorem c157_44 : mc_cd 157 44 = some (.ireturn, 1) := by decide +kernel
theorem c157_45 : mc_cd 157 45 = some (.aload_n 0, 1) := by decide +kernel
theorem c157_46 : mc_cd 157 46 = some (.aload_n 0, 1) := by decide +kernel
theorem c157_47 : mc_cd 157 47 = some (.getfield 51, 3) := by decide +kernel
theorem c157_50 : mc_cd 157 50 = some (.iload_n 1, 1) := by decide +kernel
theorem c157_51 : mc_cd 157 51 = some (.iload_n 2, 1) := by decide +kernel
theorem c157_52 : mc_cd 157 52 = some (.invokevirtual 183, 3) := by decide +kernel
theorem c157_55 : mc_cd 157 55 = some (.invokevirtual 99, 3) := by decide +kernel
theorem c157_58 : mc_cd 157 58 = some (.ireturn, 1) := by decide +kernel
abbrev q_157 (r0 : Nat) (a1 : Int) (a2 : Int) (T : wq_T) (H : wq_H) : Option Value → wq_T → wq_H → Prop := fun r T' H' => T = T' ∧ WT T H' ∧ wfr [(1, 10)] T H H' ∧ ∃ z : Int, some (vI z) = r ∧ ((-2147483648) ≤ z ∧ z ≤ 2147483647)
set_option maxHeartbeats 4000000 in
theorem s_157 {kt : Nat → Option mc_E} {T : wq_T} {H : wq_H} {r0 : Nat} {a1 : Int} {a2 : Int} (hW : WT T H) (g0 : T.2.2.2 r0 = some 1) (i1 : (-2147483648) ≤ a1 ∧ a1 ≤ 2147483647) (i2 : (-2147483648) ≤ a2 ∧ a2 ≤ 2147483647) : wpc kt 2 157 [.ref r0, vI a1, vI a2] T H (q_157 r0 a1 a2 T H) := by
  refine wp_enter e157 (Nat.le_of_ble_eq_true rfl) rfl ?_
  have f0 : wfr [(1, 10)] T H H := wfr.rf
  show wp _ _ 157 0 [(0, .ref r0), (1, vI a1), (2, vI a2)] [] _ H _
  refine wp_of e157 c157_0 (rw_aload_n (pc' := 1) (v := .ref r0) rfl rfl rfl ?_)
  refine wp_of e157 c157_1 (rw_aload_n (pc' := 2) (v := .ref r0) rfl rfl rfl ?_)
  refine wp_of e157 c157_2 (rw_iload_n (pc' := 3) (z := a2) rfl rfl ?_)
  refine wp_of e157 c157_3 (xc_V (pc' := 6) (r := r0) (as := [vI a2]) (st := [.ref r0]) (lm_0_105) rfl rfl (Nat.le_of_ble_eq_true rfl) hW g0 sh_1 (by decide) rfl (by decide) (s_55 hW g0 ⟨by omega, by omega⟩) (fun R80150 T80151 H80152 p80153 => ?_))
  obtain ⟨e80154, e80156, z80158, e80155, b80159, p80157⟩ := p80153
  subst e80154
  subst e80155
  subst e80156
  show wp _ _ 157 6 [(0, .ref r0), (1, vI a1), (2, vI a2)] [vI z80158, .ref r0] _ H _
  refine wp_of e157 c157_6 (rw_if_eq (p1 := 30) (p2 := 9) (by decide) rfl ⟨by omega, by omega⟩ (fun c80160 => ?_) (fun c80160 => ?_))
  · refine wp_of e157 c157_30 (rw_iconst (pc' := 31) rfl ?_)
    refine wp_of e157 c157_31 (xc_V (pc' := 34) (r := r0) (as := [vI 0]) (st := []) (lm_0_245) rfl rfl (Nat.le_of_ble_eq_true rfl) hW g0 sh_1 (by decide) rfl (by decide) (s_84 hW g0 ⟨by omega, by omega⟩) (fun R80161 T80162 H80163 p80164 => ?_))
    obtain ⟨e80165, e80167, z80169, e80166, b80170, p80168⟩ := p80164
    subst e80165
    subst e80166
    subst e80167
    show wp _ _ 157 34 [(0, .ref r0), (1, vI a1), (2, vI a2)] [vI z80169] _ H _
    refine wp_of e157 c157_34 (rw_istore_n (pc' := 35) (z := z80169) (L' := [(3, vI z80169), (0, .ref r0), (1, vI a1), (2, vI a2)]) rfl rfl rfl ?_)
    refine wp_of e157 c157_35 (rw_iload_n (pc' := 36) (z := z80169) rfl rfl ?_)
    refine wp_of e157 c157_36 (rw_if_eq (p1 := 45) (p2 := 39) (by decide) rfl ⟨by omega, by omega⟩ (fun c80171 => ?_) (fun c80171 => ?_))
    · exfalso
      omega
    · refine wp_of e157 c157_39 (rw_aload_n (pc' := 40) (v := .ref r0) rfl rfl rfl ?_)
      refine wp_of e157 c157_40 (rw_iload_n (pc' := 41) (z := z80169) rfl rfl ?_)
      refine wp_of e157 c157_41 (xc_V (pc' := 44) (r := r0) (as := [vI z80169]) (st := []) (lm_0_70) rfl rfl (Nat.le_of_ble_eq_true rfl) hW g0 sh_1 (by decide) rfl (by decide) (s_12 hW g0 ⟨by omega, by omega⟩) (fun R80172 T80173 H80174 p80175 => ?_))
      obtain ⟨e80176, w80178, f80179, z80180, e80177, b80181⟩ := p80175
      subst e80176
      subst e80177
      have f80182 := f0.tr f80179 rfl
      show wp _ _ 157 44 [(3, vI z80169), (0, .ref r0), (1, vI a1), (2, vI a2)] [vI z80180] _ H80174 _
      exact wp_ireturn e157 c157_44 rfl ⟨rfl, w80178, f80182, z80180, rfl, ⟨by omega, by omega⟩⟩
  · refine wp_of e157 c157_9 (rw_iload_n (pc' := 10) (z := a1) rfl rfl ?_)
    refine wp_of e157 c157_10 (rw_if_lt (p1 := 30) (p2 := 13) (by decide) rfl ⟨by omega, by omega⟩ (fun c80183 => ?_) (fun c80183 => ?_))
    · refine wp_of e157 c157_30 (rw_iconst (pc' := 31) rfl ?_)
      refine wp_of e157 c157_31 (xc_V (pc' := 34) (r := r0) (as := [vI 0]) (st := []) (lm_0_245) rfl rfl (Nat.le_of_ble_eq_true rfl) hW g0 sh_1 (by decide) rfl (by decide) (s_84 hW g0 ⟨by omega, by omega⟩) (fun R80184 T80185 H80186 p80187 => ?_))
      obtain ⟨e80188, e80190, z80192, e80189, b80193, p80191⟩ := p80187
      subst e80188
      subst e80189
      subst e80190
      show wp _ _ 157 34 [(0, .ref r0), (1, vI a1), (2, vI a2)] [vI z80192] _ H _
      refine wp_of e157 c157_34 (rw_istore_n (pc' := 35) (z := z80192) (L' := [(3, vI z80192), (0, .ref r0), (1, vI a1), (2, vI a2)]) rfl rfl rfl ?_)
      refine wp_of e157 c157_35 (rw_iload_n (pc' := 36) (z := z80192) rfl rfl ?_)
      refine wp_of e157 c157_36 (rw_if_eq (p1 := 45) (p2 := 39) (by decide) rfl ⟨by omega, by omega⟩ (fun c80194 => ?_) (fun c80194 => ?_))
      · exfalso
        omega
      · refine wp_of e157 c157_39 (rw_aload_n (pc' := 40) (v := .ref r0) rfl rfl rfl ?_)
        refine wp_of e157 c157_40 (rw_iload_n (pc' := 41) (z := z80192) rfl rfl ?_)
        refine wp_of e157 c157_41 (xc_V (pc' := 44) (r := r0) (as := [vI z80192]) (st := []) (lm_0_70) rfl rfl (Nat.le_of_ble_eq_true rfl) hW g0 sh_1 (by decide) rfl (by decide) (s_12 hW g0 ⟨by omega, by omega⟩) (fun R80195 T80196 H80197 p80198 => ?_))
        obtain ⟨e80199, w80201, f80202, z80203, e80200, b80204⟩ := p80198
        subst e80199
        subst e80200
        have f80205 := f0.tr f80202 rfl
        show wp _ _ 157 44 [(3, vI z80192), (0, .ref r0), (1, vI a1), (2, vI a2)] [vI z80203] _ H80197 _
        exact wp_ireturn e157 c157_44 rfl ⟨rfl, w80201, f80205, z80203, rfl, ⟨by omega, by omega⟩⟩
    · refine wp_of e157 c157_13 (rw_iload_n (pc' := 14) (z := a1) rfl rfl ?_)
      refine wp_of e157 c157_14 (rw_i2l (pc' := 15) rfl ⟨by omega, by omega⟩ ?_)
      refine wp_of e157 c157_15 (rw_aload_n (pc' := 16) (v := .ref r0) rfl rfl rfl ?_)
      refine wp_of e157 c157_16 (xg_R (pc' := 19) lf_0_51 hW g0 sh_1 (by decide) (by decide) ty_1_6 rfl rfl (fun r80206 q80207 g80208 => ?_))
      refine wp_of e157 c157_19 (xg_L (pc' := 22) lf_0_141 hW g80208 sh_27 (by decide) (by decide) ty_27_18 rfl rfl (fun b80209 b80210 => ?_))
      refine wp_of e157 c157_22 (rw_lcmp (pc' := 23) rfl ⟨by omega, by omega⟩ ⟨by omega, by omega⟩ ?_)
      have b80211 := wq_cmp_b a1 (H r80206 18)
      refine wp_of e157 c157_23 (rw_if_ge (p1 := 30) (p2 := 26) (by decide) rfl ⟨by omega, by omega⟩ (fun c80212 => ?_) (fun c80212 => ?_))
      · refine wp_of e157 c157_30 (rw_iconst (pc' := 31) rfl ?_)
        refine wp_of e157 c157_31 (xc_V (pc' := 34) (r := r0) (as := [vI 0]) (st := []) (lm_0_245) rfl rfl (Nat.le_of_ble_eq_true rfl) hW g0 sh_1 (by decide) rfl (by decide) (s_84 hW g0 ⟨by omega, by omega⟩) (fun R80213 T80214 H80215 p80216 => ?_))
        obtain ⟨e80217, e80219, z80221, e80218, b80222, p80220⟩ := p80216
        subst e80217
        subst e80218
        subst e80219
        show wp _ _ 157 34 [(0, .ref r0), (1, vI a1), (2, vI a2)] [vI z80221] _ H _
        refine wp_of e157 c157_34 (rw_istore_n (pc' := 35) (z := z80221) (L' := [(3, vI z80221), (0, .ref r0), (1, vI a1), (2, vI a2)]) rfl rfl rfl ?_)
        refine wp_of e157 c157_35 (rw_iload_n (pc' := 36) (z := z80221) rfl rfl ?_)
        refine wp_of e157 c157_36 (rw_if_eq (p1 := 45) (p2 := 39) (by decide) rfl ⟨by omega, by omega⟩ (fun c80223 => ?_) (fun c80223 => ?_))
        · exfalso
          omega
        · refine wp_of e157 c157_39 (rw_aload_n (pc' := 40) (v := .ref r0) rfl rfl rfl ?_)
          refine wp_of e157 c157_40 (rw_iload_n (pc' := 41) (z := z80221) rfl rfl ?_)
          refine wp_of e157 c157_41 (xc_V (pc' := 44) (r := r0) (as := [vI z80221]) (st := []) (lm_0_70) rfl rfl (Nat.le_of_ble_eq_true rfl) hW g0 sh_1 (by decide) rfl (by decide) (s_12 hW g0 ⟨by omega, by omega⟩) (fun R80224 T80225 H80226 p80227 => ?_))
          obtain ⟨e80228, w80230, f80231, z80232, e80229, b80233⟩ := p80227
          subst e80228
          subst e80229
          have f80234 := f0.tr f80231 rfl
          show wp _ _ 157 44 [(3, vI z80221), (0, .ref r0), (1, vI a1), (2, vI a2)] [vI z80232] _ H80226 _
          exact wp_ireturn e157 c157_44 rfl ⟨rfl, w80230, f80234, z80232, rfl, ⟨by omega, by omega⟩⟩
      · refine wp_of e157 c157_26 (rw_iconst (pc' := 27) rfl ?_)
        refine wp_of e157 c157_27 (rw_goto (p1 := 31) (by decide) ?_)
        refine wp_of e157 c157_31 (xc_V (pc' := 34) (r := r0) (as := [vI 1]) (st := []) (lm_0_245) rfl rfl (Nat.le_of_ble_eq_true rfl) hW g0 sh_1 (by decide) rfl (by decide) (s_84 hW g0 ⟨by omega, by omega⟩) (fun R80235 T80236 H80237 p80238 => ?_))
        obtain ⟨e80239, e80241, z80243, e80240, b80244, p80242⟩ := p80238
        subst e80239
        subst e80240
        subst e80241
        show wp _ _ 157 34 [(0, .ref r0), (1, vI a1), (2, vI a2)] [vI z80243] _ H _
        refine wp_of e157 c157_34 (rw_istore_n (pc' := 35) (z := z80243) (L' := [(3, vI z80243), (0, .ref r0), (1, vI a1), (2, vI a2)]) rfl rfl rfl ?_)
        refine wp_of e157 c157_35 (rw_iload_n (pc' := 36) (z := z80243) rfl rfl ?_)
        refine wp_of e157 c157_36 (rw_if_eq (p1 := 45) (p2 := 39) (by decide) rfl ⟨by omega, by omega⟩ (fun c80245 => ?_) (fun c80245 => ?_))
        · refine wp_of e157 c157_45 (rw_aload_n (pc' := 46) (v := .ref r0) rfl rfl rfl ?_)
          refine wp_of e157 c157_46 (rw_aload_n (pc' := 47) (v := .ref r0) rfl rfl rfl ?_)
          refine wp_of e157 c157_47 (xg_K (pc' := 50) lf_0_51 hW g0 sh_1 (by decide) (by decide) rfl q80207 rfl ?_)
          refine wp_of e157 c157_50 (rw_iload_n (pc' := 51) (z := a1) rfl rfl ?_)
          refine wp_of e157 c157_51 (rw_iload_n (pc' := 52) (z := a2) rfl rfl ?_)
          refine wp_of e157 c157_52 (xc_V (pc' := 55) (r := r80206) (as := [vI a1, vI a2]) (st := [.ref r0]) (lm_0_183) rfl rfl (Nat.le_of_ble_eq_true rfl) hW g80208 sh_27 (by decide) rfl (by decide) (s_96 hW g80208 ⟨by omega, by omega⟩ ⟨by omega, by omega⟩) (fun R80246 T80247 H80248 p80249 => ?_))
          obtain ⟨e80250, e80252, z80253, e80251, b80254⟩ := p80249
          subst e80250
          subst e80251
          subst e80252
          show wp _ _ 157 55 [(3, vI z80243), (0, .ref r0), (1, vI a1), (2, vI a2)] [vI z80253, .ref r0] _ H _
          refine wp_of e157 c157_55 (xc_V (pc' := 58) (r := r0) (as := [vI z80253]) (st := []) (lm_0_99) rfl rfl (Nat.le_of_ble_eq_true rfl) hW g0 sh_1 (by decide) rfl (by decide) (s_51 hW g0 ⟨by omega, by omega⟩) (fun R80255 T80256 H80257 p80258 => ?_))
          obtain ⟨e80259, w80261, f80262, z80263, e80260, b80264⟩ := p80258
          subst e80259
          subst e80260
          have f80265 := f0.tr f80262 rfl
          show wp _ _ 157 58 [(3, vI z80243), (0, .ref r0), (1, vI a1), (2, vI a2)] [vI z80263] _ H80257 _
          exact wp_ireturn e157 c157_58 rfl ⟨rfl, w80261, f80265, z80263, rfl, ⟨by omega, by omega⟩⟩
        · refine wp_of e157 c157_39 (rw_aload_n (pc' := 40) (v := .ref r0) rfl rfl rfl ?_)
          refine wp_of e157 c157_40 (rw_iload_n (pc' := 41) (z := z80243) rfl rfl ?_)
          refine wp_of e157 c157_41 (xc_V (pc' := 44) (r := r0) (as := [vI z80243]) (st := []) (lm_0_70) rfl rfl (Nat.le_of_ble_eq_true rfl) hW g0 sh_1 (by decide) rfl (by decide) (s_12 hW g0 ⟨by omega, by omega⟩) (fun R80266 T80267 H80268 p80269 => ?_))
          obtain ⟨e80270, w80272, f80273, z80274, e80271, b80275⟩ := p80269
          subst e80270
          subst e80271
          have f80276 := f0.tr f80273 rfl
          show wp _ _ 157 44 [(3, vI z80243), (0, .ref r0), (1, vI a1), (2, vI a2)] [vI z80274] _ H80268 _
          exact wp_ireturn e157 c157_44 rfl ⟨rfl, w80272, f80276, z80274, rfl, ⟨by omega, by omega⟩⟩
/-! StrikeAwake.again()Z -/
theorem e158 : wq_en 158 = some (0, 1, false, some FieldType.boolean) := rfl
theorem c158_0 : mc_cd 158 0 = some (.aload_n 0, 1) := by decide +kernel
theorem c158_1 : mc_cd 158 1 = some (.getfield 58, 3) := by decide +kernel
theorem c158_4 : mc_cd 158 4 = some (.ifCond .ne 9, 3) := by decide +kernel
theorem c158_7 : mc_cd 158 7 = some (.aload_n 0, 1) := by decide +kernel
theorem c158_8 : mc_cd 158 8 = some (.iconst 1, 1) := by decide +kernel
theorem c158_9 : mc_cd 158 9 = some (.invokevirtual 145, 3) := by decide +kernel
theorem c158_12 : mc_cd 158 12 = some (.ireturn, 1) := by decide +kernel
theorem c158_13 : mc_cd 158 13 = some (.aload_n 0, 1) := by decide +kernel
theorem c158_14 : mc_cd 158 14 = some (.getfield 51, 3) := by decide +kernel
theorem c158_17 : mc_cd 158 17 = some (.iconst 0, 1) := by decide +kernel
theorem c158_18 : mc_cd 158 18 = some (.putfield 298, 3) := by decide +kernel
theorem c158_21 : mc_cd 158 21 = some (.aload_n 0, 1) := by decide +kernel
theorem c158_22 : mc_cd 158 22 = some (.invokevirtual 151, 3) := by decide +kernel
theorem c158_25 : mc_cd 158 25 = some (.ireturn, 1) := by decide +kernel
abbrev q_158 (r0 : Nat) (T : wq_T) (H : wq_H) : Option Value → wq_T → wq_H → Prop := fun r T' H' => T = T' ∧ WT T H' ∧ wfr [(27, 17), (1, 10)] T H H' ∧ ∃ z : Int, some (vI z) = r ∧ (0 ≤ z ∧ z ≤ 1)
set_option maxHeartbeats 4000000 in
theorem s_158 {kt : Nat → Option mc_E} {T : wq_T} {H : wq_H} {r0 : Nat} (hW : WT T H) (g0 : T.2.2.2 r0 = some 1) : wpc kt 2 158 [.ref r0] T H (q_158 r0 T H) := by
  refine wp_enter e158 (Nat.le_of_ble_eq_true rfl) rfl ?_
  have f0 : wfr [(27, 17), (1, 10)] T H H := wfr.rf
  show wp _ _ 158 0 [(0, .ref r0)] [] _ H _
  refine wp_of e158 c158_0 (rw_aload_n (pc' := 1) (v := .ref r0) rfl rfl rfl ?_)
  refine wp_of e158 c158_1 (xg_I (pc' := 4) lf_0_58 hW g0 sh_1 (by decide) (by decide) ty_1_8 rfl rfl (fun b80310 b80311 => ?_))
  refine wp_of e158 c158_4 (rw_if_ne (p1 := 13) (p2 := 7) (by decide) rfl ⟨by omega, by omega⟩ (fun c80312 => ?_) (fun c80312 => ?_))
  · refine wp_of e158 c158_13 (rw_aload_n (pc' := 14) (v := .ref r0) rfl rfl rfl ?_)
    refine wp_of e158 c158_14 (xg_R (pc' := 17) lf_0_51 hW g0 sh_1 (by decide) (by decide) ty_1_6 rfl rfl (fun r80313 q80314 g80315 => ?_))
    refine wp_of e158 c158_17 (rw_iconst (pc' := 18) rfl ?_)
    refine wp_of e158 c158_18 (xp_I (pc' := 21) lf_0_298 hW g80315 sh_27 (by decide) (by decide) ty_27_17 rfl rfl (by omega) (by omega) ⟨by omega, by omega⟩ rfl (fun H80316 e80317 w80318 => ?_))
    have f80319 := f0.put' e80317 g80315 rfl
    have k80320 : H80316 r80313 17 = 0 := wq_u_s e80317
    refine wp_of e158 c158_21 (rw_aload_n (pc' := 22) (v := .ref r0) rfl rfl rfl ?_)
    refine wp_of e158 c158_22 (xc_V (pc' := 25) (r := r0) (as := []) (st := []) (lm_0_151) rfl rfl (Nat.le_of_ble_eq_true rfl) w80318 g0 sh_1 (by decide) rfl (by decide) (s_64 w80318 g0) (fun R80321 T80322 H80323 p80324 => ?_))
    obtain ⟨e80325, w80327, f80328, z80329, e80326, b80330⟩ := p80324
    subst e80325
    subst e80326
    have f80331 := f80319.tr f80328 rfl
    show wp _ _ 158 25 [(0, .ref r0)] [vI z80329] _ H80323 _
    exact wp_zreturn e158 c158_25 rfl (by omega) ⟨rfl, w80327, f80331, z80329, rfl, ⟨by omega, by omega⟩⟩
  · refine wp_of e158 c158_7 (rw_aload_n (pc' := 8) (v := .ref r0) rfl rfl rfl ?_)
    refine wp_of e158 c158_8 (rw_iconst (pc' := 9) rfl ?_)
    refine wp_of e158 c158_9 (xc_V (pc' := 12) (r := r0) (as := [vI 1]) (st := []) (lm_0_145) rfl rfl (Nat.le_of_ble_eq_true rfl) hW g0 sh_1 (by decide) rfl (by decide) (s_63 hW g0 ⟨by omega, by omega⟩) (fun R80332 T80333 H80334 p80335 => ?_))
    obtain ⟨e80336, w80338, f80339, z80340, e80337, b80341⟩ := p80335
    subst e80336
    subst e80337
    have f80342 := f0.tr f80339 rfl
    show wp _ _ 158 12 [(0, .ref r0)] [vI z80340] _ H80334 _
    exact wp_zreturn e158 c158_12 rfl (by omega) ⟨rfl, w80338, f80342, z80340, rfl, ⟨by omega, by omega⟩⟩
/-! StrikeAwake$Parish.picture()J -/
theorem e160 : wq_en 160 = some (7, 4, false, some FieldType.long) := rfl
theorem c160_0 : mc_cd 160 0 = some (.aload_n 0, 1) := by decide +kernel
theorem c160_1 : mc_cd 160 1 = some (.getfield 68, 3) := by decide +kernel
theorem c160_4 : mc_cd 160 4 = some (.i2l, 1) := by decide +kernel
theorem c160_5 : mc_cd 160 5 = some (.lstore_n 1, 1) := by decide +kernel
theorem c160_6 : mc_cd 160 6 = some (.iconst 0, 1) := by decide +kernel
theorem c160_7 : mc_cd 160 7 = some (.istore_n 3, 1) := by decide +kernel
theorem c160_8 : mc_cd 160 8 = some (.iload_n 3, 1) := by decide +kernel
theorem c160_9 : mc_cd 160 9 = some (.aload_n 0, 1) := by decide +kernel
theorem c160_10 : mc_cd 160 10 = some (.getfield 50, 3) := by decide +kernel
theorem c160_13 : mc_cd 160 13 = some (.if_icmp .ge 26, 3) := by decide +kernel
theorem c160_16 : mc_cd 160 16 = some (.lload_n 1, 1) := by decide +kernel
theorem c160_17 : mc_cd 160 17 = some (.ldc2_w 125, 3) := by decide +kernel
theorem c160_20 : mc_cd 160 20 = some (.lmul, 1) := by decide +kernel
theorem c160_21 : mc_cd 160 21 = some (.aload_n 0, 1) := by decide +kernel
theorem c160_22 : mc_cd 160 22 = some (.getfield 11, 3) := by decide +kernel
theorem c160_25 : mc_cd 160 25 = some (.iload_n 3, 1) := by decide +kernel
theorem c160_26 : mc_cd 160 26 = some (.aaload, 1) := by decide +kernel
theorem c160_27 : mc_cd 160 27 = some (.getfield 127, 3) := by decide +kernel
theorem c160_30 : mc_cd 160 30 = some (.i2l, 1) := by decide +kernel
theorem c160_31 : mc_cd 160 31 = some (.ladd, 1) := by decide +kernel
theorem c160_32 : mc_cd 160 32 = some (.lstore_n 1, 1) := by decide +kernel
theorem c160_33 : mc_cd 160 33 = some (.iinc 3 1, 3) := by decide +kernel
theorem c160_36 : mc_cd 160 36 = some (.goto (-28), 3) := by decide +kernel
theorem c160_39 : mc_cd 160 39 = some (.lload_n 1, 1) := by decide +kernel
theorem c160_40 : mc_cd 160 40 = some (.lreturn, 1) := by decide +kernel
abbrev q_160 (r0 : Nat) (T : wq_T) (H : wq_H) : Option Value → wq_T → wq_H → Prop := fun r T' H' => T = T' ∧ H = H' ∧ ∃ z : Int, some (vL z) = r ∧ ((-9223372036854775808) ≤ z ∧ z ≤ 9223372036854775807)
set_option maxHeartbeats 4000000 in
theorem s_160 {kt : Nat → Option mc_E} {T : wq_T} {H : wq_H} {r0 : Nat} (hW : WT T H) (g0 : T.2.2.2 r0 = some 27) : wpc kt 1 160 [.ref r0] T H (q_160 r0 T H) := by
  refine wp_enter e160 (Nat.le_of_ble_eq_true rfl) rfl ?_
  show wp _ _ 160 0 [(0, .ref r0)] [] _ H _
  refine wp_of e160 c160_0 (rw_aload_n (pc' := 1) (v := .ref r0) rfl rfl rfl ?_)
  refine wp_of e160 c160_1 (xg_I (pc' := 4) lf_7_68 hW g0 sh_27 (by decide) (by decide) ty_27_17 rfl rfl (fun b80454 b80455 => ?_))
  refine wp_of e160 c160_4 (rw_i2l (pc' := 5) rfl ⟨by omega, by omega⟩ ?_)
  refine wp_of e160 c160_5 (rw_lstore_n (pc' := 6) (z := H r0 17) (L' := [(1, vL (H r0 17)), (0, .ref r0)]) rfl rfl rfl ?_)
  refine wp_of e160 c160_6 (rw_iconst (pc' := 7) rfl ?_)
  refine wp_of e160 c160_7 (rw_istore_n (pc' := 8) (z := 0) (L' := [(3, vI 0), (1, vL (H r0 17)), (0, .ref r0)]) rfl rfl rfl ?_)
  have lp80549 : ∀ (n80550 : Nat) (v80552 : Int) (v80553 : Int), (0 ≤ v80552 ∧ v80552 ≤ 6) → ((-9223372036854775808) ≤ v80553 ∧ v80553 ≤ 9223372036854775807) → (6 - v80552).toNat = n80550 → wp kt 0 160 8 [(3, vI v80552), (1, vL v80553), (0, .ref r0)] [] T H (q_160 r0 T H) := by
    intro n80550
    induction n80550 using Nat.strongRecOn with
    | _ n80550 ih80551 =>
      intro v80552 v80553 b80556 b80557 m80558
      refine wp_of e160 c160_8 (rw_iload_n (pc' := 9) (z := v80552) rfl rfl ?_)
      refine wp_of e160 c160_9 (rw_aload_n (pc' := 10) (v := .ref r0) rfl rfl rfl ?_)
      refine wp_of e160 c160_10 (xg_I (pc' := 13) lf_7_50 hW g0 sh_27 (by decide) (by decide) ty_27_10 rfl rfl (fun b80559 b80560 => ?_))
      refine wp_of e160 c160_13 (rw_icmp_ge (p1 := 39) (p2 := 16) (by decide) rfl ⟨by omega, by omega⟩ ⟨by omega, by omega⟩ (fun c80561 => ?_) (fun c80561 => ?_))
      · refine wp_of e160 c160_39 (rw_lload_n (pc' := 40) (z := v80553) rfl rfl ?_)
        exact wp_lreturn e160 c160_40 rfl ⟨rfl, rfl, v80553, rfl, ⟨by omega, by omega⟩⟩
      · refine wp_of e160 c160_16 (rw_lload_n (pc' := 17) (z := v80553) rfl rfl ?_)
        refine wp_of e160 c160_17 (rw_ldc2 (pc' := 20) (z := 40) rfl rfl rfl ?_)
        refine wp_of e160 c160_20 (rw_lmulw (pc' := 21) rfl ?_)
        obtain ⟨v80562, e80563⟩ : ∃ x : Int, x = wl_w (v80553 * 40) := ⟨_, rfl⟩
        rw [← e80563]
        have b80564 : -9223372036854775808 ≤ v80562 ∧ v80562 ≤ 9223372036854775807 := by
          rw [e80563]
          exact wL_w _
        refine wp_of e160 c160_21 (rw_aload_n (pc' := 22) (v := .ref r0) rfl rfl rfl ?_)
        refine wp_of e160 c160_22 (xg_R (pc' := 25) lf_7_11 hW g0 sh_27 (by decide) (by decide) ty_27_0 rfl rfl (fun r80565 q80566 g80567 => ?_))
        refine wp_of e160 c160_25 (rw_iload_n (pc' := 26) (z := v80552) rfl rfl ?_)
        refine wp_of e160 c160_26 (xa_R (pc' := 27) (by decide) hW g80567 sh_28 (by decide) (ty_28 _) (by omega) (by omega) rfl (fun r80568 q80569 g80570 => ?_))
        refine wp_of e160 c160_27 (xg_I (pc' := 30) lf_7_127 hW g80570 sh_35 (by decide) (by decide) ty_35_16 rfl rfl (fun b80571 b80572 => ?_))
        refine wp_of e160 c160_30 (rw_i2l (pc' := 31) rfl ⟨by omega, by omega⟩ ?_)
        refine wp_of e160 c160_31 (rw_laddw (pc' := 32) rfl ?_)
        obtain ⟨v80573, e80574⟩ : ∃ x : Int, x = wl_w (v80562 + (H r80568 16)) := ⟨_, rfl⟩
        rw [← e80574]
        have b80575 : -9223372036854775808 ≤ v80573 ∧ v80573 ≤ 9223372036854775807 := by
          rw [e80574]
          exact wL_w _
        refine wp_of e160 c160_32 (rw_lstore_n (pc' := 33) (z := v80573) (L' := [(1, vL v80573), (3, vI v80552), (0, .ref r0)]) rfl rfl rfl ?_)
        refine wp_of e160 c160_33 (rw_iinc (pc' := 36) (z := v80552) (L' := [(3, vI (v80552 + 1)), (1, vL v80573), (0, .ref r0)]) rfl rfl rfl rfl ?_)
        refine wp_of e160 c160_36 (rw_goto (p1 := 8) (by decide) ?_)
        exact wp_lc (ks := [3, 1, 0]) (wl_c rfl (wl_c rfl (wl_c rfl wl_n))) rfl (by decide) (ih80551 _ (by omega) (v80552 + 1) v80573 ⟨by omega, by omega⟩ ⟨by omega, by omega⟩ rfl)
  exact wp_lc (ks := [3, 1, 0]) (wl_c rfl (wl_c rfl (wl_c rfl wl_n))) rfl (by decide) (lp80549 _ 0 (H r0 17) ⟨by omega, by omega⟩ ⟨by omega, by omega⟩ rfl)
/-! StrikeAwake.image()J -/
theorem e159 : wq_en 159 = some (0, 1, false, some FieldType.long) := rfl
theorem c159_0 : mc_cd 159 0 = some (.aload_n 0, 1) := by decide +kernel
theorem c159_1 : mc_cd 159 1 = some (.getfield 58, 3) := by decide +kernel
theorem c159_4 : mc_cd 159 4 = some (.ifCond .ne 10, 3) := by decide +kernel
theorem c159_7 : mc_cd 159 7 = some (.aload_n 0, 1) := by decide +kernel
theorem c159_8 : mc_cd 159 8 = some (.iconst 1, 1) := by decide +kernel
theorem c159_9 : mc_cd 159 9 = some (.invokevirtual 70, 3) := by decide +kernel
theorem c159_12 : mc_cd 159 12 = some (.i2l, 1) := by decide +kernel
theorem c159_13 : mc_cd 159 13 = some (.lreturn, 1) := by decide +kernel
theorem c159_14 : mc_cd 159 14 = some (.aload_n 0, 1) := by decide +kernel
theorem c159_15 : mc_cd 159 15 = some (.iconst 0, 1) := by decide +kernel
theorem c159_16 : mc_cd 159 16 = some (.putfield 102, 3) := by decide +kernel
theorem c159_19 : mc_cd 159 19 = some (.aload_n 0, 1) := by decide +kernel
theorem c159_20 : mc_cd 159 20 = some (.getfield 51, 3) := by decide +kernel
theorem c159_23 : mc_cd 159 23 = some (.invokevirtual 305, 3) := by decide +kernel
theorem c159_26 : mc_cd 159 26 = some (.lreturn, 1) := by decide +kernel
abbrev q_159 (r0 : Nat) (T : wq_T) (H : wq_H) : Option Value → wq_T → wq_H → Prop := fun r T' H' => T = T' ∧ WT T H' ∧ wfr [(1, 10)] T H H' ∧ ∃ z : Int, some (vL z) = r ∧ ((-9223372036854775808) ≤ z ∧ z ≤ 9223372036854775807)
set_option maxHeartbeats 4000000 in
theorem s_159 {kt : Nat → Option mc_E} {T : wq_T} {H : wq_H} {r0 : Nat} (hW : WT T H) (g0 : T.2.2.2 r0 = some 1) : wpc kt 2 159 [.ref r0] T H (q_159 r0 T H) := by
  refine wp_enter e159 (Nat.le_of_ble_eq_true rfl) rfl ?_
  have f0 : wfr [(1, 10)] T H H := wfr.rf
  show wp _ _ 159 0 [(0, .ref r0)] [] _ H _
  refine wp_of e159 c159_0 (rw_aload_n (pc' := 1) (v := .ref r0) rfl rfl rfl ?_)
  refine wp_of e159 c159_1 (xg_I (pc' := 4) lf_0_58 hW g0 sh_1 (by decide) (by decide) ty_1_8 rfl rfl (fun b80607 b80608 => ?_))
  refine wp_of e159 c159_4 (rw_if_ne (p1 := 14) (p2 := 7) (by decide) rfl ⟨by omega, by omega⟩ (fun c80609 => ?_) (fun c80609 => ?_))
  · refine wp_of e159 c159_14 (rw_aload_n (pc' := 15) (v := .ref r0) rfl rfl rfl ?_)
    refine wp_of e159 c159_15 (rw_iconst (pc' := 16) rfl ?_)
    refine wp_of e159 c159_16 (xp_I (pc' := 19) lf_0_102 hW g0 sh_1 (by decide) (by decide) ty_1_10 rfl rfl (by omega) (by omega) ⟨by omega, by omega⟩ rfl (fun H80610 e80611 w80612 => ?_))
    have f80613 := f0.put' e80611 g0 rfl
    have k80614 : H80610 r0 10 = 0 := wq_u_s e80611
    refine wp_of e159 c159_19 (rw_aload_n (pc' := 20) (v := .ref r0) rfl rfl rfl ?_)
    refine wp_of e159 c159_20 (xg_R (pc' := 23) lf_0_51 w80612 g0 sh_1 (by decide) (by decide) ty_1_6 rfl rfl (fun r80615 q80616 g80617 => ?_))
    refine wp_of e159 c159_23 (xc_V (pc' := 26) (r := r80615) (as := []) (st := []) (lm_0_305) rfl rfl (Nat.le_of_ble_eq_true rfl) w80612 g80617 sh_27 (by decide) rfl (by decide) (s_160 w80612 g80617) (fun R80618 T80619 H80620 p80621 => ?_))
    obtain ⟨e80622, e80624, z80625, e80623, b80626⟩ := p80621
    subst e80622
    subst e80623
    subst e80624
    show wp _ _ 159 26 [(0, .ref r0)] [vL z80625] _ H80610 _
    exact wp_lreturn e159 c159_26 rfl ⟨rfl, w80612, f80613, z80625, rfl, ⟨by omega, by omega⟩⟩
  · refine wp_of e159 c159_7 (rw_aload_n (pc' := 8) (v := .ref r0) rfl rfl rfl ?_)
    refine wp_of e159 c159_8 (rw_iconst (pc' := 9) rfl ?_)
    refine wp_of e159 c159_9 (xc_V (pc' := 12) (r := r0) (as := [vI 1]) (st := []) (lm_0_70) rfl rfl (Nat.le_of_ble_eq_true rfl) hW g0 sh_1 (by decide) rfl (by decide) (s_12 hW g0 ⟨by omega, by omega⟩) (fun R80627 T80628 H80629 p80630 => ?_))
    obtain ⟨e80631, w80633, f80634, z80635, e80632, b80636⟩ := p80630
    subst e80631
    subst e80632
    have f80637 := f0.tr f80634 rfl
    show wp _ _ 159 12 [(0, .ref r0)] [vI z80635] _ H80629 _
    refine wp_of e159 c159_12 (rw_i2l (pc' := 13) rfl ⟨by omega, by omega⟩ ?_)
    exact wp_lreturn e159 c159_13 rfl ⟨rfl, w80633, f80637, z80635, rfl, ⟨by omega, by omega⟩⟩
/-! StrikeAwake$Parish.isPicture(J)Z -/
theorem e162 : wq_en 162 = some (7, 8, false, some FieldType.boolean) := rfl
theorem c162_0 : mc_cd 162 0 = some (.lload_n 1, 1) := by decide +kernel
theorem c162_1 : mc_cd 162 1 = some (.lstore_n 3, 1) := by decide +kernel
theorem c162_2 : mc_cd 162 2 = some (.aload_n 0, 1) := by decide +kernel
theorem c162_3 : mc_cd 162 3 = some (.getfield 50, 3) := by decide +kernel
theorem c162_6 : mc_cd 162 6 = some (.iconst 1, 1) := by decide +kernel
theorem c162_7 : mc_cd 162 7 = some (.isub, 1) := by decide +kernel
theorem c162_8 : mc_cd 162 8 = some (.istore 5, 2) := by decide +kernel
theorem c162_10 : mc_cd 162 10 = some (.iload 5, 2) := by decide +kernel
theorem c162_12 : mc_cd 162 12 = some (.ifCond .lt 48, 3) := by decide +kernel
theorem c162_15 : mc_cd 162 15 = some (.lload_n 3, 1) := by decide +kernel
theorem c162_16 : mc_cd 162 16 = some (.ldc2_w 125, 3) := by decide +kernel
theorem c162_19 : mc_cd 162 19 = some (.lrem, 1) := by decide +kernel
theorem c162_20 : mc_cd 162 20 = some (.lstore 6, 2) := by decide +kernel
theorem c162_22 : mc_cd 162 22 = some (.lload 6, 2) := by decide +kernel
theorem c162_24 : mc_cd 162 24 = some (.lconst 0, 1) := by decide +kernel
theorem c162_25 : mc_cd 162 25 = some (.lcmp, 1) := by decide +kernel
theorem c162_26 : mc_cd 162 26 = some (.ifCond .eq 22, 3) := by decide +kernel
theorem c162_29 : mc_cd 162 29 = some (.lload 6, 2) := by decide +kernel
theorem c162_31 : mc_cd 162 31 = some (.aload_n 0, 1) := by decide +kernel
theorem c162_32 : mc_cd 162 32 = some (.getfield 11, 3) := by decide +kernel
theorem c162_35 : mc_cd 162 35 = some (.iload 5, 2) := by decide +kernel
theorem c162_37 : mc_cd 162 37 = some (.aaload, 1) := by decide +kernel
theorem c162_38 : mc_cd 162 38 = some (.getfield 110, 3) := by decide +kernel
theorem c162_41 : mc_cd 162 41 = some (.i2l, 1) := by decide +kernel
theorem c162_42 : mc_cd 162 42 = some (.lcmp, 1) := by decide +kernel
theorem c162_43 : mc_cd 162 43 = some (.ifCond .lt 5, 3) := by decide +kernel
theorem c162_46 : mc_cd 162 46 = some (.iconst 0, 1) := by decide +kernel
theorem c162_47 : mc_cd 162 47 = some (.ireturn, 1) := by decide +kernel
theorem c162_48 : mc_cd 162 48 = some (.lload_n 3, 1) := by decide +kernel
theorem c162_49 : mc_cd 162 49 = some (.ldc2_w 125, 3) := by decide +kernel
theorem c162_52 : mc_cd 162 52 = some (.ldiv, 1) := by decide +kernel
theorem c162_53 : mc_cd 162 53 = some (.lstore_n 3, 1) := by decide +kernel
theorem c162_54 : mc_cd 162 54 = some (.iinc 5 (-1), 3) := by decide +kernel
theorem c162_57 : mc_cd 162 57 = some (.goto (-47), 3) := by decide +kernel
theorem c162_60 : mc_cd 162 60 = some (.lload_n 1, 1) := by decide +kernel
theorem c162_61 : mc_cd 162 61 = some (.lconst 0, 1) := by decide +kernel
theorem c162_62 : mc_cd 162 62 = some (.lcmp, 1) := by decide +kernel
theorem c162_63 : mc_cd 162 63 = some (.ifCond .lt 15, 3) := by decide +kernel
theorem c162_66 : mc_cd 162 66 = some (.lload_n 3, 1) := by decide +kernel
theorem c162_67 : mc_cd 162 67 = some (.ldc2_w 130, 3) := by decide +kernel
theorem c162_70 : mc_cd 162 70 = some (.lcmp, 1) := by decide +kernel
theorem c162_71 : mc_cd 162 71 = some (.ifCond .gt 7, 3) := by decide +kernel
theorem c162_74 : mc_cd 162 74 = some (.iconst 1, 1) := by decide +kernel
theorem c162_75 : mc_cd 162 75 = some (.goto 4, 3) := by decide +kernel
theorem c162_78 : mc_cd 162 78 = some (.iconst 0, 1) := by decide +kernel
theorem c162_79 : mc_cd 162 79 = some (.ireturn, 1) := by decide +kernel
abbrev q_162 (r0 : Nat) (a1 : Int) (T : wq_T) (H : wq_H) : Option Value → wq_T → wq_H → Prop := fun r T' H' => T = T' ∧ H = H' ∧ ∃ z : Int, some (vI z) = r ∧ (0 ≤ z ∧ z ≤ 1) ∧ (z = 0 ∨ (0 ≤ a1 ∧ wdv (H r0 10).toNat a1 ≤ 20000))
set_option maxHeartbeats 4000000 in
theorem s_162 {kt : Nat → Option mc_E} {T : wq_T} {H : wq_H} {r0 : Nat} {a1 : Int} (hW : WT T H) (g0 : T.2.2.2 r0 = some 27) (i1 : (-9223372036854775808) ≤ a1 ∧ a1 ≤ 9223372036854775807) : wpc kt 1 162 [.ref r0, vL a1] T H (q_162 r0 a1 T H) := by
  refine wp_enter e162 (Nat.le_of_ble_eq_true rfl) rfl ?_
  show wp _ _ 162 0 [(0, .ref r0), (1, vL a1)] [] _ H _
  refine wp_of e162 c162_0 (rw_lload_n (pc' := 1) (z := a1) rfl rfl ?_)
  refine wp_of e162 c162_1 (rw_lstore_n (pc' := 2) (z := a1) (L' := [(3, vL a1), (0, .ref r0), (1, vL a1)]) rfl rfl rfl ?_)
  refine wp_of e162 c162_2 (rw_aload_n (pc' := 3) (v := .ref r0) rfl rfl rfl ?_)
  refine wp_of e162 c162_3 (xg_I (pc' := 6) lf_7_50 hW g0 sh_27 (by decide) (by decide) ty_27_10 rfl rfl (fun b80683 b80684 => ?_))
  refine wp_of e162 c162_6 (rw_iconst (pc' := 7) rfl ?_)
  refine wp_of e162 c162_7 (rw_isub (pc' := 8) rfl ?_)
  refine wp_of e162 c162_8 (rw_istore (pc' := 10) (z := (H r0 10) - 1) (L' := [(5, vI ((H r0 10) - 1)), (3, vL a1), (0, .ref r0), (1, vL a1)]) rfl rfl rfl ?_)
  have lp80704 : ∀ (n80705 : Nat) (v80707 : Int) (v80708 : Int), ((-1) ≤ v80707 ∧ v80707 ≤ 5) → ((-9223372036854775808) ≤ v80708 ∧ v80708 ≤ 9223372036854775807) → (v80707 ≤ H r0 10 - 1) → (a1 < 0 ∨ (0 ≤ v80708 ∧ v80708 = wdv (H r0 10 - 1 - v80707).toNat a1)) → (v80707 - (-1)).toNat = n80705 → wp kt 0 162 10 [(5, vI v80707), (3, vL v80708), (0, .ref r0), (1, vL a1)] [] T H (q_162 r0 a1 T H) := by
    intro n80705
    induction n80705 using Nat.strongRecOn with
    | _ n80705 ih80706 =>
      intro v80707 v80708 b80711 b80712 x80713 x80714 m80715
      have hx : v80707 = -1 → wdv (H r0 10 - 1 - v80707).toNat a1 = wdv (H r0 10).toNat a1 := fun q => by rw [show (H r0 10 - 1 - v80707).toNat = (H r0 10).toNat by omega]
      refine wp_of e162 c162_10 (rw_iload (pc' := 12) (z := v80707) rfl rfl ?_)
      refine wp_of e162 c162_12 (rw_if_lt (p1 := 60) (p2 := 15) (by decide) rfl ⟨by omega, by omega⟩ (fun c80716 => ?_) (fun c80716 => ?_))
      · refine wp_of e162 c162_60 (rw_lload_n (pc' := 61) (z := a1) rfl rfl ?_)
        refine wp_of e162 c162_61 (rw_lconst (pc' := 62) (z := 0) rfl rfl ?_)
        refine wp_of e162 c162_62 (rw_lcmp (pc' := 63) rfl ⟨by omega, by omega⟩ ⟨by omega, by omega⟩ ?_)
        have b80717 := wq_cmp_b a1 0
        refine wp_of e162 c162_63 (rw_if_lt (p1 := 78) (p2 := 66) (by decide) rfl ⟨by omega, by omega⟩ (fun c80718 => ?_) (fun c80718 => ?_))
        · refine wp_of e162 c162_78 (rw_iconst (pc' := 79) rfl ?_)
          exact wp_zreturn e162 c162_79 rfl (by omega) ⟨rfl, rfl, 0, rfl, ⟨by omega, by omega⟩, by omega⟩
        · refine wp_of e162 c162_66 (rw_lload_n (pc' := 67) (z := v80708) rfl rfl ?_)
          refine wp_of e162 c162_67 (rw_ldc2 (pc' := 70) (z := 20000) rfl rfl rfl ?_)
          refine wp_of e162 c162_70 (rw_lcmp (pc' := 71) rfl ⟨by omega, by omega⟩ ⟨by omega, by omega⟩ ?_)
          have b80719 := wq_cmp_b v80708 20000
          refine wp_of e162 c162_71 (rw_if_gt (p1 := 78) (p2 := 74) (by decide) rfl ⟨by omega, by omega⟩ (fun c80720 => ?_) (fun c80720 => ?_))
          · refine wp_of e162 c162_78 (rw_iconst (pc' := 79) rfl ?_)
            exact wp_zreturn e162 c162_79 rfl (by omega) ⟨rfl, rfl, 0, rfl, ⟨by omega, by omega⟩, by omega⟩
          · refine wp_of e162 c162_74 (rw_iconst (pc' := 75) rfl ?_)
            refine wp_of e162 c162_75 (rw_goto (p1 := 79) (by decide) ?_)
            exact wp_zreturn e162 c162_79 rfl (by omega) ⟨rfl, rfl, 1, rfl, ⟨by omega, by omega⟩, by omega⟩
      · refine wp_of e162 c162_15 (rw_lload_n (pc' := 16) (z := v80708) rfl rfl ?_)
        refine wp_of e162 c162_16 (rw_ldc2 (pc' := 19) (z := 40) rfl rfl rfl ?_)
        refine wp_of e162 c162_19 (rw_lrem (pc' := 20) rfl ⟨by omega, by omega⟩ (by omega) ?_)
        obtain ⟨v80721, e80722⟩ : ∃ x : Int, x = wl_rem v80708 40 := ⟨_, rfl⟩
        rw [← e80722]
        have b80723 : -9223372036854775808 ≤ v80721 ∧ v80721 ≤ 9223372036854775807 := by
          rw [e80722]
          exact wL_rem _ _
        have b80724 : v80708 < 0 ∨ v80721 = v80708 % 40 := by
          rw [e80722]
          exact wl_rem_or ⟨by omega, by omega⟩ ⟨by omega, by omega⟩
        refine wp_of e162 c162_20 (rw_lstore (pc' := 22) (z := v80721) (L' := [(6, vL v80721), (5, vI v80707), (3, vL v80708), (0, .ref r0), (1, vL a1)]) rfl rfl rfl ?_)
        refine wp_of e162 c162_22 (rw_lload (pc' := 24) (z := v80721) rfl rfl ?_)
        refine wp_of e162 c162_24 (rw_lconst (pc' := 25) (z := 0) rfl rfl ?_)
        refine wp_of e162 c162_25 (rw_lcmp (pc' := 26) rfl ⟨by omega, by omega⟩ ⟨by omega, by omega⟩ ?_)
        have b80725 := wq_cmp_b v80721 0
        refine wp_of e162 c162_26 (rw_if_eq (p1 := 48) (p2 := 29) (by decide) rfl ⟨by omega, by omega⟩ (fun c80726 => ?_) (fun c80726 => ?_))
        · refine wp_of e162 c162_48 (rw_lload_n (pc' := 49) (z := v80708) rfl rfl ?_)
          refine wp_of e162 c162_49 (rw_ldc2 (pc' := 52) (z := 40) rfl rfl rfl ?_)
          refine wp_of e162 c162_52 (rw_ldiv (pc' := 53) rfl ⟨by omega, by omega⟩ (by omega) ?_)
          obtain ⟨v80727, e80728⟩ : ∃ x : Int, x = wl_div v80708 40 := ⟨_, rfl⟩
          rw [← e80728]
          have b80729 : -9223372036854775808 ≤ v80727 ∧ v80727 ≤ 9223372036854775807 := by
            rw [e80728]
            exact wL_div _ _
          have b80730 : v80708 < 0 ∨ v80727 = v80708 / 40 := by
            rw [e80728]
            exact wl_div_or ⟨by omega, by omega⟩ ⟨by omega, by omega⟩
          refine wp_of e162 c162_53 (rw_lstore_n (pc' := 54) (z := v80727) (L' := [(3, vL v80727), (6, vL v80721), (5, vI v80707), (0, .ref r0), (1, vL a1)]) rfl rfl rfl ?_)
          refine wp_of e162 c162_54 (rw_iinc (pc' := 57) (z := v80707) (L' := [(5, vI (v80707 + (-1))), (3, vL v80727), (6, vL v80721), (0, .ref r0), (1, vL a1)]) rfl rfl rfl rfl ?_)
          refine wp_of e162 c162_57 (rw_goto (p1 := 10) (by decide) ?_)
          exact wp_lc (ks := [5, 3, 6, 0, 1]) (wl_c rfl (wl_c rfl (wl_c rfl (wl_c rfl wl_n)))) rfl (by decide) (ih80706 _ (by omega) (v80707 + (-1)) v80727 ⟨by omega, by omega⟩ ⟨by omega, by omega⟩ (by omega) (wdv_o (by assumption) (by omega) (by assumption)) rfl)
        · refine wp_of e162 c162_29 (rw_lload (pc' := 31) (z := v80721) rfl rfl ?_)
          refine wp_of e162 c162_31 (rw_aload_n (pc' := 32) (v := .ref r0) rfl rfl rfl ?_)
          refine wp_of e162 c162_32 (xg_R (pc' := 35) lf_7_11 hW g0 sh_27 (by decide) (by decide) ty_27_0 rfl rfl (fun r80731 q80732 g80733 => ?_))
          refine wp_of e162 c162_35 (rw_iload (pc' := 37) (z := v80707) rfl rfl ?_)
          refine wp_of e162 c162_37 (xa_R (pc' := 38) (by decide) hW g80733 sh_28 (by decide) (ty_28 _) (by omega) (by omega) rfl (fun r80734 q80735 g80736 => ?_))
          refine wp_of e162 c162_38 (xg_I (pc' := 41) lf_7_110 hW g80736 sh_35 (by decide) (by decide) ty_35_15 rfl rfl (fun b80737 b80738 => ?_))
          refine wp_of e162 c162_41 (rw_i2l (pc' := 42) rfl ⟨by omega, by omega⟩ ?_)
          refine wp_of e162 c162_42 (rw_lcmp (pc' := 43) rfl ⟨by omega, by omega⟩ ⟨by omega, by omega⟩ ?_)
          have b80739 := wq_cmp_b v80721 (H r80734 15)
          refine wp_of e162 c162_43 (rw_if_lt (p1 := 48) (p2 := 46) (by decide) rfl ⟨by omega, by omega⟩ (fun c80740 => ?_) (fun c80740 => ?_))
          · refine wp_of e162 c162_48 (rw_lload_n (pc' := 49) (z := v80708) rfl rfl ?_)
            refine wp_of e162 c162_49 (rw_ldc2 (pc' := 52) (z := 40) rfl rfl rfl ?_)
            refine wp_of e162 c162_52 (rw_ldiv (pc' := 53) rfl ⟨by omega, by omega⟩ (by omega) ?_)
            obtain ⟨v80741, e80742⟩ : ∃ x : Int, x = wl_div v80708 40 := ⟨_, rfl⟩
            rw [← e80742]
            have b80743 : -9223372036854775808 ≤ v80741 ∧ v80741 ≤ 9223372036854775807 := by
              rw [e80742]
              exact wL_div _ _
            have b80744 : v80708 < 0 ∨ v80741 = v80708 / 40 := by
              rw [e80742]
              exact wl_div_or ⟨by omega, by omega⟩ ⟨by omega, by omega⟩
            refine wp_of e162 c162_53 (rw_lstore_n (pc' := 54) (z := v80741) (L' := [(3, vL v80741), (6, vL v80721), (5, vI v80707), (0, .ref r0), (1, vL a1)]) rfl rfl rfl ?_)
            refine wp_of e162 c162_54 (rw_iinc (pc' := 57) (z := v80707) (L' := [(5, vI (v80707 + (-1))), (3, vL v80741), (6, vL v80721), (0, .ref r0), (1, vL a1)]) rfl rfl rfl rfl ?_)
            refine wp_of e162 c162_57 (rw_goto (p1 := 10) (by decide) ?_)
            exact wp_lc (ks := [5, 3, 6, 0, 1]) (wl_c rfl (wl_c rfl (wl_c rfl (wl_c rfl wl_n)))) rfl (by decide) (ih80706 _ (by omega) (v80707 + (-1)) v80741 ⟨by omega, by omega⟩ ⟨by omega, by omega⟩ (by omega) (wdv_o (by assumption) (by omega) (by assumption)) rfl)
          · refine wp_of e162 c162_46 (rw_iconst (pc' := 47) rfl ?_)
            exact wp_zreturn e162 c162_47 rfl (by omega) ⟨rfl, rfl, 0, rfl, ⟨by omega, by omega⟩, by omega⟩
  exact wp_lc (ks := [5, 3, 0, 1]) (wl_c rfl (wl_c rfl (wl_c rfl (wl_c rfl wl_n)))) rfl (by decide) (lp80704 _ ((H r0 10) - 1) a1 ⟨by omega, by omega⟩ ⟨by omega, by omega⟩ (by omega) (by rw [show (H r0 10 - 1 - (H r0 10 - 1)).toNat = 0 by omega]; exact (Decidable.em (a1 < 0)).imp id (fun h => ⟨by omega, rfl⟩)) rfl)
/-! StrikeAwake$Parish.takePicture(J)V -/
theorem e163 : wq_en 163 = some (7, 6, false, none) := rfl
theorem c163_0 : mc_cd 163 0 = some (.lload_n 1, 1) := by decide +kernel
theorem c163_1 : mc_cd 163 1 = some (.lstore_n 3, 1) := by decide +kernel
theorem c163_2 : mc_cd 163 2 = some (.aload_n 0, 1) := by decide +kernel
theorem c163_3 : mc_cd 163 3 = some (.getfield 50, 3) := by decide +kernel
theorem c163_6 : mc_cd 163 6 = some (.iconst 1, 1) := by decide +kernel
theorem c163_7 : mc_cd 163 7 = some (.isub, 1) := by decide +kernel
theorem c163_8 : mc_cd 163 8 = some (.istore 5, 2) := by decide +kernel
theorem c163_10 : mc_cd 163 10 = some (.iload 5, 2) := by decide +kernel
theorem c163_12 : mc_cd 163 12 = some (.ifCond .lt 31, 3) := by decide +kernel
theorem c163_15 : mc_cd 163 15 = some (.aload_n 0, 1) := by decide +kernel
theorem c163_16 : mc_cd 163 16 = some (.getfield 11, 3) := by decide +kernel
theorem c163_19 : mc_cd 163 19 = some (.iload 5, 2) := by decide +kernel
theorem c163_21 : mc_cd 163 21 = some (.aaload, 1) := by decide +kernel
theorem c163_22 : mc_cd 163 22 = some (.lload_n 3, 1) := by decide +kernel
theorem c163_23 : mc_cd 163 23 = some (.ldc2_w 125, 3) := by decide +kernel
theorem c163_26 : mc_cd 163 26 = some (.lrem, 1) := by decide +kernel
theorem c163_27 : mc_cd 163 27 = some (.l2i, 1) := by decide +kernel
theorem c163_28 : mc_cd 163 28 = some (.putfield 127, 3) := by decide +kernel
theorem c163_31 : mc_cd 163 31 = some (.lload_n 3, 1) := by decide +kernel
theorem c163_32 : mc_cd 163 32 = some (.ldc2_w 125, 3) := by decide +kernel
theorem c163_35 : mc_cd 163 35 = some (.ldiv, 1) := by decide +kernel
theorem c163_36 : mc_cd 163 36 = some (.lstore_n 3, 1) := by decide +kernel
theorem c163_37 : mc_cd 163 37 = some (.iinc 5 (-1), 3) := by decide +kernel
theorem c163_40 : mc_cd 163 40 = some (.goto (-30), 3) := by decide +kernel
theorem c163_43 : mc_cd 163 43 = some (.aload_n 0, 1) := by decide +kernel
theorem c163_44 : mc_cd 163 44 = some (.lload_n 3, 1) := by decide +kernel
theorem c163_45 : mc_cd 163 45 = some (.l2i, 1) := by decide +kernel
theorem c163_46 : mc_cd 163 46 = some (.putfield 68, 3) := by decide +kernel
theorem c163_49 : mc_cd 163 49 = some (.return_, 1) := by decide +kernel
abbrev q_163 (r0 : Nat) (a1 : Int) (T : wq_T) (H : wq_H) : Option Value → wq_T → wq_H → Prop := fun r T' H' => T = T' ∧ WT T H' ∧ wfr [(27, 17), (35, 16)] T H H' ∧ none = r
set_option maxHeartbeats 4000000 in
theorem s_163 {kt : Nat → Option mc_E} {T : wq_T} {H : wq_H} {r0 : Nat} {a1 : Int} (hW : WT T H) (g0 : T.2.2.2 r0 = some 27) (i1 : 0 ≤ a1 ∧ a1 ≤ 9223372036854775807) (p0 : wdv (H r0 10).toNat a1 ≤ 20000) : wpc kt 1 163 [.ref r0, vL a1] T H (q_163 r0 a1 T H) := by
  refine wp_enter e163 (Nat.le_of_ble_eq_true rfl) rfl ?_
  have f0 : wfr [(27, 17), (35, 16)] T H H := wfr.rf
  show wp _ _ 163 0 [(0, .ref r0), (1, vL a1)] [] _ H _
  refine wp_of e163 c163_0 (rw_lload_n (pc' := 1) (z := a1) rfl rfl ?_)
  refine wp_of e163 c163_1 (rw_lstore_n (pc' := 2) (z := a1) (L' := [(3, vL a1), (0, .ref r0), (1, vL a1)]) rfl rfl rfl ?_)
  refine wp_of e163 c163_2 (rw_aload_n (pc' := 3) (v := .ref r0) rfl rfl rfl ?_)
  refine wp_of e163 c163_3 (xg_I (pc' := 6) lf_7_50 hW g0 sh_27 (by decide) (by decide) ty_27_10 rfl rfl (fun b80809 b80810 => ?_))
  refine wp_of e163 c163_6 (rw_iconst (pc' := 7) rfl ?_)
  refine wp_of e163 c163_7 (rw_isub (pc' := 8) rfl ?_)
  refine wp_of e163 c163_8 (rw_istore (pc' := 10) (z := (H r0 10) - 1) (L' := [(5, vI ((H r0 10) - 1)), (3, vL a1), (0, .ref r0), (1, vL a1)]) rfl rfl rfl ?_)
  have lp80847 : ∀ (n80848 : Nat) (v80850 : Int) (v80851 : Int) (H80852 : wq_H), WT T H80852 → wfr [(35, 16)] T H H80852 → ((-1) ≤ v80850 ∧ v80850 ≤ 5) → (0 ≤ v80851 ∧ v80851 ≤ 9223372036854775807) → (v80850 ≤ H80852 r0 10 - 1) → (v80851 = wdv (H80852 r0 10 - 1 - v80850).toNat a1) → (v80850 - (-1)).toNat = n80848 → wp kt 0 163 10 [(5, vI v80850), (3, vL v80851), (0, .ref r0)] [] T H80852 (q_163 r0 a1 T H) := by
    intro n80848
    induction n80848 using Nat.strongRecOn with
    | _ n80848 ih80849 =>
      intro v80850 v80851 H80852 w80853 f80854 b80855 b80856 x80857 x80858 m80859
      have f80860 := f0.tr f80854 rfl
      have k80861 : H80852 r0 10 = H r0 10 := (f80854 r0 10 _ g0 rfl)
      have hx : v80850 = -1 → wdv (H80852 r0 10 - 1 - v80850).toNat a1 = wdv (H r0 10).toNat a1 := fun q => by rw [show (H80852 r0 10 - 1 - v80850).toNat = (H r0 10).toNat by omega]
      refine wp_of e163 c163_10 (rw_iload (pc' := 12) (z := v80850) rfl rfl ?_)
      refine wp_of e163 c163_12 (rw_if_lt (p1 := 43) (p2 := 15) (by decide) rfl ⟨by omega, by omega⟩ (fun c80862 => ?_) (fun c80862 => ?_))
      · refine wp_of e163 c163_43 (rw_aload_n (pc' := 44) (v := .ref r0) rfl rfl rfl ?_)
        refine wp_of e163 c163_44 (rw_lload_n (pc' := 45) (z := v80851) rfl rfl ?_)
        refine wp_of e163 c163_45 (rw_l2i (pc' := 46) rfl ?_)
        obtain ⟨v80863, e80864⟩ : ∃ x : Int, x = wq_w v80851 := ⟨_, rfl⟩
        rw [← e80864]
        have b80865 : -2147483648 ≤ v80863 ∧ v80863 ≤ 2147483647 := by
          rw [e80864]
          exact wI_w _
        have b80866 : (-2147483648 ≤ v80851 ∧ v80851 ≤ 2147483647) → v80863 = v80851 := by
          rw [e80864]
          exact fun h => wq_w_id h
        refine wp_of e163 c163_46 (xp_I (pc' := 49) lf_7_68 w80853 g0 sh_27 (by decide) (by decide) ty_27_17 rfl rfl (by omega) (by omega) ⟨by omega, by omega⟩ rfl (fun H80867 e80868 w80869 => ?_))
        have f80870 := f80860.put' e80868 g0 rfl
        have k80871 : H80867 r0 17 = v80863 := wq_u_s e80868
        exact wp_return e163 c163_49 rfl ⟨rfl, w80869, f80870, rfl⟩
      · refine wp_of e163 c163_15 (rw_aload_n (pc' := 16) (v := .ref r0) rfl rfl rfl ?_)
        refine wp_of e163 c163_16 (xg_R (pc' := 19) lf_7_11 w80853 g0 sh_27 (by decide) (by decide) ty_27_0 rfl rfl (fun r80872 q80873 g80874 => ?_))
        refine wp_of e163 c163_19 (rw_iload (pc' := 21) (z := v80850) rfl rfl ?_)
        refine wp_of e163 c163_21 (xa_R (pc' := 22) (by decide) w80853 g80874 sh_28 (by decide) (ty_28 _) (by omega) (by omega) rfl (fun r80875 q80876 g80877 => ?_))
        refine wp_of e163 c163_22 (rw_lload_n (pc' := 23) (z := v80851) rfl rfl ?_)
        refine wp_of e163 c163_23 (rw_ldc2 (pc' := 26) (z := 40) rfl rfl rfl ?_)
        refine wp_of e163 c163_26 (rw_lrem (pc' := 27) rfl ⟨by omega, by omega⟩ (by omega) ?_)
        obtain ⟨v80878, e80879⟩ : ∃ x : Int, x = wl_rem v80851 40 := ⟨_, rfl⟩
        rw [← e80879]
        have b80880 : v80878 = v80851 % 40 := by
          rw [e80879]
          exact wl_rem_e ⟨by omega, by omega⟩ ⟨by omega, by omega⟩
        refine wp_of e163 c163_27 (rw_l2i (pc' := 28) rfl ?_)
        obtain ⟨v80881, e80882⟩ : ∃ x : Int, x = wq_w v80878 := ⟨_, rfl⟩
        rw [← e80882]
        have b80883 : v80881 = v80878 := by
          rw [e80882]
          exact wq_w_id ⟨by omega, by omega⟩
        refine wp_of e163 c163_28 (xp_I (pc' := 31) lf_7_127 w80853 g80877 sh_35 (by decide) (by decide) ty_35_16 rfl rfl (by omega) (by omega) ⟨by omega, by omega⟩ rfl (fun H80884 e80885 w80886 => ?_))
        have f80887 := f80860.put' e80885 g80877 rfl
        have f80888 := f80854.put' e80885 g80877 rfl
        have k80889 : H80884 r80875 16 = v80881 := wq_u_s e80885
        refine wp_of e163 c163_31 (rw_lload_n (pc' := 32) (z := v80851) rfl rfl ?_)
        refine wp_of e163 c163_32 (rw_ldc2 (pc' := 35) (z := 40) rfl rfl rfl ?_)
        refine wp_of e163 c163_35 (rw_ldiv (pc' := 36) rfl ⟨by omega, by omega⟩ (by omega) ?_)
        obtain ⟨v80890, e80891⟩ : ∃ x : Int, x = wl_div v80851 40 := ⟨_, rfl⟩
        rw [← e80891]
        have b80892 : v80890 = v80851 / 40 := by
          rw [e80891]
          exact wl_div_e ⟨by omega, by omega⟩ ⟨by omega, by omega⟩
        refine wp_of e163 c163_36 (rw_lstore_n (pc' := 37) (z := v80890) (L' := [(3, vL v80890), (5, vI v80850), (0, .ref r0)]) rfl rfl rfl ?_)
        refine wp_of e163 c163_37 (rw_iinc (pc' := 40) (z := v80850) (L' := [(5, vI (v80850 + (-1))), (3, vL v80890), (0, .ref r0)]) rfl rfl rfl rfl ?_)
        refine wp_of e163 c163_40 (rw_goto (p1 := 10) (by decide) ?_)
        have k80893 : H80884 r0 10 = H80852 r0 10 := (wq_u_t e80885 g80877 g0 rfl 10)
        exact wp_lc (ks := [5, 3, 0]) (wl_c rfl (wl_c rfl (wl_c rfl wl_n))) rfl (by decide) (ih80849 _ (by omega) (v80850 + (-1)) v80890 H80884 w80886 f80888 ⟨by omega, by omega⟩ ⟨by omega, by omega⟩ (by omega) (wdv_s (by assumption) (by omega) (by assumption)) rfl)
  exact wp_lc (ks := [5, 3, 0, 1]) (wl_c rfl (wl_c rfl (wl_c rfl wl_n))) rfl (by decide) (lp80847 _ ((H r0 10) - 1) a1 H hW wfr.rf ⟨by omega, by omega⟩ ⟨by omega, by omega⟩ (by omega) (by rw [show (H r0 10 - 1 - (H r0 10 - 1)).toNat = 0 by omega]; rfl) rfl)
