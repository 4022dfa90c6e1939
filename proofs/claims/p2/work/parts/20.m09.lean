/-! methods (own work, written by wip/gen2/sx.py) -/
/-! StrikeAwake.proof()I -/
theorem e137 : wq_en 137 = some (0, 1, false, some FieldType.int) := rfl
theorem c137_0 : mc_cd 137 0 = some (.aload_n 0, 1) := by decide +kernel
theorem c137_1 : mc_cd 137 1 = some (.getfield 58, 3) := by decide +kernel
theorem c137_4 : mc_cd 137 4 = some (.ifCond .ne 9, 3) := by decide +kernel
theorem c137_7 : mc_cd 137 7 = some (.aload_n 0, 1) := by decide +kernel
theorem c137_8 : mc_cd 137 8 = some (.iconst 1, 1) := by decide +kernel
theorem c137_9 : mc_cd 137 9 = some (.invokevirtual 70, 3) := by decide +kernel
theorem c137_12 : mc_cd 137 12 = some (.ireturn, 1) := by decide +kernel
theorem c137_13 : mc_cd 137 13 = some (.aload_n 0, 1) := by decide +kernel
theorem c137_14 : mc_cd 137 14 = some (.getfield 51, 3) := by decide +kernel
theorem c137_17 : mc_cd 137 17 = some (.getfield 141, 3) := by decide +kernel
theorem c137_20 : mc_cd 137 20 = some (.ldc2_w 252, 3) := by decide +kernel
theorem c137_23 : mc_cd 137 23 = some (.lcmp, 1) := by decide +kernel
theorem c137_24 : mc_cd 137 24 = some (.ifCond .le 9, 3) := by decide +kernel
theorem c137_27 : mc_cd 137 27 = some (.aload_n 0, 1) := by decide +kernel
theorem c137_28 : mc_cd 137 28 = some (.iconst 3, 1) := by decide +kernel
theorem c137_29 : mc_cd 137 29 = some (.invokevirtual 70, 3) := by decide +kernel
theorem c137_32 : mc_cd 137 32 = some (.ireturn, 1) := by decide +kernel
theorem c137_33 : mc_cd 137 33 = some (.aload_n 0, 1) := by decide +kernel
theorem c137_34 : mc_cd 137 34 = some (.getfield 30, 3) := by decide +kernel
theorem c137_37 : mc_cd 137 37 = some (.aload_n 0, 1) := by decide +kernel
theorem c137_38 : mc_cd 137 38 = some (.getfield 51, 3) := by decide +kernel
theorem c137_41 : mc_cd 137 41 = some (.aload_n 0, 1) := by decide +kernel
theorem c137_42 : mc_cd 137 42 = some (.getfield 23, 3) := by decide +kernel
theorem c137_45 : mc_cd 137 45 = some (.invokevirtual 254, 3) := by decide +kernel
theorem c137_48 : mc_cd 137 48 = some (.aload_n 0, 1) := by decide +kernel
theorem c137_49 : mc_cd 137 49 = some (.getfield 30, 3) := by decide +kernel
theorem c137_52 : mc_cd 137 52 = some (.getfield 177, 3) := by decide +kernel
theorem c137_55 : mc_cd 137 55 = some (.ifCond .le 9, 3) := by decide +kernel
theorem c137_58 : mc_cd 137 58 = some (.aload_n 0, 1) := by decide +kernel
theorem c137_59 : mc_cd 137 59 = some (.iconst 5, 1) := by decide +kernel
theorem c137_60 : mc_cd 137 60 = some (.invokevirtual 70, 3) := by decide +kernel
theorem c137_63 : mc_cd 137 63 = some (.ireturn, 1) := by decide +kernel
theorem c137_64 : mc_cd 137 64 = some (.aload_n 0, 1) := by decide +kernel
theorem c137_65 : mc_cd 137 65 = some (.aload_n 0, 1) := by decide +kernel
theorem c137_66 : mc_cd 137 66 = some (.getfield 44, 3) := by decide +kernel
theorem c137_69 : mc_cd 137 69 = some (.aload_n 0, 1) := by decide +kernel
theorem c137_70 : mc_cd 137 70 = some (.getfield 51, 3) := by decide +kernel
theorem c137_73 : mc_cd 137 73 = some (.aload_n 0, 1) := by decide +kernel
theorem c137_74 : mc_cd 137 74 = some (.getfield 23, 3) := by decide +kernel
theorem c137_77 : mc_cd 137 77 = some (.invokevirtual 258, 3) := by decide +kernel
theorem c137_80 : mc_cd 137 80 = some (.invokevirtual 99, 3) := by decide +kernel
theorem c137_83 : mc_cd 137 83 = some (.ireturn, 1) := by decide +kernel
abbrev q_137 (r0 : Nat) (T : wq_T) (H : wq_H) : Option Value → wq_T → wq_H → Prop := fun r T' H' => T = T' ∧ WT T H' ∧ wfr [(12, 5), (12, 6), (12, 7), (12, 8), (12, 9), (25, 1), (25, 2), (1, 10), (6, 5), (8, 999), (10, 999), (26, 999), (15, 999), (9, 999), (18, 999), (19, 999), (7, 999), (11, 999), (17, 999), (13, 999)] T H H' ∧ ∃ z : Int, some (vI z) = r ∧ ((-2147483648) ≤ z ∧ z ≤ 2147483647)
set_option maxHeartbeats 4000000 in
theorem s_137 {kt : Nat → Option mc_E} {T : wq_T} {H : wq_H} {r0 : Nat} (hW : WT T H) (g0 : T.2.2.2 r0 = some 1) : wpc kt 6 137 [.ref r0] T H (q_137 r0 T H) := by
  refine wp_enter e137 (Nat.le_of_ble_eq_true rfl) rfl ?_
  have f0 : wfr [(12, 5), (12, 6), (12, 7), (12, 8), (12, 9), (25, 1), (25, 2), (1, 10), (6, 5), (8, 999), (10, 999), (26, 999), (15, 999), (9, 999), (18, 999), (19, 999), (7, 999), (11, 999), (17, 999), (13, 999)] T H H := wfr.rf
  show wp _ _ 137 0 [(0, .ref r0)] [] _ H _
  refine wp_of e137 c137_0 (rw_aload_n (pc' := 1) (v := .ref r0) rfl rfl rfl ?_)
  refine wp_of e137 c137_1 (xg_I (pc' := 4) lf_0_58 hW g0 sh_1 (by decide) (by decide) ty_1_8 rfl rfl (fun b74767 b74768 => ?_))
  refine wp_of e137 c137_4 (rw_if_ne (p1 := 13) (p2 := 7) (by decide) rfl ⟨by omega, by omega⟩ (fun c74769 => ?_) (fun c74769 => ?_))
  · refine wp_of e137 c137_13 (rw_aload_n (pc' := 14) (v := .ref r0) rfl rfl rfl ?_)
    refine wp_of e137 c137_14 (xg_R (pc' := 17) lf_0_51 hW g0 sh_1 (by decide) (by decide) ty_1_6 rfl rfl (fun r74770 q74771 g74772 => ?_))
    refine wp_of e137 c137_17 (xg_L (pc' := 20) lf_0_141 hW g74772 sh_27 (by decide) (by decide) ty_27_18 rfl rfl (fun b74773 b74774 => ?_))
    refine wp_of e137 c137_20 (rw_ldc2 (pc' := 23) (z := 5000) rfl rfl rfl ?_)
    refine wp_of e137 c137_23 (rw_lcmp (pc' := 24) rfl ⟨by omega, by omega⟩ ⟨by omega, by omega⟩ ?_)
    have b74775 := wq_cmp_b (H r74770 18) 5000
    refine wp_of e137 c137_24 (rw_if_le (p1 := 33) (p2 := 27) (by decide) rfl ⟨by omega, by omega⟩ (fun c74776 => ?_) (fun c74776 => ?_))
    · refine wp_of e137 c137_33 (rw_aload_n (pc' := 34) (v := .ref r0) rfl rfl rfl ?_)
      refine wp_of e137 c137_34 (xg_R (pc' := 37) lf_0_30 hW g0 sh_1 (by decide) (by decide) ty_1_3 rfl rfl (fun r74777 q74778 g74779 => ?_))
      refine wp_of e137 c137_37 (rw_aload_n (pc' := 38) (v := .ref r0) rfl rfl rfl ?_)
      refine wp_of e137 c137_38 (xg_K (pc' := 41) lf_0_51 hW g0 sh_1 (by decide) (by decide) rfl q74771 rfl ?_)
      refine wp_of e137 c137_41 (rw_aload_n (pc' := 42) (v := .ref r0) rfl rfl rfl ?_)
      refine wp_of e137 c137_42 (xg_R (pc' := 45) lf_0_23 hW g0 sh_1 (by decide) (by decide) ty_1_2 rfl rfl (fun r74780 q74781 g74782 => ?_))
      refine wp_of e137 c137_45 (xc_V (pc' := 48) (r := r74777) (as := [.ref r74770, .ref r74780]) (st := []) (lm_0_254) rfl rfl (Nat.le_of_ble_eq_true rfl) hW g74779 sh_12 (by decide) rfl (by decide) (s_85 hW g74779 g74772 g74782) (fun R74783 T74784 H74785 p74786 => ?_))
      obtain ⟨e74787, w74789, f74790, e74788⟩ := p74786
      subst e74787
      subst e74788
      have f74791 := f0.tr f74790 rfl
      show wp _ _ 137 48 [(0, .ref r0)] [] _ H74785 _
      refine wp_of e137 c137_48 (rw_aload_n (pc' := 49) (v := .ref r0) rfl rfl rfl ?_)
      have k74792 : H74785 r0 3 = H r0 3 := (f74790 r0 3 _ g0 rfl)
      have q74793 : H74785 r0 3 = (r74777 : Int) := k74792.trans q74778
      refine wp_of e137 c137_49 (xg_K (pc' := 52) lf_0_30 w74789 g0 sh_1 (by decide) (by decide) rfl q74793 rfl ?_)
      refine wp_of e137 c137_52 (xg_I (pc' := 55) lf_0_177 w74789 g74779 sh_12 (by decide) (by decide) ty_12_5 rfl rfl (fun b74794 b74795 => ?_))
      refine wp_of e137 c137_55 (rw_if_le (p1 := 64) (p2 := 58) (by decide) rfl ⟨by omega, by omega⟩ (fun c74796 => ?_) (fun c74796 => ?_))
      · refine wp_of e137 c137_64 (rw_aload_n (pc' := 65) (v := .ref r0) rfl rfl rfl ?_)
        refine wp_of e137 c137_65 (rw_aload_n (pc' := 66) (v := .ref r0) rfl rfl rfl ?_)
        refine wp_of e137 c137_66 (xg_R (pc' := 69) lf_0_44 w74789 g0 sh_1 (by decide) (by decide) ty_1_5 rfl rfl (fun r74797 q74798 g74799 => ?_))
        refine wp_of e137 c137_69 (rw_aload_n (pc' := 70) (v := .ref r0) rfl rfl rfl ?_)
        have k74800 : H74785 r0 6 = H r0 6 := (f74790 r0 6 _ g0 rfl)
        have q74801 : H74785 r0 6 = (r74770 : Int) := k74800.trans q74771
        refine wp_of e137 c137_70 (xg_K (pc' := 73) lf_0_51 w74789 g0 sh_1 (by decide) (by decide) rfl q74801 rfl ?_)
        refine wp_of e137 c137_73 (rw_aload_n (pc' := 74) (v := .ref r0) rfl rfl rfl ?_)
        have k74802 : H74785 r0 2 = H r0 2 := (f74790 r0 2 _ g0 rfl)
        have q74803 : H74785 r0 2 = (r74780 : Int) := k74802.trans q74781
        refine wp_of e137 c137_74 (xg_K (pc' := 77) lf_0_23 w74789 g0 sh_1 (by decide) (by decide) rfl q74803 rfl ?_)
        refine wp_of e137 c137_77 (xc_V (pc' := 80) (r := r74797) (as := [.ref r74770, .ref r74780]) (st := [.ref r0]) (lm_0_258) rfl rfl (Nat.le_of_ble_eq_true rfl) w74789 g74799 sh_25 (by decide) rfl (by decide) (s_138 w74789 g74799 g74772 g74782) (fun R74804 T74805 H74806 p74807 => ?_))
        obtain ⟨e74808, w74810, f74811, z74812, e74809, b74813⟩ := p74807
        subst e74808
        subst e74809
        have f74814 := f74791.tr f74811 rfl
        show wp _ _ 137 80 [(0, .ref r0)] [vI z74812, .ref r0] _ H74806 _
        refine wp_of e137 c137_80 (xc_V (pc' := 83) (r := r0) (as := [vI z74812]) (st := []) (lm_0_99) rfl rfl (Nat.le_of_ble_eq_true rfl) w74810 g0 sh_1 (by decide) rfl (by decide) (s_51 w74810 g0 ⟨by omega, by omega⟩) (fun R74815 T74816 H74817 p74818 => ?_))
        obtain ⟨e74819, w74821, f74822, z74823, e74820, b74824⟩ := p74818
        subst e74819
        subst e74820
        have f74825 := f74814.tr f74822 rfl
        show wp _ _ 137 83 [(0, .ref r0)] [vI z74823] _ H74817 _
        exact wp_ireturn e137 c137_83 rfl ⟨rfl, w74821, f74825, z74823, rfl, ⟨by omega, by omega⟩⟩
      · refine wp_of e137 c137_58 (rw_aload_n (pc' := 59) (v := .ref r0) rfl rfl rfl ?_)
        refine wp_of e137 c137_59 (rw_iconst (pc' := 60) rfl ?_)
        refine wp_of e137 c137_60 (xc_V (pc' := 63) (r := r0) (as := [vI 5]) (st := []) (lm_0_70) rfl rfl (Nat.le_of_ble_eq_true rfl) w74789 g0 sh_1 (by decide) rfl (by decide) (s_12 w74789 g0 ⟨by omega, by omega⟩) (fun R74826 T74827 H74828 p74829 => ?_))
        obtain ⟨e74830, w74832, f74833, z74834, e74831, b74835⟩ := p74829
        subst e74830
        subst e74831
        have f74836 := f74791.tr f74833 rfl
        show wp _ _ 137 63 [(0, .ref r0)] [vI z74834] _ H74828 _
        exact wp_ireturn e137 c137_63 rfl ⟨rfl, w74832, f74836, z74834, rfl, ⟨by omega, by omega⟩⟩
    · refine wp_of e137 c137_27 (rw_aload_n (pc' := 28) (v := .ref r0) rfl rfl rfl ?_)
      refine wp_of e137 c137_28 (rw_iconst (pc' := 29) rfl ?_)
      refine wp_of e137 c137_29 (xc_V (pc' := 32) (r := r0) (as := [vI 3]) (st := []) (lm_0_70) rfl rfl (Nat.le_of_ble_eq_true rfl) hW g0 sh_1 (by decide) rfl (by decide) (s_12 hW g0 ⟨by omega, by omega⟩) (fun R74837 T74838 H74839 p74840 => ?_))
      obtain ⟨e74841, w74843, f74844, z74845, e74842, b74846⟩ := p74840
      subst e74841
      subst e74842
      have f74847 := f0.tr f74844 rfl
      show wp _ _ 137 32 [(0, .ref r0)] [vI z74845] _ H74839 _
      exact wp_ireturn e137 c137_32 rfl ⟨rfl, w74843, f74847, z74845, rfl, ⟨by omega, by omega⟩⟩
  · refine wp_of e137 c137_7 (rw_aload_n (pc' := 8) (v := .ref r0) rfl rfl rfl ?_)
    refine wp_of e137 c137_8 (rw_iconst (pc' := 9) rfl ?_)
    refine wp_of e137 c137_9 (xc_V (pc' := 12) (r := r0) (as := [vI 1]) (st := []) (lm_0_70) rfl rfl (Nat.le_of_ble_eq_true rfl) hW g0 sh_1 (by decide) rfl (by decide) (s_12 hW g0 ⟨by omega, by omega⟩) (fun R74848 T74849 H74850 p74851 => ?_))
    obtain ⟨e74852, w74854, f74855, z74856, e74853, b74857⟩ := p74851
    subst e74852
    subst e74853
    have f74858 := f0.tr f74855 rfl
    show wp _ _ 137 12 [(0, .ref r0)] [vI z74856] _ H74850 _
    exact wp_ireturn e137 c137_12 rfl ⟨rfl, w74854, f74858, z74856, rfl, ⟨by omega, by omega⟩⟩
/-! StrikeAwake.part(IZ)I -/
theorem e146 : wq_en 146 = some (0, 5, false, some FieldType.int) := rfl
theorem c146_0 : mc_cd 146 0 = some (.aload_n 0, 1) := by decide +kernel
theorem c146_1 : mc_cd 146 1 = some (.aload_n 0, 1) := by decide +kernel
theorem c146_2 : mc_cd 146 2 = some (.iload_n 1, 1) := by decide +kernel
theorem c146_3 : mc_cd 146 3 = some (.invokevirtual 132, 3) := by decide +kernel
theorem c146_6 : mc_cd 146 6 = some (.ifCond .eq 19, 3) := by decide +kernel
theorem c146_9 : mc_cd 146 9 = some (.aload_n 0, 1) := by decide +kernel
theorem c146_10 : mc_cd 146 10 = some (.getfield 51, 3) := by decide +kernel
theorem c146_13 : mc_cd 146 13 = some (.getfield 262, 3) := by decide +kernel
theorem c146_16 : mc_cd 146 16 = some (.iload_n 1, 1) := by decide +kernel
theorem c146_17 : mc_cd 146 17 = some (.iaload, 1) := by decide +kernel
theorem c146_18 : mc_cd 146 18 = some (.ifCond .lt 7, 3) := by decide +kernel
theorem c146_21 : mc_cd 146 21 = some (.iconst 1, 1) := by decide +kernel
theorem c146_22 : mc_cd 146 22 = some (.goto 4, 3) := by decide +kernel
theorem c146_25 : mc_cd 146 25 = some (.iconst 0, 1) := by decide +kernel
theorem c146_26 : mc_cd 146 26 = some (.invokevirtual 198, 3) := by decide +kernel
theorem c146_29 : mc_cd 146 29 = some (.istore_n 3, 1) := by decide +kernel
theorem c146_30 : mc_cd 146 30 = some (.iload_n 3, 1) := by decide +kernel
theorem c146_31 : mc_cd 146 31 = some (.ifCond .eq 12, 3) := by decide +kernel
theorem c146_34 : mc_cd 146 34 = some (.aload_n 0, 1) := by decide +kernel
theorem c146_35 : mc_cd 146 35 = some (.iload_n 3, 1) := by decide +kernel
theorem c146_36 : mc_cd 146 36 = some (.putfield 102, 3) := by decide +kernel
theorem c146_39 : mc_cd 146 39 = some (.sipush (-1000), 3) := by decide +kernel
theorem c146_42 : mc_cd 146 42 = some (.ireturn, 1) := by decide +kernel
theorem c146_43 : mc_cd 146 43 = some (.iload_n 2, 1) := by decide +kernel
theorem c146_44 : mc_cd 146 44 = some (.ifCond .eq 15, 3) := by decide +kernel
theorem c146_47 : mc_cd 146 47 = some (.aload_n 0, 1) := by decide +kernel
theorem c146_48 : mc_cd 146 48 = some (.getfield 30, 3) := by decide +kernel
theorem c146_51 : mc_cd 146 51 = some (.getfield 265, 3) := by decide +kernel
theorem c146_54 : mc_cd 146 54 = some (.iload_n 1, 1) := by decide +kernel
theorem c146_55 : mc_cd 146 55 = some (.iaload, 1) := by decide +kernel
theorem c146_56 : mc_cd 146 56 = some (.goto 12, 3) := by decide +kernel
theorem c146_59 : mc_cd 146 59 = some (.aload_n 0, 1) := by decide +kernel
theorem c146_60 : mc_cd 146 60 = some (.getfield 30, 3) := by decide +kernel
theorem c146_63 : mc_cd 146 63 = some (.getfield 268, 3) := by decide +kernel
theorem c146_66 : mc_cd 146 66 = some (.iload_n 1, 1) := by decide +kernel
theorem c146_67 : mc_cd 146 67 = some (.iaload, 1) := by decide +kernel
theorem c146_68 : mc_cd 146 68 = some (.istore 4, 2) := by decide +kernel
theorem c146_70 : mc_cd 146 70 = some (.aload_n 0, 1) := by decide +kernel
theorem c146_71 : mc_cd 146 71 = some (.aload_n 0, 1) := by decide +kernel
theorem c146_72 : mc_cd 146 72 = some (.getfield 51, 3) := by decide +kernel
theorem c146_75 : mc_cd 146 75 = some (.getfield 262, 3) := by decide +kernel
theorem c146_78 : mc_cd 146 78 = some (.iload_n 1, 1) := by decide +kernel
theorem c146_79 : mc_cd 146 79 = some (.iaload, 1) := by decide +kernel
theorem c146_80 : mc_cd 146 80 = some (.iload 4, 2) := by decide +kernel
theorem c146_82 : mc_cd 146 82 = some (.isub, 1) := by decide +kernel
theorem c146_83 : mc_cd 146 83 = some (.invokevirtual 99, 3) := by decide +kernel
theorem c146_86 : mc_cd 146 86 = some (.ireturn, 1) := by decide +kernel
abbrev q_146 (r0 : Nat) (a1 : Int) (a2 : Int) (T : wq_T) (H : wq_H) : Option Value → wq_T → wq_H → Prop := fun r T' H' => T = T' ∧ WT T H' ∧ wfr [(12, 5), (12, 6), (12, 7), (12, 8), (12, 9), (1, 10), (6, 5), (8, 999), (10, 999), (15, 999), (9, 999), (18, 999), (19, 999), (7, 999), (11, 999), (17, 999), (13, 999)] T H H' ∧ ∃ z : Int, some (vI z) = r ∧ ((-2147483648) ≤ z ∧ z ≤ 2147483647)
set_option maxHeartbeats 4000000 in
theorem s_146 {kt : Nat → Option mc_E} {T : wq_T} {H : wq_H} {r0 : Nat} {a1 : Int} {a2 : Int} (hW : WT T H) (g0 : T.2.2.2 r0 = some 1) (i1 : (-2147483648) ≤ a1 ∧ a1 ≤ 2147483647) (i2 : 0 ≤ a2 ∧ a2 ≤ 1) : wpc kt 7 146 [.ref r0, vI a1, vI a2] T H (q_146 r0 a1 a2 T H) := by
  refine wp_enter e146 (Nat.le_of_ble_eq_true rfl) rfl ?_
  have f0 : wfr [(12, 5), (12, 6), (12, 7), (12, 8), (12, 9), (1, 10), (6, 5), (8, 999), (10, 999), (15, 999), (9, 999), (18, 999), (19, 999), (7, 999), (11, 999), (17, 999), (13, 999)] T H H := wfr.rf
  show wp _ _ 146 0 [(0, .ref r0), (1, vI a1), (2, vI a2)] [] _ H _
  refine wp_of e146 c146_0 (rw_aload_n (pc' := 1) (v := .ref r0) rfl rfl rfl ?_)
  refine wp_of e146 c146_1 (rw_aload_n (pc' := 2) (v := .ref r0) rfl rfl rfl ?_)
  refine wp_of e146 c146_2 (rw_iload_n (pc' := 3) (z := a1) rfl rfl ?_)
  refine wp_of e146 c146_3 (xc_V (pc' := 6) (r := r0) (as := [vI a1]) (st := [.ref r0]) (lm_0_132) rfl rfl (Nat.le_of_ble_eq_true rfl) hW g0 sh_1 (by decide) rfl (by decide) (s_60 hW g0 ⟨by omega, by omega⟩) (fun R74990 T74991 H74992 p74993 => ?_))
  obtain ⟨e74994, e74996, z74998, e74995, b74999, p74997⟩ := p74993
  subst e74994
  subst e74995
  subst e74996
  show wp _ _ 146 6 [(0, .ref r0), (1, vI a1), (2, vI a2)] [vI z74998, .ref r0] _ H _
  refine wp_of e146 c146_6 (rw_if_eq (p1 := 25) (p2 := 9) (by decide) rfl ⟨by omega, by omega⟩ (fun c75000 => ?_) (fun c75000 => ?_))
  · refine wp_of e146 c146_25 (rw_iconst (pc' := 26) rfl ?_)
    refine wp_of e146 c146_26 (xc_V (pc' := 29) (r := r0) (as := [vI 0]) (st := []) (lm_0_198) rfl rfl (Nat.le_of_ble_eq_true rfl) hW g0 sh_1 (by decide) rfl (by decide) (s_102 hW g0 ⟨by omega, by omega⟩) (fun R75001 T75002 H75003 p75004 => ?_))
    obtain ⟨e75005, w75007, f75008, z75010, e75006, b75011, p75009⟩ := p75004
    subst e75005
    subst e75006
    have f75012 := f0.tr f75008 rfl
    show wp _ _ 146 29 [(0, .ref r0), (1, vI a1), (2, vI a2)] [vI z75010] _ H75003 _
    refine wp_of e146 c146_29 (rw_istore_n (pc' := 30) (z := z75010) (L' := [(3, vI z75010), (0, .ref r0), (1, vI a1), (2, vI a2)]) rfl rfl rfl ?_)
    refine wp_of e146 c146_30 (rw_iload_n (pc' := 31) (z := z75010) rfl rfl ?_)
    refine wp_of e146 c146_31 (rw_if_eq (p1 := 43) (p2 := 34) (by decide) rfl ⟨by omega, by omega⟩ (fun c75013 => ?_) (fun c75013 => ?_))
    · exfalso
      omega
    · refine wp_of e146 c146_34 (rw_aload_n (pc' := 35) (v := .ref r0) rfl rfl rfl ?_)
      refine wp_of e146 c146_35 (rw_iload_n (pc' := 36) (z := z75010) rfl rfl ?_)
      refine wp_of e146 c146_36 (xp_I (pc' := 39) lf_0_102 w75007 g0 sh_1 (by decide) (by decide) ty_1_10 rfl rfl (by omega) (by omega) ⟨by omega, by omega⟩ rfl (fun H75014 e75015 w75016 => ?_))
      have f75017 := f75012.put' e75015 g0 rfl
      have k75018 : H75014 r0 10 = z75010 := wq_u_s e75015
      refine wp_of e146 c146_39 (rw_sipush (pc' := 42) (z := -1000) rfl (by decide) ?_)
      exact wp_ireturn e146 c146_42 rfl ⟨rfl, w75016, f75017, -1000, rfl, ⟨by omega, by omega⟩⟩
  · refine wp_of e146 c146_9 (rw_aload_n (pc' := 10) (v := .ref r0) rfl rfl rfl ?_)
    refine wp_of e146 c146_10 (xg_R (pc' := 13) lf_0_51 hW g0 sh_1 (by decide) (by decide) ty_1_6 rfl rfl (fun r75019 q75020 g75021 => ?_))
    refine wp_of e146 c146_13 (xg_R (pc' := 16) lf_0_262 hW g75021 sh_27 (by decide) (by decide) ty_27_1 rfl rfl (fun r75022 q75023 g75024 => ?_))
    refine wp_of e146 c146_16 (rw_iload_n (pc' := 17) (z := a1) rfl rfl ?_)
    refine wp_of e146 c146_17 (xa_I (so := 0) (pc' := 18) hW g75024 sh_29 (by decide) (ty_29 _) (by omega) (by omega) rfl (fun b75025 b75026 => ?_))
    refine wp_of e146 c146_18 (rw_if_lt (p1 := 25) (p2 := 21) (by decide) rfl ⟨by omega, by omega⟩ (fun c75027 => ?_) (fun c75027 => ?_))
    · refine wp_of e146 c146_25 (rw_iconst (pc' := 26) rfl ?_)
      refine wp_of e146 c146_26 (xc_V (pc' := 29) (r := r0) (as := [vI 0]) (st := []) (lm_0_198) rfl rfl (Nat.le_of_ble_eq_true rfl) hW g0 sh_1 (by decide) rfl (by decide) (s_102 hW g0 ⟨by omega, by omega⟩) (fun R75028 T75029 H75030 p75031 => ?_))
      obtain ⟨e75032, w75034, f75035, z75037, e75033, b75038, p75036⟩ := p75031
      subst e75032
      subst e75033
      have f75039 := f0.tr f75035 rfl
      show wp _ _ 146 29 [(0, .ref r0), (1, vI a1), (2, vI a2)] [vI z75037] _ H75030 _
      refine wp_of e146 c146_29 (rw_istore_n (pc' := 30) (z := z75037) (L' := [(3, vI z75037), (0, .ref r0), (1, vI a1), (2, vI a2)]) rfl rfl rfl ?_)
      refine wp_of e146 c146_30 (rw_iload_n (pc' := 31) (z := z75037) rfl rfl ?_)
      refine wp_of e146 c146_31 (rw_if_eq (p1 := 43) (p2 := 34) (by decide) rfl ⟨by omega, by omega⟩ (fun c75040 => ?_) (fun c75040 => ?_))
      · exfalso
        omega
      · refine wp_of e146 c146_34 (rw_aload_n (pc' := 35) (v := .ref r0) rfl rfl rfl ?_)
        refine wp_of e146 c146_35 (rw_iload_n (pc' := 36) (z := z75037) rfl rfl ?_)
        refine wp_of e146 c146_36 (xp_I (pc' := 39) lf_0_102 w75034 g0 sh_1 (by decide) (by decide) ty_1_10 rfl rfl (by omega) (by omega) ⟨by omega, by omega⟩ rfl (fun H75041 e75042 w75043 => ?_))
        have f75044 := f75039.put' e75042 g0 rfl
        have k75045 : H75041 r0 10 = z75037 := wq_u_s e75042
        refine wp_of e146 c146_39 (rw_sipush (pc' := 42) (z := -1000) rfl (by decide) ?_)
        exact wp_ireturn e146 c146_42 rfl ⟨rfl, w75043, f75044, -1000, rfl, ⟨by omega, by omega⟩⟩
    · refine wp_of e146 c146_21 (rw_iconst (pc' := 22) rfl ?_)
      refine wp_of e146 c146_22 (rw_goto (p1 := 26) (by decide) ?_)
      refine wp_of e146 c146_26 (xc_V (pc' := 29) (r := r0) (as := [vI 1]) (st := []) (lm_0_198) rfl rfl (Nat.le_of_ble_eq_true rfl) hW g0 sh_1 (by decide) rfl (by decide) (s_102 hW g0 ⟨by omega, by omega⟩) (fun R75046 T75047 H75048 p75049 => ?_))
      obtain ⟨e75050, w75052, f75053, z75055, e75051, b75056, p75054⟩ := p75049
      subst e75050
      subst e75051
      have f75057 := f0.tr f75053 rfl
      show wp _ _ 146 29 [(0, .ref r0), (1, vI a1), (2, vI a2)] [vI z75055] _ H75048 _
      refine wp_of e146 c146_29 (rw_istore_n (pc' := 30) (z := z75055) (L' := [(3, vI z75055), (0, .ref r0), (1, vI a1), (2, vI a2)]) rfl rfl rfl ?_)
      refine wp_of e146 c146_30 (rw_iload_n (pc' := 31) (z := z75055) rfl rfl ?_)
      refine wp_of e146 c146_31 (rw_if_eq (p1 := 43) (p2 := 34) (by decide) rfl ⟨by omega, by omega⟩ (fun c75058 => ?_) (fun c75058 => ?_))
      · refine wp_of e146 c146_43 (rw_iload_n (pc' := 44) (z := a2) rfl rfl ?_)
        refine wp_of e146 c146_44 (rw_if_eq (p1 := 59) (p2 := 47) (by decide) rfl ⟨by omega, by omega⟩ (fun c75059 => ?_) (fun c75059 => ?_))
        · refine wp_of e146 c146_59 (rw_aload_n (pc' := 60) (v := .ref r0) rfl rfl rfl ?_)
          refine wp_of e146 c146_60 (xg_R (pc' := 63) lf_0_30 w75052 g0 sh_1 (by decide) (by decide) ty_1_3 rfl rfl (fun r75060 q75061 g75062 => ?_))
          refine wp_of e146 c146_63 (xg_R (pc' := 66) lf_0_268 w75052 g75062 sh_12 (by decide) (by decide) ty_12_4 rfl rfl (fun r75063 q75064 g75065 => ?_))
          refine wp_of e146 c146_66 (rw_iload_n (pc' := 67) (z := a1) rfl rfl ?_)
          refine wp_of e146 c146_67 (xa_I (so := 0) (pc' := 68) w75052 g75065 sh_19 (by decide) (ty_19 _) (by omega) (by omega) rfl (fun b75066 b75067 => ?_))
          refine wp_of e146 c146_68 (rw_istore (pc' := 70) (z := H75048 r75063 a1.toNat) (L' := [(4, vI (H75048 r75063 a1.toNat)), (3, vI z75055), (0, .ref r0), (1, vI a1), (2, vI a2)]) rfl rfl rfl ?_)
          refine wp_of e146 c146_70 (rw_aload_n (pc' := 71) (v := .ref r0) rfl rfl rfl ?_)
          refine wp_of e146 c146_71 (rw_aload_n (pc' := 72) (v := .ref r0) rfl rfl rfl ?_)
          have k75068 : H75048 r0 6 = H r0 6 := (f75053 r0 6 _ g0 rfl)
          have q75069 : H75048 r0 6 = (r75019 : Int) := k75068.trans q75020
          refine wp_of e146 c146_72 (xg_K (pc' := 75) lf_0_51 w75052 g0 sh_1 (by decide) (by decide) rfl q75069 rfl ?_)
          have k75070 : H75048 r75019 1 = H r75019 1 := (f75053 r75019 1 _ g75021 rfl)
          have q75071 : H75048 r75019 1 = (r75022 : Int) := k75070.trans q75023
          refine wp_of e146 c146_75 (xg_K (pc' := 78) lf_0_262 w75052 g75021 sh_27 (by decide) (by decide) rfl q75071 rfl ?_)
          refine wp_of e146 c146_78 (rw_iload_n (pc' := 79) (z := a1) rfl rfl ?_)
          have k75072 : H75048 r75022 (a1.toNat) = H r75022 (a1.toNat) := (f75053 r75022 (a1.toNat) _ g75024 rfl)
          refine wp_of e146 c146_79 (xa_I (so := 0) (pc' := 80) w75052 g75024 sh_29 (by decide) (ty_29 _) (by omega) (by omega) rfl (fun b75073 b75074 => ?_))
          refine wp_of e146 c146_80 (rw_iload (pc' := 82) (z := H75048 r75063 a1.toNat) rfl rfl ?_)
          refine wp_of e146 c146_82 (rw_isubw (pc' := 83) rfl ?_)
          obtain ⟨v75075, e75076⟩ : ∃ x : Int, x = wq_w ((H75048 r75022 a1.toNat) - (H75048 r75063 a1.toNat)) := ⟨_, rfl⟩
          rw [← e75076]
          have b75077 : -2147483648 ≤ v75075 ∧ v75075 ≤ 2147483647 := by
            rw [e75076]
            exact wI_w _
          refine wp_of e146 c146_83 (xc_V (pc' := 86) (r := r0) (as := [vI v75075]) (st := []) (lm_0_99) rfl rfl (Nat.le_of_ble_eq_true rfl) w75052 g0 sh_1 (by decide) rfl (by decide) (s_51 w75052 g0 ⟨by omega, by omega⟩) (fun R75078 T75079 H75080 p75081 => ?_))
          obtain ⟨e75082, w75084, f75085, z75086, e75083, b75087⟩ := p75081
          subst e75082
          subst e75083
          have f75088 := f75057.tr f75085 rfl
          show wp _ _ 146 86 [(4, vI (H75048 r75063 a1.toNat)), (3, vI z75055), (0, .ref r0), (1, vI a1), (2, vI a2)] [vI z75086] _ H75080 _
          exact wp_ireturn e146 c146_86 rfl ⟨rfl, w75084, f75088, z75086, rfl, ⟨by omega, by omega⟩⟩
        · refine wp_of e146 c146_47 (rw_aload_n (pc' := 48) (v := .ref r0) rfl rfl rfl ?_)
          refine wp_of e146 c146_48 (xg_R (pc' := 51) lf_0_30 w75052 g0 sh_1 (by decide) (by decide) ty_1_3 rfl rfl (fun r75089 q75090 g75091 => ?_))
          refine wp_of e146 c146_51 (xg_R (pc' := 54) lf_0_265 w75052 g75091 sh_12 (by decide) (by decide) ty_12_3 rfl rfl (fun r75092 q75093 g75094 => ?_))
          refine wp_of e146 c146_54 (rw_iload_n (pc' := 55) (z := a1) rfl rfl ?_)
          refine wp_of e146 c146_55 (xa_I (so := 0) (pc' := 56) w75052 g75094 sh_18 (by decide) (ty_18 _) (by omega) (by omega) rfl (fun b75095 b75096 => ?_))
          refine wp_of e146 c146_56 (rw_goto (p1 := 68) (by decide) ?_)
          refine wp_of e146 c146_68 (rw_istore (pc' := 70) (z := H75048 r75092 a1.toNat) (L' := [(4, vI (H75048 r75092 a1.toNat)), (3, vI z75055), (0, .ref r0), (1, vI a1), (2, vI a2)]) rfl rfl rfl ?_)
          refine wp_of e146 c146_70 (rw_aload_n (pc' := 71) (v := .ref r0) rfl rfl rfl ?_)
          refine wp_of e146 c146_71 (rw_aload_n (pc' := 72) (v := .ref r0) rfl rfl rfl ?_)
          have k75097 : H75048 r0 6 = H r0 6 := (f75053 r0 6 _ g0 rfl)
          have q75098 : H75048 r0 6 = (r75019 : Int) := k75097.trans q75020
          refine wp_of e146 c146_72 (xg_K (pc' := 75) lf_0_51 w75052 g0 sh_1 (by decide) (by decide) rfl q75098 rfl ?_)
          have k75099 : H75048 r75019 1 = H r75019 1 := (f75053 r75019 1 _ g75021 rfl)
          have q75100 : H75048 r75019 1 = (r75022 : Int) := k75099.trans q75023
          refine wp_of e146 c146_75 (xg_K (pc' := 78) lf_0_262 w75052 g75021 sh_27 (by decide) (by decide) rfl q75100 rfl ?_)
          refine wp_of e146 c146_78 (rw_iload_n (pc' := 79) (z := a1) rfl rfl ?_)
          have k75101 : H75048 r75022 (a1.toNat) = H r75022 (a1.toNat) := (f75053 r75022 (a1.toNat) _ g75024 rfl)
          refine wp_of e146 c146_79 (xa_I (so := 0) (pc' := 80) w75052 g75024 sh_29 (by decide) (ty_29 _) (by omega) (by omega) rfl (fun b75102 b75103 => ?_))
          refine wp_of e146 c146_80 (rw_iload (pc' := 82) (z := H75048 r75092 a1.toNat) rfl rfl ?_)
          refine wp_of e146 c146_82 (rw_isubw (pc' := 83) rfl ?_)
          obtain ⟨v75104, e75105⟩ : ∃ x : Int, x = wq_w ((H75048 r75022 a1.toNat) - (H75048 r75092 a1.toNat)) := ⟨_, rfl⟩
          rw [← e75105]
          have b75106 : -2147483648 ≤ v75104 ∧ v75104 ≤ 2147483647 := by
            rw [e75105]
            exact wI_w _
          refine wp_of e146 c146_83 (xc_V (pc' := 86) (r := r0) (as := [vI v75104]) (st := []) (lm_0_99) rfl rfl (Nat.le_of_ble_eq_true rfl) w75052 g0 sh_1 (by decide) rfl (by decide) (s_51 w75052 g0 ⟨by omega, by omega⟩) (fun R75107 T75108 H75109 p75110 => ?_))
          obtain ⟨e75111, w75113, f75114, z75115, e75112, b75116⟩ := p75110
          subst e75111
          subst e75112
          have f75117 := f75057.tr f75114 rfl
          show wp _ _ 146 86 [(4, vI (H75048 r75092 a1.toNat)), (3, vI z75055), (0, .ref r0), (1, vI a1), (2, vI a2)] [vI z75115] _ H75109 _
          exact wp_ireturn e146 c146_86 rfl ⟨rfl, w75113, f75117, z75115, rfl, ⟨by omega, by omega⟩⟩
      · refine wp_of e146 c146_34 (rw_aload_n (pc' := 35) (v := .ref r0) rfl rfl rfl ?_)
        refine wp_of e146 c146_35 (rw_iload_n (pc' := 36) (z := z75055) rfl rfl ?_)
        refine wp_of e146 c146_36 (xp_I (pc' := 39) lf_0_102 w75052 g0 sh_1 (by decide) (by decide) ty_1_10 rfl rfl (by omega) (by omega) ⟨by omega, by omega⟩ rfl (fun H75118 e75119 w75120 => ?_))
        have f75121 := f75057.put' e75119 g0 rfl
        have k75122 : H75118 r0 10 = z75055 := wq_u_s e75119
        refine wp_of e146 c146_39 (rw_sipush (pc' := 42) (z := -1000) rfl (by decide) ?_)
        exact wp_ireturn e146 c146_42 rfl ⟨rfl, w75120, f75121, -1000, rfl, ⟨by omega, by omega⟩⟩
/-! StrikeAwake$Walk.silentHours(LStrikeAwake$Parish;)I -/
theorem e148 : wq_en 148 = some (3, 2, false, some FieldType.int) := rfl
theorem c148_0 : mc_cd 148 0 = some (.aload_n 1, 1) := by decide +kernel
theorem c148_1 : mc_cd 148 1 = some (.invokevirtual 88, 3) := by decide +kernel
theorem c148_4 : mc_cd 148 4 = some (.aload_n 0, 1) := by decide +kernel
theorem c148_5 : mc_cd 148 5 = some (.getfield 22, 3) := by decide +kernel
theorem c148_8 : mc_cd 148 8 = some (.aload_n 0, 1) := by decide +kernel
theorem c148_9 : mc_cd 148 9 = some (.getfield 51, 3) := by decide +kernel
theorem c148_12 : mc_cd 148 12 = some (.iaload, 1) := by decide +kernel
theorem c148_13 : mc_cd 148 13 = some (.iconst (-1), 1) := by decide +kernel
theorem c148_14 : mc_cd 148 14 = some (.ixor, 1) := by decide +kernel
theorem c148_15 : mc_cd 148 15 = some (.iand, 1) := by decide +kernel
theorem c148_16 : mc_cd 148 16 = some (.ireturn, 1) := by decide +kernel
abbrev q_148 (r0 : Nat) (r1 : Nat) (T : wq_T) (H : wq_H) : Option Value → wq_T → wq_H → Prop := fun r T' H' => T = T' ∧ H = H' ∧ ∃ z : Int, some (vI z) = r ∧ ((-2147483648) ≤ z ∧ z ≤ 2147483647)
set_option maxHeartbeats 4000000 in
theorem s_148 {kt : Nat → Option mc_E} {T : wq_T} {H : wq_H} {r0 : Nat} {r1 : Nat} (hW : WT T H) (g0 : T.2.2.2 r0 = some 6) (g1 : T.2.2.2 r1 = some 27) : wpc kt 3 148 [.ref r0, .ref r1] T H (q_148 r0 r1 T H) := by
  refine wp_enter e148 (Nat.le_of_ble_eq_true rfl) rfl ?_
  show wp _ _ 148 0 [(0, .ref r0), (1, .ref r1)] [] _ H _
  refine wp_of e148 c148_0 (rw_aload_n (pc' := 1) (v := .ref r1) rfl rfl rfl ?_)
  refine wp_of e148 c148_1 (xc_V (pc' := 4) (r := r1) (as := []) (st := []) (lm_3_88) rfl rfl (Nat.le_of_ble_eq_true rfl) hW g1 sh_27 (by decide) rfl (by decide) (s_45 hW g1) (fun R75143 T75144 H75145 p75146 => ?_))
  obtain ⟨e75147, e75149, z75150, e75148, b75151⟩ := p75146
  subst e75147
  subst e75148
  subst e75149
  show wp _ _ 148 4 [(0, .ref r0), (1, .ref r1)] [vI z75150] _ H _
  refine wp_of e148 c148_4 (rw_aload_n (pc' := 5) (v := .ref r0) rfl rfl rfl ?_)
  refine wp_of e148 c148_5 (xg_R (pc' := 8) lf_3_22 hW g0 sh_6 (by decide) (by decide) ty_6_3 rfl rfl (fun r75152 q75153 g75154 => ?_))
  refine wp_of e148 c148_8 (rw_aload_n (pc' := 9) (v := .ref r0) rfl rfl rfl ?_)
  refine wp_of e148 c148_9 (xg_I (pc' := 12) lf_3_51 hW g0 sh_6 (by decide) (by decide) ty_6_5 rfl rfl (fun b75155 b75156 => ?_))
  refine wp_of e148 c148_12 (xa_I (so := 0) (pc' := 13) hW g75154 sh_10 (by decide) (ty_10 _) (by omega) (by omega) rfl (fun b75157 b75158 => ?_))
  refine wp_of e148 c148_13 (rw_iconst (pc' := 14) rfl ?_)
  refine wp_of e148 c148_14 (rw_ixor (pc' := 15) rfl ?_)
  obtain ⟨v75159, e75160⟩ : ∃ x : Int, x = wq_xor (H r75152 ((H r0 5).toNat)) (-1) := ⟨_, rfl⟩
  rw [← e75160]
  have b75161 : -2147483648 ≤ v75159 ∧ v75159 ≤ 2147483647 := by
    rw [e75160]
    exact wI_xor _ _
  refine wp_of e148 c148_15 (rw_iand (pc' := 16) rfl ?_)
  obtain ⟨v75162, e75163⟩ : ∃ x : Int, x = wq_and z75150 v75159 := ⟨_, rfl⟩
  rw [← e75163]
  have b75164 : -2147483648 ≤ v75162 ∧ v75162 ≤ 2147483647 := by
    rw [e75163]
    exact wI_and _ _
  exact wp_ireturn e148 c148_16 rfl ⟨rfl, rfl, v75162, rfl, ⟨by omega, by omega⟩⟩
/-! StrikeAwake.nothing()I -/
theorem e147 : wq_en 147 = some (0, 4, false, some FieldType.int) := rfl
theorem c147_0 : mc_cd 147 0 = some (.aload_n 0, 1) := by decide +kernel
theorem c147_1 : mc_cd 147 1 = some (.aload_n 0, 1) := by decide +kernel
theorem c147_2 : mc_cd 147 2 = some (.getfield 58, 3) := by decide +kernel
theorem c147_5 : mc_cd 147 5 = some (.invokevirtual 245, 3) := by decide +kernel
theorem c147_8 : mc_cd 147 8 = some (.istore_n 1, 1) := by decide +kernel
theorem c147_9 : mc_cd 147 9 = some (.iload_n 1, 1) := by decide +kernel
theorem c147_10 : mc_cd 147 10 = some (.ifCond .eq 9, 3) := by decide +kernel
theorem c147_13 : mc_cd 147 13 = some (.aload_n 0, 1) := by decide +kernel
theorem c147_14 : mc_cd 147 14 = some (.iload_n 1, 1) := by decide +kernel
theorem c147_15 : mc_cd 147 15 = some (.invokevirtual 70, 3) := by decide +kernel
theorem c147_18 : mc_cd 147 18 = some (.ireturn, 1) := by decide +kernel
theorem c147_19 : mc_cd 147 19 = some (.iconst 0, 1) := by decide +kernel
theorem c147_20 : mc_cd 147 20 = some (.istore_n 2, 1) := by decide +kernel
theorem c147_21 : mc_cd 147 21 = some (.aload_n 0, 1) := by decide +kernel
theorem c147_22 : mc_cd 147 22 = some (.getfield 23, 3) := by decide +kernel
theorem c147_25 : mc_cd 147 25 = some (.aload_n 0, 1) := by decide +kernel
theorem c147_26 : mc_cd 147 26 = some (.getfield 51, 3) := by decide +kernel
theorem c147_29 : mc_cd 147 29 = some (.invokevirtual 271, 3) := by decide +kernel
theorem c147_32 : mc_cd 147 32 = some (.iconst 0, 1) := by decide +kernel
theorem c147_33 : mc_cd 147 33 = some (.istore_n 3, 1) := by decide +kernel
theorem c147_34 : mc_cd 147 34 = some (.iload_n 3, 1) := by decide +kernel
theorem c147_35 : mc_cd 147 35 = some (.i2l, 1) := by decide +kernel
theorem c147_36 : mc_cd 147 36 = some (.aload_n 0, 1) := by decide +kernel
theorem c147_37 : mc_cd 147 37 = some (.getfield 51, 3) := by decide +kernel
theorem c147_40 : mc_cd 147 40 = some (.getfield 141, 3) := by decide +kernel
theorem c147_43 : mc_cd 147 43 = some (.lcmp, 1) := by decide +kernel
theorem c147_44 : mc_cd 147 44 = some (.ifCond .ge 51, 3) := by decide +kernel
theorem c147_47 : mc_cd 147 47 = some (.iload_n 3, 1) := by decide +kernel
theorem c147_48 : mc_cd 147 48 = some (.sipush 20000, 3) := by decide +kernel
theorem c147_51 : mc_cd 147 51 = some (.if_icmp .ge 44, 3) := by decide +kernel
theorem c147_54 : mc_cd 147 54 = some (.aload_n 0, 1) := by decide +kernel
theorem c147_55 : mc_cd 147 55 = some (.getfield 23, 3) := by decide +kernel
theorem c147_58 : mc_cd 147 58 = some (.invokevirtual 275, 3) := by decide +kernel
theorem c147_61 : mc_cd 147 61 = some (.ifCond .ne 17, 3) := by decide +kernel
theorem c147_64 : mc_cd 147 64 = some (.iload_n 2, 1) := by decide +kernel
theorem c147_65 : mc_cd 147 65 = some (.aload_n 0, 1) := by decide +kernel
theorem c147_66 : mc_cd 147 66 = some (.getfield 23, 3) := by decide +kernel
theorem c147_69 : mc_cd 147 69 = some (.aload_n 0, 1) := by decide +kernel
theorem c147_70 : mc_cd 147 70 = some (.getfield 51, 3) := by decide +kernel
theorem c147_73 : mc_cd 147 73 = some (.invokevirtual 278, 3) := by decide +kernel
theorem c147_76 : mc_cd 147 76 = some (.ior, 1) := by decide +kernel
theorem c147_77 : mc_cd 147 77 = some (.istore_n 2, 1) := by decide +kernel
theorem c147_78 : mc_cd 147 78 = some (.aload_n 0, 1) := by decide +kernel
theorem c147_79 : mc_cd 147 79 = some (.getfield 23, 3) := by decide +kernel
theorem c147_82 : mc_cd 147 82 = some (.aload_n 0, 1) := by decide +kernel
theorem c147_83 : mc_cd 147 83 = some (.getfield 51, 3) := by decide +kernel
theorem c147_86 : mc_cd 147 86 = some (.invokevirtual 281, 3) := by decide +kernel
theorem c147_89 : mc_cd 147 89 = some (.iinc 3 1, 3) := by decide +kernel
theorem c147_92 : mc_cd 147 92 = some (.goto (-58), 3) := by decide +kernel
theorem c147_95 : mc_cd 147 95 = some (.aload_n 0, 1) := by decide +kernel
theorem c147_96 : mc_cd 147 96 = some (.iload_n 2, 1) := by decide +kernel
theorem c147_97 : mc_cd 147 97 = some (.invokevirtual 99, 3) := by decide +kernel
theorem c147_100 : mc_cd 147 100 = some (.ireturn, 1) := by decide +kernel
abbrev q_147 (r0 : Nat) (T : wq_T) (H : wq_H) : Option Value → wq_T → wq_H → Prop := fun r T' H' => T = T' ∧ WT T H' ∧ wfr [(1, 10), (6, 5), (8, 999), (10, 999), (9, 999), (7, 999), (11, 999)] T H H' ∧ ∃ z : Int, some (vI z) = r ∧ ((-2147483648) ≤ z ∧ z ≤ 2147483647)
set_option maxHeartbeats 4000000 in
theorem s_147 {kt : Nat → Option mc_E} {T : wq_T} {H : wq_H} {r0 : Nat} (hW : WT T H) (g0 : T.2.2.2 r0 = some 1) : wpc kt 4 147 [.ref r0] T H (q_147 r0 T H) := by
  refine wp_enter e147 (Nat.le_of_ble_eq_true rfl) rfl ?_
  have f0 : wfr [(1, 10), (6, 5), (8, 999), (10, 999), (9, 999), (7, 999), (11, 999)] T H H := wfr.rf
  show wp _ _ 147 0 [(0, .ref r0)] [] _ H _
  refine wp_of e147 c147_0 (rw_aload_n (pc' := 1) (v := .ref r0) rfl rfl rfl ?_)
  refine wp_of e147 c147_1 (rw_aload_n (pc' := 2) (v := .ref r0) rfl rfl rfl ?_)
  refine wp_of e147 c147_2 (xg_I (pc' := 5) lf_0_58 hW g0 sh_1 (by decide) (by decide) ty_1_8 rfl rfl (fun b75659 b75660 => ?_))
  refine wp_of e147 c147_5 (xc_V (pc' := 8) (r := r0) (as := [vI (H r0 8)]) (st := []) (lm_0_245) rfl rfl (Nat.le_of_ble_eq_true rfl) hW g0 sh_1 (by decide) rfl (by decide) (s_84 hW g0 ⟨by omega, by omega⟩) (fun R75661 T75662 H75663 p75664 => ?_))
  obtain ⟨e75665, e75667, z75669, e75666, b75670, p75668⟩ := p75664
  subst e75665
  subst e75666
  subst e75667
  show wp _ _ 147 8 [(0, .ref r0)] [vI z75669] _ H _
  refine wp_of e147 c147_8 (rw_istore_n (pc' := 9) (z := z75669) (L' := [(1, vI z75669), (0, .ref r0)]) rfl rfl rfl ?_)
  refine wp_of e147 c147_9 (rw_iload_n (pc' := 10) (z := z75669) rfl rfl ?_)
  refine wp_of e147 c147_10 (rw_if_eq (p1 := 19) (p2 := 13) (by decide) rfl ⟨by omega, by omega⟩ (fun c75671 => ?_) (fun c75671 => ?_))
  · refine wp_of e147 c147_19 (rw_iconst (pc' := 20) rfl ?_)
    refine wp_of e147 c147_20 (rw_istore_n (pc' := 21) (z := 0) (L' := [(2, vI 0), (1, vI z75669), (0, .ref r0)]) rfl rfl rfl ?_)
    refine wp_of e147 c147_21 (rw_aload_n (pc' := 22) (v := .ref r0) rfl rfl rfl ?_)
    refine wp_of e147 c147_22 (xg_R (pc' := 25) lf_0_23 hW g0 sh_1 (by decide) (by decide) ty_1_2 rfl rfl (fun r75672 q75673 g75674 => ?_))
    refine wp_of e147 c147_25 (rw_aload_n (pc' := 26) (v := .ref r0) rfl rfl rfl ?_)
    refine wp_of e147 c147_26 (xg_R (pc' := 29) lf_0_51 hW g0 sh_1 (by decide) (by decide) ty_1_6 rfl rfl (fun r75675 q75676 g75677 => ?_))
    refine wp_of e147 c147_29 (xc_V (pc' := 32) (r := r75672) (as := [.ref r75675]) (st := []) (lm_0_271) rfl rfl (Nat.le_of_ble_eq_true rfl) hW g75674 sh_6 (by decide) rfl (by decide) (s_87 hW g75674 g75677) (fun R75678 T75679 H75680 p75681 => ?_))
    obtain ⟨e75682, w75684, f75685, e75683⟩ := p75681
    subst e75682
    subst e75683
    have f75686 := f0.tr f75685 rfl
    show wp _ _ 147 32 [(2, vI 0), (1, vI z75669), (0, .ref r0)] [] _ H75680 _
    refine wp_of e147 c147_32 (rw_iconst (pc' := 33) rfl ?_)
    refine wp_of e147 c147_33 (rw_istore_n (pc' := 34) (z := 0) (L' := [(3, vI 0), (2, vI 0), (1, vI z75669), (0, .ref r0)]) rfl rfl rfl ?_)
    have lp76071 : ∀ (n76072 : Nat) (v76074 : Int) (v76075 : Int) (H76076 : wq_H), WT T H76076 → wfr [(8, 999), (10, 999), (9, 999), (7, 999), (11, 999)] T H75680 H76076 → (0 ≤ v76074 ∧ v76074 ≤ 20000) → ((-2147483648) ≤ v76075 ∧ v76075 ≤ 2147483647) → (20000 - v76074).toNat = n76072 → wp kt 3 147 34 [(3, vI v76074), (2, vI v76075), (0, .ref r0)] [] T H76076 (q_147 r0 T H) := by
      intro n76072
      induction n76072 using Nat.strongRecOn with
      | _ n76072 ih76073 =>
        intro v76074 v76075 H76076 w76077 f76078 b76079 b76080 m76081
        have f76082 := f75686.tr f76078 rfl
        refine wp_of e147 c147_34 (rw_iload_n (pc' := 35) (z := v76074) rfl rfl ?_)
        refine wp_of e147 c147_35 (rw_i2l (pc' := 36) rfl ⟨by omega, by omega⟩ ?_)
        refine wp_of e147 c147_36 (rw_aload_n (pc' := 37) (v := .ref r0) rfl rfl rfl ?_)
        have k76083 : H76076 r0 6 = H r0 6 := ((f76078 r0 6 _ g0 rfl).trans (f75685 r0 6 _ g0 rfl))
        have q76084 : H76076 r0 6 = (r75675 : Int) := k76083.trans q75676
        refine wp_of e147 c147_37 (xg_K (pc' := 40) lf_0_51 w76077 g0 sh_1 (by decide) (by decide) rfl q76084 rfl ?_)
        refine wp_of e147 c147_40 (xg_L (pc' := 43) lf_0_141 w76077 g75677 sh_27 (by decide) (by decide) ty_27_18 rfl rfl (fun b76085 b76086 => ?_))
        refine wp_of e147 c147_43 (rw_lcmp (pc' := 44) rfl ⟨by omega, by omega⟩ ⟨by omega, by omega⟩ ?_)
        have b76087 := wq_cmp_b v76074 (H76076 r75675 18)
        refine wp_of e147 c147_44 (rw_if_ge (p1 := 95) (p2 := 47) (by decide) rfl ⟨by omega, by omega⟩ (fun c76088 => ?_) (fun c76088 => ?_))
        · refine wp_of e147 c147_95 (rw_aload_n (pc' := 96) (v := .ref r0) rfl rfl rfl ?_)
          refine wp_of e147 c147_96 (rw_iload_n (pc' := 97) (z := v76075) rfl rfl ?_)
          refine wp_of e147 c147_97 (xc_V (pc' := 100) (r := r0) (as := [vI v76075]) (st := []) (lm_0_99) rfl rfl (Nat.le_of_ble_eq_true rfl) w76077 g0 sh_1 (by decide) rfl (by decide) (s_51 w76077 g0 ⟨by omega, by omega⟩) (fun R76089 T76090 H76091 p76092 => ?_))
          obtain ⟨e76093, w76095, f76096, z76097, e76094, b76098⟩ := p76092
          subst e76093
          subst e76094
          have f76099 := f76082.tr f76096 rfl
          have f76100 := f76078.tr f76096 rfl
          show wp _ _ 147 100 [(3, vI v76074), (2, vI v76075), (0, .ref r0)] [vI z76097] _ H76091 _
          exact wp_ireturn e147 c147_100 rfl ⟨rfl, w76095, f76099, z76097, rfl, ⟨by omega, by omega⟩⟩
        · refine wp_of e147 c147_47 (rw_iload_n (pc' := 48) (z := v76074) rfl rfl ?_)
          refine wp_of e147 c147_48 (rw_sipush (pc' := 51) (z := 20000) rfl (by decide) ?_)
          refine wp_of e147 c147_51 (rw_icmp_ge (p1 := 95) (p2 := 54) (by decide) rfl ⟨by omega, by omega⟩ ⟨by omega, by omega⟩ (fun c76101 => ?_) (fun c76101 => ?_))
          · refine wp_of e147 c147_95 (rw_aload_n (pc' := 96) (v := .ref r0) rfl rfl rfl ?_)
            refine wp_of e147 c147_96 (rw_iload_n (pc' := 97) (z := v76075) rfl rfl ?_)
            refine wp_of e147 c147_97 (xc_V (pc' := 100) (r := r0) (as := [vI v76075]) (st := []) (lm_0_99) rfl rfl (Nat.le_of_ble_eq_true rfl) w76077 g0 sh_1 (by decide) rfl (by decide) (s_51 w76077 g0 ⟨by omega, by omega⟩) (fun R76102 T76103 H76104 p76105 => ?_))
            obtain ⟨e76106, w76108, f76109, z76110, e76107, b76111⟩ := p76105
            subst e76106
            subst e76107
            have f76112 := f76082.tr f76109 rfl
            have f76113 := f76078.tr f76109 rfl
            show wp _ _ 147 100 [(3, vI v76074), (2, vI v76075), (0, .ref r0)] [vI z76110] _ H76104 _
            exact wp_ireturn e147 c147_100 rfl ⟨rfl, w76108, f76112, z76110, rfl, ⟨by omega, by omega⟩⟩
          · refine wp_of e147 c147_54 (rw_aload_n (pc' := 55) (v := .ref r0) rfl rfl rfl ?_)
            have k76114 : H76076 r0 2 = H r0 2 := ((f76078 r0 2 _ g0 rfl).trans (f75685 r0 2 _ g0 rfl))
            have q76115 : H76076 r0 2 = (r75672 : Int) := k76114.trans q75673
            refine wp_of e147 c147_55 (xg_K (pc' := 58) lf_0_23 w76077 g0 sh_1 (by decide) (by decide) rfl q76115 rfl ?_)
            refine wp_of e147 c147_58 (xc_V (pc' := 61) (r := r75672) (as := []) (st := []) (lm_0_275) rfl rfl (Nat.le_of_ble_eq_true rfl) w76077 g75674 sh_6 (by decide) rfl (by decide) (s_80 w76077 g75674) (fun R76116 T76117 H76118 p76119 => ?_))
            obtain ⟨e76120, e76122, z76123, e76121, b76124⟩ := p76119
            subst e76120
            subst e76121
            subst e76122
            show wp _ _ 147 61 [(3, vI v76074), (2, vI v76075), (0, .ref r0)] [vI z76123] _ H76076 _
            refine wp_of e147 c147_61 (rw_if_ne (p1 := 78) (p2 := 64) (by decide) rfl ⟨by omega, by omega⟩ (fun c76125 => ?_) (fun c76125 => ?_))
            · refine wp_of e147 c147_78 (rw_aload_n (pc' := 79) (v := .ref r0) rfl rfl rfl ?_)
              refine wp_of e147 c147_79 (xg_K (pc' := 82) lf_0_23 w76077 g0 sh_1 (by decide) (by decide) rfl q76115 rfl ?_)
              refine wp_of e147 c147_82 (rw_aload_n (pc' := 83) (v := .ref r0) rfl rfl rfl ?_)
              refine wp_of e147 c147_83 (xg_K (pc' := 86) lf_0_51 w76077 g0 sh_1 (by decide) (by decide) rfl q76084 rfl ?_)
              refine wp_of e147 c147_86 (xc_V (pc' := 89) (r := r75672) (as := [.ref r75675]) (st := []) (lm_0_281) rfl rfl (Nat.le_of_ble_eq_true rfl) w76077 g75674 sh_6 (by decide) rfl (by decide) (s_91 w76077 g75674 g75677) (fun R76126 T76127 H76128 p76129 => ?_))
              obtain ⟨e76130, w76132, f76133, e76131⟩ := p76129
              subst e76130
              subst e76131
              have f76134 := f76082.tr f76133 rfl
              have f76135 := f76078.tr f76133 rfl
              show wp _ _ 147 89 [(3, vI v76074), (2, vI v76075), (0, .ref r0)] [] _ H76128 _
              refine wp_of e147 c147_89 (rw_iinc (pc' := 92) (z := v76074) (L' := [(3, vI (v76074 + 1)), (2, vI v76075), (0, .ref r0)]) rfl rfl rfl rfl ?_)
              refine wp_of e147 c147_92 (rw_goto (p1 := 34) (by decide) ?_)
              exact wp_lc (ks := [3, 2, 0]) (wl_c rfl (wl_c rfl (wl_c rfl wl_n))) rfl (by decide) (ih76073 _ (by omega) (v76074 + 1) v76075 H76128 w76132 f76135 ⟨by omega, by omega⟩ ⟨by omega, by omega⟩ rfl)
            · refine wp_of e147 c147_64 (rw_iload_n (pc' := 65) (z := v76075) rfl rfl ?_)
              refine wp_of e147 c147_65 (rw_aload_n (pc' := 66) (v := .ref r0) rfl rfl rfl ?_)
              refine wp_of e147 c147_66 (xg_K (pc' := 69) lf_0_23 w76077 g0 sh_1 (by decide) (by decide) rfl q76115 rfl ?_)
              refine wp_of e147 c147_69 (rw_aload_n (pc' := 70) (v := .ref r0) rfl rfl rfl ?_)
              refine wp_of e147 c147_70 (xg_K (pc' := 73) lf_0_51 w76077 g0 sh_1 (by decide) (by decide) rfl q76084 rfl ?_)
              refine wp_of e147 c147_73 (xc_V (pc' := 76) (r := r75672) (as := [.ref r75675]) (st := [vI v76075]) (lm_0_278) rfl rfl (Nat.le_of_ble_eq_true rfl) w76077 g75674 sh_6 (by decide) rfl (by decide) (s_148 w76077 g75674 g75677) (fun R76136 T76137 H76138 p76139 => ?_))
              obtain ⟨e76140, e76142, z76143, e76141, b76144⟩ := p76139
              subst e76140
              subst e76141
              subst e76142
              show wp _ _ 147 76 [(3, vI v76074), (2, vI v76075), (0, .ref r0)] [vI z76143, vI v76075] _ H76076 _
              refine wp_of e147 c147_76 (rw_ior (pc' := 77) rfl ?_)
              obtain ⟨v76145, e76146⟩ : ∃ x : Int, x = wq_or v76075 z76143 := ⟨_, rfl⟩
              rw [← e76146]
              have b76147 : -2147483648 ≤ v76145 ∧ v76145 ≤ 2147483647 := by
                rw [e76146]
                exact wI_or _ _
              refine wp_of e147 c147_77 (rw_istore_n (pc' := 78) (z := v76145) (L' := [(2, vI v76145), (3, vI v76074), (0, .ref r0)]) rfl rfl rfl ?_)
              refine wp_of e147 c147_78 (rw_aload_n (pc' := 79) (v := .ref r0) rfl rfl rfl ?_)
              refine wp_of e147 c147_79 (xg_K (pc' := 82) lf_0_23 w76077 g0 sh_1 (by decide) (by decide) rfl q76115 rfl ?_)
              refine wp_of e147 c147_82 (rw_aload_n (pc' := 83) (v := .ref r0) rfl rfl rfl ?_)
              refine wp_of e147 c147_83 (xg_K (pc' := 86) lf_0_51 w76077 g0 sh_1 (by decide) (by decide) rfl q76084 rfl ?_)
              refine wp_of e147 c147_86 (xc_V (pc' := 89) (r := r75672) (as := [.ref r75675]) (st := []) (lm_0_281) rfl rfl (Nat.le_of_ble_eq_true rfl) w76077 g75674 sh_6 (by decide) rfl (by decide) (s_91 w76077 g75674 g75677) (fun R76148 T76149 H76150 p76151 => ?_))
              obtain ⟨e76152, w76154, f76155, e76153⟩ := p76151
              subst e76152
              subst e76153
              have f76156 := f76082.tr f76155 rfl
              have f76157 := f76078.tr f76155 rfl
              show wp _ _ 147 89 [(2, vI v76145), (3, vI v76074), (0, .ref r0)] [] _ H76150 _
              refine wp_of e147 c147_89 (rw_iinc (pc' := 92) (z := v76074) (L' := [(3, vI (v76074 + 1)), (2, vI v76145), (0, .ref r0)]) rfl rfl rfl rfl ?_)
              refine wp_of e147 c147_92 (rw_goto (p1 := 34) (by decide) ?_)
              exact wp_lc (ks := [3, 2, 0]) (wl_c rfl (wl_c rfl (wl_c rfl wl_n))) rfl (by decide) (ih76073 _ (by omega) (v76074 + 1) v76145 H76150 w76154 f76157 ⟨by omega, by omega⟩ ⟨by omega, by omega⟩ rfl)
    exact wp_lc (ks := [3, 2, 1, 0]) (wl_c rfl (wl_c rfl (wl_c rfl wl_n))) rfl (by decide) (lp76071 _ 0 0 H75680 w75684 wfr.rf ⟨by omega, by omega⟩ ⟨by omega, by omega⟩ rfl)
  · refine wp_of e147 c147_13 (rw_aload_n (pc' := 14) (v := .ref r0) rfl rfl rfl ?_)
    refine wp_of e147 c147_14 (rw_iload_n (pc' := 15) (z := z75669) rfl rfl ?_)
    refine wp_of e147 c147_15 (xc_V (pc' := 18) (r := r0) (as := [vI z75669]) (st := []) (lm_0_70) rfl rfl (Nat.le_of_ble_eq_true rfl) hW g0 sh_1 (by decide) rfl (by decide) (s_12 hW g0 ⟨by omega, by omega⟩) (fun R76158 T76159 H76160 p76161 => ?_))
    obtain ⟨e76162, w76164, f76165, z76166, e76163, b76167⟩ := p76161
    subst e76162
    subst e76163
    have f76168 := f0.tr f76165 rfl
    show wp _ _ 147 18 [(1, vI z75669), (0, .ref r0)] [vI z76166] _ H76160 _
    exact wp_ireturn e147 c147_18 rfl ⟨rfl, w76164, f76168, z76166, rfl, ⟨by omega, by omega⟩⟩
/-! StrikeAwake$Parish.hoursOffered(I)I -/
theorem e151 : wq_en 151 = some (7, 4, false, some FieldType.int) := rfl
theorem c151_0 : mc_cd 151 0 = some (.iconst 0, 1) := by decide +kernel
theorem c151_1 : mc_cd 151 1 = some (.istore_n 2, 1) := by decide +kernel
theorem c151_2 : mc_cd 151 2 = some (.iconst 0, 1) := by decide +kernel
theorem c151_3 : mc_cd 151 3 = some (.istore_n 3, 1) := by decide +kernel
theorem c151_4 : mc_cd 151 4 = some (.iload_n 3, 1) := by decide +kernel
theorem c151_5 : mc_cd 151 5 = some (.aload_n 0, 1) := by decide +kernel
theorem c151_6 : mc_cd 151 6 = some (.getfield 62, 3) := by decide +kernel
theorem c151_9 : mc_cd 151 9 = some (.if_icmp .ge 26, 3) := by decide +kernel
theorem c151_12 : mc_cd 151 12 = some (.iload_n 1, 1) := by decide +kernel
theorem c151_13 : mc_cd 151 13 = some (.iload_n 3, 1) := by decide +kernel
theorem c151_14 : mc_cd 151 14 = some (.invokestatic 121, 3) := by decide +kernel
theorem c151_17 : mc_cd 151 17 = some (.ifCond .eq 12, 3) := by decide +kernel
theorem c151_20 : mc_cd 151 20 = some (.iload_n 2, 1) := by decide +kernel
theorem c151_21 : mc_cd 151 21 = some (.aload_n 0, 1) := by decide +kernel
theorem c151_22 : mc_cd 151 22 = some (.getfield 33, 3) := by decide +kernel
theorem c151_25 : mc_cd 151 25 = some (.iload_n 3, 1) := by decide +kernel
theorem c151_26 : mc_cd 151 26 = some (.iaload, 1) := by decide +kernel
theorem c151_27 : mc_cd 151 27 = some (.ior, 1) := by decide +kernel
theorem c151_28 : mc_cd 151 28 = some (.istore_n 2, 1) := by decide +kernel
theorem c151_29 : mc_cd 151 29 = some (.iinc 3 1, 3) := by decide +kernel
theorem c151_32 : mc_cd 151 32 = some (.goto (-28), 3) := by decide +kernel
theorem c151_35 : mc_cd 151 35 = some (.iload_n 2, 1) := by decide +kernel
theorem c151_36 : mc_cd 151 36 = some (.ireturn, 1) := by decide +kernel
abbrev q_151 (r0 : Nat) (a1 : Int) (T : wq_T) (H : wq_H) : Option Value → wq_T → wq_H → Prop := fun r T' H' => T = T' ∧ H = H' ∧ ∃ z : Int, some (vI z) = r ∧ ((-2147483648) ≤ z ∧ z ≤ 2147483647)
set_option maxHeartbeats 4000000 in
theorem s_151 {kt : Nat → Option mc_E} {T : wq_T} {H : wq_H} {r0 : Nat} {a1 : Int} (hW : WT T H) (g0 : T.2.2.2 r0 = some 27) (i1 : (-2147483648) ≤ a1 ∧ a1 ≤ 2147483647) : wpc kt 2 151 [.ref r0, vI a1] T H (q_151 r0 a1 T H) := by
  refine wp_enter e151 (Nat.le_of_ble_eq_true rfl) rfl ?_
  show wp _ _ 151 0 [(0, .ref r0), (1, vI a1)] [] _ H _
  refine wp_of e151 c151_0 (rw_iconst (pc' := 1) rfl ?_)
  refine wp_of e151 c151_1 (rw_istore_n (pc' := 2) (z := 0) (L' := [(2, vI 0), (0, .ref r0), (1, vI a1)]) rfl rfl rfl ?_)
  refine wp_of e151 c151_2 (rw_iconst (pc' := 3) rfl ?_)
  refine wp_of e151 c151_3 (rw_istore_n (pc' := 4) (z := 0) (L' := [(3, vI 0), (2, vI 0), (0, .ref r0), (1, vI a1)]) rfl rfl rfl ?_)
  have lp76470 : ∀ (n76471 : Nat) (v76473 : Int) (v76474 : Int), (0 ≤ v76473 ∧ v76473 ≤ 6) → ((-2147483648) ≤ v76474 ∧ v76474 ≤ 2147483647) → (6 - v76473).toNat = n76471 → wp kt 1 151 4 [(3, vI v76473), (2, vI v76474), (0, .ref r0), (1, vI a1)] [] T H (q_151 r0 a1 T H) := by
    intro n76471
    induction n76471 using Nat.strongRecOn with
    | _ n76471 ih76472 =>
      intro v76473 v76474 b76477 b76478 m76479
      refine wp_of e151 c151_4 (rw_iload_n (pc' := 5) (z := v76473) rfl rfl ?_)
      refine wp_of e151 c151_5 (rw_aload_n (pc' := 6) (v := .ref r0) rfl rfl rfl ?_)
      refine wp_of e151 c151_6 (xg_I (pc' := 9) lf_7_62 hW g0 sh_27 (by decide) (by decide) ty_27_14 rfl rfl (fun b76480 b76481 => ?_))
      refine wp_of e151 c151_9 (rw_icmp_ge (p1 := 35) (p2 := 12) (by decide) rfl ⟨by omega, by omega⟩ ⟨by omega, by omega⟩ (fun c76482 => ?_) (fun c76482 => ?_))
      · refine wp_of e151 c151_35 (rw_iload_n (pc' := 36) (z := v76474) rfl rfl ?_)
        exact wp_ireturn e151 c151_36 rfl ⟨rfl, rfl, v76474, rfl, ⟨by omega, by omega⟩⟩
      · refine wp_of e151 c151_12 (rw_iload_n (pc' := 13) (z := a1) rfl rfl ?_)
        refine wp_of e151 c151_13 (rw_iload_n (pc' := 14) (z := v76473) rfl rfl ?_)
        refine wp_of e151 c151_14 (xc_S (pc' := 17) (as := [vI a1, vI v76473]) (st := []) (lm_7_121) rfl rfl (Nat.le_of_ble_eq_true rfl) rfl (by decide) (s_36 hW ⟨by omega, by omega⟩ ⟨by omega, by omega⟩) (fun R76483 T76484 H76485 p76486 => ?_))
        obtain ⟨e76487, e76489, z76490, e76488, b76491⟩ := p76486
        subst e76487
        subst e76488
        subst e76489
        show wp _ _ 151 17 [(3, vI v76473), (2, vI v76474), (0, .ref r0), (1, vI a1)] [vI z76490] _ H _
        refine wp_of e151 c151_17 (rw_if_eq (p1 := 29) (p2 := 20) (by decide) rfl ⟨by omega, by omega⟩ (fun c76492 => ?_) (fun c76492 => ?_))
        · refine wp_of e151 c151_29 (rw_iinc (pc' := 32) (z := v76473) (L' := [(3, vI (v76473 + 1)), (2, vI v76474), (0, .ref r0), (1, vI a1)]) rfl rfl rfl rfl ?_)
          refine wp_of e151 c151_32 (rw_goto (p1 := 4) (by decide) ?_)
          exact wp_lc (ks := [3, 2, 0, 1]) (wl_c rfl (wl_c rfl (wl_c rfl (wl_c rfl wl_n)))) rfl (by decide) (ih76472 _ (by omega) (v76473 + 1) v76474 ⟨by omega, by omega⟩ ⟨by omega, by omega⟩ rfl)
        · refine wp_of e151 c151_20 (rw_iload_n (pc' := 21) (z := v76474) rfl rfl ?_)
          refine wp_of e151 c151_21 (rw_aload_n (pc' := 22) (v := .ref r0) rfl rfl rfl ?_)
          refine wp_of e151 c151_22 (xg_R (pc' := 25) lf_7_33 hW g0 sh_27 (by decide) (by decide) ty_27_6 rfl rfl (fun r76493 q76494 g76495 => ?_))
          refine wp_of e151 c151_25 (rw_iload_n (pc' := 26) (z := v76473) rfl rfl ?_)
          refine wp_of e151 c151_26 (xa_I (so := 0) (pc' := 27) hW g76495 sh_34 (by decide) (ty_34 _) (by omega) (by omega) rfl (fun b76496 b76497 => ?_))
          refine wp_of e151 c151_27 (rw_ior (pc' := 28) rfl ?_)
          obtain ⟨v76498, e76499⟩ : ∃ x : Int, x = wq_or v76474 (H r76493 v76473.toNat) := ⟨_, rfl⟩
          rw [← e76499]
          have b76500 : -2147483648 ≤ v76498 ∧ v76498 ≤ 2147483647 := by
            rw [e76499]
            exact wI_or _ _
          refine wp_of e151 c151_28 (rw_istore_n (pc' := 29) (z := v76498) (L' := [(2, vI v76498), (3, vI v76473), (0, .ref r0), (1, vI a1)]) rfl rfl rfl ?_)
          refine wp_of e151 c151_29 (rw_iinc (pc' := 32) (z := v76473) (L' := [(3, vI (v76473 + 1)), (2, vI v76498), (0, .ref r0), (1, vI a1)]) rfl rfl rfl rfl ?_)
          refine wp_of e151 c151_32 (rw_goto (p1 := 4) (by decide) ?_)
          exact wp_lc (ks := [3, 2, 0, 1]) (wl_c rfl (wl_c rfl (wl_c rfl (wl_c rfl wl_n)))) rfl (by decide) (ih76472 _ (by omega) (v76473 + 1) v76498 ⟨by omega, by omega⟩ ⟨by omega, by omega⟩ rfl)
  exact wp_lc (ks := [3, 2, 0, 1]) (wl_c rfl (wl_c rfl (wl_c rfl (wl_c rfl wl_n)))) rfl (by decide) (lp76470 _ 0 0 ⟨by omega, by omega⟩ ⟨by omega, by omega⟩ rfl)
/-! StrikeAwake$Parish.fewestOffers()I -/
theorem e150 : wq_en 150 = some (7, 4, false, some FieldType.int) := rfl
theorem c150_0 : mc_cd 150 0 = some (.aload_n 0, 1) := by decide +kernel
theorem c150_1 : mc_cd 150 1 = some (.invokevirtual 96, 3) := by decide +kernel
theorem c150_4 : mc_cd 150 4 = some (.istore_n 1, 1) := by decide +kernel
theorem c150_5 : mc_cd 150 5 = some (.iconst 1, 1) := by decide +kernel
theorem c150_6 : mc_cd 150 6 = some (.istore_n 2, 1) := by decide +kernel
theorem c150_7 : mc_cd 150 7 = some (.iload_n 2, 1) := by decide +kernel
theorem c150_8 : mc_cd 150 8 = some (.aload_n 0, 1) := by decide +kernel
theorem c150_9 : mc_cd 150 9 = some (.getfield 62, 3) := by decide +kernel
theorem c150_12 : mc_cd 150 12 = some (.if_icmp .gt 46, 3) := by decide +kernel
theorem c150_15 : mc_cd 150 15 = some (.iconst 1, 1) := by decide +kernel
theorem c150_16 : mc_cd 150 16 = some (.istore_n 3, 1) := by decide +kernel
theorem c150_17 : mc_cd 150 17 = some (.iload_n 3, 1) := by decide +kernel
theorem c150_18 : mc_cd 150 18 = some (.iconst 1, 1) := by decide +kernel
theorem c150_19 : mc_cd 150 19 = some (.aload_n 0, 1) := by decide +kernel
theorem c150_20 : mc_cd 150 20 = some (.getfield 62, 3) := by decide +kernel
theorem c150_23 : mc_cd 150 23 = some (.ishl, 1) := by decide +kernel
theorem c150_24 : mc_cd 150 24 = some (.if_icmp .ge 28, 3) := by decide +kernel
theorem c150_27 : mc_cd 150 27 = some (.iload_n 3, 1) := by decide +kernel
theorem c150_28 : mc_cd 150 28 = some (.invokestatic 113, 3) := by decide +kernel
theorem c150_31 : mc_cd 150 31 = some (.iload_n 2, 1) := by decide +kernel
theorem c150_32 : mc_cd 150 32 = some (.if_icmp .ne 14, 3) := by decide +kernel
theorem c150_35 : mc_cd 150 35 = some (.aload_n 0, 1) := by decide +kernel
theorem c150_36 : mc_cd 150 36 = some (.iload_n 3, 1) := by decide +kernel
theorem c150_37 : mc_cd 150 37 = some (.invokevirtual 118, 3) := by decide +kernel
theorem c150_40 : mc_cd 150 40 = some (.iload_n 1, 1) := by decide +kernel
theorem c150_41 : mc_cd 150 41 = some (.if_icmp .ne 5, 3) := by decide +kernel
theorem c150_44 : mc_cd 150 44 = some (.iload_n 3, 1) := by decide +kernel
theorem c150_45 : mc_cd 150 45 = some (.ireturn, 1) := by decide +kernel
theorem c150_46 : mc_cd 150 46 = some (.iinc 3 1, 3) := by decide +kernel
theorem c150_49 : mc_cd 150 49 = some (.goto (-32), 3) := by decide +kernel
theorem c150_52 : mc_cd 150 52 = some (.iinc 2 1, 3) := by decide +kernel
theorem c150_55 : mc_cd 150 55 = some (.goto (-48), 3) := by decide +kernel
theorem c150_58 : mc_cd 150 58 = some (.bipush (-2), 2) := by decide +kernel
theorem c150_60 : mc_cd 150 60 = some (.ireturn, 1) := by decide +kernel
abbrev q_150 (r0 : Nat) (T : wq_T) (H : wq_H) : Option Value → wq_T → wq_H → Prop := fun r T' H' => T = T' ∧ H = H' ∧ ∃ z : Int, some (vI z) = r ∧ ((-2147483648) ≤ z ∧ z ≤ 2147483647)
set_option maxHeartbeats 4000000 in
theorem s_150 {kt : Nat → Option mc_E} {T : wq_T} {H : wq_H} {r0 : Nat} (hW : WT T H) (g0 : T.2.2.2 r0 = some 27) : wpc kt 3 150 [.ref r0] T H (q_150 r0 T H) := by
  refine wp_enter e150 (Nat.le_of_ble_eq_true rfl) rfl ?_
  show wp _ _ 150 0 [(0, .ref r0)] [] _ H _
  refine wp_of e150 c150_0 (rw_aload_n (pc' := 1) (v := .ref r0) rfl rfl rfl ?_)
  refine wp_of e150 c150_1 (xc_V (pc' := 4) (r := r0) (as := []) (st := []) (lm_7_96) rfl rfl (Nat.le_of_ble_eq_true rfl) hW g0 sh_27 (by decide) rfl (by decide) (s_45 hW g0) (fun R78407 T78408 H78409 p78410 => ?_))
  obtain ⟨e78411, e78413, z78414, e78412, b78415⟩ := p78410
  subst e78411
  subst e78412
  subst e78413
  show wp _ _ 150 4 [(0, .ref r0)] [vI z78414] _ H _
  refine wp_of e150 c150_4 (rw_istore_n (pc' := 5) (z := z78414) (L' := [(1, vI z78414), (0, .ref r0)]) rfl rfl rfl ?_)
  refine wp_of e150 c150_5 (rw_iconst (pc' := 6) rfl ?_)
  refine wp_of e150 c150_6 (rw_istore_n (pc' := 7) (z := 1) (L' := [(2, vI 1), (1, vI z78414), (0, .ref r0)]) rfl rfl rfl ?_)
  have lp80075 : ∀ (n80076 : Nat) (v80078 : Int), (1 ≤ v80078 ∧ v80078 ≤ 7) → (7 - v80078).toNat = n80076 → wp kt 2 150 7 [(2, vI v80078), (1, vI z78414), (0, .ref r0)] [] T H (q_150 r0 T H) := by
    intro n80076
    induction n80076 using Nat.strongRecOn with
    | _ n80076 ih80077 =>
      intro v80078 b80081 m80082
      refine wp_of e150 c150_7 (rw_iload_n (pc' := 8) (z := v80078) rfl rfl ?_)
      refine wp_of e150 c150_8 (rw_aload_n (pc' := 9) (v := .ref r0) rfl rfl rfl ?_)
      refine wp_of e150 c150_9 (xg_I (pc' := 12) lf_7_62 hW g0 sh_27 (by decide) (by decide) ty_27_14 rfl rfl (fun b80083 b80084 => ?_))
      refine wp_of e150 c150_12 (rw_icmp_gt (p1 := 58) (p2 := 15) (by decide) rfl ⟨by omega, by omega⟩ ⟨by omega, by omega⟩ (fun c80085 => ?_) (fun c80085 => ?_))
      · refine wp_of e150 c150_58 (rw_bipush (pc' := 60) (z := -2) rfl (by decide) ?_)
        exact wp_ireturn e150 c150_60 rfl ⟨rfl, rfl, -2, rfl, ⟨by omega, by omega⟩⟩
      · refine wp_of e150 c150_15 (rw_iconst (pc' := 16) rfl ?_)
        refine wp_of e150 c150_16 (rw_istore_n (pc' := 17) (z := 1) (L' := [(3, vI 1), (2, vI v80078), (1, vI z78414), (0, .ref r0)]) rfl rfl rfl ?_)
        have lp80294 : ∀ (n80295 : Nat) (v80297 : Int), (1 ≤ v80297 ∧ v80297 ≤ 2147483647) → (2147483647 - v80297).toNat = n80295 → wp kt 2 150 17 [(3, vI v80297), (2, vI v80078), (1, vI z78414), (0, .ref r0)] [] T H (q_150 r0 T H) := by
          intro n80295
          induction n80295 using Nat.strongRecOn with
          | _ n80295 ih80296 =>
            intro v80297 b80300 m80301
            refine wp_of e150 c150_17 (rw_iload_n (pc' := 18) (z := v80297) rfl rfl ?_)
            refine wp_of e150 c150_18 (rw_iconst (pc' := 19) rfl ?_)
            refine wp_of e150 c150_19 (rw_aload_n (pc' := 20) (v := .ref r0) rfl rfl rfl ?_)
            refine wp_of e150 c150_20 (xg_I (pc' := 23) lf_7_62 hW g0 sh_27 (by decide) (by decide) ty_27_14 rfl rfl (fun b80302 b80303 => ?_))
            refine wp_of e150 c150_23 (rw_ishl (pc' := 24) rfl ?_)
            obtain ⟨v80304, e80305⟩ : ∃ x : Int, x = wq_shl 1 (H r0 14) := ⟨_, rfl⟩
            rw [← e80305]
            have b80306 : -2147483648 ≤ v80304 ∧ v80304 ≤ 2147483647 := by
              rw [e80305]
              exact wI_shl _ _
            refine wp_of e150 c150_24 (rw_icmp_ge (p1 := 52) (p2 := 27) (by decide) rfl ⟨by omega, by omega⟩ ⟨by omega, by omega⟩ (fun c80307 => ?_) (fun c80307 => ?_))
            · refine wp_of e150 c150_52 (rw_iinc (pc' := 55) (z := v80078) (L' := [(2, vI (v80078 + 1)), (3, vI v80297), (1, vI z78414), (0, .ref r0)]) rfl rfl rfl rfl ?_)
              refine wp_of e150 c150_55 (rw_goto (p1 := 7) (by decide) ?_)
              exact wp_lc (ks := [2, 3, 1, 0]) (wl_c rfl (wl_c rfl (wl_c rfl wl_n))) rfl (by decide) (ih80077 _ (by omega) (v80078 + 1) ⟨by omega, by omega⟩ rfl)
            · refine wp_of e150 c150_27 (rw_iload_n (pc' := 28) (z := v80297) rfl rfl ?_)
              refine wp_of e150 c150_28 (xc_S (pc' := 31) (as := [vI v80297]) (st := []) (lm_7_113) rfl rfl (Nat.le_of_ble_eq_true rfl) rfl (by decide) (s_126 hW ⟨by omega, by omega⟩) (fun R80308 T80309 H80310 p80311 => ?_))
              obtain ⟨e80312, e80314, z80315, e80313, b80316⟩ := p80311
              subst e80312
              subst e80313
              subst e80314
              show wp _ _ 150 31 [(3, vI v80297), (2, vI v80078), (1, vI z78414), (0, .ref r0)] [vI z80315] _ H _
              refine wp_of e150 c150_31 (rw_iload_n (pc' := 32) (z := v80078) rfl rfl ?_)
              refine wp_of e150 c150_32 (rw_icmp_ne (p1 := 46) (p2 := 35) (by decide) rfl ⟨by omega, by omega⟩ ⟨by omega, by omega⟩ (fun c80317 => ?_) (fun c80317 => ?_))
              · refine wp_of e150 c150_46 (rw_iinc (pc' := 49) (z := v80297) (L' := [(3, vI (v80297 + 1)), (2, vI v80078), (1, vI z78414), (0, .ref r0)]) rfl rfl rfl rfl ?_)
                refine wp_of e150 c150_49 (rw_goto (p1 := 17) (by decide) ?_)
                exact wp_lc (ks := [3, 2, 1, 0]) (wl_c rfl (wl_c rfl (wl_c rfl (wl_c rfl wl_n)))) rfl (by decide) (ih80296 _ (by omega) (v80297 + 1) ⟨by omega, by omega⟩ rfl)
              · refine wp_of e150 c150_35 (rw_aload_n (pc' := 36) (v := .ref r0) rfl rfl rfl ?_)
                refine wp_of e150 c150_36 (rw_iload_n (pc' := 37) (z := v80297) rfl rfl ?_)
                refine wp_of e150 c150_37 (xc_V (pc' := 40) (r := r0) (as := [vI v80297]) (st := []) (lm_7_118) rfl rfl (Nat.le_of_ble_eq_true rfl) hW g0 sh_27 (by decide) rfl (by decide) (s_151 hW g0 ⟨by omega, by omega⟩) (fun R80318 T80319 H80320 p80321 => ?_))
                obtain ⟨e80322, e80324, z80325, e80323, b80326⟩ := p80321
                subst e80322
                subst e80323
                subst e80324
                show wp _ _ 150 40 [(3, vI v80297), (2, vI v80078), (1, vI z78414), (0, .ref r0)] [vI z80325] _ H _
                refine wp_of e150 c150_40 (rw_iload_n (pc' := 41) (z := z78414) rfl rfl ?_)
                refine wp_of e150 c150_41 (rw_icmp_ne (p1 := 46) (p2 := 44) (by decide) rfl ⟨by omega, by omega⟩ ⟨by omega, by omega⟩ (fun c80327 => ?_) (fun c80327 => ?_))
                · refine wp_of e150 c150_46 (rw_iinc (pc' := 49) (z := v80297) (L' := [(3, vI (v80297 + 1)), (2, vI v80078), (1, vI z78414), (0, .ref r0)]) rfl rfl rfl rfl ?_)
                  refine wp_of e150 c150_49 (rw_goto (p1 := 17) (by decide) ?_)
                  exact wp_lc (ks := [3, 2, 1, 0]) (wl_c rfl (wl_c rfl (wl_c rfl (wl_c rfl wl_n)))) rfl (by decide) (ih80296 _ (by omega) (v80297 + 1) ⟨by omega, by omega⟩ rfl)
                · refine wp_of e150 c150_44 (rw_iload_n (pc' := 45) (z := v80297) rfl rfl ?_)
                  exact wp_ireturn e150 c150_45 rfl ⟨rfl, rfl, v80297, rfl, ⟨by omega, by omega⟩⟩
        exact wp_lc (ks := [3, 2, 1, 0]) (wl_c rfl (wl_c rfl (wl_c rfl (wl_c rfl wl_n)))) rfl (by decide) (lp80294 _ 1 ⟨by omega, by omega⟩ rfl)
  exact wp_lc (ks := [2, 1, 0]) (wl_c rfl (wl_c rfl (wl_c rfl wl_n))) rfl (by decide) (lp80075 _ 1 ⟨by omega, by omega⟩ rfl)
/-! StrikeAwake.keep()I -/
theorem e149 : wq_en 149 = some (0, 1, false, some FieldType.int) := rfl
theorem c149_0 : mc_cd 149 0 = some (.aload_n 0, 1) := by decide +kernel
theorem c149_1 : mc_cd 149 1 = some (.getfield 58, 3) := by decide +kernel
theorem c149_4 : mc_cd 149 4 = some (.ifCond .ne 9, 3) := by decide +kernel
theorem c149_7 : mc_cd 149 7 = some (.aload_n 0, 1) := by decide +kernel
theorem c149_8 : mc_cd 149 8 = some (.iconst 1, 1) := by decide +kernel
theorem c149_9 : mc_cd 149 9 = some (.invokevirtual 70, 3) := by decide +kernel
theorem c149_12 : mc_cd 149 12 = some (.ireturn, 1) := by decide +kernel
theorem c149_13 : mc_cd 149 13 = some (.aload_n 0, 1) := by decide +kernel
theorem c149_14 : mc_cd 149 14 = some (.aload_n 0, 1) := by decide +kernel
theorem c149_15 : mc_cd 149 15 = some (.getfield 51, 3) := by decide +kernel
theorem c149_18 : mc_cd 149 18 = some (.invokevirtual 284, 3) := by decide +kernel
theorem c149_21 : mc_cd 149 21 = some (.invokevirtual 99, 3) := by decide +kernel
theorem c149_24 : mc_cd 149 24 = some (.ireturn, 1) := by decide +kernel
abbrev q_149 (r0 : Nat) (T : wq_T) (H : wq_H) : Option Value → wq_T → wq_H → Prop := fun r T' H' => T = T' ∧ WT T H' ∧ wfr [(1, 10)] T H H' ∧ ∃ z : Int, some (vI z) = r ∧ ((-2147483648) ≤ z ∧ z ≤ 2147483647)
set_option maxHeartbeats 4000000 in
theorem s_149 {kt : Nat → Option mc_E} {T : wq_T} {H : wq_H} {r0 : Nat} (hW : WT T H) (g0 : T.2.2.2 r0 = some 1) : wpc kt 4 149 [.ref r0] T H (q_149 r0 T H) := by
  refine wp_enter e149 (Nat.le_of_ble_eq_true rfl) rfl ?_
  have f0 : wfr [(1, 10)] T H H := wfr.rf
  show wp _ _ 149 0 [(0, .ref r0)] [] _ H _
  refine wp_of e149 c149_0 (rw_aload_n (pc' := 1) (v := .ref r0) rfl rfl rfl ?_)
  refine wp_of e149 c149_1 (xg_I (pc' := 4) lf_0_58 hW g0 sh_1 (by decide) (by decide) ty_1_8 rfl rfl (fun b80365 b80366 => ?_))
  refine wp_of e149 c149_4 (rw_if_ne (p1 := 13) (p2 := 7) (by decide) rfl ⟨by omega, by omega⟩ (fun c80367 => ?_) (fun c80367 => ?_))
  · refine wp_of e149 c149_13 (rw_aload_n (pc' := 14) (v := .ref r0) rfl rfl rfl ?_)
    refine wp_of e149 c149_14 (rw_aload_n (pc' := 15) (v := .ref r0) rfl rfl rfl ?_)
    refine wp_of e149 c149_15 (xg_R (pc' := 18) lf_0_51 hW g0 sh_1 (by decide) (by decide) ty_1_6 rfl rfl (fun r80368 q80369 g80370 => ?_))
    refine wp_of e149 c149_18 (xc_V (pc' := 21) (r := r80368) (as := []) (st := [.ref r0]) (lm_0_284) rfl rfl (Nat.le_of_ble_eq_true rfl) hW g80370 sh_27 (by decide) rfl (by decide) (s_150 hW g80370) (fun R80371 T80372 H80373 p80374 => ?_))
    obtain ⟨e80375, e80377, z80378, e80376, b80379⟩ := p80374
    subst e80375
    subst e80376
    subst e80377
    show wp _ _ 149 21 [(0, .ref r0)] [vI z80378, .ref r0] _ H _
    refine wp_of e149 c149_21 (xc_V (pc' := 24) (r := r0) (as := [vI z80378]) (st := []) (lm_0_99) rfl rfl (Nat.le_of_ble_eq_true rfl) hW g0 sh_1 (by decide) rfl (by decide) (s_51 hW g0 ⟨by omega, by omega⟩) (fun R80380 T80381 H80382 p80383 => ?_))
    obtain ⟨e80384, w80386, f80387, z80388, e80385, b80389⟩ := p80383
    subst e80384
    subst e80385
    have f80390 := f0.tr f80387 rfl
    show wp _ _ 149 24 [(0, .ref r0)] [vI z80388] _ H80382 _
    exact wp_ireturn e149 c149_24 rfl ⟨rfl, w80386, f80390, z80388, rfl, ⟨by omega, by omega⟩⟩
  · refine wp_of e149 c149_7 (rw_aload_n (pc' := 8) (v := .ref r0) rfl rfl rfl ?_)
    refine wp_of e149 c149_8 (rw_iconst (pc' := 9) rfl ?_)
    refine wp_of e149 c149_9 (xc_V (pc' := 12) (r := r0) (as := [vI 1]) (st := []) (lm_0_70) rfl rfl (Nat.le_of_ble_eq_true rfl) hW g0 sh_1 (by decide) rfl (by decide) (s_12 hW g0 ⟨by omega, by omega⟩) (fun R80391 T80392 H80393 p80394 => ?_))
    obtain ⟨e80395, w80397, f80398, z80399, e80396, b80400⟩ := p80394
    subst e80395
    subst e80396
    have f80401 := f0.tr f80398 rfl
    show wp _ _ 149 12 [(0, .ref r0)] [vI z80399] _ H80393 _
    exact wp_ireturn e149 c149_12 rfl ⟨rfl, w80397, f80401, z80399, rfl, ⟨by omega, by omega⟩⟩
/-! StrikeAwake.quiet(I)I -/
theorem e152 : wq_en 152 = some (0, 2, false, some FieldType.int) := rfl
theorem c152_0 : mc_cd 152 0 = some (.aload_n 0, 1) := by decide +kernel
theorem c152_1 : mc_cd 152 1 = some (.getfield 58, 3) := by decide +kernel
theorem c152_4 : mc_cd 152 4 = some (.ifCond .ne 9, 3) := by decide +kernel
theorem c152_7 : mc_cd 152 7 = some (.aload_n 0, 1) := by decide +kernel
theorem c152_8 : mc_cd 152 8 = some (.iconst 1, 1) := by decide +kernel
theorem c152_9 : mc_cd 152 9 = some (.invokevirtual 70, 3) := by decide +kernel
theorem c152_12 : mc_cd 152 12 = some (.ireturn, 1) := by decide +kernel
theorem c152_13 : mc_cd 152 13 = some (.iload_n 1, 1) := by decide +kernel
theorem c152_14 : mc_cd 152 14 = some (.ifCond .lt 9, 3) := by decide +kernel
theorem c152_17 : mc_cd 152 17 = some (.iload_n 1, 1) := by decide +kernel
theorem c152_18 : mc_cd 152 18 = some (.bipush 99, 2) := by decide +kernel
theorem c152_20 : mc_cd 152 20 = some (.if_icmp .le 9, 3) := by decide +kernel
theorem c152_23 : mc_cd 152 23 = some (.aload_n 0, 1) := by decide +kernel
theorem c152_24 : mc_cd 152 24 = some (.iconst 2, 1) := by decide +kernel
theorem c152_25 : mc_cd 152 25 = some (.invokevirtual 70, 3) := by decide +kernel
theorem c152_28 : mc_cd 152 28 = some (.ireturn, 1) := by decide +kernel
theorem c152_29 : mc_cd 152 29 = some (.aload_n 0, 1) := by decide +kernel
theorem c152_30 : mc_cd 152 30 = some (.aload_n 0, 1) := by decide +kernel
theorem c152_31 : mc_cd 152 31 = some (.getfield 51, 3) := by decide +kernel
theorem c152_34 : mc_cd 152 34 = some (.iload_n 1, 1) := by decide +kernel
theorem c152_35 : mc_cd 152 35 = some (.invokevirtual 288, 3) := by decide +kernel
theorem c152_38 : mc_cd 152 38 = some (.invokevirtual 99, 3) := by decide +kernel
theorem c152_41 : mc_cd 152 41 = some (.ireturn, 1) := by decide +kernel
abbrev q_152 (r0 : Nat) (a1 : Int) (T : wq_T) (H : wq_H) : Option Value → wq_T → wq_H → Prop := fun r T' H' => T = T' ∧ WT T H' ∧ wfr [(1, 10)] T H H' ∧ ∃ z : Int, some (vI z) = r ∧ ((-2147483648) ≤ z ∧ z ≤ 2147483647)
set_option maxHeartbeats 4000000 in
theorem s_152 {kt : Nat → Option mc_E} {T : wq_T} {H : wq_H} {r0 : Nat} {a1 : Int} (hW : WT T H) (g0 : T.2.2.2 r0 = some 1) (i1 : (-2147483648) ≤ a1 ∧ a1 ≤ 2147483647) : wpc kt 2 152 [.ref r0, vI a1] T H (q_152 r0 a1 T H) := by
  refine wp_enter e152 (Nat.le_of_ble_eq_true rfl) rfl ?_
  have f0 : wfr [(1, 10)] T H H := wfr.rf
  show wp _ _ 152 0 [(0, .ref r0), (1, vI a1)] [] _ H _
  refine wp_of e152 c152_0 (rw_aload_n (pc' := 1) (v := .ref r0) rfl rfl rfl ?_)
  refine wp_of e152 c152_1 (xg_I (pc' := 4) lf_0_58 hW g0 sh_1 (by decide) (by decide) ty_1_8 rfl rfl (fun b80463 b80464 => ?_))
  refine wp_of e152 c152_4 (rw_if_ne (p1 := 13) (p2 := 7) (by decide) rfl ⟨by omega, by omega⟩ (fun c80465 => ?_) (fun c80465 => ?_))
  · refine wp_of e152 c152_13 (rw_iload_n (pc' := 14) (z := a1) rfl rfl ?_)
    refine wp_of e152 c152_14 (rw_if_lt (p1 := 23) (p2 := 17) (by decide) rfl ⟨by omega, by omega⟩ (fun c80466 => ?_) (fun c80466 => ?_))
    · refine wp_of e152 c152_23 (rw_aload_n (pc' := 24) (v := .ref r0) rfl rfl rfl ?_)
      refine wp_of e152 c152_24 (rw_iconst (pc' := 25) rfl ?_)
      refine wp_of e152 c152_25 (xc_V (pc' := 28) (r := r0) (as := [vI 2]) (st := []) (lm_0_70) rfl rfl (Nat.le_of_ble_eq_true rfl) hW g0 sh_1 (by decide) rfl (by decide) (s_12 hW g0 ⟨by omega, by omega⟩) (fun R80467 T80468 H80469 p80470 => ?_))
      obtain ⟨e80471, w80473, f80474, z80475, e80472, b80476⟩ := p80470
      subst e80471
      subst e80472
      have f80477 := f0.tr f80474 rfl
      show wp _ _ 152 28 [(0, .ref r0), (1, vI a1)] [vI z80475] _ H80469 _
      exact wp_ireturn e152 c152_28 rfl ⟨rfl, w80473, f80477, z80475, rfl, ⟨by omega, by omega⟩⟩
    · refine wp_of e152 c152_17 (rw_iload_n (pc' := 18) (z := a1) rfl rfl ?_)
      refine wp_of e152 c152_18 (rw_bipush (pc' := 20) (z := 99) rfl (by decide) ?_)
      refine wp_of e152 c152_20 (rw_icmp_le (p1 := 29) (p2 := 23) (by decide) rfl ⟨by omega, by omega⟩ ⟨by omega, by omega⟩ (fun c80478 => ?_) (fun c80478 => ?_))
      · refine wp_of e152 c152_29 (rw_aload_n (pc' := 30) (v := .ref r0) rfl rfl rfl ?_)
        refine wp_of e152 c152_30 (rw_aload_n (pc' := 31) (v := .ref r0) rfl rfl rfl ?_)
        refine wp_of e152 c152_31 (xg_R (pc' := 34) lf_0_51 hW g0 sh_1 (by decide) (by decide) ty_1_6 rfl rfl (fun r80479 q80480 g80481 => ?_))
        refine wp_of e152 c152_34 (rw_iload_n (pc' := 35) (z := a1) rfl rfl ?_)
        refine wp_of e152 c152_35 (xc_V (pc' := 38) (r := r80479) (as := [vI a1]) (st := [.ref r0]) (lm_0_288) rfl rfl (Nat.le_of_ble_eq_true rfl) hW g80481 sh_27 (by decide) rfl (by decide) (s_46 hW g80481 ⟨by omega, by omega⟩) (fun R80482 T80483 H80484 p80485 => ?_))
        obtain ⟨e80486, e80488, z80489, e80487, b80490⟩ := p80485
        subst e80486
        subst e80487
        subst e80488
        show wp _ _ 152 38 [(0, .ref r0), (1, vI a1)] [vI z80489, .ref r0] _ H _
        refine wp_of e152 c152_38 (xc_V (pc' := 41) (r := r0) (as := [vI z80489]) (st := []) (lm_0_99) rfl rfl (Nat.le_of_ble_eq_true rfl) hW g0 sh_1 (by decide) rfl (by decide) (s_51 hW g0 ⟨by omega, by omega⟩) (fun R80491 T80492 H80493 p80494 => ?_))
        obtain ⟨e80495, w80497, f80498, z80499, e80496, b80500⟩ := p80494
        subst e80495
        subst e80496
        have f80501 := f0.tr f80498 rfl
        show wp _ _ 152 41 [(0, .ref r0), (1, vI a1)] [vI z80499] _ H80493 _
        exact wp_ireturn e152 c152_41 rfl ⟨rfl, w80497, f80501, z80499, rfl, ⟨by omega, by omega⟩⟩
      · refine wp_of e152 c152_23 (rw_aload_n (pc' := 24) (v := .ref r0) rfl rfl rfl ?_)
        refine wp_of e152 c152_24 (rw_iconst (pc' := 25) rfl ?_)
        refine wp_of e152 c152_25 (xc_V (pc' := 28) (r := r0) (as := [vI 2]) (st := []) (lm_0_70) rfl rfl (Nat.le_of_ble_eq_true rfl) hW g0 sh_1 (by decide) rfl (by decide) (s_12 hW g0 ⟨by omega, by omega⟩) (fun R80502 T80503 H80504 p80505 => ?_))
        obtain ⟨e80506, w80508, f80509, z80510, e80507, b80511⟩ := p80505
        subst e80506
        subst e80507
        have f80512 := f0.tr f80509 rfl
        show wp _ _ 152 28 [(0, .ref r0), (1, vI a1)] [vI z80510] _ H80504 _
        exact wp_ireturn e152 c152_28 rfl ⟨rfl, w80508, f80512, z80510, rfl, ⟨by omega, by omega⟩⟩
  · refine wp_of e152 c152_7 (rw_aload_n (pc' := 8) (v := .ref r0) rfl rfl rfl ?_)
    refine wp_of e152 c152_8 (rw_iconst (pc' := 9) rfl ?_)
    refine wp_of e152 c152_9 (xc_V (pc' := 12) (r := r0) (as := [vI 1]) (st := []) (lm_0_70) rfl rfl (Nat.le_of_ble_eq_true rfl) hW g0 sh_1 (by decide) rfl (by decide) (s_12 hW g0 ⟨by omega, by omega⟩) (fun R80513 T80514 H80515 p80516 => ?_))
    obtain ⟨e80517, w80519, f80520, z80521, e80518, b80522⟩ := p80516
    subst e80517
    subst e80518
    have f80523 := f0.tr f80520 rfl
    show wp _ _ 152 12 [(0, .ref r0), (1, vI a1)] [vI z80521] _ H80515 _
    exact wp_ireturn e152 c152_12 rfl ⟨rfl, w80519, f80523, z80521, rfl, ⟨by omega, by omega⟩⟩
/-! StrikeAwake.strike(II)I -/
theorem e153 : wq_en 153 = some (0, 3, false, some FieldType.int) := rfl
theorem c153_0 : mc_cd 153 0 = some (.aload_n 0, 1) := by decide +kernel
theorem c153_1 : mc_cd 153 1 = some (.iload_n 1, 1) := by decide +kernel
theorem c153_2 : mc_cd 153 2 = some (.invokevirtual 132, 3) := by decide +kernel
theorem c153_5 : mc_cd 153 5 = some (.ifCond .ne 9, 3) := by decide +kernel
theorem c153_8 : mc_cd 153 8 = some (.aload_n 0, 1) := by decide +kernel
theorem c153_9 : mc_cd 153 9 = some (.iconst 1, 1) := by decide +kernel
theorem c153_10 : mc_cd 153 10 = some (.invokevirtual 70, 3) := by decide +kernel
theorem c153_13 : mc_cd 153 13 = some (.ireturn, 1) := by decide +kernel
theorem c153_14 : mc_cd 153 14 = some (.iload_n 2, 1) := by decide +kernel
theorem c153_15 : mc_cd 153 15 = some (.ifCond .lt 9, 3) := by decide +kernel
theorem c153_18 : mc_cd 153 18 = some (.iload_n 2, 1) := by decide +kernel
theorem c153_19 : mc_cd 153 19 = some (.bipush 99, 2) := by decide +kernel
theorem c153_21 : mc_cd 153 21 = some (.if_icmp .le 9, 3) := by decide +kernel
theorem c153_24 : mc_cd 153 24 = some (.aload_n 0, 1) := by decide +kernel
theorem c153_25 : mc_cd 153 25 = some (.iconst 2, 1) := by decide +kernel
theorem c153_26 : mc_cd 153 26 = some (.invokevirtual 70, 3) := by decide +kernel
theorem c153_29 : mc_cd 153 29 = some (.ireturn, 1) := by decide +kernel
theorem c153_30 : mc_cd 153 30 = some (.aload_n 0, 1) := by decide +kernel
theorem c153_31 : mc_cd 153 31 = some (.getfield 51, 3) := by decide +kernel
theorem c153_34 : mc_cd 153 34 = some (.iload_n 1, 1) := by decide +kernel
theorem c153_35 : mc_cd 153 35 = some (.iload_n 2, 1) := by decide +kernel
theorem c153_36 : mc_cd 153 36 = some (.invokevirtual 291, 3) := by decide +kernel
theorem c153_39 : mc_cd 153 39 = some (.aload_n 0, 1) := by decide +kernel
theorem c153_40 : mc_cd 153 40 = some (.getfield 30, 3) := by decide +kernel
theorem c153_43 : mc_cd 153 43 = some (.invokevirtual 93, 3) := by decide +kernel
theorem c153_46 : mc_cd 153 46 = some (.aload_n 0, 1) := by decide +kernel
theorem c153_47 : mc_cd 153 47 = some (.aload_n 0, 1) := by decide +kernel
theorem c153_48 : mc_cd 153 48 = some (.getfield 51, 3) := by decide +kernel
theorem c153_51 : mc_cd 153 51 = some (.getfield 295, 3) := by decide +kernel
theorem c153_54 : mc_cd 153 54 = some (.invokevirtual 99, 3) := by decide +kernel
theorem c153_57 : mc_cd 153 57 = some (.ireturn, 1) := by decide +kernel
abbrev q_153 (r0 : Nat) (a1 : Int) (a2 : Int) (T : wq_T) (H : wq_H) : Option Value → wq_T → wq_H → Prop := fun r T' H' => T = T' ∧ WT T H' ∧ wfr [(12, 9), (27, 16), (1, 10), (29, 999), (30, 999)] T H H' ∧ ∃ z : Int, some (vI z) = r ∧ ((-2147483648) ≤ z ∧ z ≤ 2147483647)
set_option maxHeartbeats 4000000 in
theorem s_153 {kt : Nat → Option mc_E} {T : wq_T} {H : wq_H} {r0 : Nat} {a1 : Int} {a2 : Int} (hW : WT T H) (g0 : T.2.2.2 r0 = some 1) (i1 : (-2147483648) ≤ a1 ∧ a1 ≤ 2147483647) (i2 : (-2147483648) ≤ a2 ∧ a2 ≤ 2147483647) : wpc kt 3 153 [.ref r0, vI a1, vI a2] T H (q_153 r0 a1 a2 T H) := by
  refine wp_enter e153 (Nat.le_of_ble_eq_true rfl) rfl ?_
  have f0 : wfr [(12, 9), (27, 16), (1, 10), (29, 999), (30, 999)] T H H := wfr.rf
  show wp _ _ 153 0 [(0, .ref r0), (1, vI a1), (2, vI a2)] [] _ H _
  refine wp_of e153 c153_0 (rw_aload_n (pc' := 1) (v := .ref r0) rfl rfl rfl ?_)
  refine wp_of e153 c153_1 (rw_iload_n (pc' := 2) (z := a1) rfl rfl ?_)
  refine wp_of e153 c153_2 (xc_V (pc' := 5) (r := r0) (as := [vI a1]) (st := []) (lm_0_132) rfl rfl (Nat.le_of_ble_eq_true rfl) hW g0 sh_1 (by decide) rfl (by decide) (s_60 hW g0 ⟨by omega, by omega⟩) (fun R80609 T80610 H80611 p80612 => ?_))
  obtain ⟨e80613, e80615, z80617, e80614, b80618, p80616⟩ := p80612
  subst e80613
  subst e80614
  subst e80615
  show wp _ _ 153 5 [(0, .ref r0), (1, vI a1), (2, vI a2)] [vI z80617] _ H _
  refine wp_of e153 c153_5 (rw_if_ne (p1 := 14) (p2 := 8) (by decide) rfl ⟨by omega, by omega⟩ (fun c80619 => ?_) (fun c80619 => ?_))
  · refine wp_of e153 c153_14 (rw_iload_n (pc' := 15) (z := a2) rfl rfl ?_)
    refine wp_of e153 c153_15 (rw_if_lt (p1 := 24) (p2 := 18) (by decide) rfl ⟨by omega, by omega⟩ (fun c80620 => ?_) (fun c80620 => ?_))
    · refine wp_of e153 c153_24 (rw_aload_n (pc' := 25) (v := .ref r0) rfl rfl rfl ?_)
      refine wp_of e153 c153_25 (rw_iconst (pc' := 26) rfl ?_)
      refine wp_of e153 c153_26 (xc_V (pc' := 29) (r := r0) (as := [vI 2]) (st := []) (lm_0_70) rfl rfl (Nat.le_of_ble_eq_true rfl) hW g0 sh_1 (by decide) rfl (by decide) (s_12 hW g0 ⟨by omega, by omega⟩) (fun R80621 T80622 H80623 p80624 => ?_))
      obtain ⟨e80625, w80627, f80628, z80629, e80626, b80630⟩ := p80624
      subst e80625
      subst e80626
      have f80631 := f0.tr f80628 rfl
      show wp _ _ 153 29 [(0, .ref r0), (1, vI a1), (2, vI a2)] [vI z80629] _ H80623 _
      exact wp_ireturn e153 c153_29 rfl ⟨rfl, w80627, f80631, z80629, rfl, ⟨by omega, by omega⟩⟩
    · refine wp_of e153 c153_18 (rw_iload_n (pc' := 19) (z := a2) rfl rfl ?_)
      refine wp_of e153 c153_19 (rw_bipush (pc' := 21) (z := 99) rfl (by decide) ?_)
      refine wp_of e153 c153_21 (rw_icmp_le (p1 := 30) (p2 := 24) (by decide) rfl ⟨by omega, by omega⟩ ⟨by omega, by omega⟩ (fun c80632 => ?_) (fun c80632 => ?_))
      · refine wp_of e153 c153_30 (rw_aload_n (pc' := 31) (v := .ref r0) rfl rfl rfl ?_)
        refine wp_of e153 c153_31 (xg_R (pc' := 34) lf_0_51 hW g0 sh_1 (by decide) (by decide) ty_1_6 rfl rfl (fun r80633 q80634 g80635 => ?_))
        refine wp_of e153 c153_34 (rw_iload_n (pc' := 35) (z := a1) rfl rfl ?_)
        refine wp_of e153 c153_35 (rw_iload_n (pc' := 36) (z := a2) rfl rfl ?_)
        refine wp_of e153 c153_36 (xc_V (pc' := 39) (r := r80633) (as := [vI a1, vI a2]) (st := []) (lm_0_291) rfl rfl (Nat.le_of_ble_eq_true rfl) hW g80635 sh_27 (by decide) rfl (by decide) (s_40 hW g80635 ⟨by omega, by omega⟩ ⟨by omega, by omega⟩) (fun R80636 T80637 H80638 p80639 => ?_))
        obtain ⟨e80640, w80642, f80643, e80641⟩ := p80639
        subst e80640
        subst e80641
        have f80644 := f0.tr f80643 rfl
        show wp _ _ 153 39 [(0, .ref r0), (1, vI a1), (2, vI a2)] [] _ H80638 _
        refine wp_of e153 c153_39 (rw_aload_n (pc' := 40) (v := .ref r0) rfl rfl rfl ?_)
        refine wp_of e153 c153_40 (xg_R (pc' := 43) lf_0_30 w80642 g0 sh_1 (by decide) (by decide) ty_1_3 rfl rfl (fun r80645 q80646 g80647 => ?_))
        refine wp_of e153 c153_43 (xc_V (pc' := 46) (r := r80645) (as := []) (st := []) (lm_0_93) rfl rfl (Nat.le_of_ble_eq_true rfl) w80642 g80647 sh_12 (by decide) rfl (by decide) (s_50 w80642 g80647) (fun R80648 T80649 H80650 p80651 => ?_))
        obtain ⟨e80652, w80654, f80655, e80653⟩ := p80651
        subst e80652
        subst e80653
        have f80656 := f80644.tr f80655 rfl
        show wp _ _ 153 46 [(0, .ref r0), (1, vI a1), (2, vI a2)] [] _ H80650 _
        refine wp_of e153 c153_46 (rw_aload_n (pc' := 47) (v := .ref r0) rfl rfl rfl ?_)
        refine wp_of e153 c153_47 (rw_aload_n (pc' := 48) (v := .ref r0) rfl rfl rfl ?_)
        have k80657 : H80650 r0 6 = H r0 6 := ((f80655 r0 6 _ g0 rfl).trans (f80643 r0 6 _ g0 rfl))
        have q80658 : H80650 r0 6 = (r80633 : Int) := k80657.trans q80634
        refine wp_of e153 c153_48 (xg_K (pc' := 51) lf_0_51 w80654 g0 sh_1 (by decide) (by decide) rfl q80658 rfl ?_)
        refine wp_of e153 c153_51 (xg_I (pc' := 54) lf_0_295 w80654 g80635 sh_27 (by decide) (by decide) ty_27_16 rfl rfl (fun b80659 b80660 => ?_))
        refine wp_of e153 c153_54 (xc_V (pc' := 57) (r := r0) (as := [vI (H80650 r80633 16)]) (st := []) (lm_0_99) rfl rfl (Nat.le_of_ble_eq_true rfl) w80654 g0 sh_1 (by decide) rfl (by decide) (s_51 w80654 g0 ⟨by omega, by omega⟩) (fun R80661 T80662 H80663 p80664 => ?_))
        obtain ⟨e80665, w80667, f80668, z80669, e80666, b80670⟩ := p80664
        subst e80665
        subst e80666
        have f80671 := f80656.tr f80668 rfl
        show wp _ _ 153 57 [(0, .ref r0), (1, vI a1), (2, vI a2)] [vI z80669] _ H80663 _
        exact wp_ireturn e153 c153_57 rfl ⟨rfl, w80667, f80671, z80669, rfl, ⟨by omega, by omega⟩⟩
      · refine wp_of e153 c153_24 (rw_aload_n (pc' := 25) (v := .ref r0) rfl rfl rfl ?_)
        refine wp_of e153 c153_25 (rw_iconst (pc' := 26) rfl ?_)
        refine wp_of e153 c153_26 (xc_V (pc' := 29) (r := r0) (as := [vI 2]) (st := []) (lm_0_70) rfl rfl (Nat.le_of_ble_eq_true rfl) hW g0 sh_1 (by decide) rfl (by decide) (s_12 hW g0 ⟨by omega, by omega⟩) (fun R80672 T80673 H80674 p80675 => ?_))
        obtain ⟨e80676, w80678, f80679, z80680, e80677, b80681⟩ := p80675
        subst e80676
        subst e80677
        have f80682 := f0.tr f80679 rfl
        show wp _ _ 153 29 [(0, .ref r0), (1, vI a1), (2, vI a2)] [vI z80680] _ H80674 _
        exact wp_ireturn e153 c153_29 rfl ⟨rfl, w80678, f80682, z80680, rfl, ⟨by omega, by omega⟩⟩
  · refine wp_of e153 c153_8 (rw_aload_n (pc' := 9) (v := .ref r0) rfl rfl rfl ?_)
    refine wp_of e153 c153_9 (rw_iconst (pc' := 10) rfl ?_)
    refine wp_of e153 c153_10 (xc_V (pc' := 13) (r := r0) (as := [vI 1]) (st := []) (lm_0_70) rfl rfl (Nat.le_of_ble_eq_true rfl) hW g0 sh_1 (by decide) rfl (by decide) (s_12 hW g0 ⟨by omega, by omega⟩) (fun R80683 T80684 H80685 p80686 => ?_))
    obtain ⟨e80687, w80689, f80690, z80691, e80688, b80692⟩ := p80686
    subst e80687
    subst e80688
    have f80693 := f0.tr f80690 rfl
    show wp _ _ 153 13 [(0, .ref r0), (1, vI a1), (2, vI a2)] [vI z80691] _ H80685 _
    exact wp_ireturn e153 c153_13 rfl ⟨rfl, w80689, f80693, z80691, rfl, ⟨by omega, by omega⟩⟩
/-! StrikeAwake.still(I)Z -/
theorem e154 : wq_en 154 = some (0, 2, false, some FieldType.boolean) := rfl
theorem c154_0 : mc_cd 154 0 = some (.aload_n 0, 1) := by decide +kernel
theorem c154_1 : mc_cd 154 1 = some (.iload_n 1, 1) := by decide +kernel
theorem c154_2 : mc_cd 154 2 = some (.invokevirtual 132, 3) := by decide +kernel
theorem c154_5 : mc_cd 154 5 = some (.ifCond .eq 15, 3) := by decide +kernel
theorem c154_8 : mc_cd 154 8 = some (.aload_n 0, 1) := by decide +kernel
theorem c154_9 : mc_cd 154 9 = some (.getfield 51, 3) := by decide +kernel
theorem c154_12 : mc_cd 154 12 = some (.getfield 262, 3) := by decide +kernel
theorem c154_15 : mc_cd 154 15 = some (.iload_n 1, 1) := by decide +kernel
theorem c154_16 : mc_cd 154 16 = some (.iaload, 1) := by decide +kernel
theorem c154_17 : mc_cd 154 17 = some (.ifCond .ge 9, 3) := by decide +kernel
theorem c154_20 : mc_cd 154 20 = some (.aload_n 0, 1) := by decide +kernel
theorem c154_21 : mc_cd 154 21 = some (.iconst 1, 1) := by decide +kernel
theorem c154_22 : mc_cd 154 22 = some (.invokevirtual 145, 3) := by decide +kernel
theorem c154_25 : mc_cd 154 25 = some (.ireturn, 1) := by decide +kernel
theorem c154_26 : mc_cd 154 26 = some (.aload_n 0, 1) := by decide +kernel
theorem c154_27 : mc_cd 154 27 = some (.getfield 51, 3) := by decide +kernel
theorem c154_30 : mc_cd 154 30 = some (.iload_n 1, 1) := by decide +kernel
theorem c154_31 : mc_cd 154 31 = some (.bipush (-2), 2) := by decide +kernel
theorem c154_33 : mc_cd 154 33 = some (.invokevirtual 291, 3) := by decide +kernel
theorem c154_36 : mc_cd 154 36 = some (.aload_n 0, 1) := by decide +kernel
theorem c154_37 : mc_cd 154 37 = some (.getfield 30, 3) := by decide +kernel
theorem c154_40 : mc_cd 154 40 = some (.invokevirtual 93, 3) := by decide +kernel
theorem c154_43 : mc_cd 154 43 = some (.aload_n 0, 1) := by decide +kernel
theorem c154_44 : mc_cd 154 44 = some (.invokevirtual 151, 3) := by decide +kernel
theorem c154_47 : mc_cd 154 47 = some (.ireturn, 1) := by decide +kernel
abbrev q_154 (r0 : Nat) (a1 : Int) (T : wq_T) (H : wq_H) : Option Value → wq_T → wq_H → Prop := fun r T' H' => T = T' ∧ WT T H' ∧ wfr [(12, 9), (27, 16), (1, 10), (29, 999), (30, 999)] T H H' ∧ ∃ z : Int, some (vI z) = r ∧ (0 ≤ z ∧ z ≤ 1)
set_option maxHeartbeats 4000000 in
theorem s_154 {kt : Nat → Option mc_E} {T : wq_T} {H : wq_H} {r0 : Nat} {a1 : Int} (hW : WT T H) (g0 : T.2.2.2 r0 = some 1) (i1 : (-2147483648) ≤ a1 ∧ a1 ≤ 2147483647) : wpc kt 3 154 [.ref r0, vI a1] T H (q_154 r0 a1 T H) := by
  refine wp_enter e154 (Nat.le_of_ble_eq_true rfl) rfl ?_
  have f0 : wfr [(12, 9), (27, 16), (1, 10), (29, 999), (30, 999)] T H H := wfr.rf
  show wp _ _ 154 0 [(0, .ref r0), (1, vI a1)] [] _ H _
  refine wp_of e154 c154_0 (rw_aload_n (pc' := 1) (v := .ref r0) rfl rfl rfl ?_)
  refine wp_of e154 c154_1 (rw_iload_n (pc' := 2) (z := a1) rfl rfl ?_)
  refine wp_of e154 c154_2 (xc_V (pc' := 5) (r := r0) (as := [vI a1]) (st := []) (lm_0_132) rfl rfl (Nat.le_of_ble_eq_true rfl) hW g0 sh_1 (by decide) rfl (by decide) (s_60 hW g0 ⟨by omega, by omega⟩) (fun R80768 T80769 H80770 p80771 => ?_))
  obtain ⟨e80772, e80774, z80776, e80773, b80777, p80775⟩ := p80771
  subst e80772
  subst e80773
  subst e80774
  show wp _ _ 154 5 [(0, .ref r0), (1, vI a1)] [vI z80776] _ H _
  refine wp_of e154 c154_5 (rw_if_eq (p1 := 20) (p2 := 8) (by decide) rfl ⟨by omega, by omega⟩ (fun c80778 => ?_) (fun c80778 => ?_))
  · refine wp_of e154 c154_20 (rw_aload_n (pc' := 21) (v := .ref r0) rfl rfl rfl ?_)
    refine wp_of e154 c154_21 (rw_iconst (pc' := 22) rfl ?_)
    refine wp_of e154 c154_22 (xc_V (pc' := 25) (r := r0) (as := [vI 1]) (st := []) (lm_0_145) rfl rfl (Nat.le_of_ble_eq_true rfl) hW g0 sh_1 (by decide) rfl (by decide) (s_63 hW g0 ⟨by omega, by omega⟩) (fun R80779 T80780 H80781 p80782 => ?_))
    obtain ⟨e80783, w80785, f80786, z80787, e80784, b80788⟩ := p80782
    subst e80783
    subst e80784
    have f80789 := f0.tr f80786 rfl
    show wp _ _ 154 25 [(0, .ref r0), (1, vI a1)] [vI z80787] _ H80781 _
    exact wp_zreturn e154 c154_25 rfl (by omega) ⟨rfl, w80785, f80789, z80787, rfl, ⟨by omega, by omega⟩⟩
  · refine wp_of e154 c154_8 (rw_aload_n (pc' := 9) (v := .ref r0) rfl rfl rfl ?_)
    refine wp_of e154 c154_9 (xg_R (pc' := 12) lf_0_51 hW g0 sh_1 (by decide) (by decide) ty_1_6 rfl rfl (fun r80790 q80791 g80792 => ?_))
    refine wp_of e154 c154_12 (xg_R (pc' := 15) lf_0_262 hW g80792 sh_27 (by decide) (by decide) ty_27_1 rfl rfl (fun r80793 q80794 g80795 => ?_))
    refine wp_of e154 c154_15 (rw_iload_n (pc' := 16) (z := a1) rfl rfl ?_)
    refine wp_of e154 c154_16 (xa_I (so := 0) (pc' := 17) hW g80795 sh_29 (by decide) (ty_29 _) (by omega) (by omega) rfl (fun b80796 b80797 => ?_))
    refine wp_of e154 c154_17 (rw_if_ge (p1 := 26) (p2 := 20) (by decide) rfl ⟨by omega, by omega⟩ (fun c80798 => ?_) (fun c80798 => ?_))
    · refine wp_of e154 c154_26 (rw_aload_n (pc' := 27) (v := .ref r0) rfl rfl rfl ?_)
      refine wp_of e154 c154_27 (xg_K (pc' := 30) lf_0_51 hW g0 sh_1 (by decide) (by decide) rfl q80791 rfl ?_)
      refine wp_of e154 c154_30 (rw_iload_n (pc' := 31) (z := a1) rfl rfl ?_)
      refine wp_of e154 c154_31 (rw_bipush (pc' := 33) (z := -2) rfl (by decide) ?_)
      refine wp_of e154 c154_33 (xc_V (pc' := 36) (r := r80790) (as := [vI a1, vI (-2)]) (st := []) (lm_0_291) rfl rfl (Nat.le_of_ble_eq_true rfl) hW g80792 sh_27 (by decide) rfl (by decide) (s_40 hW g80792 ⟨by omega, by omega⟩ ⟨by omega, by omega⟩) (fun R80799 T80800 H80801 p80802 => ?_))
      obtain ⟨e80803, w80805, f80806, e80804⟩ := p80802
      subst e80803
      subst e80804
      have f80807 := f0.tr f80806 rfl
      show wp _ _ 154 36 [(0, .ref r0), (1, vI a1)] [] _ H80801 _
      refine wp_of e154 c154_36 (rw_aload_n (pc' := 37) (v := .ref r0) rfl rfl rfl ?_)
      refine wp_of e154 c154_37 (xg_R (pc' := 40) lf_0_30 w80805 g0 sh_1 (by decide) (by decide) ty_1_3 rfl rfl (fun r80808 q80809 g80810 => ?_))
      refine wp_of e154 c154_40 (xc_V (pc' := 43) (r := r80808) (as := []) (st := []) (lm_0_93) rfl rfl (Nat.le_of_ble_eq_true rfl) w80805 g80810 sh_12 (by decide) rfl (by decide) (s_50 w80805 g80810) (fun R80811 T80812 H80813 p80814 => ?_))
      obtain ⟨e80815, w80817, f80818, e80816⟩ := p80814
      subst e80815
      subst e80816
      have f80819 := f80807.tr f80818 rfl
      show wp _ _ 154 43 [(0, .ref r0), (1, vI a1)] [] _ H80813 _
      refine wp_of e154 c154_43 (rw_aload_n (pc' := 44) (v := .ref r0) rfl rfl rfl ?_)
      refine wp_of e154 c154_44 (xc_V (pc' := 47) (r := r0) (as := []) (st := []) (lm_0_151) rfl rfl (Nat.le_of_ble_eq_true rfl) w80817 g0 sh_1 (by decide) rfl (by decide) (s_64 w80817 g0) (fun R80820 T80821 H80822 p80823 => ?_))
      obtain ⟨e80824, w80826, f80827, z80828, e80825, b80829⟩ := p80823
      subst e80824
      subst e80825
      have f80830 := f80819.tr f80827 rfl
      show wp _ _ 154 47 [(0, .ref r0), (1, vI a1)] [vI z80828] _ H80822 _
      exact wp_zreturn e154 c154_47 rfl (by omega) ⟨rfl, w80826, f80830, z80828, rfl, ⟨by omega, by omega⟩⟩
    · refine wp_of e154 c154_20 (rw_aload_n (pc' := 21) (v := .ref r0) rfl rfl rfl ?_)
      refine wp_of e154 c154_21 (rw_iconst (pc' := 22) rfl ?_)
      refine wp_of e154 c154_22 (xc_V (pc' := 25) (r := r0) (as := [vI 1]) (st := []) (lm_0_145) rfl rfl (Nat.le_of_ble_eq_true rfl) hW g0 sh_1 (by decide) rfl (by decide) (s_63 hW g0 ⟨by omega, by omega⟩) (fun R80831 T80832 H80833 p80834 => ?_))
      obtain ⟨e80835, w80837, f80838, z80839, e80836, b80840⟩ := p80834
      subst e80835
      subst e80836
      have f80841 := f0.tr f80838 rfl
      show wp _ _ 154 25 [(0, .ref r0), (1, vI a1)] [vI z80839] _ H80833 _
      exact wp_zreturn e154 c154_25 rfl (by omega) ⟨rfl, w80837, f80841, z80839, rfl, ⟨by omega, by omega⟩⟩
/-! StrikeAwake.struck(I)I -/
theorem e155 : wq_en 155 = some (0, 2, false, some FieldType.int) := rfl
theorem c155_0 : mc_cd 155 0 = some (.aload_n 0, 1) := by decide +kernel
theorem c155_1 : mc_cd 155 1 = some (.iload_n 1, 1) := by decide +kernel
theorem c155_2 : mc_cd 155 2 = some (.invokevirtual 132, 3) := by decide +kernel
theorem c155_5 : mc_cd 155 5 = some (.ifCond .ne 9, 3) := by decide +kernel
theorem c155_8 : mc_cd 155 8 = some (.aload_n 0, 1) := by decide +kernel
theorem c155_9 : mc_cd 155 9 = some (.iconst 1, 1) := by decide +kernel
theorem c155_10 : mc_cd 155 10 = some (.invokevirtual 70, 3) := by decide +kernel
theorem c155_13 : mc_cd 155 13 = some (.ireturn, 1) := by decide +kernel
theorem c155_14 : mc_cd 155 14 = some (.aload_n 0, 1) := by decide +kernel
theorem c155_15 : mc_cd 155 15 = some (.aload_n 0, 1) := by decide +kernel
theorem c155_16 : mc_cd 155 16 = some (.getfield 51, 3) := by decide +kernel
theorem c155_19 : mc_cd 155 19 = some (.getfield 262, 3) := by decide +kernel
theorem c155_22 : mc_cd 155 22 = some (.iload_n 1, 1) := by decide +kernel
theorem c155_23 : mc_cd 155 23 = some (.iaload, 1) := by decide +kernel
theorem c155_24 : mc_cd 155 24 = some (.invokevirtual 99, 3) := by decide +kernel
theorem c155_27 : mc_cd 155 27 = some (.ireturn, 1) := by decide +kernel
abbrev q_155 (r0 : Nat) (a1 : Int) (T : wq_T) (H : wq_H) : Option Value → wq_T → wq_H → Prop := fun r T' H' => T = T' ∧ WT T H' ∧ wfr [(1, 10)] T H H' ∧ ∃ z : Int, some (vI z) = r ∧ ((-2147483648) ≤ z ∧ z ≤ 2147483647)
set_option maxHeartbeats 4000000 in
theorem s_155 {kt : Nat → Option mc_E} {T : wq_T} {H : wq_H} {r0 : Nat} {a1 : Int} (hW : WT T H) (g0 : T.2.2.2 r0 = some 1) (i1 : (-2147483648) ≤ a1 ∧ a1 ≤ 2147483647) : wpc kt 2 155 [.ref r0, vI a1] T H (q_155 r0 a1 T H) := by
  refine wp_enter e155 (Nat.le_of_ble_eq_true rfl) rfl ?_
  have f0 : wfr [(1, 10)] T H H := wfr.rf
  show wp _ _ 155 0 [(0, .ref r0), (1, vI a1)] [] _ H _
  refine wp_of e155 c155_0 (rw_aload_n (pc' := 1) (v := .ref r0) rfl rfl rfl ?_)
  refine wp_of e155 c155_1 (rw_iload_n (pc' := 2) (z := a1) rfl rfl ?_)
  refine wp_of e155 c155_2 (xc_V (pc' := 5) (r := r0) (as := [vI a1]) (st := []) (lm_0_132) rfl rfl (Nat.le_of_ble_eq_true rfl) hW g0 sh_1 (by decide) rfl (by decide) (s_60 hW g0 ⟨by omega, by omega⟩) (fun R80883 T80884 H80885 p80886 => ?_))
  obtain ⟨e80887, e80889, z80891, e80888, b80892, p80890⟩ := p80886
  subst e80887
  subst e80888
  subst e80889
  show wp _ _ 155 5 [(0, .ref r0), (1, vI a1)] [vI z80891] _ H _
  refine wp_of e155 c155_5 (rw_if_ne (p1 := 14) (p2 := 8) (by decide) rfl ⟨by omega, by omega⟩ (fun c80893 => ?_) (fun c80893 => ?_))
  · refine wp_of e155 c155_14 (rw_aload_n (pc' := 15) (v := .ref r0) rfl rfl rfl ?_)
    refine wp_of e155 c155_15 (rw_aload_n (pc' := 16) (v := .ref r0) rfl rfl rfl ?_)
    refine wp_of e155 c155_16 (xg_R (pc' := 19) lf_0_51 hW g0 sh_1 (by decide) (by decide) ty_1_6 rfl rfl (fun r80894 q80895 g80896 => ?_))
    refine wp_of e155 c155_19 (xg_R (pc' := 22) lf_0_262 hW g80896 sh_27 (by decide) (by decide) ty_27_1 rfl rfl (fun r80897 q80898 g80899 => ?_))
    refine wp_of e155 c155_22 (rw_iload_n (pc' := 23) (z := a1) rfl rfl ?_)
    refine wp_of e155 c155_23 (xa_I (so := 0) (pc' := 24) hW g80899 sh_29 (by decide) (ty_29 _) (by omega) (by omega) rfl (fun b80900 b80901 => ?_))
    refine wp_of e155 c155_24 (xc_V (pc' := 27) (r := r0) (as := [vI (H r80897 a1.toNat)]) (st := []) (lm_0_99) rfl rfl (Nat.le_of_ble_eq_true rfl) hW g0 sh_1 (by decide) rfl (by decide) (s_51 hW g0 ⟨by omega, by omega⟩) (fun R80902 T80903 H80904 p80905 => ?_))
    obtain ⟨e80906, w80908, f80909, z80910, e80907, b80911⟩ := p80905
    subst e80906
    subst e80907
    have f80912 := f0.tr f80909 rfl
    show wp _ _ 155 27 [(0, .ref r0), (1, vI a1)] [vI z80910] _ H80904 _
    exact wp_ireturn e155 c155_27 rfl ⟨rfl, w80908, f80912, z80910, rfl, ⟨by omega, by omega⟩⟩
  · refine wp_of e155 c155_8 (rw_aload_n (pc' := 9) (v := .ref r0) rfl rfl rfl ?_)
    refine wp_of e155 c155_9 (rw_iconst (pc' := 10) rfl ?_)
    refine wp_of e155 c155_10 (xc_V (pc' := 13) (r := r0) (as := [vI 1]) (st := []) (lm_0_70) rfl rfl (Nat.le_of_ble_eq_true rfl) hW g0 sh_1 (by decide) rfl (by decide) (s_12 hW g0 ⟨by omega, by omega⟩) (fun R80913 T80914 H80915 p80916 => ?_))
    obtain ⟨e80917, w80919, f80920, z80921, e80918, b80922⟩ := p80916
    subst e80917
    subst e80918
    have f80923 := f0.tr f80920 rfl
    show wp _ _ 155 13 [(0, .ref r0), (1, vI a1)] [vI z80921] _ H80915 _
    exact wp_ireturn e155 c155_13 rfl ⟨rfl, w80919, f80923, z80921, rfl, ⟨by omega, by omega⟩⟩
/-! StrikeAwake.seek()I -/
theorem e156 : wq_en 156 = some (0, 3, false, some FieldType.int) := rfl
theorem c156_0 : mc_cd 156 0 = some (.aload_n 0, 1) := by decide +kernel
theorem c156_1 : mc_cd 156 1 = some (.aload_n 0, 1) := by decide +kernel
theorem c156_2 : mc_cd 156 2 = some (.getfield 58, 3) := by decide +kernel
theorem c156_5 : mc_cd 156 5 = some (.invokevirtual 174, 3) := by decide +kernel
theorem c156_8 : mc_cd 156 8 = some (.istore_n 1, 1) := by decide +kernel
theorem c156_9 : mc_cd 156 9 = some (.iload_n 1, 1) := by decide +kernel
theorem c156_10 : mc_cd 156 10 = some (.ifCond .eq 9, 3) := by decide +kernel
theorem c156_13 : mc_cd 156 13 = some (.aload_n 0, 1) := by decide +kernel
theorem c156_14 : mc_cd 156 14 = some (.iload_n 1, 1) := by decide +kernel
theorem c156_15 : mc_cd 156 15 = some (.invokevirtual 70, 3) := by decide +kernel
theorem c156_18 : mc_cd 156 18 = some (.ireturn, 1) := by decide +kernel
theorem c156_19 : mc_cd 156 19 = some (.aload_n 0, 1) := by decide +kernel
theorem c156_20 : mc_cd 156 20 = some (.getfield 30, 3) := by decide +kernel
theorem c156_23 : mc_cd 156 23 = some (.aload_n 0, 1) := by decide +kernel
theorem c156_24 : mc_cd 156 24 = some (.getfield 51, 3) := by decide +kernel
theorem c156_27 : mc_cd 156 27 = some (.getfield 298, 3) := by decide +kernel
theorem c156_30 : mc_cd 156 30 = some (.aload_n 0, 1) := by decide +kernel
theorem c156_31 : mc_cd 156 31 = some (.getfield 51, 3) := by decide +kernel
theorem c156_34 : mc_cd 156 34 = some (.invokevirtual 301, 3) := by decide +kernel
theorem c156_37 : mc_cd 156 37 = some (.istore_n 2, 1) := by decide +kernel
theorem c156_38 : mc_cd 156 38 = some (.iload_n 2, 1) := by decide +kernel
theorem c156_39 : mc_cd 156 39 = some (.ifCond .ge 10, 3) := by decide +kernel
theorem c156_42 : mc_cd 156 42 = some (.aload_n 0, 1) := by decide +kernel
theorem c156_43 : mc_cd 156 43 = some (.bipush 6, 2) := by decide +kernel
theorem c156_45 : mc_cd 156 45 = some (.invokevirtual 70, 3) := by decide +kernel
theorem c156_48 : mc_cd 156 48 = some (.ireturn, 1) := by decide +kernel
theorem c156_49 : mc_cd 156 49 = some (.aload_n 0, 1) := by decide +kernel
theorem c156_50 : mc_cd 156 50 = some (.getfield 51, 3) := by decide +kernel
theorem c156_53 : mc_cd 156 53 = some (.iload_n 2, 1) := by decide +kernel
theorem c156_54 : mc_cd 156 54 = some (.iconst 1, 1) := by decide +kernel
theorem c156_55 : mc_cd 156 55 = some (.iadd, 1) := by decide +kernel
theorem c156_56 : mc_cd 156 56 = some (.putfield 298, 3) := by decide +kernel
theorem c156_59 : mc_cd 156 59 = some (.aload_n 0, 1) := by decide +kernel
theorem c156_60 : mc_cd 156 60 = some (.iload_n 2, 1) := by decide +kernel
theorem c156_61 : mc_cd 156 61 = some (.invokevirtual 99, 3) := by decide +kernel
theorem c156_64 : mc_cd 156 64 = some (.ireturn, 1) := by decide +kernel
abbrev q_156 (r0 : Nat) (T : wq_T) (H : wq_H) : Option Value → wq_T → wq_H → Prop := fun r T' H' => T = T' ∧ WT T H' ∧ wfr [(12, 5), (12, 6), (12, 7), (12, 8), (12, 9), (27, 17), (1, 10), (6, 5), (8, 999), (10, 999), (15, 999), (9, 999), (18, 999), (19, 999), (7, 999), (11, 999), (17, 999), (13, 999)] T H H' ∧ ∃ z : Int, some (vI z) = r ∧ ((-2147483648) ≤ z ∧ z ≤ 2147483647)
set_option maxHeartbeats 4000000 in
theorem s_156 {kt : Nat → Option mc_E} {T : wq_T} {H : wq_H} {r0 : Nat} (hW : WT T H) (g0 : T.2.2.2 r0 = some 1) : wpc kt 6 156 [.ref r0] T H (q_156 r0 T H) := by
  refine wp_enter e156 (Nat.le_of_ble_eq_true rfl) rfl ?_
  have f0 : wfr [(12, 5), (12, 6), (12, 7), (12, 8), (12, 9), (27, 17), (1, 10), (6, 5), (8, 999), (10, 999), (15, 999), (9, 999), (18, 999), (19, 999), (7, 999), (11, 999), (17, 999), (13, 999)] T H H := wfr.rf
  show wp _ _ 156 0 [(0, .ref r0)] [] _ H _
  refine wp_of e156 c156_0 (rw_aload_n (pc' := 1) (v := .ref r0) rfl rfl rfl ?_)
  refine wp_of e156 c156_1 (rw_aload_n (pc' := 2) (v := .ref r0) rfl rfl rfl ?_)
  refine wp_of e156 c156_2 (xg_I (pc' := 5) lf_0_58 hW g0 sh_1 (by decide) (by decide) ty_1_8 rfl rfl (fun b80995 b80996 => ?_))
  refine wp_of e156 c156_5 (xc_V (pc' := 8) (r := r0) (as := [vI (H r0 8)]) (st := []) (lm_0_174) rfl rfl (Nat.le_of_ble_eq_true rfl) hW g0 sh_1 (by decide) rfl (by decide) (s_83 hW g0 ⟨by omega, by omega⟩) (fun R80997 T80998 H80999 p81000 => ?_))
  obtain ⟨e81001, w81003, f81004, z81006, e81002, b81007, p81005⟩ := p81000
  subst e81001
  subst e81002
  have f81008 := f0.tr f81004 rfl
  show wp _ _ 156 8 [(0, .ref r0)] [vI z81006] _ H80999 _
  refine wp_of e156 c156_8 (rw_istore_n (pc' := 9) (z := z81006) (L' := [(1, vI z81006), (0, .ref r0)]) rfl rfl rfl ?_)
  refine wp_of e156 c156_9 (rw_iload_n (pc' := 10) (z := z81006) rfl rfl ?_)
  refine wp_of e156 c156_10 (rw_if_eq (p1 := 19) (p2 := 13) (by decide) rfl ⟨by omega, by omega⟩ (fun c81009 => ?_) (fun c81009 => ?_))
  · refine wp_of e156 c156_19 (rw_aload_n (pc' := 20) (v := .ref r0) rfl rfl rfl ?_)
    refine wp_of e156 c156_20 (xg_R (pc' := 23) lf_0_30 w81003 g0 sh_1 (by decide) (by decide) ty_1_3 rfl rfl (fun r81010 q81011 g81012 => ?_))
    refine wp_of e156 c156_23 (rw_aload_n (pc' := 24) (v := .ref r0) rfl rfl rfl ?_)
    refine wp_of e156 c156_24 (xg_R (pc' := 27) lf_0_51 w81003 g0 sh_1 (by decide) (by decide) ty_1_6 rfl rfl (fun r81013 q81014 g81015 => ?_))
    refine wp_of e156 c156_27 (xg_I (pc' := 30) lf_0_298 w81003 g81015 sh_27 (by decide) (by decide) ty_27_17 rfl rfl (fun b81016 b81017 => ?_))
    refine wp_of e156 c156_30 (rw_aload_n (pc' := 31) (v := .ref r0) rfl rfl rfl ?_)
    refine wp_of e156 c156_31 (xg_K (pc' := 34) lf_0_51 w81003 g0 sh_1 (by decide) (by decide) rfl q81014 rfl ?_)
    refine wp_of e156 c156_34 (xc_V (pc' := 37) (r := r81010) (as := [vI (H80999 r81013 17), .ref r81013]) (st := []) (lm_0_301) rfl rfl (Nat.le_of_ble_eq_true rfl) w81003 g81012 sh_12 (by decide) rfl (by decide) (s_124 w81003 g81012 ⟨by omega, by omega⟩ g81015) (fun R81018 T81019 H81020 p81021 => ?_))
    obtain ⟨e81022, e81024, z81025, e81023, b81026⟩ := p81021
    subst e81022
    subst e81023
    subst e81024
    show wp _ _ 156 37 [(1, vI z81006), (0, .ref r0)] [vI z81025] _ H80999 _
    refine wp_of e156 c156_37 (rw_istore_n (pc' := 38) (z := z81025) (L' := [(2, vI z81025), (1, vI z81006), (0, .ref r0)]) rfl rfl rfl ?_)
    refine wp_of e156 c156_38 (rw_iload_n (pc' := 39) (z := z81025) rfl rfl ?_)
    refine wp_of e156 c156_39 (rw_if_ge (p1 := 49) (p2 := 42) (by decide) rfl ⟨by omega, by omega⟩ (fun c81027 => ?_) (fun c81027 => ?_))
    · refine wp_of e156 c156_49 (rw_aload_n (pc' := 50) (v := .ref r0) rfl rfl rfl ?_)
      refine wp_of e156 c156_50 (xg_K (pc' := 53) lf_0_51 w81003 g0 sh_1 (by decide) (by decide) rfl q81014 rfl ?_)
      refine wp_of e156 c156_53 (rw_iload_n (pc' := 54) (z := z81025) rfl rfl ?_)
      refine wp_of e156 c156_54 (rw_iconst (pc' := 55) rfl ?_)
      refine wp_of e156 c156_55 (rw_iadd (pc' := 56) rfl ?_)
      refine wp_of e156 c156_56 (xp_I (pc' := 59) lf_0_298 w81003 g81015 sh_27 (by decide) (by decide) ty_27_17 rfl rfl (by omega) (by omega) ⟨by omega, by omega⟩ rfl (fun H81028 e81029 w81030 => ?_))
      have f81031 := f81008.put' e81029 g81015 rfl
      have k81032 : H81028 r81013 17 = z81025 + 1 := wq_u_s e81029
      refine wp_of e156 c156_59 (rw_aload_n (pc' := 60) (v := .ref r0) rfl rfl rfl ?_)
      refine wp_of e156 c156_60 (rw_iload_n (pc' := 61) (z := z81025) rfl rfl ?_)
      refine wp_of e156 c156_61 (xc_V (pc' := 64) (r := r0) (as := [vI z81025]) (st := []) (lm_0_99) rfl rfl (Nat.le_of_ble_eq_true rfl) w81030 g0 sh_1 (by decide) rfl (by decide) (s_51 w81030 g0 ⟨by omega, by omega⟩) (fun R81033 T81034 H81035 p81036 => ?_))
      obtain ⟨e81037, w81039, f81040, z81041, e81038, b81042⟩ := p81036
      subst e81037
      subst e81038
      have f81043 := f81031.tr f81040 rfl
      show wp _ _ 156 64 [(2, vI z81025), (1, vI z81006), (0, .ref r0)] [vI z81041] _ H81035 _
      exact wp_ireturn e156 c156_64 rfl ⟨rfl, w81039, f81043, z81041, rfl, ⟨by omega, by omega⟩⟩
    · refine wp_of e156 c156_42 (rw_aload_n (pc' := 43) (v := .ref r0) rfl rfl rfl ?_)
      refine wp_of e156 c156_43 (rw_bipush (pc' := 45) (z := 6) rfl (by decide) ?_)
      refine wp_of e156 c156_45 (xc_V (pc' := 48) (r := r0) (as := [vI 6]) (st := []) (lm_0_70) rfl rfl (Nat.le_of_ble_eq_true rfl) w81003 g0 sh_1 (by decide) rfl (by decide) (s_12 w81003 g0 ⟨by omega, by omega⟩) (fun R81044 T81045 H81046 p81047 => ?_))
      obtain ⟨e81048, w81050, f81051, z81052, e81049, b81053⟩ := p81047
      subst e81048
      subst e81049
      have f81054 := f81008.tr f81051 rfl
      show wp _ _ 156 48 [(2, vI z81025), (1, vI z81006), (0, .ref r0)] [vI z81052] _ H81046 _
      exact wp_ireturn e156 c156_48 rfl ⟨rfl, w81050, f81054, z81052, rfl, ⟨by omega, by omega⟩⟩
  · refine wp_of e156 c156_13 (rw_aload_n (pc' := 14) (v := .ref r0) rfl rfl rfl ?_)
    refine wp_of e156 c156_14 (rw_iload_n (pc' := 15) (z := z81006) rfl rfl ?_)
    refine wp_of e156 c156_15 (xc_V (pc' := 18) (r := r0) (as := [vI z81006]) (st := []) (lm_0_70) rfl rfl (Nat.le_of_ble_eq_true rfl) w81003 g0 sh_1 (by decide) rfl (by decide) (s_12 w81003 g0 ⟨by omega, by omega⟩) (fun R81055 T81056 H81057 p81058 => ?_))
    obtain ⟨e81059, w81061, f81062, z81063, e81060, b81064⟩ := p81058
    subst e81059
    subst e81060
    have f81065 := f81008.tr f81062 rfl
    show wp _ _ 156 18 [(1, vI z81006), (0, .ref r0)] [vI z81063] _ H81057 _
    exact wp_ireturn e156 c156_18 rfl ⟨rfl, w81061, f81065, z81063, rfl, ⟨by omega, by omega⟩⟩
/-! StrikeAwake.lot(II)I -/
theorem e157 : wq_en 157 = some (0, 4, false, some FieldType.int) := rfl
theorem c157_0 : mc_cd 157 0 = some (.aload_n 0, 1) := by decide +kernel
theorem c157_1 : mc_cd 157 1 = some (.aload_n 0, 1) := by decide +kernel
theorem c157_2 : mc_cd 157 2 = some (.iload_n 2, 1) := by decide +kernel
theorem c157_3 : mc_cd 157 3 = some (.invokevirtual 105, 3) := by decide +kernel
theorem c157_6 : mc_cd 157 6 = some (.ifCond .eq 24, 3) := by decide +kernel
theorem c157_9 : mc_cd 157 9 = some (.iload_n 1, 1) := by decide +kernel
theorem c157_10 : mc_cd 157 10 = some (.ifCond .lt 20, 3) := by decide +kernel
theorem c157_13 : mc_cd 157 13 = some (.iload_n 1, 1) := by decide +kernel
theorem c157_14 : mc_cd 157 14 = some (.i2l, 1) := by decide +kernel
theorem c157_15 : mc_cd 157 15 = some (.aload_n 0, 1) := by decide +kernel
theorem c157_16 : mc_cd 157 16 = some (.getfield 51, 3) := by decide +kernel
theorem c157_19 : mc_cd 157 19 = some (.getfield 141, 3) := by decide +kernel
theorem c157_22 : mc_cd 157 22 = some (.lcmp, 1) := by decide +kernel
theorem c157_23 : mc_cd 157 23 = some (.ifCond .ge 7, 3) := by decide +kernel
theorem c157_26 : mc_cd 157 26 = some (.iconst 1, 1) := by decide +kernel
theorem c157_27 : mc_cd 157 27 = some (.goto 4, 3) := by decide +kernel
theorem c157_30 : mc_cd 157 30 = some (.iconst 0, 1) := by decide +kernel
theorem c157_31 : mc_cd 157 31 = some (.invokevirtual 245, 3) := by decide +kernel
theorem c157_34 : mc_cd 157 34 = some (.istore_n 3, 1) := by decide +kernel
theorem c157_35 : mc_cd 157 35 = some (.iload_n 3, 1) := by decide +kernel
theorem c157_36 : mc_cd 157 36 = some (.ifCond .eq 9, 3) := by decide +kernel
theorem c157_39 : mc_cd 157 39 = some (.aload_n 0, 1) := by decide +kernel
theorem c157_40 : mc_cd 157 40 = some (.iload_n 3, 1) := by decide +kernel
theorem c157_41 : mc_cd 157 41 = some (.invokevirtual 70, 3) := by decide +kernel
theorem c157_44 : mc_cd 157 44 = some (.ireturn, 1) := by decide +kernel
theorem c157_45 : mc_cd 157 45 = some (.aload_n 0, 1) := by decide +kernel
theorem c157_46 : mc_cd 157 46 = some (.aload_n 0, 1) := by decide +kernel
theorem c157_47 : mc_cd 157 47 = some (.getfield 51, 3) := by decide +kernel
theorem c157_50 : mc_cd 157 50 = some (.iload_n 1, 1) := by decide +kernel
theorem c157_51 : mc_cd 157 51 = some (.iload_n 2, 1) := by decide +kernel
theorem c157_52 : mc_cd 157 52 = some (.invokevirtual 183, 3) := by decide +kernel
theorem c157_55 : mc_cd 157 55 = some (.invokevirtual 99, 3) := by decide +kernel
theorem c157_58 : mc_cd 157 58 = some (.ireturn, 1) := by decide +kernel
abbrev q_157 (r0 : Nat) (a1 : Int) (a2 : Int) (T : wq_T) (H : wq_H) : Option Value → wq_T → wq_H → Prop := fun r T' H' => T = T' ∧ WT T H' ∧ wfr [(1, 10)] T H H' ∧ ∃ z : Int, some (vI z) = r ∧ ((-2147483648) ≤ z ∧ z ≤ 2147483647)
set_option maxHeartbeats 4000000 in
theorem s_157 {kt : Nat → Option mc_E} {T : wq_T} {H : wq_H} {r0 : Nat} {a1 : Int} {a2 : Int} (hW : WT T H) (g0 : T.2.2.2 r0 = some 1) (i1 : (-2147483648) ≤ a1 ∧ a1 ≤ 2147483647) (i2 : (-2147483648) ≤ a2 ∧ a2 ≤ 2147483647) : wpc kt 2 157 [.ref r0, vI a1, vI a2] T H (q_157 r0 a1 a2 T H) := by
  refine wp_enter e157 (Nat.le_of_ble_eq_true rfl) rfl ?_
  have f0 : wfr [(1, 10)] T H H := wfr.rf
  show wp _ _ 157 0 [(0, .ref r0), (1, vI a1), (2, vI a2)] [] _ H _
  refine wp_of e157 c157_0 (rw_aload_n (pc' := 1) (v := .ref r0) rfl rfl rfl ?_)
  refine wp_of e157 c157_1 (rw_aload_n (pc' := 2) (v := .ref r0) rfl rfl rfl ?_)
  refine wp_of e157 c157_2 (rw_iload_n (pc' := 3) (z := a2) rfl rfl ?_)
  refine wp_of e157 c157_3 (xc_V (pc' := 6) (r := r0) (as := [vI a2]) (st := [.ref r0]) (lm_0_105) rfl rfl (Nat.le_of_ble_eq_true rfl) hW g0 sh_1 (by decide) rfl (by decide) (s_55 hW g0 ⟨by omega, by omega⟩) (fun R81193 T81194 H81195 p81196 => ?_))
  obtain ⟨e81197, e81199, z81201, e81198, b81202, p81200⟩ := p81196
  subst e81197
  subst e81198
  subst e81199
  show wp _ _ 157 6 [(0, .ref r0), (1, vI a1), (2, vI a2)] [vI z81201, .ref r0] _ H _
  refine wp_of e157 c157_6 (rw_if_eq (p1 := 30) (p2 := 9) (by decide) rfl ⟨by omega, by omega⟩ (fun c81203 => ?_) (fun c81203 => ?_))
  · refine wp_of e157 c157_30 (rw_iconst (pc' := 31) rfl ?_)
    refine wp_of e157 c157_31 (xc_V (pc' := 34) (r := r0) (as := [vI 0]) (st := []) (lm_0_245) rfl rfl (Nat.le_of_ble_eq_true rfl) hW g0 sh_1 (by decide) rfl (by decide) (s_84 hW g0 ⟨by omega, by omega⟩) (fun R81204 T81205 H81206 p81207 => ?_))
    obtain ⟨e81208, e81210, z81212, e81209, b81213, p81211⟩ := p81207
    subst e81208
    subst e81209
    subst e81210
    show wp _ _ 157 34 [(0, .ref r0), (1, vI a1), (2, vI a2)] [vI z81212] _ H _
    refine wp_of e157 c157_34 (rw_istore_n (pc' := 35) (z := z81212) (L' := [(3, vI z81212), (0, .ref r0), (1, vI a1), (2, vI a2)]) rfl rfl rfl ?_)
    refine wp_of e157 c157_35 (rw_iload_n (pc' := 36) (z := z81212) rfl rfl ?_)
    refine wp_of e157 c157_36 (rw_if_eq (p1 := 45) (p2 := 39) (by decide) rfl ⟨by omega, by omega⟩ (fun c81214 => ?_) (fun c81214 => ?_))
    · exfalso
      omega
    · refine wp_of e157 c157_39 (rw_aload_n (pc' := 40) (v := .ref r0) rfl rfl rfl ?_)
      refine wp_of e157 c157_40 (rw_iload_n (pc' := 41) (z := z81212) rfl rfl ?_)
      refine wp_of e157 c157_41 (xc_V (pc' := 44) (r := r0) (as := [vI z81212]) (st := []) (lm_0_70) rfl rfl (Nat.le_of_ble_eq_true rfl) hW g0 sh_1 (by decide) rfl (by decide) (s_12 hW g0 ⟨by omega, by omega⟩) (fun R81215 T81216 H81217 p81218 => ?_))
      obtain ⟨e81219, w81221, f81222, z81223, e81220, b81224⟩ := p81218
      subst e81219
      subst e81220
      have f81225 := f0.tr f81222 rfl
      show wp _ _ 157 44 [(3, vI z81212), (0, .ref r0), (1, vI a1), (2, vI a2)] [vI z81223] _ H81217 _
      exact wp_ireturn e157 c157_44 rfl ⟨rfl, w81221, f81225, z81223, rfl, ⟨by omega, by omega⟩⟩
  · refine wp_of e157 c157_9 (rw_iload_n (pc' := 10) (z := a1) rfl rfl ?_)
    refine wp_of e157 c157_10 (rw_if_lt (p1 := 30) (p2 := 13) (by decide) rfl ⟨by omega, by omega⟩ (fun c81226 => ?_) (fun c81226 => ?_))
    · refine wp_of e157 c157_30 (rw_iconst (pc' := 31) rfl ?_)
      refine wp_of e157 c157_31 (xc_V (pc' := 34) (r := r0) (as := [vI 0]) (st := []) (lm_0_245) rfl rfl (Nat.le_of_ble_eq_true rfl) hW g0 sh_1 (by decide) rfl (by decide) (s_84 hW g0 ⟨by omega, by omega⟩) (fun R81227 T81228 H81229 p81230 => ?_))
      obtain ⟨e81231, e81233, z81235, e81232, b81236, p81234⟩ := p81230
      subst e81231
      subst e81232
      subst e81233
      show wp _ _ 157 34 [(0, .ref r0), (1, vI a1), (2, vI a2)] [vI z81235] _ H _
      refine wp_of e157 c157_34 (rw_istore_n (pc' := 35) (z := z81235) (L' := [(3, vI z81235), (0, .ref r0), (1, vI a1), (2, vI a2)]) rfl rfl rfl ?_)
      refine wp_of e157 c157_35 (rw_iload_n (pc' := 36) (z := z81235) rfl rfl ?_)
      refine wp_of e157 c157_36 (rw_if_eq (p1 := 45) (p2 := 39) (by decide) rfl ⟨by omega, by omega⟩ (fun c81237 => ?_) (fun c81237 => ?_))
      · exfalso
        omega
      · refine wp_of e157 c157_39 (rw_aload_n (pc' := 40) (v := .ref r0) rfl rfl rfl ?_)
        refine wp_of e157 c157_40 (rw_iload_n (pc' := 41) (z := z81235) rfl rfl ?_)
        refine wp_of e157 c157_41 (xc_V (pc' := 44) (r := r0) (as := [vI z81235]) (st := []) (lm_0_70) rfl rfl (Nat.le_of_ble_eq_true rfl) hW g0 sh_1 (by decide) rfl (by decide) (s_12 hW g0 ⟨by omega, by omega⟩) (fun R81238 T81239 H81240 p81241 => ?_))
        obtain ⟨e81242, w81244, f81245, z81246, e81243, b81247⟩ := p81241
        subst e81242
        subst e81243
        have f81248 := f0.tr f81245 rfl
        show wp _ _ 157 44 [(3, vI z81235), (0, .ref r0), (1, vI a1), (2, vI a2)] [vI z81246] _ H81240 _
        exact wp_ireturn e157 c157_44 rfl ⟨rfl, w81244, f81248, z81246, rfl, ⟨by omega, by omega⟩⟩
    · refine wp_of e157 c157_13 (rw_iload_n (pc' := 14) (z := a1) rfl rfl ?_)
      refine wp_of e157 c157_14 (rw_i2l (pc' := 15) rfl ⟨by omega, by omega⟩ ?_)
      refine wp_of e157 c157_15 (rw_aload_n (pc' := 16) (v := .ref r0) rfl rfl rfl ?_)
      refine wp_of e157 c157_16 (xg_R (pc' := 19) lf_0_51 hW g0 sh_1 (by decide) (by decide) ty_1_6 rfl rfl (fun r81249 q81250 g81251 => ?_))
      refine wp_of e157 c157_19 (xg_L (pc' := 22) lf_0_141 hW g81251 sh_27 (by decide) (by decide) ty_27_18 rfl rfl (fun b81252 b81253 => ?_))
      refine wp_of e157 c157_22 (rw_lcmp (pc' := 23) rfl ⟨by omega, by omega⟩ ⟨by omega, by omega⟩ ?_)
      have b81254 := wq_cmp_b a1 (H r81249 18)
      refine wp_of e157 c157_23 (rw_if_ge (p1 := 30) (p2 := 26) (by decide) rfl ⟨by omega, by omega⟩ (fun c81255 => ?_) (fun c81255 => ?_))
      · refine wp_of e157 c157_30 (rw_iconst (pc' := 31) rfl ?_)
        refine wp_of e157 c157_31 (xc_V (pc' := 34) (r := r0) (as := [vI 0]) (st := []) (lm_0_245) rfl rfl (Nat.le_of_ble_eq_true rfl) hW g0 sh_1 (by decide) rfl (by decide) (s_84 hW g0 ⟨by omega, by omega⟩) (fun R81256 T81257 H81258 p81259 => ?_))
        obtain ⟨e81260, e81262, z81264, e81261, b81265, p81263⟩ := p81259
        subst e81260
        subst e81261
        subst e81262
        show wp _ _ 157 34 [(0, .ref r0), (1, vI a1), (2, vI a2)] [vI z81264] _ H _
        refine wp_of e157 c157_34 (rw_istore_n (pc' := 35) (z := z81264) (L' := [(3, vI z81264), (0, .ref r0), (1, vI a1), (2, vI a2)]) rfl rfl rfl ?_)
        refine wp_of e157 c157_35 (rw_iload_n (pc' := 36) (z := z81264) rfl rfl ?_)
        refine wp_of e157 c157_36 (rw_if_eq (p1 := 45) (p2 := 39) (by decide) rfl ⟨by omega, by omega⟩ (fun c81266 => ?_) (fun c81266 => ?_))
        · exfalso
          omega
        · refine wp_of e157 c157_39 (rw_aload_n (pc' := 40) (v := .ref r0) rfl rfl rfl ?_)
          refine wp_of e157 c157_40 (rw_iload_n (pc' := 41) (z := z81264) rfl rfl ?_)
          refine wp_of e157 c157_41 (xc_V (pc' := 44) (r := r0) (as := [vI z81264]) (st := []) (lm_0_70) rfl rfl (Nat.le_of_ble_eq_true rfl) hW g0 sh_1 (by decide) rfl (by decide) (s_12 hW g0 ⟨by omega, by omega⟩) (fun R81267 T81268 H81269 p81270 => ?_))
          obtain ⟨e81271, w81273, f81274, z81275, e81272, b81276⟩ := p81270
          subst e81271
          subst e81272
          have f81277 := f0.tr f81274 rfl
          show wp _ _ 157 44 [(3, vI z81264), (0, .ref r0), (1, vI a1), (2, vI a2)] [vI z81275] _ H81269 _
          exact wp_ireturn e157 c157_44 rfl ⟨rfl, w81273, f81277, z81275, rfl, ⟨by omega, by omega⟩⟩
      · refine wp_of e157 c157_26 (rw_iconst (pc' := 27) rfl ?_)
        refine wp_of e157 c157_27 (rw_goto (p1 := 31) (by decide) ?_)
        refine wp_of e157 c157_31 (xc_V (pc' := 34) (r := r0) (as := [vI 1]) (st := []) (lm_0_245) rfl rfl (Nat.le_of_ble_eq_true rfl) hW g0 sh_1 (by decide) rfl (by decide) (s_84 hW g0 ⟨by omega, by omega⟩) (fun R81278 T81279 H81280 p81281 => ?_))
        obtain ⟨e81282, e81284, z81286, e81283, b81287, p81285⟩ := p81281
        subst e81282
        subst e81283
        subst e81284
        show wp _ _ 157 34 [(0, .ref r0), (1, vI a1), (2, vI a2)] [vI z81286] _ H _
        refine wp_of e157 c157_34 (rw_istore_n (pc' := 35) (z := z81286) (L' := [(3, vI z81286), (0, .ref r0), (1, vI a1), (2, vI a2)]) rfl rfl rfl ?_)
        refine wp_of e157 c157_35 (rw_iload_n (pc' := 36) (z := z81286) rfl rfl ?_)
        refine wp_of e157 c157_36 (rw_if_eq (p1 := 45) (p2 := 39) (by decide) rfl ⟨by omega, by omega⟩ (fun c81288 => ?_) (fun c81288 => ?_))
        · refine wp_of e157 c157_45 (rw_aload_n (pc' := 46) (v := .ref r0) rfl rfl rfl ?_)
          refine wp_of e157 c157_46 (rw_aload_n (pc' := 47) (v := .ref r0) rfl rfl rfl ?_)
          refine wp_of e157 c157_47 (xg_K (pc' := 50) lf_0_51 hW g0 sh_1 (by decide) (by decide) rfl q81250 rfl ?_)
          refine wp_of e157 c157_50 (rw_iload_n (pc' := 51) (z := a1) rfl rfl ?_)
          refine wp_of e157 c157_51 (rw_iload_n (pc' := 52) (z := a2) rfl rfl ?_)
          refine wp_of e157 c157_52 (xc_V (pc' := 55) (r := r81249) (as := [vI a1, vI a2]) (st := [.ref r0]) (lm_0_183) rfl rfl (Nat.le_of_ble_eq_true rfl) hW g81251 sh_27 (by decide) rfl (by decide) (s_96 hW g81251 ⟨by omega, by omega⟩ ⟨by omega, by omega⟩) (fun R81289 T81290 H81291 p81292 => ?_))
          obtain ⟨e81293, e81295, z81296, e81294, b81297⟩ := p81292
          subst e81293
          subst e81294
          subst e81295
          show wp _ _ 157 55 [(3, vI z81286), (0, .ref r0), (1, vI a1), (2, vI a2)] [vI z81296, .ref r0] _ H _
          refine wp_of e157 c157_55 (xc_V (pc' := 58) (r := r0) (as := [vI z81296]) (st := []) (lm_0_99) rfl rfl (Nat.le_of_ble_eq_true rfl) hW g0 sh_1 (by decide) rfl (by decide) (s_51 hW g0 ⟨by omega, by omega⟩) (fun R81298 T81299 H81300 p81301 => ?_))
          obtain ⟨e81302, w81304, f81305, z81306, e81303, b81307⟩ := p81301
          subst e81302
          subst e81303
          have f81308 := f0.tr f81305 rfl
          show wp _ _ 157 58 [(3, vI z81286), (0, .ref r0), (1, vI a1), (2, vI a2)] [vI z81306] _ H81300 _
          exact wp_ireturn e157 c157_58 rfl ⟨rfl, w81304, f81308, z81306, rfl, ⟨by omega, by omega⟩⟩
        · refine wp_of e157 c157_39 (rw_aload_n (pc' := 40) (v := .ref r0) rfl rfl rfl ?_)
          refine wp_of e157 c157_40 (rw_iload_n (pc' := 41) (z := z81286) rfl rfl ?_)
          refine wp_of e157 c157_41 (xc_V (pc' := 44) (r := r0) (as := [vI z81286]) (st := []) (lm_0_70) rfl rfl (Nat.le_of_ble_eq_true rfl) hW g0 sh_1 (by decide) rfl (by decide) (s_12 hW g0 ⟨by omega, by omega⟩) (fun R81309 T81310 H81311 p81312 => ?_))
          obtain ⟨e81313, w81315, f81316, z81317, e81314, b81318⟩ := p81312
          subst e81313
          subst e81314
          have f81319 := f0.tr f81316 rfl
          show wp _ _ 157 44 [(3, vI z81286), (0, .ref r0), (1, vI a1), (2, vI a2)] [vI z81317] _ H81311 _
          exact wp_ireturn e157 c157_44 rfl ⟨rfl, w81315, f81319, z81317, rfl, ⟨by omega, by omega⟩⟩
/-! StrikeAwake.again()Z -/
theorem e158 : wq_en 158 = some (0, 1, false, some FieldType.boolean) := rfl
theorem c158_0 : mc_cd 158 0 = some (.aload_n 0, 1) := by decide +kernel
theorem c158_1 : mc_cd 158 1 = some (.getfield 58, 3) := by decide +kernel
theorem c158_4 : mc_cd 158 4 = some (.ifCond .ne 9, 3) := by decide +kernel
theorem c158_7 : mc_cd 158 7 = some (.aload_n 0, 1) := by decide +kernel
theorem c158_8 : mc_cd 158 8 = some (.iconst 1, 1) := by decide +kernel
theorem c158_9 : mc_cd 158 9 = some (.invokevirtual 145, 3) := by decide +kernel
theorem c158_12 : mc_cd 158 12 = some (.ireturn, 1) := by decide +kernel
theorem c158_13 : mc_cd 158 13 = some (.aload_n 0, 1) := by decide +kernel
theorem c158_14 : mc_cd 158 14 = some (.getfield 51, 3) := by decide +kernel
theorem c158_17 : mc_cd 158 17 = some (.iconst 0, 1) := by decide +kernel
theorem c158_18 : mc_cd 158 18 = some (.putfield 298, 3) := by decide +kernel
theorem c158_21 : mc_cd 158 21 = some (.aload_n 0, 1) := by decide +kernel
theorem c158_22 : mc_cd 158 22 = some (.invokevirtual 151, 3) := by decide +kernel
theorem c158_25 : mc_cd 158 25 = some (.ireturn, 1) := by decide +kernel
abbrev q_158 (r0 : Nat) (T : wq_T) (H : wq_H) : Option Value → wq_T → wq_H → Prop := fun r T' H' => T = T' ∧ WT T H' ∧ wfr [(27, 17), (1, 10)] T H H' ∧ ∃ z : Int, some (vI z) = r ∧ (0 ≤ z ∧ z ≤ 1)
set_option maxHeartbeats 4000000 in
theorem s_158 {kt : Nat → Option mc_E} {T : wq_T} {H : wq_H} {r0 : Nat} (hW : WT T H) (g0 : T.2.2.2 r0 = some 1) : wpc kt 2 158 [.ref r0] T H (q_158 r0 T H) := by
  refine wp_enter e158 (Nat.le_of_ble_eq_true rfl) rfl ?_
  have f0 : wfr [(27, 17), (1, 10)] T H H := wfr.rf
  show wp _ _ 158 0 [(0, .ref r0)] [] _ H _
  refine wp_of e158 c158_0 (rw_aload_n (pc' := 1) (v := .ref r0) rfl rfl rfl ?_)
  refine wp_of e158 c158_1 (xg_I (pc' := 4) lf_0_58 hW g0 sh_1 (by decide) (by decide) ty_1_8 rfl rfl (fun b81353 b81354 => ?_))
  refine wp_of e158 c158_4 (rw_if_ne (p1 := 13) (p2 := 7) (by decide) rfl ⟨by omega, by omega⟩ (fun c81355 => ?_) (fun c81355 => ?_))
  · refine wp_of e158 c158_13 (rw_aload_n (pc' := 14) (v := .ref r0) rfl rfl rfl ?_)
    refine wp_of e158 c158_14 (xg_R (pc' := 17) lf_0_51 hW g0 sh_1 (by decide) (by decide) ty_1_6 rfl rfl (fun r81356 q81357 g81358 => ?_))
    refine wp_of e158 c158_17 (rw_iconst (pc' := 18) rfl ?_)
    refine wp_of e158 c158_18 (xp_I (pc' := 21) lf_0_298 hW g81358 sh_27 (by decide) (by decide) ty_27_17 rfl rfl (by omega) (by omega) ⟨by omega, by omega⟩ rfl (fun H81359 e81360 w81361 => ?_))
    have f81362 := f0.put' e81360 g81358 rfl
    have k81363 : H81359 r81356 17 = 0 := wq_u_s e81360
    refine wp_of e158 c158_21 (rw_aload_n (pc' := 22) (v := .ref r0) rfl rfl rfl ?_)
    refine wp_of e158 c158_22 (xc_V (pc' := 25) (r := r0) (as := []) (st := []) (lm_0_151) rfl rfl (Nat.le_of_ble_eq_true rfl) w81361 g0 sh_1 (by decide) rfl (by decide) (s_64 w81361 g0) (fun R81364 T81365 H81366 p81367 => ?_))
    obtain ⟨e81368, w81370, f81371, z81372, e81369, b81373⟩ := p81367
    subst e81368
    subst e81369
    have f81374 := f81362.tr f81371 rfl
    show wp _ _ 158 25 [(0, .ref r0)] [vI z81372] _ H81366 _
    exact wp_zreturn e158 c158_25 rfl (by omega) ⟨rfl, w81370, f81374, z81372, rfl, ⟨by omega, by omega⟩⟩
  · refine wp_of e158 c158_7 (rw_aload_n (pc' := 8) (v := .ref r0) rfl rfl rfl ?_)
    refine wp_of e158 c158_8 (rw_iconst (pc' := 9) rfl ?_)
    refine wp_of e158 c158_9 (xc_V (pc' := 12) (r := r0) (as := [vI 1]) (st := []) (lm_0_145) rfl rfl (Nat.le_of_ble_eq_true rfl) hW g0 sh_1 (by decide) rfl (by decide) (s_63 hW g0 ⟨by omega, by omega⟩) (fun R81375 T81376 H81377 p81378 => ?_))
    obtain ⟨e81379, w81381, f81382, z81383, e81380, b81384⟩ := p81378
    subst e81379
    subst e81380
    have f81385 := f0.tr f81382 rfl
    show wp _ _ 158 12 [(0, .ref r0)] [vI z81383] _ H81377 _
    exact wp_zreturn e158 c158_12 rfl (by omega) ⟨rfl, w81381, f81385, z81383, rfl, ⟨by omega, by omega⟩⟩
/-! StrikeAwake$Parish.picture()J -/
theorem e160 : wq_en 160 = some (7, 4, false, some FieldType.long) := rfl
theorem c160_0 : mc_cd 160 0 = some (.aload_n 0, 1) := by decide +kernel
theorem c160_1 : mc_cd 160 1 = some (.getfield 68, 3) := by decide +kernel
theorem c160_4 : mc_cd 160 4 = some (.i2l, 1) := by decide +kernel
theorem c160_5 : mc_cd 160 5 = some (.lstore_n 1, 1) := by decide +kernel
theorem c160_6 : mc_cd 160 6 = some (.iconst 0, 1) := by decide +kernel
theorem c160_7 : mc_cd 160 7 = some (.istore_n 3, 1) := by decide +kernel
theorem c160_8 : mc_cd 160 8 = some (.iload_n 3, 1) := by decide +kernel
theorem c160_9 : mc_cd 160 9 = some (.aload_n 0, 1) := by decide +kernel
theorem c160_10 : mc_cd 160 10 = some (.getfield 50, 3) := by decide +kernel
theorem c160_13 : mc_cd 160 13 = some (.if_icmp .ge 26, 3) := by decide +kernel
theorem c160_16 : mc_cd 160 16 = some (.lload_n 1, 1) := by decide +kernel
theorem c160_17 : mc_cd 160 17 = some (.ldc2_w 125, 3) := by decide +kernel
theorem c160_20 : mc_cd 160 20 = some (.lmul, 1) := by decide +kernel
theorem c160_21 : mc_cd 160 21 = some (.aload_n 0, 1) := by decide +kernel
theorem c160_22 : mc_cd 160 22 = some (.getfield 11, 3) := by decide +kernel
theorem c160_25 : mc_cd 160 25 = some (.iload_n 3, 1) := by decide +kernel
theorem c160_26 : mc_cd 160 26 = some (.aaload, 1) := by decide +kernel
theorem c160_27 : mc_cd 160 27 = some (.getfield 127, 3) := by decide +kernel
theorem c160_30 : mc_cd 160 30 = some (.i2l, 1) := by decide +kernel
theorem c160_31 : mc_cd 160 31 = some (.ladd, 1) := by decide +kernel
theorem c160_32 : mc_cd 160 32 = some (.lstore_n 1, 1) := by decide +kernel
theorem c160_33 : mc_cd 160 33 = some (.iinc 3 1, 3) := by decide +kernel
theorem c160_36 : mc_cd 160 36 = some (.goto (-28), 3) := by decide +kernel
theorem c160_39 : mc_cd 160 39 = some (.lload_n 1, 1) := by decide +kernel
theorem c160_40 : mc_cd 160 40 = some (.lreturn, 1) := by decide +kernel
abbrev q_160 (r0 : Nat) (T : wq_T) (H : wq_H) : Option Value → wq_T → wq_H → Prop := fun r T' H' => T = T' ∧ H = H' ∧ ∃ z : Int, some (vL z) = r ∧ ((-9223372036854775808) ≤ z ∧ z ≤ 9223372036854775807)
set_option maxHeartbeats 4000000 in
theorem s_160 {kt : Nat → Option mc_E} {T : wq_T} {H : wq_H} {r0 : Nat} (hW : WT T H) (g0 : T.2.2.2 r0 = some 27) : wpc kt 1 160 [.ref r0] T H (q_160 r0 T H) := by
  refine wp_enter e160 (Nat.le_of_ble_eq_true rfl) rfl ?_
  show wp _ _ 160 0 [(0, .ref r0)] [] _ H _
  refine wp_of e160 c160_0 (rw_aload_n (pc' := 1) (v := .ref r0) rfl rfl rfl ?_)
  refine wp_of e160 c160_1 (xg_I (pc' := 4) lf_7_68 hW g0 sh_27 (by decide) (by decide) ty_27_17 rfl rfl (fun b81497 b81498 => ?_))
  refine wp_of e160 c160_4 (rw_i2l (pc' := 5) rfl ⟨by omega, by omega⟩ ?_)
  refine wp_of e160 c160_5 (rw_lstore_n (pc' := 6) (z := H r0 17) (L' := [(1, vL (H r0 17)), (0, .ref r0)]) rfl rfl rfl ?_)
  refine wp_of e160 c160_6 (rw_iconst (pc' := 7) rfl ?_)
  refine wp_of e160 c160_7 (rw_istore_n (pc' := 8) (z := 0) (L' := [(3, vI 0), (1, vL (H r0 17)), (0, .ref r0)]) rfl rfl rfl ?_)
  have lp81592 : ∀ (n81593 : Nat) (v81595 : Int) (v81596 : Int), (0 ≤ v81595 ∧ v81595 ≤ 6) → ((-9223372036854775808) ≤ v81596 ∧ v81596 ≤ 9223372036854775807) → (6 - v81595).toNat = n81593 → wp kt 0 160 8 [(3, vI v81595), (1, vL v81596), (0, .ref r0)] [] T H (q_160 r0 T H) := by
    intro n81593
    induction n81593 using Nat.strongRecOn with
    | _ n81593 ih81594 =>
      intro v81595 v81596 b81599 b81600 m81601
      refine wp_of e160 c160_8 (rw_iload_n (pc' := 9) (z := v81595) rfl rfl ?_)
      refine wp_of e160 c160_9 (rw_aload_n (pc' := 10) (v := .ref r0) rfl rfl rfl ?_)
      refine wp_of e160 c160_10 (xg_I (pc' := 13) lf_7_50 hW g0 sh_27 (by decide) (by decide) ty_27_10 rfl rfl (fun b81602 b81603 => ?_))
      refine wp_of e160 c160_13 (rw_icmp_ge (p1 := 39) (p2 := 16) (by decide) rfl ⟨by omega, by omega⟩ ⟨by omega, by omega⟩ (fun c81604 => ?_) (fun c81604 => ?_))
      · refine wp_of e160 c160_39 (rw_lload_n (pc' := 40) (z := v81596) rfl rfl ?_)
        exact wp_lreturn e160 c160_40 rfl ⟨rfl, rfl, v81596, rfl, ⟨by omega, by omega⟩⟩
      · refine wp_of e160 c160_16 (rw_lload_n (pc' := 17) (z := v81596) rfl rfl ?_)
        refine wp_of e160 c160_17 (rw_ldc2 (pc' := 20) (z := 40) rfl rfl rfl ?_)
        refine wp_of e160 c160_20 (rw_lmulw (pc' := 21) rfl ?_)
        obtain ⟨v81605, e81606⟩ : ∃ x : Int, x = wl_w (v81596 * 40) := ⟨_, rfl⟩
        rw [← e81606]
        have b81607 : -9223372036854775808 ≤ v81605 ∧ v81605 ≤ 9223372036854775807 := by
          rw [e81606]
          exact wL_w _
        refine wp_of e160 c160_21 (rw_aload_n (pc' := 22) (v := .ref r0) rfl rfl rfl ?_)
        refine wp_of e160 c160_22 (xg_R (pc' := 25) lf_7_11 hW g0 sh_27 (by decide) (by decide) ty_27_0 rfl rfl (fun r81608 q81609 g81610 => ?_))
        refine wp_of e160 c160_25 (rw_iload_n (pc' := 26) (z := v81595) rfl rfl ?_)
        refine wp_of e160 c160_26 (xa_R (pc' := 27) (by decide) hW g81610 sh_28 (by decide) (ty_28 _) (by omega) (by omega) rfl (fun r81611 q81612 g81613 => ?_))
        refine wp_of e160 c160_27 (xg_I (pc' := 30) lf_7_127 hW g81613 sh_35 (by decide) (by decide) ty_35_16 rfl rfl (fun b81614 b81615 => ?_))
        refine wp_of e160 c160_30 (rw_i2l (pc' := 31) rfl ⟨by omega, by omega⟩ ?_)
        refine wp_of e160 c160_31 (rw_laddw (pc' := 32) rfl ?_)
        obtain ⟨v81616, e81617⟩ : ∃ x : Int, x = wl_w (v81605 + (H r81611 16)) := ⟨_, rfl⟩
        rw [← e81617]
        have b81618 : -9223372036854775808 ≤ v81616 ∧ v81616 ≤ 9223372036854775807 := by
          rw [e81617]
          exact wL_w _
        refine wp_of e160 c160_32 (rw_lstore_n (pc' := 33) (z := v81616) (L' := [(1, vL v81616), (3, vI v81595), (0, .ref r0)]) rfl rfl rfl ?_)
        refine wp_of e160 c160_33 (rw_iinc (pc' := 36) (z := v81595) (L' := [(3, vI (v81595 + 1)), (1, vL v81616), (0, .ref r0)]) rfl rfl rfl rfl ?_)
        refine wp_of e160 c160_36 (rw_goto (p1 := 8) (by decide) ?_)
        exact wp_lc (ks := [3, 1, 0]) (wl_c rfl (wl_c rfl (wl_c rfl wl_n))) rfl (by decide) (ih81594 _ (by omega) (v81595 + 1) v81616 ⟨by omega, by omega⟩ ⟨by omega, by omega⟩ rfl)
  exact wp_lc (ks := [3, 1, 0]) (wl_c rfl (wl_c rfl (wl_c rfl wl_n))) rfl (by decide) (lp81592 _ 0 (H r0 17) ⟨by omega, by omega⟩ ⟨by omega, by omega⟩ rfl)
/-! StrikeAwake.image()J -/
theorem e159 : wq_en 159 = some (0, 1, false, some FieldType.long) := rfl
theorem c159_0 : mc_cd 159 0 = some (.aload_n 0, 1) := by decide +kernel
theorem c159_1 : mc_cd 159 1 = some (.getfield 58, 3) := by decide +kernel
theorem c159_4 : mc_cd 159 4 = some (.ifCond .ne 10, 3) := by decide +kernel
theorem c159_7 : mc_cd 159 7 = some (.aload_n 0, 1) := by decide +kernel
theorem c159_8 : mc_cd 159 8 = some (.iconst 1, 1) := by decide +kernel
theorem c159_9 : mc_cd 159 9 = some (.invokevirtual 70, 3) := by decide +kernel
theorem c159_12 : mc_cd 159 12 = some (.i2l, 1) := by decide +kernel
theorem c159_13 : mc_cd 159 13 = some (.lreturn, 1) := by decide +kernel
theorem c159_14 : mc_cd 159 14 = some (.aload_n 0, 1) := by decide +kernel
theorem c159_15 : mc_cd 159 15 = some (.iconst 0, 1) := by decide +kernel
theorem c159_16 : mc_cd 159 16 = some (.putfield 102, 3) := by decide +kernel
theorem c159_19 : mc_cd 159 19 = some (.aload_n 0, 1) := by decide +kernel
theorem c159_20 : mc_cd 159 20 = some (.getfield 51, 3) := by decide +kernel
theorem c159_23 : mc_cd 159 23 = some (.invokevirtual 305, 3) := by decide +kernel
theorem c159_26 : mc_cd 159 26 = some (.lreturn, 1) := by decide +kernel
abbrev q_159 (r0 : Nat) (T : wq_T) (H : wq_H) : Option Value → wq_T → wq_H → Prop := fun r T' H' => T = T' ∧ WT T H' ∧ wfr [(1, 10)] T H H' ∧ ∃ z : Int, some (vL z) = r ∧ ((-9223372036854775808) ≤ z ∧ z ≤ 9223372036854775807)
set_option maxHeartbeats 4000000 in
theorem s_159 {kt : Nat → Option mc_E} {T : wq_T} {H : wq_H} {r0 : Nat} (hW : WT T H) (g0 : T.2.2.2 r0 = some 1) : wpc kt 2 159 [.ref r0] T H (q_159 r0 T H) := by
  refine wp_enter e159 (Nat.le_of_ble_eq_true rfl) rfl ?_
  have f0 : wfr [(1, 10)] T H H := wfr.rf
  show wp _ _ 159 0 [(0, .ref r0)] [] _ H _
  refine wp_of e159 c159_0 (rw_aload_n (pc' := 1) (v := .ref r0) rfl rfl rfl ?_)
  refine wp_of e159 c159_1 (xg_I (pc' := 4) lf_0_58 hW g0 sh_1 (by decide) (by decide) ty_1_8 rfl rfl (fun b81650 b81651 => ?_))
  refine wp_of e159 c159_4 (rw_if_ne (p1 := 14) (p2 := 7) (by decide) rfl ⟨by omega, by omega⟩ (fun c81652 => ?_) (fun c81652 => ?_))
  · refine wp_of e159 c159_14 (rw_aload_n (pc' := 15) (v := .ref r0) rfl rfl rfl ?_)
    refine wp_of e159 c159_15 (rw_iconst (pc' := 16) rfl ?_)
    refine wp_of e159 c159_16 (xp_I (pc' := 19) lf_0_102 hW g0 sh_1 (by decide) (by decide) ty_1_10 rfl rfl (by omega) (by omega) ⟨by omega, by omega⟩ rfl (fun H81653 e81654 w81655 => ?_))
    have f81656 := f0.put' e81654 g0 rfl
    have k81657 : H81653 r0 10 = 0 := wq_u_s e81654
    refine wp_of e159 c159_19 (rw_aload_n (pc' := 20) (v := .ref r0) rfl rfl rfl ?_)
    refine wp_of e159 c159_20 (xg_R (pc' := 23) lf_0_51 w81655 g0 sh_1 (by decide) (by decide) ty_1_6 rfl rfl (fun r81658 q81659 g81660 => ?_))
    refine wp_of e159 c159_23 (xc_V (pc' := 26) (r := r81658) (as := []) (st := []) (lm_0_305) rfl rfl (Nat.le_of_ble_eq_true rfl) w81655 g81660 sh_27 (by decide) rfl (by decide) (s_160 w81655 g81660) (fun R81661 T81662 H81663 p81664 => ?_))
    obtain ⟨e81665, e81667, z81668, e81666, b81669⟩ := p81664
    subst e81665
    subst e81666
    subst e81667
    show wp _ _ 159 26 [(0, .ref r0)] [vL z81668] _ H81653 _
    exact wp_lreturn e159 c159_26 rfl ⟨rfl, w81655, f81656, z81668, rfl, ⟨by omega, by omega⟩⟩
  · refine wp_of e159 c159_7 (rw_aload_n (pc' := 8) (v := .ref r0) rfl rfl rfl ?_)
    refine wp_of e159 c159_8 (rw_iconst (pc' := 9) rfl ?_)
    refine wp_of e159 c159_9 (xc_V (pc' := 12) (r := r0) (as := [vI 1]) (st := []) (lm_0_70) rfl rfl (Nat.le_of_ble_eq_true rfl) hW g0 sh_1 (by decide) rfl (by decide) (s_12 hW g0 ⟨by omega, by omega⟩) (fun R81670 T81671 H81672 p81673 => ?_))
    obtain ⟨e81674, w81676, f81677, z81678, e81675, b81679⟩ := p81673
    subst e81674
    subst e81675
    have f81680 := f0.tr f81677 rfl
    show wp _ _ 159 12 [(0, .ref r0)] [vI z81678] _ H81672 _
    refine wp_of e159 c159_12 (rw_i2l (pc' := 13) rfl ⟨by omega, by omega⟩ ?_)
    exact wp_lreturn e159 c159_13 rfl ⟨rfl, w81676, f81680, z81678, rfl, ⟨by omega, by omega⟩⟩
/-! StrikeAwake$Parish.isPicture(J)Z -/
theorem e162 : wq_en 162 = some (7, 8, false, some FieldType.boolean) := rfl
theorem c162_0 : mc_cd 162 0 = some (.lload_n 1, 1) := by decide +kernel
theorem c162_1 : mc_cd 162 1 = some (.lstore_n 3, 1) := by decide +kernel
theorem c162_2 : mc_cd 162 2 = some (.aload_n 0, 1) := by decide +kernel
theorem c162_3 : mc_cd 162 3 = some (.getfield 50, 3) := by decide +kernel
theorem c162_6 : mc_cd 162 6 = some (.iconst 1, 1) := by decide +kernel
theorem c162_7 : mc_cd 162 7 = some (.isub, 1) := by decide +kernel
theorem c162_8 : mc_cd 162 8 = some (.istore 5, 2) := by decide +kernel
theorem c162_10 : mc_cd 162 10 = some (.iload 5, 2) := by decide +kernel
theorem c162_12 : mc_cd 162 12 = some (.ifCond .lt 48, 3) := by decide +kernel
theorem c162_15 : mc_cd 162 15 = some (.lload_n 3, 1) := by decide +kernel
theorem c162_16 : mc_cd 162 16 = some (.ldc2_w 125, 3) := by decide +kernel
theorem c162_19 : mc_cd 162 19 = some (.lrem, 1) := by decide +kernel
theorem c162_20 : mc_cd 162 20 = some (.lstore 6, 2) := by decide +kernel
theorem c162_22 : mc_cd 162 22 = some (.lload 6, 2) := by decide +kernel
theorem c162_24 : mc_cd 162 24 = some (.lconst 0, 1) := by decide +kernel
theorem c162_25 : mc_cd 162 25 = some (.lcmp, 1) := by decide +kernel
theorem c162_26 : mc_cd 162 26 = some (.ifCond .eq 22, 3) := by decide +kernel
theorem c162_29 : mc_cd 162 29 = some (.lload 6, 2) := by decide +kernel
theorem c162_31 : mc_cd 162 31 = some (.aload_n 0, 1) := by decide +kernel
theorem c162_32 : mc_cd 162 32 = some (.getfield 11, 3) := by decide +kernel
theorem c162_35 : mc_cd 162 35 = some (.iload 5, 2) := by decide +kernel
theorem c162_37 : mc_cd 162 37 = some (.aaload, 1) := by decide +kernel
theorem c162_38 : mc_cd 162 38 = some (.getfield 110, 3) := by decide +kernel
theorem c162_41 : mc_cd 162 41 = some (.i2l, 1) := by decide +kernel
theorem c162_42 : mc_cd 162 42 = some (.lcmp, 1) := by decide +kernel
theorem c162_43 : mc_cd 162 43 = some (.ifCond .lt 5, 3) := by decide +kernel
theorem c162_46 : mc_cd 162 46 = some (.iconst 0, 1) := by decide +kernel
theorem c162_47 : mc_cd 162 47 = some (.ireturn, 1) := by decide +kernel
theorem c162_48 : mc_cd 162 48 = some (.lload_n 3, 1) := by decide +kernel
theorem c162_49 : mc_cd 162 49 = some (.ldc2_w 125, 3) := by decide +kernel
theorem c162_52 : mc_cd 162 52 = some (.ldiv, 1) := by decide +kernel
theorem c162_53 : mc_cd 162 53 = some (.lstore_n 3, 1) := by decide +kernel
theorem c162_54 : mc_cd 162 54 = some (.iinc 5 (-1), 3) := by decide +kernel
theorem c162_57 : mc_cd 162 57 = some (.goto (-47), 3) := by decide +kernel
theorem c162_60 : mc_cd 162 60 = some (.lload_n 1, 1) := by decide +kernel
theorem c162_61 : mc_cd 162 61 = some (.lconst 0, 1) := by decide +kernel
theorem c162_62 : mc_cd 162 62 = some (.lcmp, 1) := by decide +kernel
theorem c162_63 : mc_cd 162 63 = some (.ifCond .lt 15, 3) := by decide +kernel
theorem c162_66 : mc_cd 162 66 = some (.lload_n 3, 1) := by decide +kernel
theorem c162_67 : mc_cd 162 67 = some (.ldc2_w 130, 3) := by decide +kernel
theorem c162_70 : mc_cd 162 70 = some (.lcmp, 1) := by decide +kernel
theorem c162_71 : mc_cd 162 71 = some (.ifCond .gt 7, 3) := by decide +kernel
theorem c162_74 : mc_cd 162 74 = some (.iconst 1, 1) := by decide +kernel
theorem c162_75 : mc_cd 162 75 = some (.goto 4, 3) := by decide +kernel
theorem c162_78 : mc_cd 162 78 = some (.iconst 0, 1) := by decide +kernel
theorem c162_79 : mc_cd 162 79 = some (.ireturn, 1) := by decide +kernel
abbrev q_162 (r0 : Nat) (a1 : Int) (T : wq_T) (H : wq_H) : Option Value → wq_T → wq_H → Prop := fun r T' H' => T = T' ∧ H = H' ∧ ∃ z : Int, some (vI z) = r ∧ (0 ≤ z ∧ z ≤ 1)
set_option maxHeartbeats 4000000 in
theorem s_162 {kt : Nat → Option mc_E} {T : wq_T} {H : wq_H} {r0 : Nat} {a1 : Int} (hW : WT T H) (g0 : T.2.2.2 r0 = some 27) (i1 : (-9223372036854775808) ≤ a1 ∧ a1 ≤ 9223372036854775807) : wpc kt 1 162 [.ref r0, vL a1] T H (q_162 r0 a1 T H) := by
  refine wp_enter e162 (Nat.le_of_ble_eq_true rfl) rfl ?_
  show wp _ _ 162 0 [(0, .ref r0), (1, vL a1)] [] _ H _
  refine wp_of e162 c162_0 (rw_lload_n (pc' := 1) (z := a1) rfl rfl ?_)
  refine wp_of e162 c162_1 (rw_lstore_n (pc' := 2) (z := a1) (L' := [(3, vL a1), (0, .ref r0), (1, vL a1)]) rfl rfl rfl ?_)
  refine wp_of e162 c162_2 (rw_aload_n (pc' := 3) (v := .ref r0) rfl rfl rfl ?_)
  refine wp_of e162 c162_3 (xg_I (pc' := 6) lf_7_50 hW g0 sh_27 (by decide) (by decide) ty_27_10 rfl rfl (fun b81726 b81727 => ?_))
  refine wp_of e162 c162_6 (rw_iconst (pc' := 7) rfl ?_)
  refine wp_of e162 c162_7 (rw_isub (pc' := 8) rfl ?_)
  refine wp_of e162 c162_8 (rw_istore (pc' := 10) (z := (H r0 10) - 1) (L' := [(5, vI ((H r0 10) - 1)), (3, vL a1), (0, .ref r0), (1, vL a1)]) rfl rfl rfl ?_)
  have lp81747 : ∀ (n81748 : Nat) (v81750 : Int) (v81751 : Int), ((-1) ≤ v81750 ∧ v81750 ≤ 5) → ((-9223372036854775808) ≤ v81751 ∧ v81751 ≤ 9223372036854775807) → (v81750 - (-1)).toNat = n81748 → wp kt 0 162 10 [(5, vI v81750), (3, vL v81751), (0, .ref r0), (1, vL a1)] [] T H (q_162 r0 a1 T H) := by
    intro n81748
    induction n81748 using Nat.strongRecOn with
    | _ n81748 ih81749 =>
      intro v81750 v81751 b81754 b81755 m81756
      refine wp_of e162 c162_10 (rw_iload (pc' := 12) (z := v81750) rfl rfl ?_)
      refine wp_of e162 c162_12 (rw_if_lt (p1 := 60) (p2 := 15) (by decide) rfl ⟨by omega, by omega⟩ (fun c81757 => ?_) (fun c81757 => ?_))
      · refine wp_of e162 c162_60 (rw_lload_n (pc' := 61) (z := a1) rfl rfl ?_)
        refine wp_of e162 c162_61 (rw_lconst (pc' := 62) (z := 0) rfl rfl ?_)
        refine wp_of e162 c162_62 (rw_lcmp (pc' := 63) rfl ⟨by omega, by omega⟩ ⟨by omega, by omega⟩ ?_)
        have b81758 := wq_cmp_b a1 0
        refine wp_of e162 c162_63 (rw_if_lt (p1 := 78) (p2 := 66) (by decide) rfl ⟨by omega, by omega⟩ (fun c81759 => ?_) (fun c81759 => ?_))
        · refine wp_of e162 c162_78 (rw_iconst (pc' := 79) rfl ?_)
          exact wp_zreturn e162 c162_79 rfl (by omega) ⟨rfl, rfl, 0, rfl, ⟨by omega, by omega⟩⟩
        · refine wp_of e162 c162_66 (rw_lload_n (pc' := 67) (z := v81751) rfl rfl ?_)
          refine wp_of e162 c162_67 (rw_ldc2 (pc' := 70) (z := 20000) rfl rfl rfl ?_)
          refine wp_of e162 c162_70 (rw_lcmp (pc' := 71) rfl ⟨by omega, by omega⟩ ⟨by omega, by omega⟩ ?_)
          have b81760 := wq_cmp_b v81751 20000
          refine wp_of e162 c162_71 (rw_if_gt (p1 := 78) (p2 := 74) (by decide) rfl ⟨by omega, by omega⟩ (fun c81761 => ?_) (fun c81761 => ?_))
          · refine wp_of e162 c162_78 (rw_iconst (pc' := 79) rfl ?_)
            exact wp_zreturn e162 c162_79 rfl (by omega) ⟨rfl, rfl, 0, rfl, ⟨by omega, by omega⟩⟩
          · refine wp_of e162 c162_74 (rw_iconst (pc' := 75) rfl ?_)
            refine wp_of e162 c162_75 (rw_goto (p1 := 79) (by decide) ?_)
            exact wp_zreturn e162 c162_79 rfl (by omega) ⟨rfl, rfl, 1, rfl, ⟨by omega, by omega⟩⟩
      · refine wp_of e162 c162_15 (rw_lload_n (pc' := 16) (z := v81751) rfl rfl ?_)
        refine wp_of e162 c162_16 (rw_ldc2 (pc' := 19) (z := 40) rfl rfl rfl ?_)
        refine wp_of e162 c162_19 (rw_lrem (pc' := 20) rfl ⟨by omega, by omega⟩ (by omega) ?_)
        obtain ⟨v81762, e81763⟩ : ∃ x : Int, x = wl_rem v81751 40 := ⟨_, rfl⟩
        rw [← e81763]
        have b81764 : -9223372036854775808 ≤ v81762 ∧ v81762 ≤ 9223372036854775807 := by
          rw [e81763]
          exact wL_rem _ _
        have b81765 : v81751 < 0 ∨ v81762 = v81751 % 40 := by
          rw [e81763]
          exact wl_rem_or ⟨by omega, by omega⟩ ⟨by omega, by omega⟩
        refine wp_of e162 c162_20 (rw_lstore (pc' := 22) (z := v81762) (L' := [(6, vL v81762), (5, vI v81750), (3, vL v81751), (0, .ref r0), (1, vL a1)]) rfl rfl rfl ?_)
        refine wp_of e162 c162_22 (rw_lload (pc' := 24) (z := v81762) rfl rfl ?_)
        refine wp_of e162 c162_24 (rw_lconst (pc' := 25) (z := 0) rfl rfl ?_)
        refine wp_of e162 c162_25 (rw_lcmp (pc' := 26) rfl ⟨by omega, by omega⟩ ⟨by omega, by omega⟩ ?_)
        have b81766 := wq_cmp_b v81762 0
        refine wp_of e162 c162_26 (rw_if_eq (p1 := 48) (p2 := 29) (by decide) rfl ⟨by omega, by omega⟩ (fun c81767 => ?_) (fun c81767 => ?_))
        · refine wp_of e162 c162_48 (rw_lload_n (pc' := 49) (z := v81751) rfl rfl ?_)
          refine wp_of e162 c162_49 (rw_ldc2 (pc' := 52) (z := 40) rfl rfl rfl ?_)
          refine wp_of e162 c162_52 (rw_ldiv (pc' := 53) rfl ⟨by omega, by omega⟩ (by omega) ?_)
          obtain ⟨v81768, e81769⟩ : ∃ x : Int, x = wl_div v81751 40 := ⟨_, rfl⟩
          rw [← e81769]
          have b81770 : -9223372036854775808 ≤ v81768 ∧ v81768 ≤ 9223372036854775807 := by
            rw [e81769]
            exact wL_div _ _
          have b81771 : v81751 < 0 ∨ v81768 = v81751 / 40 := by
            rw [e81769]
            exact wl_div_or ⟨by omega, by omega⟩ ⟨by omega, by omega⟩
          refine wp_of e162 c162_53 (rw_lstore_n (pc' := 54) (z := v81768) (L' := [(3, vL v81768), (6, vL v81762), (5, vI v81750), (0, .ref r0), (1, vL a1)]) rfl rfl rfl ?_)
          refine wp_of e162 c162_54 (rw_iinc (pc' := 57) (z := v81750) (L' := [(5, vI (v81750 + (-1))), (3, vL v81768), (6, vL v81762), (0, .ref r0), (1, vL a1)]) rfl rfl rfl rfl ?_)
          refine wp_of e162 c162_57 (rw_goto (p1 := 10) (by decide) ?_)
          exact wp_lc (ks := [5, 3, 6, 0, 1]) (wl_c rfl (wl_c rfl (wl_c rfl (wl_c rfl wl_n)))) rfl (by decide) (ih81749 _ (by omega) (v81750 + (-1)) v81768 ⟨by omega, by omega⟩ ⟨by omega, by omega⟩ rfl)
        · refine wp_of e162 c162_29 (rw_lload (pc' := 31) (z := v81762) rfl rfl ?_)
          refine wp_of e162 c162_31 (rw_aload_n (pc' := 32) (v := .ref r0) rfl rfl rfl ?_)
          refine wp_of e162 c162_32 (xg_R (pc' := 35) lf_7_11 hW g0 sh_27 (by decide) (by decide) ty_27_0 rfl rfl (fun r81772 q81773 g81774 => ?_))
          refine wp_of e162 c162_35 (rw_iload (pc' := 37) (z := v81750) rfl rfl ?_)
          refine wp_of e162 c162_37 (xa_R (pc' := 38) (by decide) hW g81774 sh_28 (by decide) (ty_28 _) (by omega) (by omega) rfl (fun r81775 q81776 g81777 => ?_))
          refine wp_of e162 c162_38 (xg_I (pc' := 41) lf_7_110 hW g81777 sh_35 (by decide) (by decide) ty_35_15 rfl rfl (fun b81778 b81779 => ?_))
          refine wp_of e162 c162_41 (rw_i2l (pc' := 42) rfl ⟨by omega, by omega⟩ ?_)
          refine wp_of e162 c162_42 (rw_lcmp (pc' := 43) rfl ⟨by omega, by omega⟩ ⟨by omega, by omega⟩ ?_)
          have b81780 := wq_cmp_b v81762 (H r81775 15)
          refine wp_of e162 c162_43 (rw_if_lt (p1 := 48) (p2 := 46) (by decide) rfl ⟨by omega, by omega⟩ (fun c81781 => ?_) (fun c81781 => ?_))
          · refine wp_of e162 c162_48 (rw_lload_n (pc' := 49) (z := v81751) rfl rfl ?_)
            refine wp_of e162 c162_49 (rw_ldc2 (pc' := 52) (z := 40) rfl rfl rfl ?_)
            refine wp_of e162 c162_52 (rw_ldiv (pc' := 53) rfl ⟨by omega, by omega⟩ (by omega) ?_)
            obtain ⟨v81782, e81783⟩ : ∃ x : Int, x = wl_div v81751 40 := ⟨_, rfl⟩
            rw [← e81783]
            have b81784 : -9223372036854775808 ≤ v81782 ∧ v81782 ≤ 9223372036854775807 := by
              rw [e81783]
              exact wL_div _ _
            have b81785 : v81751 < 0 ∨ v81782 = v81751 / 40 := by
              rw [e81783]
              exact wl_div_or ⟨by omega, by omega⟩ ⟨by omega, by omega⟩
            refine wp_of e162 c162_53 (rw_lstore_n (pc' := 54) (z := v81782) (L' := [(3, vL v81782), (6, vL v81762), (5, vI v81750), (0, .ref r0), (1, vL a1)]) rfl rfl rfl ?_)
            refine wp_of e162 c162_54 (rw_iinc (pc' := 57) (z := v81750) (L' := [(5, vI (v81750 + (-1))), (3, vL v81782), (6, vL v81762), (0, .ref r0), (1, vL a1)]) rfl rfl rfl rfl ?_)
            refine wp_of e162 c162_57 (rw_goto (p1 := 10) (by decide) ?_)
            exact wp_lc (ks := [5, 3, 6, 0, 1]) (wl_c rfl (wl_c rfl (wl_c rfl (wl_c rfl wl_n)))) rfl (by decide) (ih81749 _ (by omega) (v81750 + (-1)) v81782 ⟨by omega, by omega⟩ ⟨by omega, by omega⟩ rfl)
          · refine wp_of e162 c162_46 (rw_iconst (pc' := 47) rfl ?_)
            exact wp_zreturn e162 c162_47 rfl (by omega) ⟨rfl, rfl, 0, rfl, ⟨by omega, by omega⟩⟩
  exact wp_lc (ks := [5, 3, 0, 1]) (wl_c rfl (wl_c rfl (wl_c rfl (wl_c rfl wl_n)))) rfl (by decide) (lp81747 _ ((H r0 10) - 1) a1 ⟨by omega, by omega⟩ ⟨by omega, by omega⟩ rfl)
/-! StrikeAwake$Parish.takePicture(J)V -/
theorem e163 : wq_en 163 = some (7, 6, false, none) := rfl
theorem c163_0 : mc_cd 163 0 = some (.lload_n 1, 1) := by decide +kernel
theorem c163_1 : mc_cd 163 1 = some (.lstore_n 3, 1) := by decide +kernel
theorem c163_2 : mc_cd 163 2 = some (.aload_n 0, 1) := by decide +kernel
theorem c163_3 : mc_cd 163 3 = some (.getfield 50, 3) := by decide +kernel
theorem c163_6 : mc_cd 163 6 = some (.iconst 1, 1) := by decide +kernel
theorem c163_7 : mc_cd 163 7 = some (.isub, 1) := by decide +kernel
theorem c163_8 : mc_cd 163 8 = some (.istore 5, 2) := by decide +kernel
theorem c163_10 : mc_cd 163 10 = some (.iload 5, 2) := by decide +kernel
theorem c163_12 : mc_cd 163 12 = some (.ifCond .lt 31, 3) := by decide +kernel
theorem c163_15 : mc_cd 163 15 = some (.aload_n 0, 1) := by decide +kernel
theorem c163_16 : mc_cd 163 16 = some (.getfield 11, 3) := by decide +kernel
theorem c163_19 : mc_cd 163 19 = some (.iload 5, 2) := by decide +kernel
theorem c163_21 : mc_cd 163 21 = some (.aaload, 1) := by decide +kernel
theorem c163_22 : mc_cd 163 22 = some (.lload_n 3, 1) := by decide +kernel
theorem c163_23 : mc_cd 163 23 = some (.ldc2_w 125, 3) := by decide +kernel
theorem c163_26 : mc_cd 163 26 = some (.lrem, 1) := by decide +kernel
theorem c163_27 : mc_cd 163 27 = some (.l2i, 1) := by decide +kernel
theorem c163_28 : mc_cd 163 28 = some (.putfield 127, 3) := by decide +kernel
theorem c163_31 : mc_cd 163 31 = some (.lload_n 3, 1) := by decide +kernel
theorem c163_32 : mc_cd 163 32 = some (.ldc2_w 125, 3) := by decide +kernel
theorem c163_35 : mc_cd 163 35 = some (.ldiv, 1) := by decide +kernel
theorem c163_36 : mc_cd 163 36 = some (.lstore_n 3, 1) := by decide +kernel
theorem c163_37 : mc_cd 163 37 = some (.iinc 5 (-1), 3) := by decide +kernel
theorem c163_40 : mc_cd 163 40 = some (.goto (-30), 3) := by decide +kernel
theorem c163_43 : mc_cd 163 43 = some (.aload_n 0, 1) := by decide +kernel
theorem c163_44 : mc_cd 163 44 = some (.lload_n 3, 1) := by decide +kernel
theorem c163_45 : mc_cd 163 45 = some (.l2i, 1) := by decide +kernel
theorem c163_46 : mc_cd 163 46 = some (.putfield 68, 3) := by decide +kernel
theorem c163_49 : mc_cd 163 49 = some (.return_, 1) := by decide +kernel
abbrev q_163 (r0 : Nat) (a1 : Int) (T : wq_T) (H : wq_H) : Option Value → wq_T → wq_H → Prop := fun r T' H' => T = T' ∧ WT T H' ∧ wfr [(27, 17), (35, 16)] T H H' ∧ none = r
set_option maxHeartbeats 4000000 in
theorem s_163 {kt : Nat → Option mc_E} {T : wq_T} {H : wq_H} {r0 : Nat} {a1 : Int} (hW : WT T H) (g0 : T.2.2.2 r0 = some 27) (i1 : 0 ≤ a1 ∧ a1 ≤ 9223372036854775807) (p0 : wdv (H r0 10).toNat a1 ≤ 20000) : wpc kt 1 163 [.ref r0, vL a1] T H (q_163 r0 a1 T H) := by
  refine wp_enter e163 (Nat.le_of_ble_eq_true rfl) rfl ?_
  have f0 : wfr [(27, 17), (35, 16)] T H H := wfr.rf
  show wp _ _ 163 0 [(0, .ref r0), (1, vL a1)] [] _ H _
  refine wp_of e163 c163_0 (rw_lload_n (pc' := 1) (z := a1) rfl rfl ?_)
  refine wp_of e163 c163_1 (rw_lstore_n (pc' := 2) (z := a1) (L' := [(3, vL a1), (0, .ref r0), (1, vL a1)]) rfl rfl rfl ?_)
  refine wp_of e163 c163_2 (rw_aload_n (pc' := 3) (v := .ref r0) rfl rfl rfl ?_)
  refine wp_of e163 c163_3 (xg_I (pc' := 6) lf_7_50 hW g0 sh_27 (by decide) (by decide) ty_27_10 rfl rfl (fun b81850 b81851 => ?_))
  refine wp_of e163 c163_6 (rw_iconst (pc' := 7) rfl ?_)
  refine wp_of e163 c163_7 (rw_isub (pc' := 8) rfl ?_)
  refine wp_of e163 c163_8 (rw_istore (pc' := 10) (z := (H r0 10) - 1) (L' := [(5, vI ((H r0 10) - 1)), (3, vL a1), (0, .ref r0), (1, vL a1)]) rfl rfl rfl ?_)
  have lp81888 : ∀ (n81889 : Nat) (v81891 : Int) (v81892 : Int) (H81893 : wq_H), WT T H81893 → wfr [(35, 16)] T H H81893 → ((-1) ≤ v81891 ∧ v81891 ≤ 5) → (0 ≤ v81892 ∧ v81892 ≤ 9223372036854775807) → (v81892 = wdv (H81893 r0 10 - 1 - v81891).toNat a1) → (v81891 - (-1)).toNat = n81889 → wp kt 0 163 10 [(5, vI v81891), (3, vL v81892), (0, .ref r0)] [] T H81893 (q_163 r0 a1 T H) := by
    intro n81889
    induction n81889 using Nat.strongRecOn with
    | _ n81889 ih81890 =>
      intro v81891 v81892 H81893 w81894 f81895 b81896 b81897 x81898 m81899
      have f81900 := f0.tr f81895 rfl
      have k81901 : H81893 r0 10 = H r0 10 := (f81895 r0 10 _ g0 rfl)
      refine wp_of e163 c163_10 (rw_iload (pc' := 12) (z := v81891) rfl rfl ?_)
      refine wp_of e163 c163_12 (rw_if_lt (p1 := 43) (p2 := 15) (by decide) rfl ⟨by omega, by omega⟩ (fun c81902 => ?_) (fun c81902 => ?_))
      · refine wp_of e163 c163_43 (rw_aload_n (pc' := 44) (v := .ref r0) rfl rfl rfl ?_)
        refine wp_of e163 c163_44 (rw_lload_n (pc' := 45) (z := v81892) rfl rfl ?_)
        refine wp_of e163 c163_45 (rw_l2i (pc' := 46) rfl ?_)
        obtain ⟨v81903, e81904⟩ : ∃ x : Int, x = wq_w v81892 := ⟨_, rfl⟩
        rw [← e81904]
        have b81905 : -2147483648 ≤ v81903 ∧ v81903 ≤ 2147483647 := by
          rw [e81904]
          exact wI_w _
        refine wp_of e163 c163_46 (xp_I (pc' := 49) lf_7_68 w81894 g0 sh_27 (by decide) (by decide) ty_27_17 rfl rfl (by omega) (by omega) ⟨by omega, by omega⟩ rfl (fun H81906 e81907 w81908 => ?_))
        have f81909 := f81900.put' e81907 g0 rfl
        have f81910 := f81895.put' e81907 g0 rfl
        have k81911 : H81906 r0 17 = v81903 := wq_u_s e81907
        exact wp_return e163 c163_49 rfl ⟨rfl, w81908, f81909, rfl⟩
      · refine wp_of e163 c163_15 (rw_aload_n (pc' := 16) (v := .ref r0) rfl rfl rfl ?_)
        refine wp_of e163 c163_16 (xg_R (pc' := 19) lf_7_11 w81894 g0 sh_27 (by decide) (by decide) ty_27_0 rfl rfl (fun r81912 q81913 g81914 => ?_))
        refine wp_of e163 c163_19 (rw_iload (pc' := 21) (z := v81891) rfl rfl ?_)
        refine wp_of e163 c163_21 (xa_R (pc' := 22) (by decide) w81894 g81914 sh_28 (by decide) (ty_28 _) (by omega) (by omega) rfl (fun r81915 q81916 g81917 => ?_))
        refine wp_of e163 c163_22 (rw_lload_n (pc' := 23) (z := v81892) rfl rfl ?_)
        refine wp_of e163 c163_23 (rw_ldc2 (pc' := 26) (z := 40) rfl rfl rfl ?_)
        refine wp_of e163 c163_26 (rw_lrem (pc' := 27) rfl ⟨by omega, by omega⟩ (by omega) ?_)
        obtain ⟨v81918, e81919⟩ : ∃ x : Int, x = wl_rem v81892 40 := ⟨_, rfl⟩
        rw [← e81919]
        have b81920 : v81918 = v81892 % 40 := by
          rw [e81919]
          exact wl_rem_e ⟨by omega, by omega⟩ ⟨by omega, by omega⟩
        refine wp_of e163 c163_27 (rw_l2i (pc' := 28) rfl ?_)
        obtain ⟨v81921, e81922⟩ : ∃ x : Int, x = wq_w v81918 := ⟨_, rfl⟩
        rw [← e81922]
        have b81923 : v81921 = v81918 := by
          rw [e81922]
          exact wq_w_id ⟨by omega, by omega⟩
        refine wp_of e163 c163_28 (xp_I (pc' := 31) lf_7_127 w81894 g81917 sh_35 (by decide) (by decide) ty_35_16 rfl rfl (by omega) (by omega) ⟨by omega, by omega⟩ rfl (fun H81924 e81925 w81926 => ?_))
        have f81927 := f81900.put' e81925 g81917 rfl
        have f81928 := f81895.put' e81925 g81917 rfl
        have k81929 : H81924 r81915 16 = v81921 := wq_u_s e81925
        refine wp_of e163 c163_31 (rw_lload_n (pc' := 32) (z := v81892) rfl rfl ?_)
        refine wp_of e163 c163_32 (rw_ldc2 (pc' := 35) (z := 40) rfl rfl rfl ?_)
        refine wp_of e163 c163_35 (rw_ldiv (pc' := 36) rfl ⟨by omega, by omega⟩ (by omega) ?_)
        obtain ⟨v81930, e81931⟩ : ∃ x : Int, x = wl_div v81892 40 := ⟨_, rfl⟩
        rw [← e81931]
        have b81932 : v81930 = v81892 / 40 := by
          rw [e81931]
          exact wl_div_e ⟨by omega, by omega⟩ ⟨by omega, by omega⟩
        refine wp_of e163 c163_36 (rw_lstore_n (pc' := 37) (z := v81930) (L' := [(3, vL v81930), (5, vI v81891), (0, .ref r0)]) rfl rfl rfl ?_)
        refine wp_of e163 c163_37 (rw_iinc (pc' := 40) (z := v81891) (L' := [(5, vI (v81891 + (-1))), (3, vL v81930), (0, .ref r0)]) rfl rfl rfl rfl ?_)
        refine wp_of e163 c163_40 (rw_goto (p1 := 10) (by decide) ?_)
        have k81933 : H81924 r0 10 = H81893 r0 10 := (wq_u_t e81925 g81917 g0 rfl 10)
        exact wp_lc (ks := [5, 3, 0]) (wl_c rfl (wl_c rfl (wl_c rfl wl_n))) rfl (by decide) (ih81890 _ (by omega) (v81891 + (-1)) v81930 H81924 w81926 f81928 ⟨by omega, by omega⟩ ⟨by omega, by omega⟩ (PIC) rfl)
  exact wp_lc (ks := [5, 3, 0, 1]) (wl_c rfl (wl_c rfl (wl_c rfl wl_n))) rfl (by decide) (lp81888 _ ((H r0 10) - 1) a1 H hW wfr.rf ⟨by omega, by omega⟩ ⟨by omega, by omega⟩ (by rw [show (H r0 10 - 1 - (H r0 10 - 1)).toNat = 0 by omega]; rfl) rfl)
