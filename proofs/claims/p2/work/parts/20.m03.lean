/-! methods (own work, written by wip/gen2/sx.py) -/
/-! StrikeAwake$Reader.reads([BILStrikeAwake$Parish;)Z -/
theorem e13 : wq_en 13 = some (1, 5, false, some FieldType.boolean) := rfl
theorem c13_0 : mc_cd 13 0 = some (.aload_n 0, 1) := by decide +kernel
theorem c13_1 : mc_cd 13 1 = some (.iconst 0, 1) := by decide +kernel
theorem c13_2 : mc_cd 13 2 = some (.putfield 18, 3) := by decide +kernel
theorem c13_5 : mc_cd 13 5 = some (.aload_n 0, 1) := by decide +kernel
theorem c13_6 : mc_cd 13 6 = some (.iconst (-1), 1) := by decide +kernel
theorem c13_7 : mc_cd 13 7 = some (.putfield 22, 3) := by decide +kernel
theorem c13_10 : mc_cd 13 10 = some (.aload_n 3, 1) := by decide +kernel
theorem c13_11 : mc_cd 13 11 = some (.invokevirtual 25, 3) := by decide +kernel
theorem c13_14 : mc_cd 13 14 = some (.aload_n 0, 1) := by decide +kernel
theorem c13_15 : mc_cd 13 15 = some (.getfield 12, 3) := by decide +kernel
theorem c13_18 : mc_cd 13 18 = some (.aload_n 1, 1) := by decide +kernel
theorem c13_19 : mc_cd 13 19 = some (.iload_n 2, 1) := by decide +kernel
theorem c13_20 : mc_cd 13 20 = some (.invokevirtual 30, 3) := by decide +kernel
theorem c13_23 : mc_cd 13 23 = some (.iconst 0, 1) := by decide +kernel
theorem c13_24 : mc_cd 13 24 = some (.istore 4, 2) := by decide +kernel
theorem c13_26 : mc_cd 13 26 = some (.iload 4, 2) := by decide +kernel
theorem c13_28 : mc_cd 13 28 = some (.sipush 900, 3) := by decide +kernel
theorem c13_31 : mc_cd 13 31 = some (.if_icmp .gt 68, 3) := by decide +kernel
theorem c13_34 : mc_cd 13 34 = some (.aload_n 0, 1) := by decide +kernel
theorem c13_35 : mc_cd 13 35 = some (.aload_n 3, 1) := by decide +kernel
theorem c13_36 : mc_cd 13 36 = some (.invokevirtual 34, 3) := by decide +kernel
theorem c13_39 : mc_cd 13 39 = some (.ifCond .ne 5, 3) := by decide +kernel
theorem c13_42 : mc_cd 13 42 = some (.iconst 0, 1) := by decide +kernel
theorem c13_43 : mc_cd 13 43 = some (.ireturn, 1) := by decide +kernel
theorem c13_44 : mc_cd 13 44 = some (.aload_n 0, 1) := by decide +kernel
theorem c13_45 : mc_cd 13 45 = some (.getfield 12, 3) := by decide +kernel
theorem c13_48 : mc_cd 13 48 = some (.getfield 38, 3) := by decide +kernel
theorem c13_51 : mc_cd 13 51 = some (.ifCond .ne 32, 3) := by decide +kernel
theorem c13_54 : mc_cd 13 54 = some (.aload_n 3, 1) := by decide +kernel
theorem c13_55 : mc_cd 13 55 = some (.getfield 41, 3) := by decide +kernel
theorem c13_58 : mc_cd 13 58 = some (.ifCond .le 10, 3) := by decide +kernel
theorem c13_61 : mc_cd 13 61 = some (.aload_n 3, 1) := by decide +kernel
theorem c13_62 : mc_cd 13 62 = some (.getfield 44, 3) := by decide +kernel
theorem c13_65 : mc_cd 13 65 = some (.ifCond .gt 12, 3) := by decide +kernel
theorem c13_68 : mc_cd 13 68 = some (.aload_n 0, 1) := by decide +kernel
theorem c13_69 : mc_cd 13 69 = some (.bipush 6, 2) := by decide +kernel
theorem c13_71 : mc_cd 13 71 = some (.invokevirtual 47, 3) := by decide +kernel
theorem c13_74 : mc_cd 13 74 = some (.ifCond .eq 7, 3) := by decide +kernel
theorem c13_77 : mc_cd 13 77 = some (.iconst 1, 1) := by decide +kernel
theorem c13_78 : mc_cd 13 78 = some (.goto 4, 3) := by decide +kernel
theorem c13_81 : mc_cd 13 81 = some (.iconst 0, 1) := by decide +kernel
theorem c13_82 : mc_cd 13 82 = some (.ireturn, 1) := by decide +kernel
theorem c13_83 : mc_cd 13 83 = some (.aload_n 0, 1) := by decide +kernel
theorem c13_84 : mc_cd 13 84 = some (.iconst 3, 1) := by decide +kernel
theorem c13_85 : mc_cd 13 85 = some (.invokevirtual 51, 3) := by decide +kernel
theorem c13_88 : mc_cd 13 88 = some (.ifCond .ne 5, 3) := by decide +kernel
theorem c13_91 : mc_cd 13 91 = some (.iconst 0, 1) := by decide +kernel
theorem c13_92 : mc_cd 13 92 = some (.ireturn, 1) := by decide +kernel
theorem c13_93 : mc_cd 13 93 = some (.iinc 4 1, 3) := by decide +kernel
theorem c13_96 : mc_cd 13 96 = some (.goto (-70), 3) := by decide +kernel
theorem c13_99 : mc_cd 13 99 = some (.aload_n 0, 1) := by decide +kernel
theorem c13_100 : mc_cd 13 100 = some (.iconst 1, 1) := by decide +kernel
theorem c13_101 : mc_cd 13 101 = some (.invokevirtual 47, 3) := by decide +kernel
theorem c13_104 : mc_cd 13 104 = some (.ireturn, 1) := by decide +kernel
abbrev q_13 (r0 : Nat) (r1 : Nat) (a2 : Int) (r3 : Nat) (T : wq_T) (H : wq_H) : Option Value → wq_T → wq_H → Prop := fun r T' H' => T = T' ∧ WT T H' ∧ wfr [(27, 7), (27, 8), (27, 9), (27, 10), (27, 11), (27, 12), (27, 13), (27, 14), (27, 15), (27, 16), (27, 17), (27, 18), (35, 6), (35, 7), (35, 8), (35, 9), (35, 10), (35, 11), (35, 12), (35, 13), (35, 14), (35, 15), (35, 16), (35, 17), (3, 1), (3, 2), (3, 3), (3, 4), (4, 0), (4, 1), (4, 2), (4, 3), (4, 4), (4, 5), (4, 6), (31, 999), (34, 999), (29, 999), (30, 999), (33, 999), (32, 999)] T H H' ∧ ∃ z : Int, some (vI z) = r ∧ (0 ≤ z ∧ z ≤ 1)
set_option maxHeartbeats 4000000 in
theorem s_13 {kt : Nat → Option mc_E} {T : wq_T} {H : wq_H} {r0 : Nat} {r1 : Nat} {a2 : Int} {r3 : Nat} (hW : WT T H) (g0 : T.2.2.2 r0 = some 3) (g1 : T.2.2.2 r1 = some 2) (i2 : 0 ≤ a2 ∧ a2 ≤ 900) (g3 : T.2.2.2 r3 = some 27) : wpc kt 7 13 [.ref r0, .ref r1, vI a2, .ref r3] T H (q_13 r0 r1 a2 r3 T H) := by
  refine wp_enter e13 (Nat.le_of_ble_eq_true rfl) rfl ?_
  have f0 : wfr [(27, 7), (27, 8), (27, 9), (27, 10), (27, 11), (27, 12), (27, 13), (27, 14), (27, 15), (27, 16), (27, 17), (27, 18), (35, 6), (35, 7), (35, 8), (35, 9), (35, 10), (35, 11), (35, 12), (35, 13), (35, 14), (35, 15), (35, 16), (35, 17), (3, 1), (3, 2), (3, 3), (3, 4), (4, 0), (4, 1), (4, 2), (4, 3), (4, 4), (4, 5), (4, 6), (31, 999), (34, 999), (29, 999), (30, 999), (33, 999), (32, 999)] T H H := wfr.rf
  show wp _ _ 13 0 [(0, .ref r0), (1, .ref r1), (2, vI a2), (3, .ref r3)] [] _ H _
  refine wp_of e13 c13_0 (rw_aload_n (pc' := 1) (v := .ref r0) rfl rfl rfl ?_)
  refine wp_of e13 c13_1 (rw_iconst (pc' := 2) rfl ?_)
  refine wp_of e13 c13_2 (xp_I (pc' := 5) lf_1_18 hW g0 sh_3 (by decide) (by decide) ty_3_3 rfl rfl (by omega) (by omega) ⟨by omega, by omega⟩ rfl (fun H13535 e13536 w13537 => ?_))
  have f13538 := f0.put' e13536 g0 rfl
  have k13539 : H13535 r0 3 = 0 := wq_u_s e13536
  refine wp_of e13 c13_5 (rw_aload_n (pc' := 6) (v := .ref r0) rfl rfl rfl ?_)
  refine wp_of e13 c13_6 (rw_iconst (pc' := 7) rfl ?_)
  refine wp_of e13 c13_7 (xp_I (pc' := 10) lf_1_22 w13537 g0 sh_3 (by decide) (by decide) ty_3_4 rfl rfl (by omega) (by omega) ⟨by omega, by omega⟩ rfl (fun H13540 e13541 w13542 => ?_))
  have f13543 := f13538.put' e13541 g0 rfl
  have k13544 : H13540 r0 4 = -1 := wq_u_s e13541
  refine wp_of e13 c13_10 (rw_aload_n (pc' := 11) (v := .ref r3) rfl rfl rfl ?_)
  refine wp_of e13 c13_11 (xc_V (pc' := 14) (r := r3) (as := []) (st := []) (lm_1_25) rfl rfl (Nat.le_of_ble_eq_true rfl) w13542 g3 sh_27 (by decide) rfl (by decide) (s_14 w13542 g3) (fun R13545 T13546 H13547 p13548 => ?_))
  obtain ⟨e13549, w13551, f13552, e13550⟩ := p13548
  subst e13549
  subst e13550
  have f13553 := f13543.tr f13552 rfl
  show wp _ _ 13 14 [(0, .ref r0), (1, .ref r1), (2, vI a2), (3, .ref r3)] [] _ H13547 _
  refine wp_of e13 c13_14 (rw_aload_n (pc' := 15) (v := .ref r0) rfl rfl rfl ?_)
  refine wp_of e13 c13_15 (xg_R (pc' := 18) lf_1_12 w13551 g0 sh_3 (by decide) (by decide) ty_3_0 rfl rfl (fun r13554 q13555 g13556 => ?_))
  refine wp_of e13 c13_18 (rw_aload_n (pc' := 19) (v := .ref r1) rfl rfl rfl ?_)
  refine wp_of e13 c13_19 (rw_iload_n (pc' := 20) (z := a2) rfl rfl ?_)
  refine wp_of e13 c13_20 (xc_V (pc' := 23) (r := r13554) (as := [.ref r1, vI a2]) (st := []) (lm_1_30) rfl rfl (Nat.le_of_ble_eq_true rfl) w13551 g13556 sh_4 (by decide) rfl (by decide) (s_15 w13551 g13556 g1 ⟨by omega, by omega⟩) (fun R13557 T13558 H13559 p13560 => ?_))
  obtain ⟨e13561, w13563, f13564, e13562, p13565⟩ := p13560
  subst e13561
  subst e13562
  have f13566 := f13553.tr f13564 rfl
  show wp _ _ 13 23 [(0, .ref r0), (1, .ref r1), (2, vI a2), (3, .ref r3)] [] _ H13559 _
  refine wp_of e13 c13_23 (rw_iconst (pc' := 24) rfl ?_)
  refine wp_of e13 c13_24 (rw_istore (pc' := 26) (z := 0) (L' := [(4, vI 0), (0, .ref r0), (1, .ref r1), (2, vI a2), (3, .ref r3)]) rfl rfl rfl ?_)
  have lp13855 : ∀ (n13856 : Nat) (v13858 : Int) (H13859 : wq_H), WT T H13859 → wfr [(27, 7), (27, 8), (27, 9), (27, 10), (27, 11), (27, 12), (27, 13), (27, 14), (27, 15), (27, 16), (35, 6), (35, 7), (35, 8), (35, 9), (35, 10), (35, 11), (35, 12), (35, 13), (35, 14), (35, 15), (35, 16), (35, 17), (3, 1), (3, 2), (3, 3), (3, 4), (4, 2), (4, 3), (4, 4), (4, 5), (4, 6), (31, 999), (34, 999), (29, 999), (30, 999), (33, 999), (32, 999)] T H13559 H13859 → (0 ≤ v13858 ∧ v13858 ≤ 901) → (901 - v13858).toNat = n13856 → wp kt 6 13 26 [(4, vI v13858), (0, .ref r0), (3, .ref r3)] [] T H13859 (q_13 r0 r1 a2 r3 T H) := by
    intro n13856
    induction n13856 using Nat.strongRecOn with
    | _ n13856 ih13857 =>
      intro v13858 H13859 w13860 f13861 b13862 m13863
      have f13864 := f13566.tr f13861 rfl
      refine wp_of e13 c13_26 (rw_iload (pc' := 28) (z := v13858) rfl rfl ?_)
      refine wp_of e13 c13_28 (rw_sipush (pc' := 31) (z := 900) rfl (by decide) ?_)
      refine wp_of e13 c13_31 (rw_icmp_gt (p1 := 99) (p2 := 34) (by decide) rfl ⟨by omega, by omega⟩ ⟨by omega, by omega⟩ (fun c13865 => ?_) (fun c13865 => ?_))
      · refine wp_of e13 c13_99 (rw_aload_n (pc' := 100) (v := .ref r0) rfl rfl rfl ?_)
        refine wp_of e13 c13_100 (rw_iconst (pc' := 101) rfl ?_)
        refine wp_of e13 c13_101 (xc_V (pc' := 104) (r := r0) (as := [vI 1]) (st := []) (lm_1_47) rfl rfl (Nat.le_of_ble_eq_true rfl) w13860 g0 sh_3 (by decide) rfl (by decide) (s_20 w13860 g0 ⟨by omega, by omega⟩) (fun R13866 T13867 H13868 p13869 => ?_))
        obtain ⟨e13870, w13872, f13873, z13874, e13871, b13875⟩ := p13869
        subst e13870
        subst e13871
        have f13876 := f13864.tr f13873 rfl
        have f13877 := f13861.tr f13873 rfl
        show wp _ _ 13 104 [(4, vI v13858), (0, .ref r0), (3, .ref r3)] [vI z13874] _ H13868 _
        exact wp_zreturn e13 c13_104 rfl (by omega) ⟨rfl, w13872, f13876, z13874, rfl, ⟨by omega, by omega⟩⟩
      · refine wp_of e13 c13_34 (rw_aload_n (pc' := 35) (v := .ref r0) rfl rfl rfl ?_)
        refine wp_of e13 c13_35 (rw_aload_n (pc' := 36) (v := .ref r3) rfl rfl rfl ?_)
        have k13878 : H13859 r0 0 = H13547 r0 0 := ((f13861 r0 0 _ g0 rfl).trans (f13564 r0 0 _ g0 rfl))
        have q13879 : H13859 r0 0 = (r13554 : Int) := k13878.trans q13555
        have k13880 : H13859 r13554 0 = H13559 r13554 0 := (f13861 r13554 0 _ g13556 rfl)
        have q13881 : H13859 r13554 0 = (r1 : Int) := k13880.trans p13565
        refine wp_of e13 c13_36 (xc_V (pc' := 39) (r := r0) (as := [.ref r3]) (st := []) (lm_1_34) rfl rfl (Nat.le_of_ble_eq_true rfl) w13860 g0 sh_3 (by decide) rfl (by decide) (s_17 w13860 g0 g3 q13879 g13556 q13881 g1) (fun R13882 T13883 H13884 p13885 => ?_))
        obtain ⟨e13886, w13888, f13889, z13890, e13887, b13891⟩ := p13885
        subst e13886
        subst e13887
        have f13892 := f13864.tr f13889 rfl
        have f13893 := f13861.tr f13889 rfl
        show wp _ _ 13 39 [(4, vI v13858), (0, .ref r0), (3, .ref r3)] [vI z13890] _ H13884 _
        refine wp_of e13 c13_39 (rw_if_ne (p1 := 44) (p2 := 42) (by decide) rfl ⟨by omega, by omega⟩ (fun c13894 => ?_) (fun c13894 => ?_))
        · refine wp_of e13 c13_44 (rw_aload_n (pc' := 45) (v := .ref r0) rfl rfl rfl ?_)
          have k13895 : H13884 r0 0 = H13859 r0 0 := (f13889 r0 0 _ g0 rfl)
          have q13896 : H13884 r0 0 = (r13554 : Int) := k13895.trans q13879
          refine wp_of e13 c13_45 (xg_K (pc' := 48) lf_1_12 w13888 g0 sh_3 (by decide) (by decide) rfl q13896 rfl ?_)
          refine wp_of e13 c13_48 (xg_I (pc' := 51) lf_1_38 w13888 g13556 sh_4 (by decide) (by decide) ty_4_3 rfl rfl (fun b13897 b13898 => ?_))
          refine wp_of e13 c13_51 (rw_if_ne (p1 := 83) (p2 := 54) (by decide) rfl ⟨by omega, by omega⟩ (fun c13899 => ?_) (fun c13899 => ?_))
          · refine wp_of e13 c13_83 (rw_aload_n (pc' := 84) (v := .ref r0) rfl rfl rfl ?_)
            refine wp_of e13 c13_84 (rw_iconst (pc' := 85) rfl ?_)
            have k13900 : H13884 r13554 0 = H13859 r13554 0 := (f13889 r13554 0 _ g13556 rfl)
            have q13901 : H13884 r13554 0 = (r1 : Int) := k13900.trans q13881
            refine wp_of e13 c13_85 (xc_V (pc' := 88) (r := r0) (as := [vI 3]) (st := []) (lm_1_51) rfl rfl (Nat.le_of_ble_eq_true rfl) w13888 g0 sh_3 (by decide) rfl (by decide) (s_35 w13888 g0 ⟨by omega, by omega⟩ q13896 g13556 q13901 g1) (fun R13902 T13903 H13904 p13905 => ?_))
            obtain ⟨e13906, w13908, f13909, z13910, e13907, b13911⟩ := p13905
            subst e13906
            subst e13907
            have f13912 := f13892.tr f13909 rfl
            have f13913 := f13893.tr f13909 rfl
            show wp _ _ 13 88 [(4, vI v13858), (0, .ref r0), (3, .ref r3)] [vI z13910] _ H13904 _
            refine wp_of e13 c13_88 (rw_if_ne (p1 := 93) (p2 := 91) (by decide) rfl ⟨by omega, by omega⟩ (fun c13914 => ?_) (fun c13914 => ?_))
            · refine wp_of e13 c13_93 (rw_iinc (pc' := 96) (z := v13858) (L' := [(4, vI (v13858 + 1)), (0, .ref r0), (3, .ref r3)]) rfl rfl rfl rfl ?_)
              refine wp_of e13 c13_96 (rw_goto (p1 := 26) (by decide) ?_)
              exact wp_lc (ks := [4, 0, 3]) (wl_c rfl (wl_c rfl (wl_c rfl wl_n))) rfl (by decide) (ih13857 _ (by omega) (v13858 + 1) H13904 w13908 f13913 ⟨by omega, by omega⟩ rfl)
            · refine wp_of e13 c13_91 (rw_iconst (pc' := 92) rfl ?_)
              exact wp_zreturn e13 c13_92 rfl (by omega) ⟨rfl, w13908, f13912, 0, rfl, ⟨by omega, by omega⟩⟩
          · refine wp_of e13 c13_54 (rw_aload_n (pc' := 55) (v := .ref r3) rfl rfl rfl ?_)
            refine wp_of e13 c13_55 (xg_I (pc' := 58) lf_1_41 w13888 g3 sh_27 (by decide) (by decide) ty_27_7 rfl rfl (fun b13915 b13916 => ?_))
            refine wp_of e13 c13_58 (rw_if_le (p1 := 68) (p2 := 61) (by decide) rfl ⟨by omega, by omega⟩ (fun c13917 => ?_) (fun c13917 => ?_))
            · refine wp_of e13 c13_68 (rw_aload_n (pc' := 69) (v := .ref r0) rfl rfl rfl ?_)
              refine wp_of e13 c13_69 (rw_bipush (pc' := 71) (z := 6) rfl (by decide) ?_)
              refine wp_of e13 c13_71 (xc_V (pc' := 74) (r := r0) (as := [vI 6]) (st := []) (lm_1_47) rfl rfl (Nat.le_of_ble_eq_true rfl) w13888 g0 sh_3 (by decide) rfl (by decide) (s_20 w13888 g0 ⟨by omega, by omega⟩) (fun R13918 T13919 H13920 p13921 => ?_))
              obtain ⟨e13922, w13924, f13925, z13926, e13923, b13927⟩ := p13921
              subst e13922
              subst e13923
              have f13928 := f13892.tr f13925 rfl
              have f13929 := f13893.tr f13925 rfl
              show wp _ _ 13 74 [(4, vI v13858), (0, .ref r0), (3, .ref r3)] [vI z13926] _ H13920 _
              refine wp_of e13 c13_74 (rw_if_eq (p1 := 81) (p2 := 77) (by decide) rfl ⟨by omega, by omega⟩ (fun c13930 => ?_) (fun c13930 => ?_))
              · refine wp_of e13 c13_81 (rw_iconst (pc' := 82) rfl ?_)
                exact wp_zreturn e13 c13_82 rfl (by omega) ⟨rfl, w13924, f13928, 0, rfl, ⟨by omega, by omega⟩⟩
              · refine wp_of e13 c13_77 (rw_iconst (pc' := 78) rfl ?_)
                refine wp_of e13 c13_78 (rw_goto (p1 := 82) (by decide) ?_)
                exact wp_zreturn e13 c13_82 rfl (by omega) ⟨rfl, w13924, f13928, 1, rfl, ⟨by omega, by omega⟩⟩
            · refine wp_of e13 c13_61 (rw_aload_n (pc' := 62) (v := .ref r3) rfl rfl rfl ?_)
              refine wp_of e13 c13_62 (xg_I (pc' := 65) lf_1_44 w13888 g3 sh_27 (by decide) (by decide) ty_27_10 rfl rfl (fun b13931 b13932 => ?_))
              refine wp_of e13 c13_65 (rw_if_gt (p1 := 77) (p2 := 68) (by decide) rfl ⟨by omega, by omega⟩ (fun c13933 => ?_) (fun c13933 => ?_))
              · refine wp_of e13 c13_77 (rw_iconst (pc' := 78) rfl ?_)
                refine wp_of e13 c13_78 (rw_goto (p1 := 82) (by decide) ?_)
                exact wp_zreturn e13 c13_82 rfl (by omega) ⟨rfl, w13888, f13892, 1, rfl, ⟨by omega, by omega⟩⟩
              · refine wp_of e13 c13_68 (rw_aload_n (pc' := 69) (v := .ref r0) rfl rfl rfl ?_)
                refine wp_of e13 c13_69 (rw_bipush (pc' := 71) (z := 6) rfl (by decide) ?_)
                refine wp_of e13 c13_71 (xc_V (pc' := 74) (r := r0) (as := [vI 6]) (st := []) (lm_1_47) rfl rfl (Nat.le_of_ble_eq_true rfl) w13888 g0 sh_3 (by decide) rfl (by decide) (s_20 w13888 g0 ⟨by omega, by omega⟩) (fun R13934 T13935 H13936 p13937 => ?_))
                obtain ⟨e13938, w13940, f13941, z13942, e13939, b13943⟩ := p13937
                subst e13938
                subst e13939
                have f13944 := f13892.tr f13941 rfl
                have f13945 := f13893.tr f13941 rfl
                show wp _ _ 13 74 [(4, vI v13858), (0, .ref r0), (3, .ref r3)] [vI z13942] _ H13936 _
                refine wp_of e13 c13_74 (rw_if_eq (p1 := 81) (p2 := 77) (by decide) rfl ⟨by omega, by omega⟩ (fun c13946 => ?_) (fun c13946 => ?_))
                · refine wp_of e13 c13_81 (rw_iconst (pc' := 82) rfl ?_)
                  exact wp_zreturn e13 c13_82 rfl (by omega) ⟨rfl, w13940, f13944, 0, rfl, ⟨by omega, by omega⟩⟩
                · refine wp_of e13 c13_77 (rw_iconst (pc' := 78) rfl ?_)
                  refine wp_of e13 c13_78 (rw_goto (p1 := 82) (by decide) ?_)
                  exact wp_zreturn e13 c13_82 rfl (by omega) ⟨rfl, w13940, f13944, 1, rfl, ⟨by omega, by omega⟩⟩
        · refine wp_of e13 c13_42 (rw_iconst (pc' := 43) rfl ?_)
          exact wp_zreturn e13 c13_43 rfl (by omega) ⟨rfl, w13888, f13892, 0, rfl, ⟨by omega, by omega⟩⟩
  exact wp_lc (ks := [4, 0, 1, 2, 3]) (wl_c rfl (wl_c rfl (wl_c rfl wl_n))) rfl (by decide) (lp13855 _ 0 H13559 w13563 wfr.rf ⟨by omega, by omega⟩ rfl)
/-! StrikeAwake$Parish.allHours()I -/
theorem e45 : wq_en 45 = some (7, 1, false, some FieldType.int) := rfl
theorem c45_0 : mc_cd 45 0 = some (.iconst 0, 1) := by decide +kernel
theorem c45_1 : mc_cd 45 1 = some (.aload_n 0, 1) := by decide +kernel
theorem c45_2 : mc_cd 45 2 = some (.getfield 41, 3) := by decide +kernel
theorem c45_5 : mc_cd 45 5 = some (.invokestatic 92, 3) := by decide +kernel
theorem c45_8 : mc_cd 45 8 = some (.ireturn, 1) := by decide +kernel
abbrev q_45 (r0 : Nat) (T : wq_T) (H : wq_H) : Option Value → wq_T → wq_H → Prop := fun r T' H' => T = T' ∧ H = H' ∧ ∃ z : Int, some (vI z) = r ∧ ((-2147483648) ≤ z ∧ z ≤ 2147483647)
set_option maxHeartbeats 4000000 in
theorem s_45 {kt : Nat → Option mc_E} {T : wq_T} {H : wq_H} {r0 : Nat} (hW : WT T H) (g0 : T.2.2.2 r0 = some 27) : wpc kt 2 45 [.ref r0] T H (q_45 r0 T H) := by
  refine wp_enter e45 (Nat.le_of_ble_eq_true rfl) rfl ?_
  show wp _ _ 45 0 [(0, .ref r0)] [] _ H _
  refine wp_of e45 c45_0 (rw_iconst (pc' := 1) rfl ?_)
  refine wp_of e45 c45_1 (rw_aload_n (pc' := 2) (v := .ref r0) rfl rfl rfl ?_)
  refine wp_of e45 c45_2 (xg_I (pc' := 5) lf_7_41 hW g0 sh_27 (by decide) (by decide) ty_27_7 rfl rfl (fun b13958 b13959 => ?_))
  refine wp_of e45 c45_5 (xc_S (pc' := 8) (as := [vI 0, vI (H r0 7)]) (st := []) (lm_7_92) rfl rfl (Nat.le_of_ble_eq_true rfl) rfl (by decide) (s_31 hW ⟨by omega, by omega⟩ ⟨by omega, by omega⟩) (fun R13960 T13961 H13962 p13963 => ?_))
  obtain ⟨e13964, e13966, z13967, e13965, b13968⟩ := p13963
  subst e13964
  subst e13965
  subst e13966
  show wp _ _ 45 8 [(0, .ref r0)] [vI z13967] _ H _
  exact wp_ireturn e45 c45_8 rfl ⟨rfl, rfl, z13967, rfl, ⟨by omega, by omega⟩⟩
/-! StrikeAwake$Parish.hoursStruckUpTo(I)I -/
theorem e46 : wq_en 46 = some (7, 4, false, some FieldType.int) := rfl
theorem c46_0 : mc_cd 46 0 = some (.iconst 0, 1) := by decide +kernel
theorem c46_1 : mc_cd 46 1 = some (.istore_n 2, 1) := by decide +kernel
theorem c46_2 : mc_cd 46 2 = some (.iconst 0, 1) := by decide +kernel
theorem c46_3 : mc_cd 46 3 = some (.istore_n 3, 1) := by decide +kernel
theorem c46_4 : mc_cd 46 4 = some (.iload_n 3, 1) := by decide +kernel
theorem c46_5 : mc_cd 46 5 = some (.aload_n 0, 1) := by decide +kernel
theorem c46_6 : mc_cd 46 6 = some (.getfield 65, 3) := by decide +kernel
theorem c46_9 : mc_cd 46 9 = some (.if_icmp .ge 35, 3) := by decide +kernel
theorem c46_12 : mc_cd 46 12 = some (.aload_n 0, 1) := by decide +kernel
theorem c46_13 : mc_cd 46 13 = some (.getfield 17, 3) := by decide +kernel
theorem c46_16 : mc_cd 46 16 = some (.aload_n 0, 1) := by decide +kernel
theorem c46_17 : mc_cd 46 17 = some (.getfield 21, 3) := by decide +kernel
theorem c46_20 : mc_cd 46 20 = some (.iload_n 3, 1) := by decide +kernel
theorem c46_21 : mc_cd 46 21 = some (.iaload, 1) := by decide +kernel
theorem c46_22 : mc_cd 46 22 = some (.iaload, 1) := by decide +kernel
theorem c46_23 : mc_cd 46 23 = some (.iload_n 1, 1) := by decide +kernel
theorem c46_24 : mc_cd 46 24 = some (.if_icmp .gt 14, 3) := by decide +kernel
theorem c46_27 : mc_cd 46 27 = some (.iload_n 2, 1) := by decide +kernel
theorem c46_28 : mc_cd 46 28 = some (.iconst 1, 1) := by decide +kernel
theorem c46_29 : mc_cd 46 29 = some (.aload_n 0, 1) := by decide +kernel
theorem c46_30 : mc_cd 46 30 = some (.getfield 21, 3) := by decide +kernel
theorem c46_33 : mc_cd 46 33 = some (.iload_n 3, 1) := by decide +kernel
theorem c46_34 : mc_cd 46 34 = some (.iaload, 1) := by decide +kernel
theorem c46_35 : mc_cd 46 35 = some (.ishl, 1) := by decide +kernel
theorem c46_36 : mc_cd 46 36 = some (.ior, 1) := by decide +kernel
theorem c46_37 : mc_cd 46 37 = some (.istore_n 2, 1) := by decide +kernel
theorem c46_38 : mc_cd 46 38 = some (.iinc 3 1, 3) := by decide +kernel
theorem c46_41 : mc_cd 46 41 = some (.goto (-37), 3) := by decide +kernel
theorem c46_44 : mc_cd 46 44 = some (.iload_n 2, 1) := by decide +kernel
theorem c46_45 : mc_cd 46 45 = some (.ireturn, 1) := by decide +kernel
abbrev q_46 (r0 : Nat) (a1 : Int) (T : wq_T) (H : wq_H) : Option Value → wq_T → wq_H → Prop := fun r T' H' => T = T' ∧ H = H' ∧ ∃ z : Int, some (vI z) = r ∧ ((-2147483648) ≤ z ∧ z ≤ 2147483647)
set_option maxHeartbeats 4000000 in
theorem s_46 {kt : Nat → Option mc_E} {T : wq_T} {H : wq_H} {r0 : Nat} {a1 : Int} (hW : WT T H) (g0 : T.2.2.2 r0 = some 27) (i1 : (-2147483648) ≤ a1 ∧ a1 ≤ 2147483647) : wpc kt 1 46 [.ref r0, vI a1] T H (q_46 r0 a1 T H) := by
  refine wp_enter e46 (Nat.le_of_ble_eq_true rfl) rfl ?_
  show wp _ _ 46 0 [(0, .ref r0), (1, vI a1)] [] _ H _
  refine wp_of e46 c46_0 (rw_iconst (pc' := 1) rfl ?_)
  refine wp_of e46 c46_1 (rw_istore_n (pc' := 2) (z := 0) (L' := [(2, vI 0), (0, .ref r0), (1, vI a1)]) rfl rfl rfl ?_)
  refine wp_of e46 c46_2 (rw_iconst (pc' := 3) rfl ?_)
  refine wp_of e46 c46_3 (rw_istore_n (pc' := 4) (z := 0) (L' := [(3, vI 0), (2, vI 0), (0, .ref r0), (1, vI a1)]) rfl rfl rfl ?_)
  have lp14310 : ∀ (n14311 : Nat) (v14313 : Int) (v14314 : Int), (0 ≤ v14313 ∧ v14313 ≤ 24) → ((-2147483648) ≤ v14314 ∧ v14314 ≤ 2147483647) → (24 - v14313).toNat = n14311 → wp kt 0 46 4 [(3, vI v14313), (2, vI v14314), (0, .ref r0), (1, vI a1)] [] T H (q_46 r0 a1 T H) := by
    intro n14311
    induction n14311 using Nat.strongRecOn with
    | _ n14311 ih14312 =>
      intro v14313 v14314 b14317 b14318 m14319
      refine wp_of e46 c46_4 (rw_iload_n (pc' := 5) (z := v14313) rfl rfl ?_)
      refine wp_of e46 c46_5 (rw_aload_n (pc' := 6) (v := .ref r0) rfl rfl rfl ?_)
      refine wp_of e46 c46_6 (xg_I (pc' := 9) lf_7_65 hW g0 sh_27 (by decide) (by decide) ty_27_16 rfl rfl (fun b14320 b14321 => ?_))
      refine wp_of e46 c46_9 (rw_icmp_ge (p1 := 44) (p2 := 12) (by decide) rfl ⟨by omega, by omega⟩ ⟨by omega, by omega⟩ (fun c14322 => ?_) (fun c14322 => ?_))
      · refine wp_of e46 c46_44 (rw_iload_n (pc' := 45) (z := v14314) rfl rfl ?_)
        exact wp_ireturn e46 c46_45 rfl ⟨rfl, rfl, v14314, rfl, ⟨by omega, by omega⟩⟩
      · refine wp_of e46 c46_12 (rw_aload_n (pc' := 13) (v := .ref r0) rfl rfl rfl ?_)
        refine wp_of e46 c46_13 (xg_R (pc' := 16) lf_7_17 hW g0 sh_27 (by decide) (by decide) ty_27_1 rfl rfl (fun r14323 q14324 g14325 => ?_))
        refine wp_of e46 c46_16 (rw_aload_n (pc' := 17) (v := .ref r0) rfl rfl rfl ?_)
        refine wp_of e46 c46_17 (xg_R (pc' := 20) lf_7_21 hW g0 sh_27 (by decide) (by decide) ty_27_2 rfl rfl (fun r14326 q14327 g14328 => ?_))
        refine wp_of e46 c46_20 (rw_iload_n (pc' := 21) (z := v14313) rfl rfl ?_)
        refine wp_of e46 c46_21 (xa_I (so := 0) (pc' := 22) hW g14328 sh_30 (by decide) (ty_30 _) (by omega) (by omega) rfl (fun b14329 b14330 => ?_))
        refine wp_of e46 c46_22 (xa_I (so := 0) (pc' := 23) hW g14325 sh_29 (by decide) (ty_29 _) (by omega) (by omega) rfl (fun b14331 b14332 => ?_))
        refine wp_of e46 c46_23 (rw_iload_n (pc' := 24) (z := a1) rfl rfl ?_)
        refine wp_of e46 c46_24 (rw_icmp_gt (p1 := 38) (p2 := 27) (by decide) rfl ⟨by omega, by omega⟩ ⟨by omega, by omega⟩ (fun c14333 => ?_) (fun c14333 => ?_))
        · refine wp_of e46 c46_38 (rw_iinc (pc' := 41) (z := v14313) (L' := [(3, vI (v14313 + 1)), (2, vI v14314), (0, .ref r0), (1, vI a1)]) rfl rfl rfl rfl ?_)
          refine wp_of e46 c46_41 (rw_goto (p1 := 4) (by decide) ?_)
          exact wp_lc (ks := [3, 2, 0, 1]) (wl_c rfl (wl_c rfl (wl_c rfl (wl_c rfl wl_n)))) rfl (by decide) (ih14312 _ (by omega) (v14313 + 1) v14314 ⟨by omega, by omega⟩ ⟨by omega, by omega⟩ rfl)
        · refine wp_of e46 c46_27 (rw_iload_n (pc' := 28) (z := v14314) rfl rfl ?_)
          refine wp_of e46 c46_28 (rw_iconst (pc' := 29) rfl ?_)
          refine wp_of e46 c46_29 (rw_aload_n (pc' := 30) (v := .ref r0) rfl rfl rfl ?_)
          refine wp_of e46 c46_30 (xg_K (pc' := 33) lf_7_21 hW g0 sh_27 (by decide) (by decide) rfl q14327 rfl ?_)
          refine wp_of e46 c46_33 (rw_iload_n (pc' := 34) (z := v14313) rfl rfl ?_)
          refine wp_of e46 c46_34 (xa_I (so := 0) (pc' := 35) hW g14328 sh_30 (by decide) (ty_30 _) (by omega) (by omega) rfl (fun b14334 b14335 => ?_))
          refine wp_of e46 c46_35 (rw_ishl (pc' := 36) rfl ?_)
          obtain ⟨v14336, e14337⟩ : ∃ x : Int, x = wq_shl 1 (H r14326 v14313.toNat) := ⟨_, rfl⟩
          rw [← e14337]
          have b14338 : -2147483648 ≤ v14336 ∧ v14336 ≤ 2147483647 := by
            rw [e14337]
            exact wI_shl _ _
          refine wp_of e46 c46_36 (rw_ior (pc' := 37) rfl ?_)
          obtain ⟨v14339, e14340⟩ : ∃ x : Int, x = wq_or v14314 v14336 := ⟨_, rfl⟩
          rw [← e14340]
          have b14341 : -2147483648 ≤ v14339 ∧ v14339 ≤ 2147483647 := by
            rw [e14340]
            exact wI_or _ _
          refine wp_of e46 c46_37 (rw_istore_n (pc' := 38) (z := v14339) (L' := [(2, vI v14339), (3, vI v14313), (0, .ref r0), (1, vI a1)]) rfl rfl rfl ?_)
          refine wp_of e46 c46_38 (rw_iinc (pc' := 41) (z := v14313) (L' := [(3, vI (v14313 + 1)), (2, vI v14339), (0, .ref r0), (1, vI a1)]) rfl rfl rfl rfl ?_)
          refine wp_of e46 c46_41 (rw_goto (p1 := 4) (by decide) ?_)
          exact wp_lc (ks := [3, 2, 0, 1]) (wl_c rfl (wl_c rfl (wl_c rfl (wl_c rfl wl_n)))) rfl (by decide) (ih14312 _ (by omega) (v14313 + 1) v14339 ⟨by omega, by omega⟩ ⟨by omega, by omega⟩ rfl)
  exact wp_lc (ks := [3, 2, 0, 1]) (wl_c rfl (wl_c rfl (wl_c rfl (wl_c rfl wl_n)))) rfl (by decide) (lp14310 _ 0 0 ⟨by omega, by omega⟩ ⟨by omega, by omega⟩ rfl)
/-! StrikeAwake$Walk.tallyOf(I)J -/
theorem e49 : wq_en 49 = some (3, 4, false, some FieldType.long) := rfl
theorem c49_0 : mc_cd 49 0 = some (.lconst 0, 1) := by decide +kernel
theorem c49_1 : mc_cd 49 1 = some (.lstore_n 1, 1) := by decide +kernel
theorem c49_2 : mc_cd 49 2 = some (.iconst 0, 1) := by decide +kernel
theorem c49_3 : mc_cd 49 3 = some (.istore_n 3, 1) := by decide +kernel
theorem c49_4 : mc_cd 49 4 = some (.iload_n 3, 1) := by decide +kernel
theorem c49_5 : mc_cd 49 5 = some (.bipush 12, 2) := by decide +kernel
theorem c49_7 : mc_cd 49 7 = some (.if_icmp .ge 22, 3) := by decide +kernel
theorem c49_10 : mc_cd 49 10 = some (.lload_n 1, 1) := by decide +kernel
theorem c49_11 : mc_cd 49 11 = some (.iload_n 0, 1) := by decide +kernel
theorem c49_12 : mc_cd 49 12 = some (.iload_n 3, 1) := by decide +kernel
theorem c49_13 : mc_cd 49 13 = some (.ishr, 1) := by decide +kernel
theorem c49_14 : mc_cd 49 14 = some (.i2l, 1) := by decide +kernel
theorem c49_15 : mc_cd 49 15 = some (.lconst 1, 1) := by decide +kernel
theorem c49_16 : mc_cd 49 16 = some (.land, 1) := by decide +kernel
theorem c49_17 : mc_cd 49 17 = some (.iload_n 3, 1) := by decide +kernel
theorem c49_18 : mc_cd 49 18 = some (.iconst 4, 1) := by decide +kernel
theorem c49_19 : mc_cd 49 19 = some (.imul, 1) := by decide +kernel
theorem c49_20 : mc_cd 49 20 = some (.lshl, 1) := by decide +kernel
theorem c49_21 : mc_cd 49 21 = some (.lor, 1) := by decide +kernel
theorem c49_22 : mc_cd 49 22 = some (.lstore_n 1, 1) := by decide +kernel
theorem c49_23 : mc_cd 49 23 = some (.iinc 3 1, 3) := by decide +kernel
theorem c49_26 : mc_cd 49 26 = some (.goto (-22), 3) := by decide +kernel
theorem c49_29 : mc_cd 49 29 = some (.lload_n 1, 1) := by decide +kernel
theorem c49_30 : mc_cd 49 30 = some (.lreturn, 1) := by decide +kernel
abbrev q_49 (a0 : Int) (T : wq_T) (H : wq_H) : Option Value → wq_T → wq_H → Prop := fun r T' H' => T = T' ∧ H = H' ∧ ∃ z : Int, some (vL z) = r ∧ ((-9223372036854775808) ≤ z ∧ z ≤ 9223372036854775807)
set_option maxHeartbeats 4000000 in
theorem s_49 {kt : Nat → Option mc_E} {T : wq_T} {H : wq_H} {a0 : Int} (hW : WT T H) (i0 : (-2147483648) ≤ a0 ∧ a0 ≤ 2147483647) : wpc kt 1 49 [vI a0] T H (q_49 a0 T H) := by
  refine wp_enter e49 (Nat.le_of_ble_eq_true rfl) rfl ?_
  show wp _ _ 49 0 [(0, vI a0)] [] _ H _
  refine wp_of e49 c49_0 (rw_lconst (pc' := 1) (z := 0) rfl rfl ?_)
  refine wp_of e49 c49_1 (rw_lstore_n (pc' := 2) (z := 0) (L' := [(1, vL 0), (0, vI a0)]) rfl rfl rfl ?_)
  refine wp_of e49 c49_2 (rw_iconst (pc' := 3) rfl ?_)
  refine wp_of e49 c49_3 (rw_istore_n (pc' := 4) (z := 0) (L' := [(3, vI 0), (1, vL 0), (0, vI a0)]) rfl rfl rfl ?_)
  have lp14496 : ∀ (n14497 : Nat) (v14499 : Int) (v14500 : Int), (0 ≤ v14499 ∧ v14499 ≤ 12) → ((-9223372036854775808) ≤ v14500 ∧ v14500 ≤ 9223372036854775807) → (12 - v14499).toNat = n14497 → wp kt 0 49 4 [(3, vI v14499), (1, vL v14500), (0, vI a0)] [] T H (q_49 a0 T H) := by
    intro n14497
    induction n14497 using Nat.strongRecOn with
    | _ n14497 ih14498 =>
      intro v14499 v14500 b14503 b14504 m14505
      refine wp_of e49 c49_4 (rw_iload_n (pc' := 5) (z := v14499) rfl rfl ?_)
      refine wp_of e49 c49_5 (rw_bipush (pc' := 7) (z := 12) rfl (by decide) ?_)
      refine wp_of e49 c49_7 (rw_icmp_ge (p1 := 29) (p2 := 10) (by decide) rfl ⟨by omega, by omega⟩ ⟨by omega, by omega⟩ (fun c14506 => ?_) (fun c14506 => ?_))
      · refine wp_of e49 c49_29 (rw_lload_n (pc' := 30) (z := v14500) rfl rfl ?_)
        exact wp_lreturn e49 c49_30 rfl ⟨rfl, rfl, v14500, rfl, ⟨by omega, by omega⟩⟩
      · refine wp_of e49 c49_10 (rw_lload_n (pc' := 11) (z := v14500) rfl rfl ?_)
        refine wp_of e49 c49_11 (rw_iload_n (pc' := 12) (z := a0) rfl rfl ?_)
        refine wp_of e49 c49_12 (rw_iload_n (pc' := 13) (z := v14499) rfl rfl ?_)
        refine wp_of e49 c49_13 (rw_ishr (pc' := 14) rfl ?_)
        obtain ⟨v14507, e14508⟩ : ∃ x : Int, x = wq_shr a0 v14499 := ⟨_, rfl⟩
        rw [← e14508]
        have b14509 : -2147483648 ≤ v14507 ∧ v14507 ≤ 2147483647 := by
          rw [e14508]
          exact wI_shr _ _
        refine wp_of e49 c49_14 (rw_i2l (pc' := 15) rfl ⟨by omega, by omega⟩ ?_)
        refine wp_of e49 c49_15 (rw_lconst (pc' := 16) (z := 1) rfl rfl ?_)
        refine wp_of e49 c49_16 (rw_land (pc' := 17) rfl ?_)
        obtain ⟨v14510, e14511⟩ : ∃ x : Int, x = wl_and v14507 1 := ⟨_, rfl⟩
        rw [← e14511]
        have b14512 : -9223372036854775808 ≤ v14510 ∧ v14510 ≤ 9223372036854775807 := by
          rw [e14511]
          exact wL_and _ _
        refine wp_of e49 c49_17 (rw_iload_n (pc' := 18) (z := v14499) rfl rfl ?_)
        refine wp_of e49 c49_18 (rw_iconst (pc' := 19) rfl ?_)
        refine wp_of e49 c49_19 (rw_imul (pc' := 20) rfl ?_)
        refine wp_of e49 c49_20 (rw_lshl (pc' := 21) rfl ?_)
        obtain ⟨v14513, e14514⟩ : ∃ x : Int, x = wl_shl v14510 (v14499 * 4) := ⟨_, rfl⟩
        rw [← e14514]
        have b14515 : -9223372036854775808 ≤ v14513 ∧ v14513 ≤ 9223372036854775807 := by
          rw [e14514]
          exact wL_shl _ _
        refine wp_of e49 c49_21 (rw_lor (pc' := 22) rfl ?_)
        obtain ⟨v14516, e14517⟩ : ∃ x : Int, x = wl_or v14500 v14513 := ⟨_, rfl⟩
        rw [← e14517]
        have b14518 : -9223372036854775808 ≤ v14516 ∧ v14516 ≤ 9223372036854775807 := by
          rw [e14517]
          exact wL_or _ _
        refine wp_of e49 c49_22 (rw_lstore_n (pc' := 23) (z := v14516) (L' := [(1, vL v14516), (3, vI v14499), (0, vI a0)]) rfl rfl rfl ?_)
        refine wp_of e49 c49_23 (rw_iinc (pc' := 26) (z := v14499) (L' := [(3, vI (v14499 + 1)), (1, vL v14516), (0, vI a0)]) rfl rfl rfl rfl ?_)
        refine wp_of e49 c49_26 (rw_goto (p1 := 4) (by decide) ?_)
        exact wp_lc (ks := [3, 1, 0]) (wl_c rfl (wl_c rfl (wl_c rfl wl_n))) rfl (by decide) (ih14498 _ (by omega) (v14499 + 1) v14516 ⟨by omega, by omega⟩ ⟨by omega, by omega⟩ rfl)
  exact wp_lc (ks := [3, 1, 0]) (wl_c rfl (wl_c rfl (wl_c rfl wl_n))) rfl (by decide) (lp14496 _ 0 0 ⟨by omega, by omega⟩ ⟨by omega, by omega⟩ rfl)
/-! StrikeAwake$Person.addSpan(IIII)V -/
theorem e48 : wq_en 48 = some (8, 5, false, none) := rfl
theorem c48_0 : mc_cd 48 0 = some (.aload_n 0, 1) := by decide +kernel
theorem c48_1 : mc_cd 48 1 = some (.getfield 49, 3) := by decide +kernel
theorem c48_4 : mc_cd 48 4 = some (.bipush 40, 2) := by decide +kernel
theorem c48_6 : mc_cd 48 6 = some (.if_icmp .lt 4, 3) := by decide +kernel
theorem c48_9 : mc_cd 48 9 = some (.return_, 1) := by decide +kernel
theorem c48_10 : mc_cd 48 10 = some (.aload_n 0, 1) := by decide +kernel
theorem c48_11 : mc_cd 48 11 = some (.getfield 9, 3) := by decide +kernel
theorem c48_14 : mc_cd 48 14 = some (.aload_n 0, 1) := by decide +kernel
theorem c48_15 : mc_cd 48 15 = some (.getfield 49, 3) := by decide +kernel
theorem c48_18 : mc_cd 48 18 = some (.iload_n 1, 1) := by decide +kernel
theorem c48_19 : mc_cd 48 19 = some (.iastore, 1) := by decide +kernel
theorem c48_20 : mc_cd 48 20 = some (.aload_n 0, 1) := by decide +kernel
theorem c48_21 : mc_cd 48 21 = some (.getfield 15, 3) := by decide +kernel
theorem c48_24 : mc_cd 48 24 = some (.aload_n 0, 1) := by decide +kernel
theorem c48_25 : mc_cd 48 25 = some (.getfield 49, 3) := by decide +kernel
theorem c48_28 : mc_cd 48 28 = some (.iload_n 2, 1) := by decide +kernel
theorem c48_29 : mc_cd 48 29 = some (.iastore, 1) := by decide +kernel
theorem c48_30 : mc_cd 48 30 = some (.aload_n 0, 1) := by decide +kernel
theorem c48_31 : mc_cd 48 31 = some (.getfield 18, 3) := by decide +kernel
theorem c48_34 : mc_cd 48 34 = some (.aload_n 0, 1) := by decide +kernel
theorem c48_35 : mc_cd 48 35 = some (.getfield 49, 3) := by decide +kernel
theorem c48_38 : mc_cd 48 38 = some (.iload_n 3, 1) := by decide +kernel
theorem c48_39 : mc_cd 48 39 = some (.iastore, 1) := by decide +kernel
theorem c48_40 : mc_cd 48 40 = some (.aload_n 0, 1) := by decide +kernel
theorem c48_41 : mc_cd 48 41 = some (.getfield 21, 3) := by decide +kernel
theorem c48_44 : mc_cd 48 44 = some (.aload_n 0, 1) := by decide +kernel
theorem c48_45 : mc_cd 48 45 = some (.getfield 49, 3) := by decide +kernel
theorem c48_48 : mc_cd 48 48 = some (.iload 4, 2) := by decide +kernel
theorem c48_50 : mc_cd 48 50 = some (.iastore, 1) := by decide +kernel
theorem c48_51 : mc_cd 48 51 = some (.aload_n 0, 1) := by decide +kernel
theorem c48_52 : mc_cd 48 52 = some (.getfield 24, 3) := by decide +kernel
theorem c48_55 : mc_cd 48 55 = some (.aload_n 0, 1) := by decide +kernel
theorem c48_56 : mc_cd 48 56 = some (.getfield 49, 3) := by decide +kernel
theorem c48_59 : mc_cd 48 59 = some (.iload 4, 2) := by decide +kernel
theorem c48_61 : mc_cd 48 61 = some (.invokestatic 78, 3) := by decide +kernel
theorem c48_64 : mc_cd 48 64 = some (.lastore, 1) := by decide +kernel
theorem c48_65 : mc_cd 48 65 = some (.aload_n 0, 1) := by decide +kernel
theorem c48_66 : mc_cd 48 66 = some (.getfield 28, 3) := by decide +kernel
theorem c48_69 : mc_cd 48 69 = some (.aload_n 0, 1) := by decide +kernel
theorem c48_70 : mc_cd 48 70 = some (.getfield 49, 3) := by decide +kernel
theorem c48_73 : mc_cd 48 73 = some (.iload 4, 2) := by decide +kernel
theorem c48_75 : mc_cd 48 75 = some (.bipush 12, 2) := by decide +kernel
theorem c48_77 : mc_cd 48 77 = some (.ishr, 1) := by decide +kernel
theorem c48_78 : mc_cd 48 78 = some (.invokestatic 78, 3) := by decide +kernel
theorem c48_81 : mc_cd 48 81 = some (.lastore, 1) := by decide +kernel
theorem c48_82 : mc_cd 48 82 = some (.aload_n 0, 1) := by decide +kernel
theorem c48_83 : mc_cd 48 83 = some (.dup, 1) := by decide +kernel
theorem c48_84 : mc_cd 48 84 = some (.getfield 49, 3) := by decide +kernel
theorem c48_87 : mc_cd 48 87 = some (.iconst 1, 1) := by decide +kernel
theorem c48_88 : mc_cd 48 88 = some (.iadd, 1) := by decide +kernel
theorem c48_89 : mc_cd 48 89 = some (.putfield 49, 3) := by decide +kernel
theorem c48_92 : mc_cd 48 92 = some (.return_, 1) := by decide +kernel
abbrev q_48 (r0 : Nat) (a1 : Int) (a2 : Int) (a3 : Int) (a4 : Int) (T : wq_T) (H : wq_H) : Option Value → wq_T → wq_H → Prop := fun r T' H' => T = T' ∧ WT T H' ∧ wfr [(35, 15), (38, 999), (39, 999), (36, 999), (40, 999), (41, 999), (37, 999)] T H H' ∧ none = r
set_option maxHeartbeats 4000000 in
theorem s_48 {kt : Nat → Option mc_E} {T : wq_T} {H : wq_H} {r0 : Nat} {a1 : Int} {a2 : Int} {a3 : Int} {a4 : Int} (hW : WT T H) (g0 : T.2.2.2 r0 = some 35) (i1 : (-1) ≤ a1 ∧ a1 ≤ 24) (i2 : (-1) ≤ a2 ∧ a2 ≤ 24) (i3 : (-2147483648) ≤ a3 ∧ a3 ≤ 2147483647) (i4 : (-2147483648) ≤ a4 ∧ a4 ≤ 2147483647) : wpc kt 2 48 [.ref r0, vI a1, vI a2, vI a3, vI a4] T H (q_48 r0 a1 a2 a3 a4 T H) := by
  refine wp_enter e48 (Nat.le_of_ble_eq_true rfl) rfl ?_
  have f0 : wfr [(35, 15), (38, 999), (39, 999), (36, 999), (40, 999), (41, 999), (37, 999)] T H H := wfr.rf
  show wp _ _ 48 0 [(0, .ref r0), (1, vI a1), (2, vI a2), (3, vI a3), (4, vI a4)] [] _ H _
  refine wp_of e48 c48_0 (rw_aload_n (pc' := 1) (v := .ref r0) rfl rfl rfl ?_)
  refine wp_of e48 c48_1 (xg_I (pc' := 4) lf_8_49 hW g0 sh_35 (by decide) (by decide) ty_35_15 rfl rfl (fun b14609 b14610 => ?_))
  refine wp_of e48 c48_4 (rw_bipush (pc' := 6) (z := 40) rfl (by decide) ?_)
  refine wp_of e48 c48_6 (rw_icmp_lt (p1 := 10) (p2 := 9) (by decide) rfl ⟨by omega, by omega⟩ ⟨by omega, by omega⟩ (fun c14611 => ?_) (fun c14611 => ?_))
  · refine wp_of e48 c48_10 (rw_aload_n (pc' := 11) (v := .ref r0) rfl rfl rfl ?_)
    refine wp_of e48 c48_11 (xg_R (pc' := 14) lf_8_9 hW g0 sh_35 (by decide) (by decide) ty_35_0 rfl rfl (fun r14612 q14613 g14614 => ?_))
    refine wp_of e48 c48_14 (rw_aload_n (pc' := 15) (v := .ref r0) rfl rfl rfl ?_)
    refine wp_of e48 c48_15 (xg_I (pc' := 18) lf_8_49 hW g0 sh_35 (by decide) (by decide) ty_35_15 rfl rfl (fun b14615 b14616 => ?_))
    refine wp_of e48 c48_18 (rw_iload_n (pc' := 19) (z := a1) rfl rfl ?_)
    refine wp_of e48 c48_19 (xs_I (pc' := 20) hW g14614 (by decide) sh_36 (by decide) (ty_36 _) (by omega) (by omega) ⟨by omega, by omega⟩ (by omega) (by omega) rfl (fun H14617 e14618 w14619 => ?_))
    have f14620 := f0.put' e14618 g14614 rfl
    refine wp_of e48 c48_20 (rw_aload_n (pc' := 21) (v := .ref r0) rfl rfl rfl ?_)
    refine wp_of e48 c48_21 (xg_R (pc' := 24) lf_8_15 w14619 g0 sh_35 (by decide) (by decide) ty_35_1 rfl rfl (fun r14621 q14622 g14623 => ?_))
    refine wp_of e48 c48_24 (rw_aload_n (pc' := 25) (v := .ref r0) rfl rfl rfl ?_)
    have k14624 : H14617 r0 15 = H r0 15 := (wq_u_t e14618 g14614 g0 rfl 15)
    refine wp_of e48 c48_25 (xg_I (pc' := 28) lf_8_49 w14619 g0 sh_35 (by decide) (by decide) ty_35_15 rfl rfl (fun b14625 b14626 => ?_))
    refine wp_of e48 c48_28 (rw_iload_n (pc' := 29) (z := a2) rfl rfl ?_)
    refine wp_of e48 c48_29 (xs_I (pc' := 30) w14619 g14623 (by decide) sh_37 (by decide) (ty_37 _) (by omega) (by omega) ⟨by omega, by omega⟩ (by omega) (by omega) rfl (fun H14627 e14628 w14629 => ?_))
    have f14630 := f14620.put' e14628 g14623 rfl
    refine wp_of e48 c48_30 (rw_aload_n (pc' := 31) (v := .ref r0) rfl rfl rfl ?_)
    refine wp_of e48 c48_31 (xg_R (pc' := 34) lf_8_18 w14629 g0 sh_35 (by decide) (by decide) ty_35_2 rfl rfl (fun r14631 q14632 g14633 => ?_))
    refine wp_of e48 c48_34 (rw_aload_n (pc' := 35) (v := .ref r0) rfl rfl rfl ?_)
    have k14634 : H14627 r0 15 = H14617 r0 15 := (wq_u_t e14628 g14623 g0 rfl 15)
    refine wp_of e48 c48_35 (xg_I (pc' := 38) lf_8_49 w14629 g0 sh_35 (by decide) (by decide) ty_35_15 rfl rfl (fun b14635 b14636 => ?_))
    refine wp_of e48 c48_38 (rw_iload_n (pc' := 39) (z := a3) rfl rfl ?_)
    refine wp_of e48 c48_39 (xs_I (pc' := 40) w14629 g14633 (by decide) sh_38 (by decide) (ty_38 _) (by omega) (by omega) ⟨by omega, by omega⟩ (by omega) (by omega) rfl (fun H14637 e14638 w14639 => ?_))
    have f14640 := f14630.put' e14638 g14633 rfl
    refine wp_of e48 c48_40 (rw_aload_n (pc' := 41) (v := .ref r0) rfl rfl rfl ?_)
    refine wp_of e48 c48_41 (xg_R (pc' := 44) lf_8_21 w14639 g0 sh_35 (by decide) (by decide) ty_35_3 rfl rfl (fun r14641 q14642 g14643 => ?_))
    refine wp_of e48 c48_44 (rw_aload_n (pc' := 45) (v := .ref r0) rfl rfl rfl ?_)
    have k14644 : H14637 r0 15 = H14627 r0 15 := (wq_u_t e14638 g14633 g0 rfl 15)
    refine wp_of e48 c48_45 (xg_I (pc' := 48) lf_8_49 w14639 g0 sh_35 (by decide) (by decide) ty_35_15 rfl rfl (fun b14645 b14646 => ?_))
    refine wp_of e48 c48_48 (rw_iload (pc' := 50) (z := a4) rfl rfl ?_)
    refine wp_of e48 c48_50 (xs_I (pc' := 51) w14639 g14643 (by decide) sh_39 (by decide) (ty_39 _) (by omega) (by omega) ⟨by omega, by omega⟩ (by omega) (by omega) rfl (fun H14647 e14648 w14649 => ?_))
    have f14650 := f14640.put' e14648 g14643 rfl
    refine wp_of e48 c48_51 (rw_aload_n (pc' := 52) (v := .ref r0) rfl rfl rfl ?_)
    refine wp_of e48 c48_52 (xg_R (pc' := 55) lf_8_24 w14649 g0 sh_35 (by decide) (by decide) ty_35_4 rfl rfl (fun r14651 q14652 g14653 => ?_))
    refine wp_of e48 c48_55 (rw_aload_n (pc' := 56) (v := .ref r0) rfl rfl rfl ?_)
    have k14654 : H14647 r0 15 = H14637 r0 15 := (wq_u_t e14648 g14643 g0 rfl 15)
    refine wp_of e48 c48_56 (xg_I (pc' := 59) lf_8_49 w14649 g0 sh_35 (by decide) (by decide) ty_35_15 rfl rfl (fun b14655 b14656 => ?_))
    refine wp_of e48 c48_59 (rw_iload (pc' := 61) (z := a4) rfl rfl ?_)
    refine wp_of e48 c48_61 (xc_S (pc' := 64) (as := [vI a4]) (st := [vI (H14647 r0 15), .ref r14651]) (lm_8_78) rfl rfl (Nat.le_of_ble_eq_true rfl) rfl (by decide) (s_49 w14649 ⟨by omega, by omega⟩) (fun R14657 T14658 H14659 p14660 => ?_))
    obtain ⟨e14661, e14663, z14664, e14662, b14665⟩ := p14660
    subst e14661
    subst e14662
    subst e14663
    show wp _ _ 48 64 [(0, .ref r0), (1, vI a1), (2, vI a2), (3, vI a3), (4, vI a4)] [vL z14664, vI (H14647 r0 15), .ref r14651] _ H14647 _
    refine wp_of e48 c48_64 (xs_L (pc' := 65) w14649 g14653 (by decide) sh_40 (by decide) (ty_40 _) (by omega) (by omega) ⟨by omega, by omega⟩ (by omega) (by omega) rfl (fun H14666 e14667 w14668 => ?_))
    have f14669 := f14650.put' e14667 g14653 rfl
    refine wp_of e48 c48_65 (rw_aload_n (pc' := 66) (v := .ref r0) rfl rfl rfl ?_)
    refine wp_of e48 c48_66 (xg_R (pc' := 69) lf_8_28 w14668 g0 sh_35 (by decide) (by decide) ty_35_5 rfl rfl (fun r14670 q14671 g14672 => ?_))
    refine wp_of e48 c48_69 (rw_aload_n (pc' := 70) (v := .ref r0) rfl rfl rfl ?_)
    have k14673 : H14666 r0 15 = H14647 r0 15 := (wq_u_t e14667 g14653 g0 rfl 15)
    refine wp_of e48 c48_70 (xg_I (pc' := 73) lf_8_49 w14668 g0 sh_35 (by decide) (by decide) ty_35_15 rfl rfl (fun b14674 b14675 => ?_))
    refine wp_of e48 c48_73 (rw_iload (pc' := 75) (z := a4) rfl rfl ?_)
    refine wp_of e48 c48_75 (rw_bipush (pc' := 77) (z := 12) rfl (by decide) ?_)
    refine wp_of e48 c48_77 (rw_ishr (pc' := 78) rfl ?_)
    obtain ⟨v14676, e14677⟩ : ∃ x : Int, x = wq_shr a4 12 := ⟨_, rfl⟩
    rw [← e14677]
    have b14678 : -2147483648 ≤ v14676 ∧ v14676 ≤ 2147483647 := by
      rw [e14677]
      exact wI_shr _ _
    refine wp_of e48 c48_78 (xc_S (pc' := 81) (as := [vI v14676]) (st := [vI (H14666 r0 15), .ref r14670]) (lm_8_78) rfl rfl (Nat.le_of_ble_eq_true rfl) rfl (by decide) (s_49 w14668 ⟨by omega, by omega⟩) (fun R14679 T14680 H14681 p14682 => ?_))
    obtain ⟨e14683, e14685, z14686, e14684, b14687⟩ := p14682
    subst e14683
    subst e14684
    subst e14685
    show wp _ _ 48 81 [(0, .ref r0), (1, vI a1), (2, vI a2), (3, vI a3), (4, vI a4)] [vL z14686, vI (H14666 r0 15), .ref r14670] _ H14666 _
    refine wp_of e48 c48_81 (xs_L (pc' := 82) w14668 g14672 (by decide) sh_41 (by decide) (ty_41 _) (by omega) (by omega) ⟨by omega, by omega⟩ (by omega) (by omega) rfl (fun H14688 e14689 w14690 => ?_))
    have f14691 := f14669.put' e14689 g14672 rfl
    refine wp_of e48 c48_82 (rw_aload_n (pc' := 83) (v := .ref r0) rfl rfl rfl ?_)
    refine wp_of e48 c48_83 (rw_dup (pc' := 84) rfl rfl ?_)
    have k14692 : H14688 r0 15 = H14666 r0 15 := (wq_u_t e14689 g14672 g0 rfl 15)
    refine wp_of e48 c48_84 (xg_I (pc' := 87) lf_8_49 w14690 g0 sh_35 (by decide) (by decide) ty_35_15 rfl rfl (fun b14693 b14694 => ?_))
    refine wp_of e48 c48_87 (rw_iconst (pc' := 88) rfl ?_)
    refine wp_of e48 c48_88 (rw_iadd (pc' := 89) rfl ?_)
    refine wp_of e48 c48_89 (xp_I (pc' := 92) lf_8_49 w14690 g0 sh_35 (by decide) (by decide) ty_35_15 rfl rfl (by omega) (by omega) ⟨by omega, by omega⟩ rfl (fun H14695 e14696 w14697 => ?_))
    have f14698 := f14691.put' e14696 g0 rfl
    have k14699 : H14695 r0 15 = (H14688 r0 15) + 1 := wq_u_s e14696
    exact wp_return e48 c48_92 rfl ⟨rfl, w14697, f14698, rfl⟩
  · exact wp_return e48 c48_9 rfl ⟨rfl, hW, f0, rfl⟩
/-! StrikeAwake$Person.makeSpans(II)V -/
theorem e47 : wq_en 47 = some (8, 6, false, none) := rfl
theorem c47_0 : mc_cd 47 0 = some (.aload_n 0, 1) := by decide +kernel
theorem c47_1 : mc_cd 47 1 = some (.getfield 42, 3) := by decide +kernel
theorem c47_4 : mc_cd 47 4 = some (.ifCond .eq 12, 3) := by decide +kernel
theorem c47_7 : mc_cd 47 7 = some (.aload_n 0, 1) := by decide +kernel
theorem c47_8 : mc_cd 47 8 = some (.iconst 0, 1) := by decide +kernel
theorem c47_9 : mc_cd 47 9 = some (.iconst 0, 1) := by decide +kernel
theorem c47_10 : mc_cd 47 10 = some (.iconst 0, 1) := by decide +kernel
theorem c47_11 : mc_cd 47 11 = some (.iconst 0, 1) := by decide +kernel
theorem c47_12 : mc_cd 47 12 = some (.invokevirtual 58, 3) := by decide +kernel
theorem c47_15 : mc_cd 47 15 = some (.return_, 1) := by decide +kernel
theorem c47_16 : mc_cd 47 16 = some (.aload_n 0, 1) := by decide +kernel
theorem c47_17 : mc_cd 47 17 = some (.getfield 62, 3) := by decide +kernel
theorem c47_20 : mc_cd 47 20 = some (.istore_n 3, 1) := by decide +kernel
theorem c47_21 : mc_cd 47 21 = some (.iload_n 3, 1) := by decide +kernel
theorem c47_22 : mc_cd 47 22 = some (.aload_n 0, 1) := by decide +kernel
theorem c47_23 : mc_cd 47 23 = some (.getfield 65, 3) := by decide +kernel
theorem c47_26 : mc_cd 47 26 = some (.if_icmp .gt 69, 3) := by decide +kernel
theorem c47_29 : mc_cd 47 29 = some (.aload_n 0, 1) := by decide +kernel
theorem c47_30 : mc_cd 47 30 = some (.getfield 68, 3) := by decide +kernel
theorem c47_33 : mc_cd 47 33 = some (.istore 4, 2) := by decide +kernel
theorem c47_35 : mc_cd 47 35 = some (.iload 4, 2) := by decide +kernel
theorem c47_37 : mc_cd 47 37 = some (.aload_n 0, 1) := by decide +kernel
theorem c47_38 : mc_cd 47 38 = some (.getfield 71, 3) := by decide +kernel
theorem c47_41 : mc_cd 47 41 = some (.if_icmp .gt 48, 3) := by decide +kernel
theorem c47_44 : mc_cd 47 44 = some (.iload_n 3, 1) := by decide +kernel
theorem c47_45 : mc_cd 47 45 = some (.iload_n 3, 1) := by decide +kernel
theorem c47_46 : mc_cd 47 46 = some (.iload 4, 2) := by decide +kernel
theorem c47_48 : mc_cd 47 48 = some (.iadd, 1) := by decide +kernel
theorem c47_49 : mc_cd 47 49 = some (.invokestatic 74, 3) := by decide +kernel
theorem c47_52 : mc_cd 47 52 = some (.aload_n 0, 1) := by decide +kernel
theorem c47_53 : mc_cd 47 53 = some (.getfield 39, 3) := by decide +kernel
theorem c47_56 : mc_cd 47 56 = some (.ior, 1) := by decide +kernel
theorem c47_57 : mc_cd 47 57 = some (.iload_n 1, 1) := by decide +kernel
theorem c47_58 : mc_cd 47 58 = some (.iand, 1) := by decide +kernel
theorem c47_59 : mc_cd 47 59 = some (.istore 5, 2) := by decide +kernel
theorem c47_61 : mc_cd 47 61 = some (.iload 5, 2) := by decide +kernel
theorem c47_63 : mc_cd 47 63 = some (.iload_n 2, 1) := by decide +kernel
theorem c47_64 : mc_cd 47 64 = some (.iand, 1) := by decide +kernel
theorem c47_65 : mc_cd 47 65 = some (.ifCond .ne 18, 3) := by decide +kernel
theorem c47_68 : mc_cd 47 68 = some (.aload_n 0, 1) := by decide +kernel
theorem c47_69 : mc_cd 47 69 = some (.iload_n 3, 1) := by decide +kernel
theorem c47_70 : mc_cd 47 70 = some (.iload 4, 2) := by decide +kernel
theorem c47_72 : mc_cd 47 72 = some (.iload 5, 2) := by decide +kernel
theorem c47_74 : mc_cd 47 74 = some (.iload_n 1, 1) := by decide +kernel
theorem c47_75 : mc_cd 47 75 = some (.iload 5, 2) := by decide +kernel
theorem c47_77 : mc_cd 47 77 = some (.iconst (-1), 1) := by decide +kernel
theorem c47_78 : mc_cd 47 78 = some (.ixor, 1) := by decide +kernel
theorem c47_79 : mc_cd 47 79 = some (.iand, 1) := by decide +kernel
theorem c47_80 : mc_cd 47 80 = some (.invokevirtual 58, 3) := by decide +kernel
theorem c47_83 : mc_cd 47 83 = some (.iinc 4 1, 3) := by decide +kernel
theorem c47_86 : mc_cd 47 86 = some (.goto (-51), 3) := by decide +kernel
theorem c47_89 : mc_cd 47 89 = some (.iinc 3 1, 3) := by decide +kernel
theorem c47_92 : mc_cd 47 92 = some (.goto (-71), 3) := by decide +kernel
theorem c47_95 : mc_cd 47 95 = some (.return_, 1) := by decide +kernel
abbrev q_47 (r0 : Nat) (a1 : Int) (a2 : Int) (T : wq_T) (H : wq_H) : Option Value → wq_T → wq_H → Prop := fun r T' H' => T = T' ∧ WT T H' ∧ wfr [(35, 15), (38, 999), (39, 999), (36, 999), (40, 999), (41, 999), (37, 999)] T H H' ∧ none = r
set_option maxHeartbeats 4000000 in
theorem s_47 {kt : Nat → Option mc_E} {T : wq_T} {H : wq_H} {r0 : Nat} {a1 : Int} {a2 : Int} (hW : WT T H) (g0 : T.2.2.2 r0 = some 35) (i1 : (-2147483648) ≤ a1 ∧ a1 ≤ 2147483647) (i2 : (-2147483648) ≤ a2 ∧ a2 ≤ 2147483647) : wpc kt 3 47 [.ref r0, vI a1, vI a2] T H (q_47 r0 a1 a2 T H) := by
  refine wp_enter e47 (Nat.le_of_ble_eq_true rfl) rfl ?_
  have f0 : wfr [(35, 15), (38, 999), (39, 999), (36, 999), (40, 999), (41, 999), (37, 999)] T H H := wfr.rf
  show wp _ _ 47 0 [(0, .ref r0), (1, vI a1), (2, vI a2)] [] _ H _
  refine wp_of e47 c47_0 (rw_aload_n (pc' := 1) (v := .ref r0) rfl rfl rfl ?_)
  refine wp_of e47 c47_1 (xg_I (pc' := 4) lf_8_42 hW g0 sh_35 (by decide) (by decide) ty_35_13 rfl rfl (fun b15039 b15040 => ?_))
  refine wp_of e47 c47_4 (rw_if_eq (p1 := 16) (p2 := 7) (by decide) rfl ⟨by omega, by omega⟩ (fun c15041 => ?_) (fun c15041 => ?_))
  · refine wp_of e47 c47_16 (rw_aload_n (pc' := 17) (v := .ref r0) rfl rfl rfl ?_)
    refine wp_of e47 c47_17 (xg_I (pc' := 20) lf_8_62 hW g0 sh_35 (by decide) (by decide) ty_35_7 rfl rfl (fun b15042 b15043 => ?_))
    refine wp_of e47 c47_20 (rw_istore_n (pc' := 21) (z := H r0 7) (L' := [(3, vI (H r0 7)), (0, .ref r0), (1, vI a1), (2, vI a2)]) rfl rfl rfl ?_)
    have lp15260 : ∀ (n15261 : Nat) (v15263 : Int) (H15264 : wq_H), WT T H15264 → wfr [(35, 15), (38, 999), (39, 999), (36, 999), (40, 999), (41, 999), (37, 999)] T H H15264 → ((-1) ≤ v15263 ∧ v15263 ≤ 25) → (25 - v15263).toNat = n15261 → wp kt 2 47 21 [(3, vI v15263), (0, .ref r0), (1, vI a1), (2, vI a2)] [] T H15264 (q_47 r0 a1 a2 T H) := by
      intro n15261
      induction n15261 using Nat.strongRecOn with
      | _ n15261 ih15262 =>
        intro v15263 H15264 w15265 f15266 b15267 m15268
        have f15269 := f0.tr f15266 rfl
        refine wp_of e47 c47_21 (rw_iload_n (pc' := 22) (z := v15263) rfl rfl ?_)
        refine wp_of e47 c47_22 (rw_aload_n (pc' := 23) (v := .ref r0) rfl rfl rfl ?_)
        refine wp_of e47 c47_23 (xg_I (pc' := 26) lf_8_65 w15265 g0 sh_35 (by decide) (by decide) ty_35_8 rfl rfl (fun b15270 b15271 => ?_))
        refine wp_of e47 c47_26 (rw_icmp_gt (p1 := 95) (p2 := 29) (by decide) rfl ⟨by omega, by omega⟩ ⟨by omega, by omega⟩ (fun c15272 => ?_) (fun c15272 => ?_))
        · exact wp_return e47 c47_95 rfl ⟨rfl, w15265, f15269, rfl⟩
        · refine wp_of e47 c47_29 (rw_aload_n (pc' := 30) (v := .ref r0) rfl rfl rfl ?_)
          refine wp_of e47 c47_30 (xg_I (pc' := 33) lf_8_68 w15265 g0 sh_35 (by decide) (by decide) ty_35_9 rfl rfl (fun b15273 b15274 => ?_))
          refine wp_of e47 c47_33 (rw_istore (pc' := 35) (z := H15264 r0 9) (L' := [(4, vI (H15264 r0 9)), (3, vI v15263), (0, .ref r0), (1, vI a1), (2, vI a2)]) rfl rfl rfl ?_)
          have lp15345 : ∀ (n15346 : Nat) (v15348 : Int) (H15349 : wq_H), WT T H15349 → wfr [(35, 15), (38, 999), (39, 999), (36, 999), (40, 999), (41, 999), (37, 999)] T H15264 H15349 → ((-1) ≤ v15348 ∧ v15348 ≤ 25) → (25 - v15348).toNat = n15346 → wp kt 2 47 35 [(4, vI v15348), (3, vI v15263), (0, .ref r0), (1, vI a1), (2, vI a2)] [] T H15349 (q_47 r0 a1 a2 T H) := by
            intro n15346
            induction n15346 using Nat.strongRecOn with
            | _ n15346 ih15347 =>
              intro v15348 H15349 w15350 f15351 b15352 m15353
              have f15354 := f15269.tr f15351 rfl
              have f15355 := f15266.tr f15351 rfl
              refine wp_of e47 c47_35 (rw_iload (pc' := 37) (z := v15348) rfl rfl ?_)
              refine wp_of e47 c47_37 (rw_aload_n (pc' := 38) (v := .ref r0) rfl rfl rfl ?_)
              refine wp_of e47 c47_38 (xg_I (pc' := 41) lf_8_71 w15350 g0 sh_35 (by decide) (by decide) ty_35_10 rfl rfl (fun b15356 b15357 => ?_))
              refine wp_of e47 c47_41 (rw_icmp_gt (p1 := 89) (p2 := 44) (by decide) rfl ⟨by omega, by omega⟩ ⟨by omega, by omega⟩ (fun c15358 => ?_) (fun c15358 => ?_))
              · refine wp_of e47 c47_89 (rw_iinc (pc' := 92) (z := v15263) (L' := [(3, vI (v15263 + 1)), (4, vI v15348), (0, .ref r0), (1, vI a1), (2, vI a2)]) rfl rfl rfl rfl ?_)
                refine wp_of e47 c47_92 (rw_goto (p1 := 21) (by decide) ?_)
                exact wp_lc (ks := [3, 4, 0, 1, 2]) (wl_c rfl (wl_c rfl (wl_c rfl (wl_c rfl wl_n)))) rfl (by decide) (ih15262 _ (by omega) (v15263 + 1) H15349 w15350 f15355 ⟨by omega, by omega⟩ rfl)
              · refine wp_of e47 c47_44 (rw_iload_n (pc' := 45) (z := v15263) rfl rfl ?_)
                refine wp_of e47 c47_45 (rw_iload_n (pc' := 46) (z := v15263) rfl rfl ?_)
                refine wp_of e47 c47_46 (rw_iload (pc' := 48) (z := v15348) rfl rfl ?_)
                refine wp_of e47 c47_48 (rw_iadd (pc' := 49) rfl ?_)
                refine wp_of e47 c47_49 (xc_S (pc' := 52) (as := [vI v15263, vI (v15263 + v15348)]) (st := []) (lm_8_74) rfl rfl (Nat.le_of_ble_eq_true rfl) rfl (by decide) (s_31 w15350 ⟨by omega, by omega⟩ ⟨by omega, by omega⟩) (fun R15359 T15360 H15361 p15362 => ?_))
                obtain ⟨e15363, e15365, z15366, e15364, b15367⟩ := p15362
                subst e15363
                subst e15364
                subst e15365
                show wp _ _ 47 52 [(4, vI v15348), (3, vI v15263), (0, .ref r0), (1, vI a1), (2, vI a2)] [vI z15366] _ H15349 _
                refine wp_of e47 c47_52 (rw_aload_n (pc' := 53) (v := .ref r0) rfl rfl rfl ?_)
                refine wp_of e47 c47_53 (xg_I (pc' := 56) lf_8_39 w15350 g0 sh_35 (by decide) (by decide) ty_35_12 rfl rfl (fun b15368 b15369 => ?_))
                refine wp_of e47 c47_56 (rw_ior (pc' := 57) rfl ?_)
                obtain ⟨v15370, e15371⟩ : ∃ x : Int, x = wq_or z15366 (H15349 r0 12) := ⟨_, rfl⟩
                rw [← e15371]
                have b15372 : -2147483648 ≤ v15370 ∧ v15370 ≤ 2147483647 := by
                  rw [e15371]
                  exact wI_or _ _
                refine wp_of e47 c47_57 (rw_iload_n (pc' := 58) (z := a1) rfl rfl ?_)
                refine wp_of e47 c47_58 (rw_iand (pc' := 59) rfl ?_)
                obtain ⟨v15373, e15374⟩ : ∃ x : Int, x = wq_and v15370 a1 := ⟨_, rfl⟩
                rw [← e15374]
                have b15375 : -2147483648 ≤ v15373 ∧ v15373 ≤ 2147483647 := by
                  rw [e15374]
                  exact wI_and _ _
                refine wp_of e47 c47_59 (rw_istore (pc' := 61) (z := v15373) (L' := [(5, vI v15373), (4, vI v15348), (3, vI v15263), (0, .ref r0), (1, vI a1), (2, vI a2)]) rfl rfl rfl ?_)
                refine wp_of e47 c47_61 (rw_iload (pc' := 63) (z := v15373) rfl rfl ?_)
                refine wp_of e47 c47_63 (rw_iload_n (pc' := 64) (z := a2) rfl rfl ?_)
                refine wp_of e47 c47_64 (rw_iand (pc' := 65) rfl ?_)
                obtain ⟨v15376, e15377⟩ : ∃ x : Int, x = wq_and v15373 a2 := ⟨_, rfl⟩
                rw [← e15377]
                have b15378 : -2147483648 ≤ v15376 ∧ v15376 ≤ 2147483647 := by
                  rw [e15377]
                  exact wI_and _ _
                refine wp_of e47 c47_65 (rw_if_ne (p1 := 83) (p2 := 68) (by decide) rfl ⟨by omega, by omega⟩ (fun c15379 => ?_) (fun c15379 => ?_))
                · refine wp_of e47 c47_83 (rw_iinc (pc' := 86) (z := v15348) (L' := [(4, vI (v15348 + 1)), (5, vI v15373), (3, vI v15263), (0, .ref r0), (1, vI a1), (2, vI a2)]) rfl rfl rfl rfl ?_)
                  refine wp_of e47 c47_86 (rw_goto (p1 := 35) (by decide) ?_)
                  exact wp_lc (ks := [4, 5, 3, 0, 1, 2]) (wl_c rfl (wl_c rfl (wl_c rfl (wl_c rfl (wl_c rfl wl_n))))) rfl (by decide) (ih15347 _ (by omega) (v15348 + 1) H15349 w15350 f15351 ⟨by omega, by omega⟩ rfl)
                · refine wp_of e47 c47_68 (rw_aload_n (pc' := 69) (v := .ref r0) rfl rfl rfl ?_)
                  refine wp_of e47 c47_69 (rw_iload_n (pc' := 70) (z := v15263) rfl rfl ?_)
                  refine wp_of e47 c47_70 (rw_iload (pc' := 72) (z := v15348) rfl rfl ?_)
                  refine wp_of e47 c47_72 (rw_iload (pc' := 74) (z := v15373) rfl rfl ?_)
                  refine wp_of e47 c47_74 (rw_iload_n (pc' := 75) (z := a1) rfl rfl ?_)
                  refine wp_of e47 c47_75 (rw_iload (pc' := 77) (z := v15373) rfl rfl ?_)
                  refine wp_of e47 c47_77 (rw_iconst (pc' := 78) rfl ?_)
                  refine wp_of e47 c47_78 (rw_ixor (pc' := 79) rfl ?_)
                  obtain ⟨v15380, e15381⟩ : ∃ x : Int, x = wq_xor v15373 (-1) := ⟨_, rfl⟩
                  rw [← e15381]
                  have b15382 : -2147483648 ≤ v15380 ∧ v15380 ≤ 2147483647 := by
                    rw [e15381]
                    exact wI_xor _ _
                  refine wp_of e47 c47_79 (rw_iand (pc' := 80) rfl ?_)
                  obtain ⟨v15383, e15384⟩ : ∃ x : Int, x = wq_and a1 v15380 := ⟨_, rfl⟩
                  rw [← e15384]
                  have b15385 : -2147483648 ≤ v15383 ∧ v15383 ≤ 2147483647 := by
                    rw [e15384]
                    exact wI_and _ _
                  refine wp_of e47 c47_80 (xc_V (pc' := 83) (r := r0) (as := [vI v15263, vI v15348, vI v15373, vI v15383]) (st := []) (lm_8_58) rfl rfl (Nat.le_of_ble_eq_true rfl) w15350 g0 sh_35 (by decide) rfl (by decide) (s_48 w15350 g0 ⟨by omega, by omega⟩ ⟨by omega, by omega⟩ ⟨by omega, by omega⟩ ⟨by omega, by omega⟩) (fun R15386 T15387 H15388 p15389 => ?_))
                  obtain ⟨e15390, w15392, f15393, e15391⟩ := p15389
                  subst e15390
                  subst e15391
                  have f15394 := f15354.tr f15393 rfl
                  have f15395 := f15355.tr f15393 rfl
                  have f15396 := f15351.tr f15393 rfl
                  show wp _ _ 47 83 [(5, vI v15373), (4, vI v15348), (3, vI v15263), (0, .ref r0), (1, vI a1), (2, vI a2)] [] _ H15388 _
                  refine wp_of e47 c47_83 (rw_iinc (pc' := 86) (z := v15348) (L' := [(4, vI (v15348 + 1)), (5, vI v15373), (3, vI v15263), (0, .ref r0), (1, vI a1), (2, vI a2)]) rfl rfl rfl rfl ?_)
                  refine wp_of e47 c47_86 (rw_goto (p1 := 35) (by decide) ?_)
                  exact wp_lc (ks := [4, 5, 3, 0, 1, 2]) (wl_c rfl (wl_c rfl (wl_c rfl (wl_c rfl (wl_c rfl wl_n))))) rfl (by decide) (ih15347 _ (by omega) (v15348 + 1) H15388 w15392 f15396 ⟨by omega, by omega⟩ rfl)
          exact wp_lc (ks := [4, 3, 0, 1, 2]) (wl_c rfl (wl_c rfl (wl_c rfl (wl_c rfl (wl_c rfl wl_n))))) rfl (by decide) (lp15345 _ (H15264 r0 9) H15264 w15265 wfr.rf ⟨by omega, by omega⟩ rfl)
    exact wp_lc (ks := [3, 0, 1, 2]) (wl_c rfl (wl_c rfl (wl_c rfl (wl_c rfl wl_n)))) rfl (by decide) (lp15260 _ (H r0 7) H hW wfr.rf ⟨by omega, by omega⟩ rfl)
  · refine wp_of e47 c47_7 (rw_aload_n (pc' := 8) (v := .ref r0) rfl rfl rfl ?_)
    refine wp_of e47 c47_8 (rw_iconst (pc' := 9) rfl ?_)
    refine wp_of e47 c47_9 (rw_iconst (pc' := 10) rfl ?_)
    refine wp_of e47 c47_10 (rw_iconst (pc' := 11) rfl ?_)
    refine wp_of e47 c47_11 (rw_iconst (pc' := 12) rfl ?_)
    refine wp_of e47 c47_12 (xc_V (pc' := 15) (r := r0) (as := [vI 0, vI 0, vI 0, vI 0]) (st := []) (lm_8_58) rfl rfl (Nat.le_of_ble_eq_true rfl) hW g0 sh_35 (by decide) rfl (by decide) (s_48 hW g0 ⟨by omega, by omega⟩ ⟨by omega, by omega⟩ ⟨by omega, by omega⟩ ⟨by omega, by omega⟩) (fun R15397 T15398 H15399 p15400 => ?_))
    obtain ⟨e15401, w15403, f15404, e15402⟩ := p15400
    subst e15401
    subst e15402
    have f15405 := f0.tr f15404 rfl
    show wp _ _ 47 15 [(0, .ref r0), (1, vI a1), (2, vI a2)] [] _ H15399 _
    exact wp_return e47 c47_15 rfl ⟨rfl, w15403, f15405, rfl⟩
/-! StrikeAwake$Parish.settle()V -/
theorem e44 : wq_en 44 = some (7, 3, false, none) := rfl
theorem c44_0 : mc_cd 44 0 = some (.aload_n 0, 1) := by decide +kernel
theorem c44_1 : mc_cd 44 1 = some (.invokevirtual 96, 3) := by decide +kernel
theorem c44_4 : mc_cd 44 4 = some (.istore_n 1, 1) := by decide +kernel
theorem c44_5 : mc_cd 44 5 = some (.aload_n 0, 1) := by decide +kernel
theorem c44_6 : mc_cd 44 6 = some (.getfield 41, 3) := by decide +kernel
theorem c44_9 : mc_cd 44 9 = some (.istore_n 2, 1) := by decide +kernel
theorem c44_10 : mc_cd 44 10 = some (.iload_n 2, 1) := by decide +kernel
theorem c44_11 : mc_cd 44 11 = some (.bipush 24, 2) := by decide +kernel
theorem c44_13 : mc_cd 44 13 = some (.if_icmp .ge 17, 3) := by decide +kernel
theorem c44_16 : mc_cd 44 16 = some (.aload_n 0, 1) := by decide +kernel
theorem c44_17 : mc_cd 44 17 = some (.getfield 17, 3) := by decide +kernel
theorem c44_20 : mc_cd 44 20 = some (.iload_n 2, 1) := by decide +kernel
theorem c44_21 : mc_cd 44 21 = some (.bipush (-2), 2) := by decide +kernel
theorem c44_23 : mc_cd 44 23 = some (.iastore, 1) := by decide +kernel
theorem c44_24 : mc_cd 44 24 = some (.iinc 2 1, 3) := by decide +kernel
theorem c44_27 : mc_cd 44 27 = some (.goto (-17), 3) := by decide +kernel
theorem c44_30 : mc_cd 44 30 = some (.aload_n 0, 1) := by decide +kernel
theorem c44_31 : mc_cd 44 31 = some (.invokevirtual 89, 3) := by decide +kernel
theorem c44_34 : mc_cd 44 34 = some (.iconst 0, 1) := by decide +kernel
theorem c44_35 : mc_cd 44 35 = some (.istore_n 2, 1) := by decide +kernel
theorem c44_36 : mc_cd 44 36 = some (.iload_n 2, 1) := by decide +kernel
theorem c44_37 : mc_cd 44 37 = some (.aload_n 0, 1) := by decide +kernel
theorem c44_38 : mc_cd 44 38 = some (.getfield 59, 3) := by decide +kernel
theorem c44_41 : mc_cd 44 41 = some (.if_icmp .ge 19, 3) := by decide +kernel
theorem c44_44 : mc_cd 44 44 = some (.aload_n 0, 1) := by decide +kernel
theorem c44_45 : mc_cd 44 45 = some (.getfield 30, 3) := by decide +kernel
theorem c44_48 : mc_cd 44 48 = some (.iload_n 2, 1) := by decide +kernel
theorem c44_49 : mc_cd 44 49 = some (.dup2, 1) := by decide +kernel
theorem c44_50 : mc_cd 44 50 = some (.iaload, 1) := by decide +kernel
theorem c44_51 : mc_cd 44 51 = some (.iload_n 1, 1) := by decide +kernel
theorem c44_52 : mc_cd 44 52 = some (.iand, 1) := by decide +kernel
theorem c44_53 : mc_cd 44 53 = some (.iastore, 1) := by decide +kernel
theorem c44_54 : mc_cd 44 54 = some (.iinc 2 1, 3) := by decide +kernel
theorem c44_57 : mc_cd 44 57 = some (.goto (-21), 3) := by decide +kernel
theorem c44_60 : mc_cd 44 60 = some (.iconst 0, 1) := by decide +kernel
theorem c44_61 : mc_cd 44 61 = some (.istore_n 2, 1) := by decide +kernel
theorem c44_62 : mc_cd 44 62 = some (.iload_n 2, 1) := by decide +kernel
theorem c44_63 : mc_cd 44 63 = some (.aload_n 0, 1) := by decide +kernel
theorem c44_64 : mc_cd 44 64 = some (.getfield 62, 3) := by decide +kernel
theorem c44_67 : mc_cd 44 67 = some (.if_icmp .ge 19, 3) := by decide +kernel
theorem c44_70 : mc_cd 44 70 = some (.aload_n 0, 1) := by decide +kernel
theorem c44_71 : mc_cd 44 71 = some (.getfield 33, 3) := by decide +kernel
theorem c44_74 : mc_cd 44 74 = some (.iload_n 2, 1) := by decide +kernel
theorem c44_75 : mc_cd 44 75 = some (.dup2, 1) := by decide +kernel
theorem c44_76 : mc_cd 44 76 = some (.iaload, 1) := by decide +kernel
theorem c44_77 : mc_cd 44 77 = some (.iload_n 1, 1) := by decide +kernel
theorem c44_78 : mc_cd 44 78 = some (.iand, 1) := by decide +kernel
theorem c44_79 : mc_cd 44 79 = some (.iastore, 1) := by decide +kernel
theorem c44_80 : mc_cd 44 80 = some (.iinc 2 1, 3) := by decide +kernel
theorem c44_83 : mc_cd 44 83 = some (.goto (-21), 3) := by decide +kernel
theorem c44_86 : mc_cd 44 86 = some (.aload_n 0, 1) := by decide +kernel
theorem c44_87 : mc_cd 44 87 = some (.lconst 1, 1) := by decide +kernel
theorem c44_88 : mc_cd 44 88 = some (.putfield 71, 3) := by decide +kernel
theorem c44_91 : mc_cd 44 91 = some (.aload_n 0, 1) := by decide +kernel
theorem c44_92 : mc_cd 44 92 = some (.getfield 50, 3) := by decide +kernel
theorem c44_95 : mc_cd 44 95 = some (.iconst 1, 1) := by decide +kernel
theorem c44_96 : mc_cd 44 96 = some (.isub, 1) := by decide +kernel
theorem c44_97 : mc_cd 44 97 = some (.istore_n 2, 1) := by decide +kernel
theorem c44_98 : mc_cd 44 98 = some (.iload_n 2, 1) := by decide +kernel
theorem c44_99 : mc_cd 44 99 = some (.ifCond .lt 70, 3) := by decide +kernel
theorem c44_102 : mc_cd 44 102 = some (.aload_n 0, 1) := by decide +kernel
theorem c44_103 : mc_cd 44 103 = some (.getfield 11, 3) := by decide +kernel
theorem c44_106 : mc_cd 44 106 = some (.iload_n 2, 1) := by decide +kernel
theorem c44_107 : mc_cd 44 107 = some (.aaload, 1) := by decide +kernel
theorem c44_108 : mc_cd 44 108 = some (.iload_n 1, 1) := by decide +kernel
theorem c44_109 : mc_cd 44 109 = some (.iload_n 2, 1) := by decide +kernel
theorem c44_110 : mc_cd 44 110 = some (.aload_n 0, 1) := by decide +kernel
theorem c44_111 : mc_cd 44 111 = some (.getfield 37, 3) := by decide +kernel
theorem c44_114 : mc_cd 44 114 = some (.if_icmp .ne 12, 3) := by decide +kernel
theorem c44_117 : mc_cd 44 117 = some (.aload_n 0, 1) := by decide +kernel
theorem c44_118 : mc_cd 44 118 = some (.bipush 99, 2) := by decide +kernel
theorem c44_120 : mc_cd 44 120 = some (.invokevirtual 99, 3) := by decide +kernel
theorem c44_123 : mc_cd 44 123 = some (.goto 4, 3) := by decide +kernel
theorem c44_126 : mc_cd 44 126 = some (.iconst 0, 1) := by decide +kernel
theorem c44_127 : mc_cd 44 127 = some (.invokevirtual 103, 3) := by decide +kernel
theorem c44_130 : mc_cd 44 130 = some (.aload_n 0, 1) := by decide +kernel
theorem c44_131 : mc_cd 44 131 = some (.getfield 11, 3) := by decide +kernel
theorem c44_134 : mc_cd 44 134 = some (.iload_n 2, 1) := by decide +kernel
theorem c44_135 : mc_cd 44 135 = some (.aaload, 1) := by decide +kernel
theorem c44_136 : mc_cd 44 136 = some (.aload_n 0, 1) := by decide +kernel
theorem c44_137 : mc_cd 44 137 = some (.getfield 71, 3) := by decide +kernel
theorem c44_140 : mc_cd 44 140 = some (.l2i, 1) := by decide +kernel
theorem c44_141 : mc_cd 44 141 = some (.putfield 107, 3) := by decide +kernel
theorem c44_144 : mc_cd 44 144 = some (.aload_n 0, 1) := by decide +kernel
theorem c44_145 : mc_cd 44 145 = some (.dup, 1) := by decide +kernel
theorem c44_146 : mc_cd 44 146 = some (.getfield 71, 3) := by decide +kernel
theorem c44_149 : mc_cd 44 149 = some (.aload_n 0, 1) := by decide +kernel
theorem c44_150 : mc_cd 44 150 = some (.getfield 11, 3) := by decide +kernel
theorem c44_153 : mc_cd 44 153 = some (.iload_n 2, 1) := by decide +kernel
theorem c44_154 : mc_cd 44 154 = some (.aaload, 1) := by decide +kernel
theorem c44_155 : mc_cd 44 155 = some (.getfield 110, 3) := by decide +kernel
theorem c44_158 : mc_cd 44 158 = some (.i2l, 1) := by decide +kernel
theorem c44_159 : mc_cd 44 159 = some (.lmul, 1) := by decide +kernel
theorem c44_160 : mc_cd 44 160 = some (.putfield 71, 3) := by decide +kernel
theorem c44_163 : mc_cd 44 163 = some (.iinc 2 (-1), 3) := by decide +kernel
theorem c44_166 : mc_cd 44 166 = some (.goto (-68), 3) := by decide +kernel
theorem c44_169 : mc_cd 44 169 = some (.return_, 1) := by decide +kernel
abbrev q_44 (r0 : Nat) (T : wq_T) (H : wq_H) : Option Value → wq_T → wq_H → Prop := fun r T' H' => T = T' ∧ WT T H' ∧ wfr [(27, 16), (27, 18), (35, 15), (35, 17), (38, 999), (39, 999), (36, 999), (40, 999), (41, 999), (34, 999), (37, 999), (29, 999), (30, 999), (33, 999)] T H H' ∧ none = r
set_option maxHeartbeats 4000000 in
theorem s_44 {kt : Nat → Option mc_E} {T : wq_T} {H : wq_H} {r0 : Nat} (hW : WT T H) (g0 : T.2.2.2 r0 = some 27) : wpc kt 4 44 [.ref r0] T H (q_44 r0 T H) := by
  refine wp_enter e44 (Nat.le_of_ble_eq_true rfl) rfl ?_
  have f0 : wfr [(27, 16), (27, 18), (35, 15), (35, 17), (38, 999), (39, 999), (36, 999), (40, 999), (41, 999), (34, 999), (37, 999), (29, 999), (30, 999), (33, 999)] T H H := wfr.rf
  show wp _ _ 44 0 [(0, .ref r0)] [] _ H _
  refine wp_of e44 c44_0 (rw_aload_n (pc' := 1) (v := .ref r0) rfl rfl rfl ?_)
  refine wp_of e44 c44_1 (xc_V (pc' := 4) (r := r0) (as := []) (st := []) (lm_7_96) rfl rfl (Nat.le_of_ble_eq_true rfl) hW g0 sh_27 (by decide) rfl (by decide) (s_45 hW g0) (fun R15944 T15945 H15946 p15947 => ?_))
  obtain ⟨e15948, e15950, z15951, e15949, b15952⟩ := p15947
  subst e15948
  subst e15949
  subst e15950
  show wp _ _ 44 4 [(0, .ref r0)] [vI z15951] _ H _
  refine wp_of e44 c44_4 (rw_istore_n (pc' := 5) (z := z15951) (L' := [(1, vI z15951), (0, .ref r0)]) rfl rfl rfl ?_)
  refine wp_of e44 c44_5 (rw_aload_n (pc' := 6) (v := .ref r0) rfl rfl rfl ?_)
  refine wp_of e44 c44_6 (xg_I (pc' := 9) lf_7_41 hW g0 sh_27 (by decide) (by decide) ty_27_7 rfl rfl (fun b15953 b15954 => ?_))
  refine wp_of e44 c44_9 (rw_istore_n (pc' := 10) (z := H r0 7) (L' := [(2, vI (H r0 7)), (1, vI z15951), (0, .ref r0)]) rfl rfl rfl ?_)
  have lp15971 : ∀ (n15972 : Nat) (v15974 : Int) (H15975 : wq_H), WT T H15975 → wfr [(29, 999)] T H H15975 → (0 ≤ v15974 ∧ v15974 ≤ 24) → (24 - v15974).toNat = n15972 → wp kt 3 44 10 [(2, vI v15974), (1, vI z15951), (0, .ref r0)] [] T H15975 (q_44 r0 T H) := by
    intro n15972
    induction n15972 using Nat.strongRecOn with
    | _ n15972 ih15973 =>
      intro v15974 H15975 w15976 f15977 b15978 m15979
      have f15980 := f0.tr f15977 rfl
      refine wp_of e44 c44_10 (rw_iload_n (pc' := 11) (z := v15974) rfl rfl ?_)
      refine wp_of e44 c44_11 (rw_bipush (pc' := 13) (z := 24) rfl (by decide) ?_)
      refine wp_of e44 c44_13 (rw_icmp_ge (p1 := 30) (p2 := 16) (by decide) rfl ⟨by omega, by omega⟩ ⟨by omega, by omega⟩ (fun c15981 => ?_) (fun c15981 => ?_))
      · refine wp_of e44 c44_30 (rw_aload_n (pc' := 31) (v := .ref r0) rfl rfl rfl ?_)
        refine wp_of e44 c44_31 (xc_V (pc' := 34) (r := r0) (as := []) (st := []) (lm_7_89) rfl rfl (Nat.le_of_ble_eq_true rfl) w15976 g0 sh_27 (by decide) rfl (by decide) (s_41 w15976 g0) (fun R15982 T15983 H15984 p15985 => ?_))
        obtain ⟨e15986, w15988, f15989, e15987⟩ := p15985
        subst e15986
        subst e15987
        have f15990 := f15980.tr f15989 rfl
        have f15991 := f15977.tr f15989 rfl
        show wp _ _ 44 34 [(2, vI v15974), (1, vI z15951), (0, .ref r0)] [] _ H15984 _
        refine wp_of e44 c44_34 (rw_iconst (pc' := 35) rfl ?_)
        refine wp_of e44 c44_35 (rw_istore_n (pc' := 36) (z := 0) (L' := [(2, vI 0), (1, vI z15951), (0, .ref r0)]) rfl rfl rfl ?_)
        have lp16067 : ∀ (n16068 : Nat) (v16070 : Int) (H16071 : wq_H), WT T H16071 → wfr [(33, 999)] T H15984 H16071 → (0 ≤ v16070 ∧ v16070 ≤ 4) → (4 - v16070).toNat = n16068 → wp kt 3 44 36 [(2, vI v16070), (1, vI z15951), (0, .ref r0)] [] T H16071 (q_44 r0 T H) := by
          intro n16068
          induction n16068 using Nat.strongRecOn with
          | _ n16068 ih16069 =>
            intro v16070 H16071 w16072 f16073 b16074 m16075
            have f16076 := f15990.tr f16073 rfl
            have f16077 := f15991.tr f16073 rfl
            refine wp_of e44 c44_36 (rw_iload_n (pc' := 37) (z := v16070) rfl rfl ?_)
            refine wp_of e44 c44_37 (rw_aload_n (pc' := 38) (v := .ref r0) rfl rfl rfl ?_)
            refine wp_of e44 c44_38 (xg_I (pc' := 41) lf_7_59 w16072 g0 sh_27 (by decide) (by decide) ty_27_13 rfl rfl (fun b16078 b16079 => ?_))
            refine wp_of e44 c44_41 (rw_icmp_ge (p1 := 60) (p2 := 44) (by decide) rfl ⟨by omega, by omega⟩ ⟨by omega, by omega⟩ (fun c16080 => ?_) (fun c16080 => ?_))
            · refine wp_of e44 c44_60 (rw_iconst (pc' := 61) rfl ?_)
              refine wp_of e44 c44_61 (rw_istore_n (pc' := 62) (z := 0) (L' := [(2, vI 0), (1, vI z15951), (0, .ref r0)]) rfl rfl rfl ?_)
              have lp16193 : ∀ (n16194 : Nat) (v16196 : Int) (H16197 : wq_H), WT T H16197 → wfr [(34, 999)] T H16071 H16197 → (0 ≤ v16196 ∧ v16196 ≤ 6) → (6 - v16196).toNat = n16194 → wp kt 3 44 62 [(2, vI v16196), (1, vI z15951), (0, .ref r0)] [] T H16197 (q_44 r0 T H) := by
                intro n16194
                induction n16194 using Nat.strongRecOn with
                | _ n16194 ih16195 =>
                  intro v16196 H16197 w16198 f16199 b16200 m16201
                  have f16202 := f16076.tr f16199 rfl
                  have f16203 := f16077.tr f16199 rfl
                  have f16204 := f16073.tr f16199 rfl
                  refine wp_of e44 c44_62 (rw_iload_n (pc' := 63) (z := v16196) rfl rfl ?_)
                  refine wp_of e44 c44_63 (rw_aload_n (pc' := 64) (v := .ref r0) rfl rfl rfl ?_)
                  refine wp_of e44 c44_64 (xg_I (pc' := 67) lf_7_62 w16198 g0 sh_27 (by decide) (by decide) ty_27_14 rfl rfl (fun b16205 b16206 => ?_))
                  refine wp_of e44 c44_67 (rw_icmp_ge (p1 := 86) (p2 := 70) (by decide) rfl ⟨by omega, by omega⟩ ⟨by omega, by omega⟩ (fun c16207 => ?_) (fun c16207 => ?_))
                  · refine wp_of e44 c44_86 (rw_aload_n (pc' := 87) (v := .ref r0) rfl rfl rfl ?_)
                    refine wp_of e44 c44_87 (rw_lconst (pc' := 88) (z := 1) rfl rfl ?_)
                    refine wp_of e44 c44_88 (xp_L (pc' := 91) lf_7_71 w16198 g0 sh_27 (by decide) (by decide) ty_27_18 rfl rfl (by omega) (by omega) ⟨by omega, by omega⟩ rfl (fun H16208 e16209 w16210 => ?_))
                    have f16211 := f16202.put' e16209 g0 rfl
                    have f16212 := f16203.put' e16209 g0 rfl
                    have f16213 := f16204.put' e16209 g0 rfl
                    have f16214 := f16199.put' e16209 g0 rfl
                    have k16215 : H16208 r0 18 = 1 := wq_u_s e16209
                    refine wp_of e44 c44_91 (rw_aload_n (pc' := 92) (v := .ref r0) rfl rfl rfl ?_)
                    refine wp_of e44 c44_92 (xg_I (pc' := 95) lf_7_50 w16210 g0 sh_27 (by decide) (by decide) ty_27_10 rfl rfl (fun b16216 b16217 => ?_))
                    refine wp_of e44 c44_95 (rw_iconst (pc' := 96) rfl ?_)
                    refine wp_of e44 c44_96 (rw_isub (pc' := 97) rfl ?_)
                    refine wp_of e44 c44_97 (rw_istore_n (pc' := 98) (z := (H16208 r0 10) - 1) (L' := [(2, vI ((H16208 r0 10) - 1)), (1, vI z15951), (0, .ref r0)]) rfl rfl rfl ?_)
                    have lp16446 : ∀ (n16447 : Nat) (v16449 : Int) (H16450 : wq_H), WT T H16450 → wfr [(27, 18), (35, 15), (35, 17), (38, 999), (39, 999), (36, 999), (40, 999), (41, 999), (37, 999)] T H16208 H16450 → ((-1) ≤ v16449 ∧ v16449 ≤ 5) → (v16449 - (-1)).toNat = n16447 → wp kt 3 44 98 [(2, vI v16449), (1, vI z15951), (0, .ref r0)] [] T H16450 (q_44 r0 T H) := by
                      intro n16447
                      induction n16447 using Nat.strongRecOn with
                      | _ n16447 ih16448 =>
                        intro v16449 H16450 w16451 f16452 b16453 m16454
                        have f16455 := f16211.tr f16452 rfl
                        have f16456 := f16212.tr f16452 rfl
                        have f16457 := f16213.tr f16452 rfl
                        have f16458 := f16214.tr f16452 rfl
                        refine wp_of e44 c44_98 (rw_iload_n (pc' := 99) (z := v16449) rfl rfl ?_)
                        refine wp_of e44 c44_99 (rw_if_lt (p1 := 169) (p2 := 102) (by decide) rfl ⟨by omega, by omega⟩ (fun c16459 => ?_) (fun c16459 => ?_))
                        · exact wp_return e44 c44_169 rfl ⟨rfl, w16451, f16455, rfl⟩
                        · refine wp_of e44 c44_102 (rw_aload_n (pc' := 103) (v := .ref r0) rfl rfl rfl ?_)
                          refine wp_of e44 c44_103 (xg_R (pc' := 106) lf_7_11 w16451 g0 sh_27 (by decide) (by decide) ty_27_0 rfl rfl (fun r16460 q16461 g16462 => ?_))
                          refine wp_of e44 c44_106 (rw_iload_n (pc' := 107) (z := v16449) rfl rfl ?_)
                          refine wp_of e44 c44_107 (xa_R (pc' := 108) (by decide) w16451 g16462 sh_28 (by decide) (ty_28 _) (by omega) (by omega) rfl (fun r16463 q16464 g16465 => ?_))
                          refine wp_of e44 c44_108 (rw_iload_n (pc' := 109) (z := z15951) rfl rfl ?_)
                          refine wp_of e44 c44_109 (rw_iload_n (pc' := 110) (z := v16449) rfl rfl ?_)
                          refine wp_of e44 c44_110 (rw_aload_n (pc' := 111) (v := .ref r0) rfl rfl rfl ?_)
                          refine wp_of e44 c44_111 (xg_I (pc' := 114) lf_7_37 w16451 g0 sh_27 (by decide) (by decide) ty_27_15 rfl rfl (fun b16466 b16467 => ?_))
                          refine wp_of e44 c44_114 (rw_icmp_ne (p1 := 126) (p2 := 117) (by decide) rfl ⟨by omega, by omega⟩ ⟨by omega, by omega⟩ (fun c16468 => ?_) (fun c16468 => ?_))
                          · refine wp_of e44 c44_126 (rw_iconst (pc' := 127) rfl ?_)
                            refine wp_of e44 c44_127 (xc_V (pc' := 130) (r := r16463) (as := [vI z15951, vI 0]) (st := []) (lm_7_103) rfl rfl (Nat.le_of_ble_eq_true rfl) w16451 g16465 sh_35 (by decide) rfl (by decide) (s_47 w16451 g16465 ⟨by omega, by omega⟩ ⟨by omega, by omega⟩) (fun R16469 T16470 H16471 p16472 => ?_))
                            obtain ⟨e16473, w16475, f16476, e16474⟩ := p16472
                            subst e16473
                            subst e16474
                            have f16477 := f16455.tr f16476 rfl
                            have f16478 := f16456.tr f16476 rfl
                            have f16479 := f16457.tr f16476 rfl
                            have f16480 := f16458.tr f16476 rfl
                            have f16481 := f16452.tr f16476 rfl
                            show wp _ _ 44 130 [(2, vI v16449), (1, vI z15951), (0, .ref r0)] [] _ H16471 _
                            refine wp_of e44 c44_130 (rw_aload_n (pc' := 131) (v := .ref r0) rfl rfl rfl ?_)
                            have k16482 : H16471 r0 0 = H16450 r0 0 := (f16476 r0 0 _ g0 rfl)
                            have q16483 : H16471 r0 0 = (r16460 : Int) := k16482.trans q16461
                            refine wp_of e44 c44_131 (xg_K (pc' := 134) lf_7_11 w16475 g0 sh_27 (by decide) (by decide) rfl q16483 rfl ?_)
                            refine wp_of e44 c44_134 (rw_iload_n (pc' := 135) (z := v16449) rfl rfl ?_)
                            have k16484 : H16471 r16460 (v16449.toNat) = H16450 r16460 (v16449.toNat) := (f16476 r16460 (v16449.toNat) _ g16462 rfl)
                            have q16485 : H16471 r16460 (v16449.toNat) = (r16463 : Int) := k16484.trans q16464
                            refine wp_of e44 c44_135 (xa_K (pc' := 136) (by decide) w16475 g16462 sh_28 (by decide) (by omega) (by omega) q16485 rfl ?_)
                            refine wp_of e44 c44_136 (rw_aload_n (pc' := 137) (v := .ref r0) rfl rfl rfl ?_)
                            refine wp_of e44 c44_137 (xg_L (pc' := 140) lf_7_71 w16475 g0 sh_27 (by decide) (by decide) ty_27_18 rfl rfl (fun b16486 b16487 => ?_))
                            refine wp_of e44 c44_140 (rw_l2i (pc' := 141) rfl ?_)
                            obtain ⟨v16488, e16489⟩ : ∃ x : Int, x = wq_w (H16471 r0 18) := ⟨_, rfl⟩
                            rw [← e16489]
                            have b16490 : -2147483648 ≤ v16488 ∧ v16488 ≤ 2147483647 := by
                              rw [e16489]
                              exact wI_w _
                            refine wp_of e44 c44_141 (xp_I (pc' := 144) lf_7_107 w16475 g16465 sh_35 (by decide) (by decide) ty_35_17 rfl rfl (by omega) (by omega) ⟨by omega, by omega⟩ rfl (fun H16491 e16492 w16493 => ?_))
                            have f16494 := f16477.put' e16492 g16465 rfl
                            have f16495 := f16478.put' e16492 g16465 rfl
                            have f16496 := f16479.put' e16492 g16465 rfl
                            have f16497 := f16480.put' e16492 g16465 rfl
                            have f16498 := f16481.put' e16492 g16465 rfl
                            have k16499 : H16491 r16463 17 = v16488 := wq_u_s e16492
                            refine wp_of e44 c44_144 (rw_aload_n (pc' := 145) (v := .ref r0) rfl rfl rfl ?_)
                            refine wp_of e44 c44_145 (rw_dup (pc' := 146) rfl rfl ?_)
                            have k16500 : H16491 r0 18 = H16471 r0 18 := (wq_u_t e16492 g16465 g0 rfl 18)
                            refine wp_of e44 c44_146 (xg_L (pc' := 149) lf_7_71 w16493 g0 sh_27 (by decide) (by decide) ty_27_18 rfl rfl (fun b16501 b16502 => ?_))
                            refine wp_of e44 c44_149 (rw_aload_n (pc' := 150) (v := .ref r0) rfl rfl rfl ?_)
                            have k16503 : H16491 r0 0 = H16471 r0 0 := (wq_u_t e16492 g16465 g0 rfl 0)
                            have q16504 : H16491 r0 0 = (r16460 : Int) := k16503.trans q16483
                            refine wp_of e44 c44_150 (xg_K (pc' := 153) lf_7_11 w16493 g0 sh_27 (by decide) (by decide) rfl q16504 rfl ?_)
                            refine wp_of e44 c44_153 (rw_iload_n (pc' := 154) (z := v16449) rfl rfl ?_)
                            have k16505 : H16491 r16460 (v16449.toNat) = H16471 r16460 (v16449.toNat) := (wq_u_t e16492 g16465 g16462 rfl (v16449.toNat))
                            have q16506 : H16491 r16460 (v16449.toNat) = (r16463 : Int) := k16505.trans q16485
                            refine wp_of e44 c44_154 (xa_K (pc' := 155) (by decide) w16493 g16462 sh_28 (by decide) (by omega) (by omega) q16506 rfl ?_)
                            refine wp_of e44 c44_155 (xg_I (pc' := 158) lf_7_110 w16493 g16465 sh_35 (by decide) (by decide) ty_35_15 rfl rfl (fun b16507 b16508 => ?_))
                            refine wp_of e44 c44_158 (rw_i2l (pc' := 159) rfl ⟨by omega, by omega⟩ ?_)
                            refine wp_of e44 c44_159 (rw_lmulw (pc' := 160) rfl ?_)
                            obtain ⟨v16509, e16510⟩ : ∃ x : Int, x = wl_w ((H16491 r0 18) * (H16491 r16463 15)) := ⟨_, rfl⟩
                            rw [← e16510]
                            have b16511 : -9223372036854775808 ≤ v16509 ∧ v16509 ≤ 9223372036854775807 := by
                              rw [e16510]
                              exact wL_w _
                            refine wp_of e44 c44_160 (xp_L (pc' := 163) lf_7_71 w16493 g0 sh_27 (by decide) (by decide) ty_27_18 rfl rfl (by omega) (by omega) ⟨by omega, by omega⟩ rfl (fun H16512 e16513 w16514 => ?_))
                            have f16515 := f16494.put' e16513 g0 rfl
                            have f16516 := f16495.put' e16513 g0 rfl
                            have f16517 := f16496.put' e16513 g0 rfl
                            have f16518 := f16497.put' e16513 g0 rfl
                            have f16519 := f16498.put' e16513 g0 rfl
                            have k16520 : H16512 r0 18 = v16509 := wq_u_s e16513
                            refine wp_of e44 c44_163 (rw_iinc (pc' := 166) (z := v16449) (L' := [(2, vI (v16449 + (-1))), (1, vI z15951), (0, .ref r0)]) rfl rfl rfl rfl ?_)
                            refine wp_of e44 c44_166 (rw_goto (p1 := 98) (by decide) ?_)
                            exact wp_lc (ks := [2, 1, 0]) (wl_c rfl (wl_c rfl (wl_c rfl wl_n))) rfl (by decide) (ih16448 _ (by omega) (v16449 + (-1)) H16512 w16514 f16519 ⟨by omega, by omega⟩ rfl)
                          · refine wp_of e44 c44_117 (rw_aload_n (pc' := 118) (v := .ref r0) rfl rfl rfl ?_)
                            refine wp_of e44 c44_118 (rw_bipush (pc' := 120) (z := 99) rfl (by decide) ?_)
                            refine wp_of e44 c44_120 (xc_V (pc' := 123) (r := r0) (as := [vI 99]) (st := [vI z15951, .ref r16463]) (lm_7_99) rfl rfl (Nat.le_of_ble_eq_true rfl) w16451 g0 sh_27 (by decide) rfl (by decide) (s_46 w16451 g0 ⟨by omega, by omega⟩) (fun R16521 T16522 H16523 p16524 => ?_))
                            obtain ⟨e16525, e16527, z16528, e16526, b16529⟩ := p16524
                            subst e16525
                            subst e16526
                            subst e16527
                            show wp _ _ 44 123 [(2, vI v16449), (1, vI z15951), (0, .ref r0)] [vI z16528, vI z15951, .ref r16463] _ H16450 _
                            refine wp_of e44 c44_123 (rw_goto (p1 := 127) (by decide) ?_)
                            refine wp_of e44 c44_127 (xc_V (pc' := 130) (r := r16463) (as := [vI z15951, vI z16528]) (st := []) (lm_7_103) rfl rfl (Nat.le_of_ble_eq_true rfl) w16451 g16465 sh_35 (by decide) rfl (by decide) (s_47 w16451 g16465 ⟨by omega, by omega⟩ ⟨by omega, by omega⟩) (fun R16530 T16531 H16532 p16533 => ?_))
                            obtain ⟨e16534, w16536, f16537, e16535⟩ := p16533
                            subst e16534
                            subst e16535
                            have f16538 := f16455.tr f16537 rfl
                            have f16539 := f16456.tr f16537 rfl
                            have f16540 := f16457.tr f16537 rfl
                            have f16541 := f16458.tr f16537 rfl
                            have f16542 := f16452.tr f16537 rfl
                            show wp _ _ 44 130 [(2, vI v16449), (1, vI z15951), (0, .ref r0)] [] _ H16532 _
                            refine wp_of e44 c44_130 (rw_aload_n (pc' := 131) (v := .ref r0) rfl rfl rfl ?_)
                            have k16543 : H16532 r0 0 = H16450 r0 0 := (f16537 r0 0 _ g0 rfl)
                            have q16544 : H16532 r0 0 = (r16460 : Int) := k16543.trans q16461
                            refine wp_of e44 c44_131 (xg_K (pc' := 134) lf_7_11 w16536 g0 sh_27 (by decide) (by decide) rfl q16544 rfl ?_)
                            refine wp_of e44 c44_134 (rw_iload_n (pc' := 135) (z := v16449) rfl rfl ?_)
                            have k16545 : H16532 r16460 (v16449.toNat) = H16450 r16460 (v16449.toNat) := (f16537 r16460 (v16449.toNat) _ g16462 rfl)
                            have q16546 : H16532 r16460 (v16449.toNat) = (r16463 : Int) := k16545.trans q16464
                            refine wp_of e44 c44_135 (xa_K (pc' := 136) (by decide) w16536 g16462 sh_28 (by decide) (by omega) (by omega) q16546 rfl ?_)
                            refine wp_of e44 c44_136 (rw_aload_n (pc' := 137) (v := .ref r0) rfl rfl rfl ?_)
                            refine wp_of e44 c44_137 (xg_L (pc' := 140) lf_7_71 w16536 g0 sh_27 (by decide) (by decide) ty_27_18 rfl rfl (fun b16547 b16548 => ?_))
                            refine wp_of e44 c44_140 (rw_l2i (pc' := 141) rfl ?_)
                            obtain ⟨v16549, e16550⟩ : ∃ x : Int, x = wq_w (H16532 r0 18) := ⟨_, rfl⟩
                            rw [← e16550]
                            have b16551 : -2147483648 ≤ v16549 ∧ v16549 ≤ 2147483647 := by
                              rw [e16550]
                              exact wI_w _
                            refine wp_of e44 c44_141 (xp_I (pc' := 144) lf_7_107 w16536 g16465 sh_35 (by decide) (by decide) ty_35_17 rfl rfl (by omega) (by omega) ⟨by omega, by omega⟩ rfl (fun H16552 e16553 w16554 => ?_))
                            have f16555 := f16538.put' e16553 g16465 rfl
                            have f16556 := f16539.put' e16553 g16465 rfl
                            have f16557 := f16540.put' e16553 g16465 rfl
                            have f16558 := f16541.put' e16553 g16465 rfl
                            have f16559 := f16542.put' e16553 g16465 rfl
                            have k16560 : H16552 r16463 17 = v16549 := wq_u_s e16553
                            refine wp_of e44 c44_144 (rw_aload_n (pc' := 145) (v := .ref r0) rfl rfl rfl ?_)
                            refine wp_of e44 c44_145 (rw_dup (pc' := 146) rfl rfl ?_)
                            have k16561 : H16552 r0 18 = H16532 r0 18 := (wq_u_t e16553 g16465 g0 rfl 18)
                            refine wp_of e44 c44_146 (xg_L (pc' := 149) lf_7_71 w16554 g0 sh_27 (by decide) (by decide) ty_27_18 rfl rfl (fun b16562 b16563 => ?_))
                            refine wp_of e44 c44_149 (rw_aload_n (pc' := 150) (v := .ref r0) rfl rfl rfl ?_)
                            have k16564 : H16552 r0 0 = H16532 r0 0 := (wq_u_t e16553 g16465 g0 rfl 0)
                            have q16565 : H16552 r0 0 = (r16460 : Int) := k16564.trans q16544
                            refine wp_of e44 c44_150 (xg_K (pc' := 153) lf_7_11 w16554 g0 sh_27 (by decide) (by decide) rfl q16565 rfl ?_)
                            refine wp_of e44 c44_153 (rw_iload_n (pc' := 154) (z := v16449) rfl rfl ?_)
                            have k16566 : H16552 r16460 (v16449.toNat) = H16532 r16460 (v16449.toNat) := (wq_u_t e16553 g16465 g16462 rfl (v16449.toNat))
                            have q16567 : H16552 r16460 (v16449.toNat) = (r16463 : Int) := k16566.trans q16546
                            refine wp_of e44 c44_154 (xa_K (pc' := 155) (by decide) w16554 g16462 sh_28 (by decide) (by omega) (by omega) q16567 rfl ?_)
                            refine wp_of e44 c44_155 (xg_I (pc' := 158) lf_7_110 w16554 g16465 sh_35 (by decide) (by decide) ty_35_15 rfl rfl (fun b16568 b16569 => ?_))
                            refine wp_of e44 c44_158 (rw_i2l (pc' := 159) rfl ⟨by omega, by omega⟩ ?_)
                            refine wp_of e44 c44_159 (rw_lmulw (pc' := 160) rfl ?_)
                            obtain ⟨v16570, e16571⟩ : ∃ x : Int, x = wl_w ((H16552 r0 18) * (H16552 r16463 15)) := ⟨_, rfl⟩
                            rw [← e16571]
                            have b16572 : -9223372036854775808 ≤ v16570 ∧ v16570 ≤ 9223372036854775807 := by
                              rw [e16571]
                              exact wL_w _
                            refine wp_of e44 c44_160 (xp_L (pc' := 163) lf_7_71 w16554 g0 sh_27 (by decide) (by decide) ty_27_18 rfl rfl (by omega) (by omega) ⟨by omega, by omega⟩ rfl (fun H16573 e16574 w16575 => ?_))
                            have f16576 := f16555.put' e16574 g0 rfl
                            have f16577 := f16556.put' e16574 g0 rfl
                            have f16578 := f16557.put' e16574 g0 rfl
                            have f16579 := f16558.put' e16574 g0 rfl
                            have f16580 := f16559.put' e16574 g0 rfl
                            have k16581 : H16573 r0 18 = v16570 := wq_u_s e16574
                            refine wp_of e44 c44_163 (rw_iinc (pc' := 166) (z := v16449) (L' := [(2, vI (v16449 + (-1))), (1, vI z15951), (0, .ref r0)]) rfl rfl rfl rfl ?_)
                            refine wp_of e44 c44_166 (rw_goto (p1 := 98) (by decide) ?_)
                            exact wp_lc (ks := [2, 1, 0]) (wl_c rfl (wl_c rfl (wl_c rfl wl_n))) rfl (by decide) (ih16448 _ (by omega) (v16449 + (-1)) H16573 w16575 f16580 ⟨by omega, by omega⟩ rfl)
                    exact wp_lc (ks := [2, 1, 0]) (wl_c rfl (wl_c rfl (wl_c rfl wl_n))) rfl (by decide) (lp16446 _ ((H16208 r0 10) - 1) H16208 w16210 wfr.rf ⟨by omega, by omega⟩ rfl)
                  · refine wp_of e44 c44_70 (rw_aload_n (pc' := 71) (v := .ref r0) rfl rfl rfl ?_)
                    refine wp_of e44 c44_71 (xg_R (pc' := 74) lf_7_33 w16198 g0 sh_27 (by decide) (by decide) ty_27_6 rfl rfl (fun r16582 q16583 g16584 => ?_))
                    refine wp_of e44 c44_74 (rw_iload_n (pc' := 75) (z := v16196) rfl rfl ?_)
                    refine wp_of e44 c44_75 (rw_dup2 (pc' := 76) rfl rfl rfl ?_)
                    refine wp_of e44 c44_76 (xa_I (so := 0) (pc' := 77) w16198 g16584 sh_34 (by decide) (ty_34 _) (by omega) (by omega) rfl (fun b16585 b16586 => ?_))
                    refine wp_of e44 c44_77 (rw_iload_n (pc' := 78) (z := z15951) rfl rfl ?_)
                    refine wp_of e44 c44_78 (rw_iand (pc' := 79) rfl ?_)
                    obtain ⟨v16587, e16588⟩ : ∃ x : Int, x = wq_and (H16197 r16582 v16196.toNat) z15951 := ⟨_, rfl⟩
                    rw [← e16588]
                    have b16589 : -2147483648 ≤ v16587 ∧ v16587 ≤ 2147483647 := by
                      rw [e16588]
                      exact wI_and _ _
                    refine wp_of e44 c44_79 (xs_I (pc' := 80) w16198 g16584 (by decide) sh_34 (by decide) (ty_34 _) (by omega) (by omega) ⟨by omega, by omega⟩ (by omega) (by omega) rfl (fun H16590 e16591 w16592 => ?_))
                    have f16593 := f16202.put' e16591 g16584 rfl
                    have f16594 := f16203.put' e16591 g16584 rfl
                    have f16595 := f16204.put' e16591 g16584 rfl
                    have f16596 := f16199.put' e16591 g16584 rfl
                    refine wp_of e44 c44_80 (rw_iinc (pc' := 83) (z := v16196) (L' := [(2, vI (v16196 + 1)), (1, vI z15951), (0, .ref r0)]) rfl rfl rfl rfl ?_)
                    refine wp_of e44 c44_83 (rw_goto (p1 := 62) (by decide) ?_)
                    exact wp_lc (ks := [2, 1, 0]) (wl_c rfl (wl_c rfl (wl_c rfl wl_n))) rfl (by decide) (ih16195 _ (by omega) (v16196 + 1) H16590 w16592 f16596 ⟨by omega, by omega⟩ rfl)
              exact wp_lc (ks := [2, 1, 0]) (wl_c rfl (wl_c rfl (wl_c rfl wl_n))) rfl (by decide) (lp16193 _ 0 H16071 w16072 wfr.rf ⟨by omega, by omega⟩ rfl)
            · refine wp_of e44 c44_44 (rw_aload_n (pc' := 45) (v := .ref r0) rfl rfl rfl ?_)
              refine wp_of e44 c44_45 (xg_R (pc' := 48) lf_7_30 w16072 g0 sh_27 (by decide) (by decide) ty_27_5 rfl rfl (fun r16597 q16598 g16599 => ?_))
              refine wp_of e44 c44_48 (rw_iload_n (pc' := 49) (z := v16070) rfl rfl ?_)
              refine wp_of e44 c44_49 (rw_dup2 (pc' := 50) rfl rfl rfl ?_)
              refine wp_of e44 c44_50 (xa_I (so := 0) (pc' := 51) w16072 g16599 sh_33 (by decide) (ty_33 _) (by omega) (by omega) rfl (fun b16600 b16601 => ?_))
              refine wp_of e44 c44_51 (rw_iload_n (pc' := 52) (z := z15951) rfl rfl ?_)
              refine wp_of e44 c44_52 (rw_iand (pc' := 53) rfl ?_)
              obtain ⟨v16602, e16603⟩ : ∃ x : Int, x = wq_and (H16071 r16597 v16070.toNat) z15951 := ⟨_, rfl⟩
              rw [← e16603]
              have b16604 : -2147483648 ≤ v16602 ∧ v16602 ≤ 2147483647 := by
                rw [e16603]
                exact wI_and _ _
              refine wp_of e44 c44_53 (xs_I (pc' := 54) w16072 g16599 (by decide) sh_33 (by decide) (ty_33 _) (by omega) (by omega) ⟨by omega, by omega⟩ (by omega) (by omega) rfl (fun H16605 e16606 w16607 => ?_))
              have f16608 := f16076.put' e16606 g16599 rfl
              have f16609 := f16077.put' e16606 g16599 rfl
              have f16610 := f16073.put' e16606 g16599 rfl
              refine wp_of e44 c44_54 (rw_iinc (pc' := 57) (z := v16070) (L' := [(2, vI (v16070 + 1)), (1, vI z15951), (0, .ref r0)]) rfl rfl rfl rfl ?_)
              refine wp_of e44 c44_57 (rw_goto (p1 := 36) (by decide) ?_)
              exact wp_lc (ks := [2, 1, 0]) (wl_c rfl (wl_c rfl (wl_c rfl wl_n))) rfl (by decide) (ih16069 _ (by omega) (v16070 + 1) H16605 w16607 f16610 ⟨by omega, by omega⟩ rfl)
        exact wp_lc (ks := [2, 1, 0]) (wl_c rfl (wl_c rfl (wl_c rfl wl_n))) rfl (by decide) (lp16067 _ 0 H15984 w15988 wfr.rf ⟨by omega, by omega⟩ rfl)
      · refine wp_of e44 c44_16 (rw_aload_n (pc' := 17) (v := .ref r0) rfl rfl rfl ?_)
        refine wp_of e44 c44_17 (xg_R (pc' := 20) lf_7_17 w15976 g0 sh_27 (by decide) (by decide) ty_27_1 rfl rfl (fun r16611 q16612 g16613 => ?_))
        refine wp_of e44 c44_20 (rw_iload_n (pc' := 21) (z := v15974) rfl rfl ?_)
        refine wp_of e44 c44_21 (rw_bipush (pc' := 23) (z := -2) rfl (by decide) ?_)
        refine wp_of e44 c44_23 (xs_I (pc' := 24) w15976 g16613 (by decide) sh_29 (by decide) (ty_29 _) (by omega) (by omega) ⟨by omega, by omega⟩ (by omega) (by omega) rfl (fun H16614 e16615 w16616 => ?_))
        have f16617 := f15980.put' e16615 g16613 rfl
        have f16618 := f15977.put' e16615 g16613 rfl
        refine wp_of e44 c44_24 (rw_iinc (pc' := 27) (z := v15974) (L' := [(2, vI (v15974 + 1)), (1, vI z15951), (0, .ref r0)]) rfl rfl rfl rfl ?_)
        refine wp_of e44 c44_27 (rw_goto (p1 := 10) (by decide) ?_)
        exact wp_lc (ks := [2, 1, 0]) (wl_c rfl (wl_c rfl (wl_c rfl wl_n))) rfl (by decide) (ih15973 _ (by omega) (v15974 + 1) H16614 w16616 f16618 ⟨by omega, by omega⟩ rfl)
  exact wp_lc (ks := [2, 1, 0]) (wl_c rfl (wl_c rfl (wl_c rfl wl_n))) rfl (by decide) (lp15971 _ (H r0 7) H hW wfr.rf ⟨by omega, by omega⟩ rfl)
/-! StrikeAwake$Census.forget()V -/
theorem e50 : wq_en 50 = some (4, 1, false, none) := rfl
theorem c50_0 : mc_cd 50 0 = some (.aload_n 0, 1) := by decide +kernel
theorem c50_1 : mc_cd 50 1 = some (.iconst 0, 1) := by decide +kernel
theorem c50_2 : mc_cd 50 2 = some (.putfield 32, 3) := by decide +kernel
theorem c50_5 : mc_cd 50 5 = some (.return_, 1) := by decide +kernel
abbrev q_50 (r0 : Nat) (T : wq_T) (H : wq_H) : Option Value → wq_T → wq_H → Prop := fun r T' H' => T = T' ∧ WT T H' ∧ wfr [(12, 9)] T H H' ∧ none = r
set_option maxHeartbeats 4000000 in
theorem s_50 {kt : Nat → Option mc_E} {T : wq_T} {H : wq_H} {r0 : Nat} (hW : WT T H) (g0 : T.2.2.2 r0 = some 12) : wpc kt 1 50 [.ref r0] T H (q_50 r0 T H) := by
  refine wp_enter e50 (Nat.le_of_ble_eq_true rfl) rfl ?_
  have f0 : wfr [(12, 9)] T H H := wfr.rf
  show wp _ _ 50 0 [(0, .ref r0)] [] _ H _
  refine wp_of e50 c50_0 (rw_aload_n (pc' := 1) (v := .ref r0) rfl rfl rfl ?_)
  refine wp_of e50 c50_1 (rw_iconst (pc' := 2) rfl ?_)
  refine wp_of e50 c50_2 (xp_Z (pc' := 5) lf_4_32 hW g0 sh_12 (by decide) (by decide) ty_12_9 rfl rfl (by omega) (by omega) rfl (fun H16624 e16625 w16626 => ?_))
  have f16627 := f0.put' e16625 g0 rfl
  have k16628 : H16624 r0 9 = 0 := wq_u_s e16625
  exact wp_return e50 c50_5 rfl ⟨rfl, w16626, f16627, rfl⟩
/-! StrikeAwake.answer(I)I -/
theorem e51 : wq_en 51 = some (0, 2, false, some FieldType.int) := rfl
theorem c51_0 : mc_cd 51 0 = some (.aload_n 0, 1) := by decide +kernel
theorem c51_1 : mc_cd 51 1 = some (.iconst 0, 1) := by decide +kernel
theorem c51_2 : mc_cd 51 2 = some (.putfield 102, 3) := by decide +kernel
theorem c51_5 : mc_cd 51 5 = some (.iload_n 1, 1) := by decide +kernel
theorem c51_6 : mc_cd 51 6 = some (.ireturn, 1) := by decide +kernel
abbrev q_51 (r0 : Nat) (a1 : Int) (T : wq_T) (H : wq_H) : Option Value → wq_T → wq_H → Prop := fun r T' H' => T = T' ∧ WT T H' ∧ wfr [(1, 10)] T H H' ∧ ∃ z : Int, some (vI z) = r ∧ ((-2147483648) ≤ z ∧ z ≤ 2147483647)
set_option maxHeartbeats 4000000 in
theorem s_51 {kt : Nat → Option mc_E} {T : wq_T} {H : wq_H} {r0 : Nat} {a1 : Int} (hW : WT T H) (g0 : T.2.2.2 r0 = some 1) (i1 : (-2147483648) ≤ a1 ∧ a1 ≤ 2147483647) : wpc kt 1 51 [.ref r0, vI a1] T H (q_51 r0 a1 T H) := by
  refine wp_enter e51 (Nat.le_of_ble_eq_true rfl) rfl ?_
  have f0 : wfr [(1, 10)] T H H := wfr.rf
  show wp _ _ 51 0 [(0, .ref r0), (1, vI a1)] [] _ H _
  refine wp_of e51 c51_0 (rw_aload_n (pc' := 1) (v := .ref r0) rfl rfl rfl ?_)
  refine wp_of e51 c51_1 (rw_iconst (pc' := 2) rfl ?_)
  refine wp_of e51 c51_2 (xp_I (pc' := 5) lf_0_102 hW g0 sh_1 (by decide) (by decide) ty_1_10 rfl rfl (by omega) (by omega) ⟨by omega, by omega⟩ rfl (fun H16634 e16635 w16636 => ?_))
  have f16637 := f0.put' e16635 g0 rfl
  have k16638 : H16634 r0 10 = 0 := wq_u_s e16635
  refine wp_of e51 c51_5 (rw_iload_n (pc' := 6) (z := a1) rfl rfl ?_)
  exact wp_ireturn e51 c51_6 rfl ⟨rfl, w16636, f16637, a1, rfl, ⟨by omega, by omega⟩⟩
/-! StrikeAwake.parish(I)I -/
theorem e11 : wq_en 11 = some (0, 4, false, some FieldType.int) := rfl
theorem c11_0 : mc_cd 11 0 = some (.iload_n 1, 1) := by decide +kernel
theorem c11_1 : mc_cd 11 1 = some (.ifCond .lt 11, 3) := by decide +kernel
theorem c11_4 : mc_cd 11 4 = some (.iload_n 1, 1) := by decide +kernel
theorem c11_5 : mc_cd 11 5 = some (.aload_n 0, 1) := by decide +kernel
theorem c11_6 : mc_cd 11 6 = some (.getfield 62, 3) := by decide +kernel
theorem c11_9 : mc_cd 11 9 = some (.if_icmp .le 9, 3) := by decide +kernel
theorem c11_12 : mc_cd 11 12 = some (.aload_n 0, 1) := by decide +kernel
theorem c11_13 : mc_cd 11 13 = some (.iconst 2, 1) := by decide +kernel
theorem c11_14 : mc_cd 11 14 = some (.invokevirtual 70, 3) := by decide +kernel
theorem c11_17 : mc_cd 11 17 = some (.ireturn, 1) := by decide +kernel
theorem c11_18 : mc_cd 11 18 = some (.aload_n 0, 1) := by decide +kernel
theorem c11_19 : mc_cd 11 19 = some (.iconst 0, 1) := by decide +kernel
theorem c11_20 : mc_cd 11 20 = some (.putfield 62, 3) := by decide +kernel
theorem c11_23 : mc_cd 11 23 = some (.aload_n 0, 1) := by decide +kernel
theorem c11_24 : mc_cd 11 24 = some (.getfield 16, 3) := by decide +kernel
theorem c11_27 : mc_cd 11 27 = some (.aload_n 0, 1) := by decide +kernel
theorem c11_28 : mc_cd 11 28 = some (.getfield 9, 3) := by decide +kernel
theorem c11_31 : mc_cd 11 31 = some (.iload_n 1, 1) := by decide +kernel
theorem c11_32 : mc_cd 11 32 = some (.aload_n 0, 1) := by decide +kernel
theorem c11_33 : mc_cd 11 33 = some (.getfield 55, 3) := by decide +kernel
theorem c11_36 : mc_cd 11 36 = some (.invokevirtual 74, 3) := by decide +kernel
theorem c11_39 : mc_cd 11 39 = some (.istore_n 2, 1) := by decide +kernel
theorem c11_40 : mc_cd 11 40 = some (.aload_n 0, 1) := by decide +kernel
theorem c11_41 : mc_cd 11 41 = some (.aload_n 0, 1) := by decide +kernel
theorem c11_42 : mc_cd 11 42 = some (.getfield 16, 3) := by decide +kernel
theorem c11_45 : mc_cd 11 45 = some (.getfield 78, 3) := by decide +kernel
theorem c11_48 : mc_cd 11 48 = some (.putfield 81, 3) := by decide +kernel
theorem c11_51 : mc_cd 11 51 = some (.aload_n 0, 1) := by decide +kernel
theorem c11_52 : mc_cd 11 52 = some (.aload_n 0, 1) := by decide +kernel
theorem c11_53 : mc_cd 11 53 = some (.getfield 16, 3) := by decide +kernel
theorem c11_56 : mc_cd 11 56 = some (.getfield 84, 3) := by decide +kernel
theorem c11_59 : mc_cd 11 59 = some (.putfield 87, 3) := by decide +kernel
theorem c11_62 : mc_cd 11 62 = some (.iload_n 2, 1) := by decide +kernel
theorem c11_63 : mc_cd 11 63 = some (.ifCond .ne 9, 3) := by decide +kernel
theorem c11_66 : mc_cd 11 66 = some (.aload_n 0, 1) := by decide +kernel
theorem c11_67 : mc_cd 11 67 = some (.iconst 4, 1) := by decide +kernel
theorem c11_68 : mc_cd 11 68 = some (.invokevirtual 70, 3) := by decide +kernel
theorem c11_71 : mc_cd 11 71 = some (.ireturn, 1) := by decide +kernel
theorem c11_72 : mc_cd 11 72 = some (.aload_n 0, 1) := by decide +kernel
theorem c11_73 : mc_cd 11 73 = some (.getfield 55, 3) := by decide +kernel
theorem c11_76 : mc_cd 11 76 = some (.invokevirtual 90, 3) := by decide +kernel
theorem c11_79 : mc_cd 11 79 = some (.aload_n 0, 1) := by decide +kernel
theorem c11_80 : mc_cd 11 80 = some (.getfield 51, 3) := by decide +kernel
theorem c11_83 : mc_cd 11 83 = some (.astore_n 3, 1) := by decide +kernel
theorem c11_84 : mc_cd 11 84 = some (.aload_n 0, 1) := by decide +kernel
theorem c11_85 : mc_cd 11 85 = some (.aload_n 0, 1) := by decide +kernel
theorem c11_86 : mc_cd 11 86 = some (.getfield 55, 3) := by decide +kernel
theorem c11_89 : mc_cd 11 89 = some (.putfield 51, 3) := by decide +kernel
theorem c11_92 : mc_cd 11 92 = some (.aload_n 0, 1) := by decide +kernel
theorem c11_93 : mc_cd 11 93 = some (.aload_n 3, 1) := by decide +kernel
theorem c11_94 : mc_cd 11 94 = some (.putfield 55, 3) := by decide +kernel
theorem c11_97 : mc_cd 11 97 = some (.aload_n 0, 1) := by decide +kernel
theorem c11_98 : mc_cd 11 98 = some (.iconst 1, 1) := by decide +kernel
theorem c11_99 : mc_cd 11 99 = some (.putfield 58, 3) := by decide +kernel
theorem c11_102 : mc_cd 11 102 = some (.aload_n 0, 1) := by decide +kernel
theorem c11_103 : mc_cd 11 103 = some (.getfield 30, 3) := by decide +kernel
theorem c11_106 : mc_cd 11 106 = some (.invokevirtual 93, 3) := by decide +kernel
theorem c11_109 : mc_cd 11 109 = some (.aload_n 0, 1) := by decide +kernel
theorem c11_110 : mc_cd 11 110 = some (.aload_n 0, 1) := by decide +kernel
theorem c11_111 : mc_cd 11 111 = some (.getfield 51, 3) := by decide +kernel
theorem c11_114 : mc_cd 11 114 = some (.getfield 96, 3) := by decide +kernel
theorem c11_117 : mc_cd 11 117 = some (.invokevirtual 99, 3) := by decide +kernel
theorem c11_120 : mc_cd 11 120 = some (.ireturn, 1) := by decide +kernel
abbrev q_11 (r0 : Nat) (a1 : Int) (T : wq_T) (H : wq_H) : Option Value → wq_T → wq_H → Prop := fun r T' H' => T = T' ∧ WT T H' ∧ wfr [(12, 9), (27, 7), (27, 8), (27, 9), (27, 10), (27, 11), (27, 12), (27, 13), (27, 14), (27, 15), (27, 16), (27, 17), (27, 18), (35, 6), (35, 7), (35, 8), (35, 9), (35, 10), (35, 11), (35, 12), (35, 13), (35, 14), (35, 15), (35, 16), (35, 17), (3, 1), (3, 2), (3, 3), (3, 4), (1, 6), (1, 7), (1, 8), (1, 9), (1, 10), (1, 11), (1, 12), (4, 0), (4, 1), (4, 2), (4, 3), (4, 4), (4, 5), (4, 6), (38, 999), (39, 999), (36, 999), (31, 999), (40, 999), (41, 999), (34, 999), (37, 999), (29, 999), (30, 999), (33, 999), (32, 999)] T H H' ∧ ∃ z : Int, some (vI z) = r ∧ ((-2147483648) ≤ z ∧ z ≤ 2147483647)
set_option maxHeartbeats 4000000 in
theorem s_11 {kt : Nat → Option mc_E} {T : wq_T} {H : wq_H} {r0 : Nat} {a1 : Int} (hW : WT T H) (g0 : T.2.2.2 r0 = some 1) (i1 : (-2147483648) ≤ a1 ∧ a1 ≤ 2147483647) : wpc kt 8 11 [.ref r0, vI a1] T H (q_11 r0 a1 T H) := by
  refine wp_enter e11 (Nat.le_of_ble_eq_true rfl) rfl ?_
  have f0 : wfr [(12, 9), (27, 7), (27, 8), (27, 9), (27, 10), (27, 11), (27, 12), (27, 13), (27, 14), (27, 15), (27, 16), (27, 17), (27, 18), (35, 6), (35, 7), (35, 8), (35, 9), (35, 10), (35, 11), (35, 12), (35, 13), (35, 14), (35, 15), (35, 16), (35, 17), (3, 1), (3, 2), (3, 3), (3, 4), (1, 6), (1, 7), (1, 8), (1, 9), (1, 10), (1, 11), (1, 12), (4, 0), (4, 1), (4, 2), (4, 3), (4, 4), (4, 5), (4, 6), (38, 999), (39, 999), (36, 999), (31, 999), (40, 999), (41, 999), (34, 999), (37, 999), (29, 999), (30, 999), (33, 999), (32, 999)] T H H := wfr.rf
  show wp _ _ 11 0 [(0, .ref r0), (1, vI a1)] [] _ H _
  refine wp_of e11 c11_0 (rw_iload_n (pc' := 1) (z := a1) rfl rfl ?_)
  refine wp_of e11 c11_1 (rw_if_lt (p1 := 12) (p2 := 4) (by decide) rfl ⟨by omega, by omega⟩ (fun c16778 => ?_) (fun c16778 => ?_))
  · refine wp_of e11 c11_12 (rw_aload_n (pc' := 13) (v := .ref r0) rfl rfl rfl ?_)
    refine wp_of e11 c11_13 (rw_iconst (pc' := 14) rfl ?_)
    refine wp_of e11 c11_14 (xc_V (pc' := 17) (r := r0) (as := [vI 2]) (st := []) (lm_0_70) rfl rfl (Nat.le_of_ble_eq_true rfl) hW g0 sh_1 (by decide) rfl (by decide) (s_12 hW g0 ⟨by omega, by omega⟩) (fun R16779 T16780 H16781 p16782 => ?_))
    obtain ⟨e16783, w16785, f16786, z16787, e16784, b16788⟩ := p16782
    subst e16783
    subst e16784
    have f16789 := f0.tr f16786 rfl
    show wp _ _ 11 17 [(0, .ref r0), (1, vI a1)] [vI z16787] _ H16781 _
    exact wp_ireturn e11 c11_17 rfl ⟨rfl, w16785, f16789, z16787, rfl, ⟨by omega, by omega⟩⟩
  · refine wp_of e11 c11_4 (rw_iload_n (pc' := 5) (z := a1) rfl rfl ?_)
    refine wp_of e11 c11_5 (rw_aload_n (pc' := 6) (v := .ref r0) rfl rfl rfl ?_)
    refine wp_of e11 c11_6 (xg_I (pc' := 9) lf_0_62 hW g0 sh_1 (by decide) (by decide) ty_1_9 rfl rfl (fun b16790 b16791 => ?_))
    refine wp_of e11 c11_9 (rw_icmp_le (p1 := 18) (p2 := 12) (by decide) rfl ⟨by omega, by omega⟩ ⟨by omega, by omega⟩ (fun c16792 => ?_) (fun c16792 => ?_))
    · refine wp_of e11 c11_18 (rw_aload_n (pc' := 19) (v := .ref r0) rfl rfl rfl ?_)
      refine wp_of e11 c11_19 (rw_iconst (pc' := 20) rfl ?_)
      refine wp_of e11 c11_20 (xp_I (pc' := 23) lf_0_62 hW g0 sh_1 (by decide) (by decide) ty_1_9 rfl rfl (by omega) (by omega) ⟨by omega, by omega⟩ rfl (fun H16793 e16794 w16795 => ?_))
      have f16796 := f0.put' e16794 g0 rfl
      have k16797 : H16793 r0 9 = 0 := wq_u_s e16794
      refine wp_of e11 c11_23 (rw_aload_n (pc' := 24) (v := .ref r0) rfl rfl rfl ?_)
      refine wp_of e11 c11_24 (xg_R (pc' := 27) lf_0_16 w16795 g0 sh_1 (by decide) (by decide) ty_1_1 rfl rfl (fun r16798 q16799 g16800 => ?_))
      refine wp_of e11 c11_27 (rw_aload_n (pc' := 28) (v := .ref r0) rfl rfl rfl ?_)
      refine wp_of e11 c11_28 (xg_R (pc' := 31) lf_0_9 w16795 g0 sh_1 (by decide) (by decide) ty_1_0 rfl rfl (fun r16801 q16802 g16803 => ?_))
      refine wp_of e11 c11_31 (rw_iload_n (pc' := 32) (z := a1) rfl rfl ?_)
      refine wp_of e11 c11_32 (rw_aload_n (pc' := 33) (v := .ref r0) rfl rfl rfl ?_)
      refine wp_of e11 c11_33 (xg_R (pc' := 36) lf_0_55 w16795 g0 sh_1 (by decide) (by decide) ty_1_7 rfl rfl (fun r16804 q16805 g16806 => ?_))
      refine wp_of e11 c11_36 (xc_V (pc' := 39) (r := r16798) (as := [.ref r16801, vI a1, .ref r16804]) (st := []) (lm_0_74) rfl rfl (Nat.le_of_ble_eq_true rfl) w16795 g16800 sh_3 (by decide) rfl (by decide) (s_13 w16795 g16800 g16803 ⟨by omega, by omega⟩ g16806) (fun R16807 T16808 H16809 p16810 => ?_))
      obtain ⟨e16811, w16813, f16814, z16815, e16812, b16816⟩ := p16810
      subst e16811
      subst e16812
      have f16817 := f16796.tr f16814 rfl
      show wp _ _ 11 39 [(0, .ref r0), (1, vI a1)] [vI z16815] _ H16809 _
      refine wp_of e11 c11_39 (rw_istore_n (pc' := 40) (z := z16815) (L' := [(2, vI z16815), (0, .ref r0), (1, vI a1)]) rfl rfl rfl ?_)
      refine wp_of e11 c11_40 (rw_aload_n (pc' := 41) (v := .ref r0) rfl rfl rfl ?_)
      refine wp_of e11 c11_41 (rw_aload_n (pc' := 42) (v := .ref r0) rfl rfl rfl ?_)
      have k16818 : H16809 r0 1 = H16793 r0 1 := (f16814 r0 1 _ g0 rfl)
      have q16819 : H16809 r0 1 = (r16798 : Int) := k16818.trans q16799
      refine wp_of e11 c11_42 (xg_K (pc' := 45) lf_0_16 w16813 g0 sh_1 (by decide) (by decide) rfl q16819 rfl ?_)
      refine wp_of e11 c11_45 (xg_I (pc' := 48) lf_0_78 w16813 g16800 sh_3 (by decide) (by decide) ty_3_3 rfl rfl (fun b16820 b16821 => ?_))
      refine wp_of e11 c11_48 (xp_I (pc' := 51) lf_0_81 w16813 g0 sh_1 (by decide) (by decide) ty_1_11 rfl rfl (by omega) (by omega) ⟨by omega, by omega⟩ rfl (fun H16822 e16823 w16824 => ?_))
      have f16825 := f16817.put' e16823 g0 rfl
      have k16826 : H16822 r0 11 = H16809 r16798 3 := wq_u_s e16823
      refine wp_of e11 c11_51 (rw_aload_n (pc' := 52) (v := .ref r0) rfl rfl rfl ?_)
      refine wp_of e11 c11_52 (rw_aload_n (pc' := 53) (v := .ref r0) rfl rfl rfl ?_)
      have k16827 : H16822 r0 1 = H16809 r0 1 := (wq_u_j e16823 rfl)
      have q16828 : H16822 r0 1 = (r16798 : Int) := k16827.trans q16819
      refine wp_of e11 c11_53 (xg_K (pc' := 56) lf_0_16 w16824 g0 sh_1 (by decide) (by decide) rfl q16828 rfl ?_)
      refine wp_of e11 c11_56 (xg_I (pc' := 59) lf_0_84 w16824 g16800 sh_3 (by decide) (by decide) ty_3_4 rfl rfl (fun b16829 b16830 => ?_))
      refine wp_of e11 c11_59 (xp_I (pc' := 62) lf_0_87 w16824 g0 sh_1 (by decide) (by decide) ty_1_12 rfl rfl (by omega) (by omega) ⟨by omega, by omega⟩ rfl (fun H16831 e16832 w16833 => ?_))
      have f16834 := f16825.put' e16832 g0 rfl
      have k16835 : H16831 r0 12 = H16822 r16798 4 := wq_u_s e16832
      refine wp_of e11 c11_62 (rw_iload_n (pc' := 63) (z := z16815) rfl rfl ?_)
      refine wp_of e11 c11_63 (rw_if_ne (p1 := 72) (p2 := 66) (by decide) rfl ⟨by omega, by omega⟩ (fun c16836 => ?_) (fun c16836 => ?_))
      · refine wp_of e11 c11_72 (rw_aload_n (pc' := 73) (v := .ref r0) rfl rfl rfl ?_)
        have k16837 : H16831 r0 7 = H16793 r0 7 := ((wq_u_j e16832 rfl).trans ((wq_u_j e16823 rfl).trans (f16814 r0 7 _ g0 rfl)))
        have q16838 : H16831 r0 7 = (r16804 : Int) := k16837.trans q16805
        refine wp_of e11 c11_73 (xg_K (pc' := 76) lf_0_55 w16833 g0 sh_1 (by decide) (by decide) rfl q16838 rfl ?_)
        refine wp_of e11 c11_76 (xc_V (pc' := 79) (r := r16804) (as := []) (st := []) (lm_0_90) rfl rfl (Nat.le_of_ble_eq_true rfl) w16833 g16806 sh_27 (by decide) rfl (by decide) (s_44 w16833 g16806) (fun R16839 T16840 H16841 p16842 => ?_))
        obtain ⟨e16843, w16845, f16846, e16844⟩ := p16842
        subst e16843
        subst e16844
        have f16847 := f16834.tr f16846 rfl
        show wp _ _ 11 79 [(2, vI z16815), (0, .ref r0), (1, vI a1)] [] _ H16841 _
        refine wp_of e11 c11_79 (rw_aload_n (pc' := 80) (v := .ref r0) rfl rfl rfl ?_)
        refine wp_of e11 c11_80 (xg_R (pc' := 83) lf_0_51 w16845 g0 sh_1 (by decide) (by decide) ty_1_6 rfl rfl (fun r16848 q16849 g16850 => ?_))
        refine wp_of e11 c11_83 (rw_astore_n (pc' := 84) (v := .ref r16848) (L' := [(3, .ref r16848), (2, vI z16815), (0, .ref r0), (1, vI a1)]) rfl rfl rfl rfl ?_)
        refine wp_of e11 c11_84 (rw_aload_n (pc' := 85) (v := .ref r0) rfl rfl rfl ?_)
        refine wp_of e11 c11_85 (rw_aload_n (pc' := 86) (v := .ref r0) rfl rfl rfl ?_)
        have k16851 : H16841 r0 7 = H16831 r0 7 := (f16846 r0 7 _ g0 rfl)
        have q16852 : H16841 r0 7 = (r16804 : Int) := k16851.trans q16838
        refine wp_of e11 c11_86 (xg_K (pc' := 89) lf_0_55 w16845 g0 sh_1 (by decide) (by decide) rfl q16852 rfl ?_)
        refine wp_of e11 c11_89 (xp_R (pc' := 92) lf_0_51 w16845 g0 sh_1 (by decide) (by decide) rfl rfl (wok_2 ty_1_6 g16806) rfl (fun H16853 e16854 w16855 => ?_))
        have f16856 := f16847.put' e16854 g0 rfl
        have q16857 : H16853 r0 6 = (r16804 : Int) := wq_u_s e16854
        refine wp_of e11 c11_92 (rw_aload_n (pc' := 93) (v := .ref r0) rfl rfl rfl ?_)
        refine wp_of e11 c11_93 (rw_aload_n (pc' := 94) (v := .ref r16848) rfl rfl rfl ?_)
        refine wp_of e11 c11_94 (xp_R (pc' := 97) lf_0_55 w16855 g0 sh_1 (by decide) (by decide) rfl rfl (wok_2 ty_1_7 g16850) rfl (fun H16858 e16859 w16860 => ?_))
        have f16861 := f16856.put' e16859 g0 rfl
        have q16862 : H16858 r0 7 = (r16848 : Int) := wq_u_s e16859
        refine wp_of e11 c11_97 (rw_aload_n (pc' := 98) (v := .ref r0) rfl rfl rfl ?_)
        refine wp_of e11 c11_98 (rw_iconst (pc' := 99) rfl ?_)
        refine wp_of e11 c11_99 (xp_Z (pc' := 102) lf_0_58 w16860 g0 sh_1 (by decide) (by decide) ty_1_8 rfl rfl (by omega) (by omega) rfl (fun H16863 e16864 w16865 => ?_))
        have f16866 := f16861.put' e16864 g0 rfl
        have k16867 : H16863 r0 8 = 1 := wq_u_s e16864
        refine wp_of e11 c11_102 (rw_aload_n (pc' := 103) (v := .ref r0) rfl rfl rfl ?_)
        refine wp_of e11 c11_103 (xg_R (pc' := 106) lf_0_30 w16865 g0 sh_1 (by decide) (by decide) ty_1_3 rfl rfl (fun r16868 q16869 g16870 => ?_))
        refine wp_of e11 c11_106 (xc_V (pc' := 109) (r := r16868) (as := []) (st := []) (lm_0_93) rfl rfl (Nat.le_of_ble_eq_true rfl) w16865 g16870 sh_12 (by decide) rfl (by decide) (s_50 w16865 g16870) (fun R16871 T16872 H16873 p16874 => ?_))
        obtain ⟨e16875, w16877, f16878, e16876⟩ := p16874
        subst e16875
        subst e16876
        have f16879 := f16866.tr f16878 rfl
        show wp _ _ 11 109 [(3, .ref r16848), (2, vI z16815), (0, .ref r0), (1, vI a1)] [] _ H16873 _
        refine wp_of e11 c11_109 (rw_aload_n (pc' := 110) (v := .ref r0) rfl rfl rfl ?_)
        refine wp_of e11 c11_110 (rw_aload_n (pc' := 111) (v := .ref r0) rfl rfl rfl ?_)
        have k16880 : H16873 r0 6 = H16853 r0 6 := ((f16878 r0 6 _ g0 rfl).trans ((wq_u_j e16864 rfl).trans (wq_u_j e16859 rfl)))
        have q16881 : H16873 r0 6 = (r16804 : Int) := k16880.trans q16857
        refine wp_of e11 c11_111 (xg_K (pc' := 114) lf_0_51 w16877 g0 sh_1 (by decide) (by decide) rfl q16881 rfl ?_)
        refine wp_of e11 c11_114 (xg_I (pc' := 117) lf_0_96 w16877 g16806 sh_27 (by decide) (by decide) ty_27_10 rfl rfl (fun b16882 b16883 => ?_))
        refine wp_of e11 c11_117 (xc_V (pc' := 120) (r := r0) (as := [vI (H16873 r16804 10)]) (st := []) (lm_0_99) rfl rfl (Nat.le_of_ble_eq_true rfl) w16877 g0 sh_1 (by decide) rfl (by decide) (s_51 w16877 g0 ⟨by omega, by omega⟩) (fun R16884 T16885 H16886 p16887 => ?_))
        obtain ⟨e16888, w16890, f16891, z16892, e16889, b16893⟩ := p16887
        subst e16888
        subst e16889
        have f16894 := f16879.tr f16891 rfl
        show wp _ _ 11 120 [(3, .ref r16848), (2, vI z16815), (0, .ref r0), (1, vI a1)] [vI z16892] _ H16886 _
        exact wp_ireturn e11 c11_120 rfl ⟨rfl, w16890, f16894, z16892, rfl, ⟨by omega, by omega⟩⟩
      · refine wp_of e11 c11_66 (rw_aload_n (pc' := 67) (v := .ref r0) rfl rfl rfl ?_)
        refine wp_of e11 c11_67 (rw_iconst (pc' := 68) rfl ?_)
        refine wp_of e11 c11_68 (xc_V (pc' := 71) (r := r0) (as := [vI 4]) (st := []) (lm_0_70) rfl rfl (Nat.le_of_ble_eq_true rfl) w16833 g0 sh_1 (by decide) rfl (by decide) (s_12 w16833 g0 ⟨by omega, by omega⟩) (fun R16895 T16896 H16897 p16898 => ?_))
        obtain ⟨e16899, w16901, f16902, z16903, e16900, b16904⟩ := p16898
        subst e16899
        subst e16900
        have f16905 := f16834.tr f16902 rfl
        show wp _ _ 11 71 [(2, vI z16815), (0, .ref r0), (1, vI a1)] [vI z16903] _ H16897 _
        exact wp_ireturn e11 c11_71 rfl ⟨rfl, w16901, f16905, z16903, rfl, ⟨by omega, by omega⟩⟩
    · refine wp_of e11 c11_12 (rw_aload_n (pc' := 13) (v := .ref r0) rfl rfl rfl ?_)
      refine wp_of e11 c11_13 (rw_iconst (pc' := 14) rfl ?_)
      refine wp_of e11 c11_14 (xc_V (pc' := 17) (r := r0) (as := [vI 2]) (st := []) (lm_0_70) rfl rfl (Nat.le_of_ble_eq_true rfl) hW g0 sh_1 (by decide) rfl (by decide) (s_12 hW g0 ⟨by omega, by omega⟩) (fun R16906 T16907 H16908 p16909 => ?_))
      obtain ⟨e16910, w16912, f16913, z16914, e16911, b16915⟩ := p16909
      subst e16910
      subst e16911
      have f16916 := f0.tr f16913 rfl
      show wp _ _ 11 17 [(0, .ref r0), (1, vI a1)] [vI z16914] _ H16908 _
      exact wp_ireturn e11 c11_17 rfl ⟨rfl, w16912, f16916, z16914, rfl, ⟨by omega, by omega⟩⟩
/-! StrikeAwake.fault()I -/
theorem e52 : wq_en 52 = some (0, 1, false, some FieldType.int) := rfl
theorem c52_0 : mc_cd 52 0 = some (.aload_n 0, 1) := by decide +kernel
theorem c52_1 : mc_cd 52 1 = some (.getfield 81, 3) := by decide +kernel
theorem c52_4 : mc_cd 52 4 = some (.ireturn, 1) := by decide +kernel
abbrev q_52 (r0 : Nat) (T : wq_T) (H : wq_H) : Option Value → wq_T → wq_H → Prop := fun r T' H' => T = T' ∧ H = H' ∧ ∃ z : Int, some (vI z) = r ∧ ((-2147483648) ≤ z ∧ z ≤ 2147483647)
set_option maxHeartbeats 4000000 in
theorem s_52 {kt : Nat → Option mc_E} {T : wq_T} {H : wq_H} {r0 : Nat} (hW : WT T H) (g0 : T.2.2.2 r0 = some 1) : wpc kt 1 52 [.ref r0] T H (q_52 r0 T H) := by
  refine wp_enter e52 (Nat.le_of_ble_eq_true rfl) rfl ?_
  show wp _ _ 52 0 [(0, .ref r0)] [] _ H _
  refine wp_of e52 c52_0 (rw_aload_n (pc' := 1) (v := .ref r0) rfl rfl rfl ?_)
  refine wp_of e52 c52_1 (xg_I (pc' := 4) lf_0_81 hW g0 sh_1 (by decide) (by decide) ty_1_11 rfl rfl (fun b16919 b16920 => ?_))
  exact wp_ireturn e52 c52_4 rfl ⟨rfl, rfl, H r0 11, rfl, ⟨by omega, by omega⟩⟩
/-! StrikeAwake.where()I -/
theorem e53 : wq_en 53 = some (0, 1, false, some FieldType.int) := rfl
theorem c53_0 : mc_cd 53 0 = some (.aload_n 0, 1) := by decide +kernel
theorem c53_1 : mc_cd 53 1 = some (.getfield 102, 3) := by decide +kernel
theorem c53_4 : mc_cd 53 4 = some (.iconst 4, 1) := by decide +kernel
theorem c53_5 : mc_cd 53 5 = some (.if_icmp .ne 10, 3) := by decide +kernel
theorem c53_8 : mc_cd 53 8 = some (.aload_n 0, 1) := by decide +kernel
theorem c53_9 : mc_cd 53 9 = some (.getfield 87, 3) := by decide +kernel
theorem c53_12 : mc_cd 53 12 = some (.goto 4, 3) := by decide +kernel
theorem c53_15 : mc_cd 53 15 = some (.iconst (-1), 1) := by decide +kernel
theorem c53_16 : mc_cd 53 16 = some (.ireturn, 1) := by decide +kernel
abbrev q_53 (r0 : Nat) (T : wq_T) (H : wq_H) : Option Value → wq_T → wq_H → Prop := fun r T' H' => T = T' ∧ H = H' ∧ ∃ z : Int, some (vI z) = r ∧ ((-2147483648) ≤ z ∧ z ≤ 2147483647)
set_option maxHeartbeats 4000000 in
theorem s_53 {kt : Nat → Option mc_E} {T : wq_T} {H : wq_H} {r0 : Nat} (hW : WT T H) (g0 : T.2.2.2 r0 = some 1) : wpc kt 1 53 [.ref r0] T H (q_53 r0 T H) := by
  refine wp_enter e53 (Nat.le_of_ble_eq_true rfl) rfl ?_
  show wp _ _ 53 0 [(0, .ref r0)] [] _ H _
  refine wp_of e53 c53_0 (rw_aload_n (pc' := 1) (v := .ref r0) rfl rfl rfl ?_)
  refine wp_of e53 c53_1 (xg_I (pc' := 4) lf_0_102 hW g0 sh_1 (by decide) (by decide) ty_1_10 rfl rfl (fun b16926 b16927 => ?_))
  refine wp_of e53 c53_4 (rw_iconst (pc' := 5) rfl ?_)
  refine wp_of e53 c53_5 (rw_icmp_ne (p1 := 15) (p2 := 8) (by decide) rfl ⟨by omega, by omega⟩ ⟨by omega, by omega⟩ (fun c16928 => ?_) (fun c16928 => ?_))
  · refine wp_of e53 c53_15 (rw_iconst (pc' := 16) rfl ?_)
    exact wp_ireturn e53 c53_16 rfl ⟨rfl, rfl, -1, rfl, ⟨by omega, by omega⟩⟩
  · refine wp_of e53 c53_8 (rw_aload_n (pc' := 9) (v := .ref r0) rfl rfl rfl ?_)
    refine wp_of e53 c53_9 (xg_I (pc' := 12) lf_0_87 hW g0 sh_1 (by decide) (by decide) ty_1_12 rfl rfl (fun b16929 b16930 => ?_))
    refine wp_of e53 c53_12 (rw_goto (p1 := 16) (by decide) ?_)
    exact wp_ireturn e53 c53_16 rfl ⟨rfl, rfl, H r0 12, rfl, ⟨by omega, by omega⟩⟩
/-! StrikeAwake.isPerson(I)Z -/
theorem e55 : wq_en 55 = some (0, 2, false, some FieldType.boolean) := rfl
theorem c55_0 : mc_cd 55 0 = some (.iload_n 1, 1) := by decide +kernel
theorem c55_1 : mc_cd 55 1 = some (.ifCond .lt 18, 3) := by decide +kernel
theorem c55_4 : mc_cd 55 4 = some (.iload_n 1, 1) := by decide +kernel
theorem c55_5 : mc_cd 55 5 = some (.aload_n 0, 1) := by decide +kernel
theorem c55_6 : mc_cd 55 6 = some (.getfield 51, 3) := by decide +kernel
theorem c55_9 : mc_cd 55 9 = some (.getfield 96, 3) := by decide +kernel
theorem c55_12 : mc_cd 55 12 = some (.if_icmp .ge 7, 3) := by decide +kernel
theorem c55_15 : mc_cd 55 15 = some (.iconst 1, 1) := by decide +kernel
theorem c55_16 : mc_cd 55 16 = some (.goto 4, 3) := by decide +kernel
theorem c55_19 : mc_cd 55 19 = some (.iconst 0, 1) := by decide +kernel
theorem c55_20 : mc_cd 55 20 = some (.ireturn, 1) := by decide +kernel
abbrev q_55 (r0 : Nat) (a1 : Int) (T : wq_T) (H : wq_H) : Option Value → wq_T → wq_H → Prop := fun r T' H' => T = T' ∧ H = H' ∧ ∃ z : Int, some (vI z) = r ∧ (0 ≤ z ∧ z ≤ 1) ∧ (z = 0 ∨ (0 ≤ a1 ∧ a1 ≤ 5))
set_option maxHeartbeats 4000000 in
theorem s_55 {kt : Nat → Option mc_E} {T : wq_T} {H : wq_H} {r0 : Nat} {a1 : Int} (hW : WT T H) (g0 : T.2.2.2 r0 = some 1) (i1 : (-2147483648) ≤ a1 ∧ a1 ≤ 2147483647) : wpc kt 1 55 [.ref r0, vI a1] T H (q_55 r0 a1 T H) := by
  refine wp_enter e55 (Nat.le_of_ble_eq_true rfl) rfl ?_
  show wp _ _ 55 0 [(0, .ref r0), (1, vI a1)] [] _ H _
  refine wp_of e55 c55_0 (rw_iload_n (pc' := 1) (z := a1) rfl rfl ?_)
  refine wp_of e55 c55_1 (rw_if_lt (p1 := 19) (p2 := 4) (by decide) rfl ⟨by omega, by omega⟩ (fun c16938 => ?_) (fun c16938 => ?_))
  · refine wp_of e55 c55_19 (rw_iconst (pc' := 20) rfl ?_)
    exact wp_zreturn e55 c55_20 rfl (by omega) ⟨rfl, rfl, 0, rfl, ⟨by omega, by omega⟩, by omega⟩
  · refine wp_of e55 c55_4 (rw_iload_n (pc' := 5) (z := a1) rfl rfl ?_)
    refine wp_of e55 c55_5 (rw_aload_n (pc' := 6) (v := .ref r0) rfl rfl rfl ?_)
    refine wp_of e55 c55_6 (xg_R (pc' := 9) lf_0_51 hW g0 sh_1 (by decide) (by decide) ty_1_6 rfl rfl (fun r16939 q16940 g16941 => ?_))
    refine wp_of e55 c55_9 (xg_I (pc' := 12) lf_0_96 hW g16941 sh_27 (by decide) (by decide) ty_27_10 rfl rfl (fun b16942 b16943 => ?_))
    refine wp_of e55 c55_12 (rw_icmp_ge (p1 := 19) (p2 := 15) (by decide) rfl ⟨by omega, by omega⟩ ⟨by omega, by omega⟩ (fun c16944 => ?_) (fun c16944 => ?_))
    · refine wp_of e55 c55_19 (rw_iconst (pc' := 20) rfl ?_)
      exact wp_zreturn e55 c55_20 rfl (by omega) ⟨rfl, rfl, 0, rfl, ⟨by omega, by omega⟩, by omega⟩
    · refine wp_of e55 c55_15 (rw_iconst (pc' := 16) rfl ?_)
      refine wp_of e55 c55_16 (rw_goto (p1 := 20) (by decide) ?_)
      exact wp_zreturn e55 c55_20 rfl (by omega) ⟨rfl, rfl, 1, rfl, ⟨by omega, by omega⟩, by omega⟩
/-! StrikeAwake.spans(I)I -/
theorem e54 : wq_en 54 = some (0, 2, false, some FieldType.int) := rfl
theorem c54_0 : mc_cd 54 0 = some (.aload_n 0, 1) := by decide +kernel
theorem c54_1 : mc_cd 54 1 = some (.iload_n 1, 1) := by decide +kernel
theorem c54_2 : mc_cd 54 2 = some (.invokevirtual 105, 3) := by decide +kernel
theorem c54_5 : mc_cd 54 5 = some (.ifCond .ne 9, 3) := by decide +kernel
theorem c54_8 : mc_cd 54 8 = some (.aload_n 0, 1) := by decide +kernel
theorem c54_9 : mc_cd 54 9 = some (.iconst 1, 1) := by decide +kernel
theorem c54_10 : mc_cd 54 10 = some (.invokevirtual 70, 3) := by decide +kernel
theorem c54_13 : mc_cd 54 13 = some (.ireturn, 1) := by decide +kernel
theorem c54_14 : mc_cd 54 14 = some (.aload_n 0, 1) := by decide +kernel
theorem c54_15 : mc_cd 54 15 = some (.aload_n 0, 1) := by decide +kernel
theorem c54_16 : mc_cd 54 16 = some (.getfield 51, 3) := by decide +kernel
theorem c54_19 : mc_cd 54 19 = some (.getfield 109, 3) := by decide +kernel
theorem c54_22 : mc_cd 54 22 = some (.iload_n 1, 1) := by decide +kernel
theorem c54_23 : mc_cd 54 23 = some (.aaload, 1) := by decide +kernel
theorem c54_24 : mc_cd 54 24 = some (.getfield 113, 3) := by decide +kernel
theorem c54_27 : mc_cd 54 27 = some (.invokevirtual 99, 3) := by decide +kernel
theorem c54_30 : mc_cd 54 30 = some (.ireturn, 1) := by decide +kernel
abbrev q_54 (r0 : Nat) (a1 : Int) (T : wq_T) (H : wq_H) : Option Value → wq_T → wq_H → Prop := fun r T' H' => T = T' ∧ WT T H' ∧ wfr [(1, 10)] T H H' ∧ ∃ z : Int, some (vI z) = r ∧ ((-2147483648) ≤ z ∧ z ≤ 2147483647)
set_option maxHeartbeats 4000000 in
theorem s_54 {kt : Nat → Option mc_E} {T : wq_T} {H : wq_H} {r0 : Nat} {a1 : Int} (hW : WT T H) (g0 : T.2.2.2 r0 = some 1) (i1 : (-2147483648) ≤ a1 ∧ a1 ≤ 2147483647) : wpc kt 2 54 [.ref r0, vI a1] T H (q_54 r0 a1 T H) := by
  refine wp_enter e54 (Nat.le_of_ble_eq_true rfl) rfl ?_
  have f0 : wfr [(1, 10)] T H H := wfr.rf
  show wp _ _ 54 0 [(0, .ref r0), (1, vI a1)] [] _ H _
  refine wp_of e54 c54_0 (rw_aload_n (pc' := 1) (v := .ref r0) rfl rfl rfl ?_)
  refine wp_of e54 c54_1 (rw_iload_n (pc' := 2) (z := a1) rfl rfl ?_)
  refine wp_of e54 c54_2 (xc_V (pc' := 5) (r := r0) (as := [vI a1]) (st := []) (lm_0_105) rfl rfl (Nat.le_of_ble_eq_true rfl) hW g0 sh_1 (by decide) rfl (by decide) (s_55 hW g0 ⟨by omega, by omega⟩) (fun R16989 T16990 H16991 p16992 => ?_))
  obtain ⟨e16993, e16995, z16997, e16994, b16998, p16996⟩ := p16992
  subst e16993
  subst e16994
  subst e16995
  show wp _ _ 54 5 [(0, .ref r0), (1, vI a1)] [vI z16997] _ H _
  refine wp_of e54 c54_5 (rw_if_ne (p1 := 14) (p2 := 8) (by decide) rfl ⟨by omega, by omega⟩ (fun c16999 => ?_) (fun c16999 => ?_))
  · refine wp_of e54 c54_14 (rw_aload_n (pc' := 15) (v := .ref r0) rfl rfl rfl ?_)
    refine wp_of e54 c54_15 (rw_aload_n (pc' := 16) (v := .ref r0) rfl rfl rfl ?_)
    refine wp_of e54 c54_16 (xg_R (pc' := 19) lf_0_51 hW g0 sh_1 (by decide) (by decide) ty_1_6 rfl rfl (fun r17000 q17001 g17002 => ?_))
    refine wp_of e54 c54_19 (xg_R (pc' := 22) lf_0_109 hW g17002 sh_27 (by decide) (by decide) ty_27_0 rfl rfl (fun r17003 q17004 g17005 => ?_))
    refine wp_of e54 c54_22 (rw_iload_n (pc' := 23) (z := a1) rfl rfl ?_)
    refine wp_of e54 c54_23 (xa_R (pc' := 24) (by decide) hW g17005 sh_28 (by decide) (ty_28 _) (by omega) (by omega) rfl (fun r17006 q17007 g17008 => ?_))
    refine wp_of e54 c54_24 (xg_I (pc' := 27) lf_0_113 hW g17008 sh_35 (by decide) (by decide) ty_35_15 rfl rfl (fun b17009 b17010 => ?_))
    refine wp_of e54 c54_27 (xc_V (pc' := 30) (r := r0) (as := [vI (H r17006 15)]) (st := []) (lm_0_99) rfl rfl (Nat.le_of_ble_eq_true rfl) hW g0 sh_1 (by decide) rfl (by decide) (s_51 hW g0 ⟨by omega, by omega⟩) (fun R17011 T17012 H17013 p17014 => ?_))
    obtain ⟨e17015, w17017, f17018, z17019, e17016, b17020⟩ := p17014
    subst e17015
    subst e17016
    have f17021 := f0.tr f17018 rfl
    show wp _ _ 54 30 [(0, .ref r0), (1, vI a1)] [vI z17019] _ H17013 _
    exact wp_ireturn e54 c54_30 rfl ⟨rfl, w17017, f17021, z17019, rfl, ⟨by omega, by omega⟩⟩
  · refine wp_of e54 c54_8 (rw_aload_n (pc' := 9) (v := .ref r0) rfl rfl rfl ?_)
    refine wp_of e54 c54_9 (rw_iconst (pc' := 10) rfl ?_)
    refine wp_of e54 c54_10 (xc_V (pc' := 13) (r := r0) (as := [vI 1]) (st := []) (lm_0_70) rfl rfl (Nat.le_of_ble_eq_true rfl) hW g0 sh_1 (by decide) rfl (by decide) (s_12 hW g0 ⟨by omega, by omega⟩) (fun R17022 T17023 H17024 p17025 => ?_))
    obtain ⟨e17026, w17028, f17029, z17030, e17027, b17031⟩ := p17025
    subst e17026
    subst e17027
    have f17032 := f0.tr f17029 rfl
    show wp _ _ 54 13 [(0, .ref r0), (1, vI a1)] [vI z17030] _ H17024 _
    exact wp_ireturn e54 c54_13 rfl ⟨rfl, w17028, f17032, z17030, rfl, ⟨by omega, by omega⟩⟩
/-! StrikeAwake.isSpan(II)Z -/
theorem e57 : wq_en 57 = some (0, 3, false, some FieldType.boolean) := rfl
theorem c57_0 : mc_cd 57 0 = some (.aload_n 0, 1) := by decide +kernel
theorem c57_1 : mc_cd 57 1 = some (.iload_n 1, 1) := by decide +kernel
theorem c57_2 : mc_cd 57 2 = some (.invokevirtual 105, 3) := by decide +kernel
theorem c57_5 : mc_cd 57 5 = some (.ifCond .eq 27, 3) := by decide +kernel
theorem c57_8 : mc_cd 57 8 = some (.iload_n 2, 1) := by decide +kernel
theorem c57_9 : mc_cd 57 9 = some (.ifCond .lt 23, 3) := by decide +kernel
theorem c57_12 : mc_cd 57 12 = some (.iload_n 2, 1) := by decide +kernel
theorem c57_13 : mc_cd 57 13 = some (.aload_n 0, 1) := by decide +kernel
theorem c57_14 : mc_cd 57 14 = some (.getfield 51, 3) := by decide +kernel
theorem c57_17 : mc_cd 57 17 = some (.getfield 109, 3) := by decide +kernel
theorem c57_20 : mc_cd 57 20 = some (.iload_n 1, 1) := by decide +kernel
theorem c57_21 : mc_cd 57 21 = some (.aaload, 1) := by decide +kernel
theorem c57_22 : mc_cd 57 22 = some (.getfield 113, 3) := by decide +kernel
theorem c57_25 : mc_cd 57 25 = some (.if_icmp .ge 7, 3) := by decide +kernel
theorem c57_28 : mc_cd 57 28 = some (.iconst 1, 1) := by decide +kernel
theorem c57_29 : mc_cd 57 29 = some (.goto 4, 3) := by decide +kernel
theorem c57_32 : mc_cd 57 32 = some (.iconst 0, 1) := by decide +kernel
theorem c57_33 : mc_cd 57 33 = some (.ireturn, 1) := by decide +kernel
abbrev q_57 (r0 : Nat) (a1 : Int) (a2 : Int) (T : wq_T) (H : wq_H) : Option Value → wq_T → wq_H → Prop := fun r T' H' => T = T' ∧ H = H' ∧ ∃ z : Int, some (vI z) = r ∧ (0 ≤ z ∧ z ≤ 1) ∧ (z = 0 ∨ (0 ≤ a1 ∧ a1 ≤ 5 ∧ 0 ≤ a2 ∧ a2 ≤ 39))
set_option maxHeartbeats 4000000 in
theorem s_57 {kt : Nat → Option mc_E} {T : wq_T} {H : wq_H} {r0 : Nat} {a1 : Int} {a2 : Int} (hW : WT T H) (g0 : T.2.2.2 r0 = some 1) (i1 : (-2147483648) ≤ a1 ∧ a1 ≤ 2147483647) (i2 : (-2147483648) ≤ a2 ∧ a2 ≤ 2147483647) : wpc kt 2 57 [.ref r0, vI a1, vI a2] T H (q_57 r0 a1 a2 T H) := by
  refine wp_enter e57 (Nat.le_of_ble_eq_true rfl) rfl ?_
  show wp _ _ 57 0 [(0, .ref r0), (1, vI a1), (2, vI a2)] [] _ H _
  refine wp_of e57 c57_0 (rw_aload_n (pc' := 1) (v := .ref r0) rfl rfl rfl ?_)
  refine wp_of e57 c57_1 (rw_iload_n (pc' := 2) (z := a1) rfl rfl ?_)
  refine wp_of e57 c57_2 (xc_V (pc' := 5) (r := r0) (as := [vI a1]) (st := []) (lm_0_105) rfl rfl (Nat.le_of_ble_eq_true rfl) hW g0 sh_1 (by decide) rfl (by decide) (s_55 hW g0 ⟨by omega, by omega⟩) (fun R17057 T17058 H17059 p17060 => ?_))
  obtain ⟨e17061, e17063, z17065, e17062, b17066, p17064⟩ := p17060
  subst e17061
  subst e17062
  subst e17063
  show wp _ _ 57 5 [(0, .ref r0), (1, vI a1), (2, vI a2)] [vI z17065] _ H _
  refine wp_of e57 c57_5 (rw_if_eq (p1 := 32) (p2 := 8) (by decide) rfl ⟨by omega, by omega⟩ (fun c17067 => ?_) (fun c17067 => ?_))
  · refine wp_of e57 c57_32 (rw_iconst (pc' := 33) rfl ?_)
    exact wp_zreturn e57 c57_33 rfl (by omega) ⟨rfl, rfl, 0, rfl, ⟨by omega, by omega⟩, by omega⟩
  · refine wp_of e57 c57_8 (rw_iload_n (pc' := 9) (z := a2) rfl rfl ?_)
    refine wp_of e57 c57_9 (rw_if_lt (p1 := 32) (p2 := 12) (by decide) rfl ⟨by omega, by omega⟩ (fun c17068 => ?_) (fun c17068 => ?_))
    · refine wp_of e57 c57_32 (rw_iconst (pc' := 33) rfl ?_)
      exact wp_zreturn e57 c57_33 rfl (by omega) ⟨rfl, rfl, 0, rfl, ⟨by omega, by omega⟩, by omega⟩
    · refine wp_of e57 c57_12 (rw_iload_n (pc' := 13) (z := a2) rfl rfl ?_)
      refine wp_of e57 c57_13 (rw_aload_n (pc' := 14) (v := .ref r0) rfl rfl rfl ?_)
      refine wp_of e57 c57_14 (xg_R (pc' := 17) lf_0_51 hW g0 sh_1 (by decide) (by decide) ty_1_6 rfl rfl (fun r17069 q17070 g17071 => ?_))
      refine wp_of e57 c57_17 (xg_R (pc' := 20) lf_0_109 hW g17071 sh_27 (by decide) (by decide) ty_27_0 rfl rfl (fun r17072 q17073 g17074 => ?_))
      refine wp_of e57 c57_20 (rw_iload_n (pc' := 21) (z := a1) rfl rfl ?_)
      refine wp_of e57 c57_21 (xa_R (pc' := 22) (by decide) hW g17074 sh_28 (by decide) (ty_28 _) (by omega) (by omega) rfl (fun r17075 q17076 g17077 => ?_))
      refine wp_of e57 c57_22 (xg_I (pc' := 25) lf_0_113 hW g17077 sh_35 (by decide) (by decide) ty_35_15 rfl rfl (fun b17078 b17079 => ?_))
      refine wp_of e57 c57_25 (rw_icmp_ge (p1 := 32) (p2 := 28) (by decide) rfl ⟨by omega, by omega⟩ ⟨by omega, by omega⟩ (fun c17080 => ?_) (fun c17080 => ?_))
      · refine wp_of e57 c57_32 (rw_iconst (pc' := 33) rfl ?_)
        exact wp_zreturn e57 c57_33 rfl (by omega) ⟨rfl, rfl, 0, rfl, ⟨by omega, by omega⟩, by omega⟩
      · refine wp_of e57 c57_28 (rw_iconst (pc' := 29) rfl ?_)
        refine wp_of e57 c57_29 (rw_goto (p1 := 33) (by decide) ?_)
        exact wp_zreturn e57 c57_33 rfl (by omega) ⟨rfl, rfl, 1, rfl, ⟨by omega, by omega⟩, by omega⟩
/-! StrikeAwake$Person.weightOf(I)I -/
theorem e58 : wq_en 58 = some (8, 2, false, some FieldType.int) := rfl
theorem c58_0 : mc_cd 58 0 = some (.aload_n 0, 1) := by decide +kernel
theorem c58_1 : mc_cd 58 1 = some (.getfield 35, 3) := by decide +kernel
theorem c58_4 : mc_cd 58 4 = some (.iconst (-1), 1) := by decide +kernel
theorem c58_5 : mc_cd 58 5 = some (.if_icmp .ne 5, 3) := by decide +kernel
theorem c58_8 : mc_cd 58 8 = some (.iconst 1, 1) := by decide +kernel
theorem c58_9 : mc_cd 58 9 = some (.ireturn, 1) := by decide +kernel
theorem c58_10 : mc_cd 58 10 = some (.iconst 1, 1) := by decide +kernel
theorem c58_11 : mc_cd 58 11 = some (.bipush 10, 2) := by decide +kernel
theorem c58_13 : mc_cd 58 13 = some (.aload_n 0, 1) := by decide +kernel
theorem c58_14 : mc_cd 58 14 = some (.getfield 9, 3) := by decide +kernel
theorem c58_17 : mc_cd 58 17 = some (.iload_n 1, 1) := by decide +kernel
theorem c58_18 : mc_cd 58 18 = some (.iaload, 1) := by decide +kernel
theorem c58_19 : mc_cd 58 19 = some (.aload_n 0, 1) := by decide +kernel
theorem c58_20 : mc_cd 58 20 = some (.getfield 35, 3) := by decide +kernel
theorem c58_23 : mc_cd 58 23 = some (.isub, 1) := by decide +kernel
theorem c58_24 : mc_cd 58 24 = some (.invokestatic 84, 3) := by decide +kernel
theorem c58_27 : mc_cd 58 27 = some (.isub, 1) := by decide +kernel
theorem c58_28 : mc_cd 58 28 = some (.invokestatic 90, 3) := by decide +kernel
theorem c58_31 : mc_cd 58 31 = some (.ireturn, 1) := by decide +kernel
abbrev q_58 (r0 : Nat) (a1 : Int) (T : wq_T) (H : wq_H) : Option Value → wq_T → wq_H → Prop := fun r T' H' => T = T' ∧ H = H' ∧ ∃ z : Int, some (vI z) = r ∧ (1 ≤ z ∧ z ≤ 10)
set_option maxHeartbeats 4000000 in
theorem s_58 {kt : Nat → Option mc_E} {T : wq_T} {H : wq_H} {r0 : Nat} {a1 : Int} (hW : WT T H) (g0 : T.2.2.2 r0 = some 35) (i1 : 0 ≤ a1 ∧ a1 ≤ 39) : wpc kt 1 58 [.ref r0, vI a1] T H (q_58 r0 a1 T H) := by
  refine wp_enter e58 (Nat.le_of_ble_eq_true rfl) rfl ?_
  show wp _ _ 58 0 [(0, .ref r0), (1, vI a1)] [] _ H _
  refine wp_of e58 c58_0 (rw_aload_n (pc' := 1) (v := .ref r0) rfl rfl rfl ?_)
  refine wp_of e58 c58_1 (xg_I (pc' := 4) lf_8_35 hW g0 sh_35 (by decide) (by decide) ty_35_11 rfl rfl (fun b17095 b17096 => ?_))
  refine wp_of e58 c58_4 (rw_iconst (pc' := 5) rfl ?_)
  refine wp_of e58 c58_5 (rw_icmp_ne (p1 := 10) (p2 := 8) (by decide) rfl ⟨by omega, by omega⟩ ⟨by omega, by omega⟩ (fun c17097 => ?_) (fun c17097 => ?_))
  · refine wp_of e58 c58_10 (rw_iconst (pc' := 11) rfl ?_)
    refine wp_of e58 c58_11 (rw_bipush (pc' := 13) (z := 10) rfl (by decide) ?_)
    refine wp_of e58 c58_13 (rw_aload_n (pc' := 14) (v := .ref r0) rfl rfl rfl ?_)
    refine wp_of e58 c58_14 (xg_R (pc' := 17) lf_8_9 hW g0 sh_35 (by decide) (by decide) ty_35_0 rfl rfl (fun r17098 q17099 g17100 => ?_))
    refine wp_of e58 c58_17 (rw_iload_n (pc' := 18) (z := a1) rfl rfl ?_)
    refine wp_of e58 c58_18 (xa_I (so := 0) (pc' := 19) hW g17100 sh_36 (by decide) (ty_36 _) (by omega) (by omega) rfl (fun b17101 b17102 => ?_))
    refine wp_of e58 c58_19 (rw_aload_n (pc' := 20) (v := .ref r0) rfl rfl rfl ?_)
    refine wp_of e58 c58_20 (xg_I (pc' := 23) lf_8_35 hW g0 sh_35 (by decide) (by decide) ty_35_11 rfl rfl (fun b17103 b17104 => ?_))
    refine wp_of e58 c58_23 (rw_isub (pc' := 24) rfl ?_)
    refine wp_of e58 c58_24 (rw_abs (pc' := 27) rfl rfl ⟨by omega, by omega⟩ rfl (Nat.le_of_ble_eq_true rfl) rfl ?_)
    obtain ⟨v17105, e17106⟩ : ∃ x : Int, x = if 0 ≤ ((H r17098 a1.toNat) - (H r0 11)) then ((H r17098 a1.toNat) - (H r0 11)) else 0 - ((H r17098 a1.toNat) - (H r0 11)) := ⟨_, rfl⟩
    rw [← e17106]
    have b17107 : (v17105 = ((H r17098 a1.toNat) - (H r0 11)) ∨ v17105 = 0 - ((H r17098 a1.toNat) - (H r0 11))) ∧ 0 ≤ v17105 := by
      rw [e17106]
      split <;> omega
    refine wp_of e58 c58_27 (rw_isub (pc' := 28) rfl ?_)
    refine wp_of e58 c58_28 (rw_math2 (pc' := 31) (z := max 1 (10 - v17105)) rfl rfl ⟨by omega, by omega⟩ ⟨by omega, by omega⟩ (Or.inr ⟨rfl, rfl⟩) (Nat.le_of_ble_eq_true rfl) rfl ?_)
    obtain ⟨v17108, e17109⟩ : ∃ x : Int, x = max 1 (10 - v17105) := ⟨_, rfl⟩
    rw [← e17109]
    have b17110 : v17108 = 1 ∨ v17108 = (10 - v17105) := by
      rw [e17109]
      omega
    have b17111 : 1 ≤ v17108 ∧ (10 - v17105) ≤ v17108 := by
      rw [e17109]
      omega
    exact wp_ireturn e58 c58_31 rfl ⟨rfl, rfl, v17108, rfl, ⟨by omega, by omega⟩⟩
  · refine wp_of e58 c58_8 (rw_iconst (pc' := 9) rfl ?_)
    exact wp_ireturn e58 c58_9 rfl ⟨rfl, rfl, 1, rfl, ⟨by omega, by omega⟩⟩
/-! StrikeAwake.span(III)I -/
theorem e56 : wq_en 56 = some (0, 5, false, some FieldType.int) := rfl
theorem c56_0 : mc_cd 56 0 = some (.aload_n 0, 1) := by decide +kernel
theorem c56_1 : mc_cd 56 1 = some (.iload_n 1, 1) := by decide +kernel
theorem c56_2 : mc_cd 56 2 = some (.iload_n 2, 1) := by decide +kernel
theorem c56_3 : mc_cd 56 3 = some (.invokevirtual 118, 3) := by decide +kernel
theorem c56_6 : mc_cd 56 6 = some (.ifCond .eq 12, 3) := by decide +kernel
theorem c56_9 : mc_cd 56 9 = some (.iload_n 3, 1) := by decide +kernel
theorem c56_10 : mc_cd 56 10 = some (.ifCond .lt 8, 3) := by decide +kernel
theorem c56_13 : mc_cd 56 13 = some (.iload_n 3, 1) := by decide +kernel
theorem c56_14 : mc_cd 56 14 = some (.iconst 2, 1) := by decide +kernel
theorem c56_15 : mc_cd 56 15 = some (.if_icmp .le 9, 3) := by decide +kernel
theorem c56_18 : mc_cd 56 18 = some (.aload_n 0, 1) := by decide +kernel
theorem c56_19 : mc_cd 56 19 = some (.iconst 1, 1) := by decide +kernel
theorem c56_20 : mc_cd 56 20 = some (.invokevirtual 70, 3) := by decide +kernel
theorem c56_23 : mc_cd 56 23 = some (.ireturn, 1) := by decide +kernel
theorem c56_24 : mc_cd 56 24 = some (.aload_n 0, 1) := by decide +kernel
theorem c56_25 : mc_cd 56 25 = some (.getfield 51, 3) := by decide +kernel
theorem c56_28 : mc_cd 56 28 = some (.getfield 109, 3) := by decide +kernel
theorem c56_31 : mc_cd 56 31 = some (.iload_n 1, 1) := by decide +kernel
theorem c56_32 : mc_cd 56 32 = some (.aaload, 1) := by decide +kernel
theorem c56_33 : mc_cd 56 33 = some (.astore 4, 2) := by decide +kernel
theorem c56_35 : mc_cd 56 35 = some (.iload_n 3, 1) := by decide +kernel
theorem c56_36 : mc_cd 56 36 = some (.iconst 2, 1) := by decide +kernel
theorem c56_37 : mc_cd 56 37 = some (.if_icmp .ne 14, 3) := by decide +kernel
theorem c56_40 : mc_cd 56 40 = some (.aload_n 0, 1) := by decide +kernel
theorem c56_41 : mc_cd 56 41 = some (.aload 4, 2) := by decide +kernel
theorem c56_43 : mc_cd 56 43 = some (.iload_n 2, 1) := by decide +kernel
theorem c56_44 : mc_cd 56 44 = some (.invokevirtual 122, 3) := by decide +kernel
theorem c56_47 : mc_cd 56 47 = some (.invokevirtual 99, 3) := by decide +kernel
theorem c56_50 : mc_cd 56 50 = some (.ireturn, 1) := by decide +kernel
theorem c56_51 : mc_cd 56 51 = some (.aload_n 0, 1) := by decide +kernel
theorem c56_52 : mc_cd 56 52 = some (.iload_n 3, 1) := by decide +kernel
theorem c56_53 : mc_cd 56 53 = some (.ifCond .ne 13, 3) := by decide +kernel
theorem c56_56 : mc_cd 56 56 = some (.aload 4, 2) := by decide +kernel
theorem c56_58 : mc_cd 56 58 = some (.getfield 125, 3) := by decide +kernel
theorem c56_61 : mc_cd 56 61 = some (.iload_n 2, 1) := by decide +kernel
theorem c56_62 : mc_cd 56 62 = some (.iaload, 1) := by decide +kernel
theorem c56_63 : mc_cd 56 63 = some (.goto 10, 3) := by decide +kernel
theorem c56_66 : mc_cd 56 66 = some (.aload 4, 2) := by decide +kernel
theorem c56_68 : mc_cd 56 68 = some (.getfield 129, 3) := by decide +kernel
theorem c56_71 : mc_cd 56 71 = some (.iload_n 2, 1) := by decide +kernel
theorem c56_72 : mc_cd 56 72 = some (.iaload, 1) := by decide +kernel
theorem c56_73 : mc_cd 56 73 = some (.invokevirtual 99, 3) := by decide +kernel
theorem c56_76 : mc_cd 56 76 = some (.ireturn, 1) := by decide +kernel
abbrev q_56 (r0 : Nat) (a1 : Int) (a2 : Int) (a3 : Int) (T : wq_T) (H : wq_H) : Option Value → wq_T → wq_H → Prop := fun r T' H' => T = T' ∧ WT T H' ∧ wfr [(1, 10)] T H H' ∧ ∃ z : Int, some (vI z) = r ∧ ((-2147483648) ≤ z ∧ z ≤ 2147483647)
set_option maxHeartbeats 4000000 in
theorem s_56 {kt : Nat → Option mc_E} {T : wq_T} {H : wq_H} {r0 : Nat} {a1 : Int} {a2 : Int} {a3 : Int} (hW : WT T H) (g0 : T.2.2.2 r0 = some 1) (i1 : (-2147483648) ≤ a1 ∧ a1 ≤ 2147483647) (i2 : (-2147483648) ≤ a2 ∧ a2 ≤ 2147483647) (i3 : (-2147483648) ≤ a3 ∧ a3 ≤ 2147483647) : wpc kt 3 56 [.ref r0, vI a1, vI a2, vI a3] T H (q_56 r0 a1 a2 a3 T H) := by
  refine wp_enter e56 (Nat.le_of_ble_eq_true rfl) rfl ?_
  have f0 : wfr [(1, 10)] T H H := wfr.rf
  show wp _ _ 56 0 [(0, .ref r0), (1, vI a1), (2, vI a2), (3, vI a3)] [] _ H _
  refine wp_of e56 c56_0 (rw_aload_n (pc' := 1) (v := .ref r0) rfl rfl rfl ?_)
  refine wp_of e56 c56_1 (rw_iload_n (pc' := 2) (z := a1) rfl rfl ?_)
  refine wp_of e56 c56_2 (rw_iload_n (pc' := 3) (z := a2) rfl rfl ?_)
  refine wp_of e56 c56_3 (xc_V (pc' := 6) (r := r0) (as := [vI a1, vI a2]) (st := []) (lm_0_118) rfl rfl (Nat.le_of_ble_eq_true rfl) hW g0 sh_1 (by decide) rfl (by decide) (s_57 hW g0 ⟨by omega, by omega⟩ ⟨by omega, by omega⟩) (fun R17221 T17222 H17223 p17224 => ?_))
  obtain ⟨e17225, e17227, z17229, e17226, b17230, p17228⟩ := p17224
  subst e17225
  subst e17226
  subst e17227
  show wp _ _ 56 6 [(0, .ref r0), (1, vI a1), (2, vI a2), (3, vI a3)] [vI z17229] _ H _
  refine wp_of e56 c56_6 (rw_if_eq (p1 := 18) (p2 := 9) (by decide) rfl ⟨by omega, by omega⟩ (fun c17231 => ?_) (fun c17231 => ?_))
  · refine wp_of e56 c56_18 (rw_aload_n (pc' := 19) (v := .ref r0) rfl rfl rfl ?_)
    refine wp_of e56 c56_19 (rw_iconst (pc' := 20) rfl ?_)
    refine wp_of e56 c56_20 (xc_V (pc' := 23) (r := r0) (as := [vI 1]) (st := []) (lm_0_70) rfl rfl (Nat.le_of_ble_eq_true rfl) hW g0 sh_1 (by decide) rfl (by decide) (s_12 hW g0 ⟨by omega, by omega⟩) (fun R17232 T17233 H17234 p17235 => ?_))
    obtain ⟨e17236, w17238, f17239, z17240, e17237, b17241⟩ := p17235
    subst e17236
    subst e17237
    have f17242 := f0.tr f17239 rfl
    show wp _ _ 56 23 [(0, .ref r0), (1, vI a1), (2, vI a2), (3, vI a3)] [vI z17240] _ H17234 _
    exact wp_ireturn e56 c56_23 rfl ⟨rfl, w17238, f17242, z17240, rfl, ⟨by omega, by omega⟩⟩
  · refine wp_of e56 c56_9 (rw_iload_n (pc' := 10) (z := a3) rfl rfl ?_)
    refine wp_of e56 c56_10 (rw_if_lt (p1 := 18) (p2 := 13) (by decide) rfl ⟨by omega, by omega⟩ (fun c17243 => ?_) (fun c17243 => ?_))
    · refine wp_of e56 c56_18 (rw_aload_n (pc' := 19) (v := .ref r0) rfl rfl rfl ?_)
      refine wp_of e56 c56_19 (rw_iconst (pc' := 20) rfl ?_)
      refine wp_of e56 c56_20 (xc_V (pc' := 23) (r := r0) (as := [vI 1]) (st := []) (lm_0_70) rfl rfl (Nat.le_of_ble_eq_true rfl) hW g0 sh_1 (by decide) rfl (by decide) (s_12 hW g0 ⟨by omega, by omega⟩) (fun R17244 T17245 H17246 p17247 => ?_))
      obtain ⟨e17248, w17250, f17251, z17252, e17249, b17253⟩ := p17247
      subst e17248
      subst e17249
      have f17254 := f0.tr f17251 rfl
      show wp _ _ 56 23 [(0, .ref r0), (1, vI a1), (2, vI a2), (3, vI a3)] [vI z17252] _ H17246 _
      exact wp_ireturn e56 c56_23 rfl ⟨rfl, w17250, f17254, z17252, rfl, ⟨by omega, by omega⟩⟩
    · refine wp_of e56 c56_13 (rw_iload_n (pc' := 14) (z := a3) rfl rfl ?_)
      refine wp_of e56 c56_14 (rw_iconst (pc' := 15) rfl ?_)
      refine wp_of e56 c56_15 (rw_icmp_le (p1 := 24) (p2 := 18) (by decide) rfl ⟨by omega, by omega⟩ ⟨by omega, by omega⟩ (fun c17255 => ?_) (fun c17255 => ?_))
      · refine wp_of e56 c56_24 (rw_aload_n (pc' := 25) (v := .ref r0) rfl rfl rfl ?_)
        refine wp_of e56 c56_25 (xg_R (pc' := 28) lf_0_51 hW g0 sh_1 (by decide) (by decide) ty_1_6 rfl rfl (fun r17256 q17257 g17258 => ?_))
        refine wp_of e56 c56_28 (xg_R (pc' := 31) lf_0_109 hW g17258 sh_27 (by decide) (by decide) ty_27_0 rfl rfl (fun r17259 q17260 g17261 => ?_))
        refine wp_of e56 c56_31 (rw_iload_n (pc' := 32) (z := a1) rfl rfl ?_)
        refine wp_of e56 c56_32 (xa_R (pc' := 33) (by decide) hW g17261 sh_28 (by decide) (ty_28 _) (by omega) (by omega) rfl (fun r17262 q17263 g17264 => ?_))
        refine wp_of e56 c56_33 (rw_astore (pc' := 35) (v := .ref r17262) (L' := [(4, .ref r17262), (0, .ref r0), (1, vI a1), (2, vI a2), (3, vI a3)]) rfl rfl rfl rfl ?_)
        refine wp_of e56 c56_35 (rw_iload_n (pc' := 36) (z := a3) rfl rfl ?_)
        refine wp_of e56 c56_36 (rw_iconst (pc' := 37) rfl ?_)
        refine wp_of e56 c56_37 (rw_icmp_ne (p1 := 51) (p2 := 40) (by decide) rfl ⟨by omega, by omega⟩ ⟨by omega, by omega⟩ (fun c17265 => ?_) (fun c17265 => ?_))
        · refine wp_of e56 c56_51 (rw_aload_n (pc' := 52) (v := .ref r0) rfl rfl rfl ?_)
          refine wp_of e56 c56_52 (rw_iload_n (pc' := 53) (z := a3) rfl rfl ?_)
          refine wp_of e56 c56_53 (rw_if_ne (p1 := 66) (p2 := 56) (by decide) rfl ⟨by omega, by omega⟩ (fun c17266 => ?_) (fun c17266 => ?_))
          · refine wp_of e56 c56_66 (rw_aload (pc' := 68) (v := .ref r17262) rfl rfl rfl ?_)
            refine wp_of e56 c56_68 (xg_R (pc' := 71) lf_0_129 hW g17264 sh_35 (by decide) (by decide) ty_35_1 rfl rfl (fun r17267 q17268 g17269 => ?_))
            refine wp_of e56 c56_71 (rw_iload_n (pc' := 72) (z := a2) rfl rfl ?_)
            refine wp_of e56 c56_72 (xa_I (so := 0) (pc' := 73) hW g17269 sh_37 (by decide) (ty_37 _) (by omega) (by omega) rfl (fun b17270 b17271 => ?_))
            refine wp_of e56 c56_73 (xc_V (pc' := 76) (r := r0) (as := [vI (H r17267 a2.toNat)]) (st := []) (lm_0_99) rfl rfl (Nat.le_of_ble_eq_true rfl) hW g0 sh_1 (by decide) rfl (by decide) (s_51 hW g0 ⟨by omega, by omega⟩) (fun R17272 T17273 H17274 p17275 => ?_))
            obtain ⟨e17276, w17278, f17279, z17280, e17277, b17281⟩ := p17275
            subst e17276
            subst e17277
            have f17282 := f0.tr f17279 rfl
            show wp _ _ 56 76 [(4, .ref r17262), (0, .ref r0), (1, vI a1), (2, vI a2), (3, vI a3)] [vI z17280] _ H17274 _
            exact wp_ireturn e56 c56_76 rfl ⟨rfl, w17278, f17282, z17280, rfl, ⟨by omega, by omega⟩⟩
          · refine wp_of e56 c56_56 (rw_aload (pc' := 58) (v := .ref r17262) rfl rfl rfl ?_)
            refine wp_of e56 c56_58 (xg_R (pc' := 61) lf_0_125 hW g17264 sh_35 (by decide) (by decide) ty_35_0 rfl rfl (fun r17283 q17284 g17285 => ?_))
            refine wp_of e56 c56_61 (rw_iload_n (pc' := 62) (z := a2) rfl rfl ?_)
            refine wp_of e56 c56_62 (xa_I (so := 0) (pc' := 63) hW g17285 sh_36 (by decide) (ty_36 _) (by omega) (by omega) rfl (fun b17286 b17287 => ?_))
            refine wp_of e56 c56_63 (rw_goto (p1 := 73) (by decide) ?_)
            refine wp_of e56 c56_73 (xc_V (pc' := 76) (r := r0) (as := [vI (H r17283 a2.toNat)]) (st := []) (lm_0_99) rfl rfl (Nat.le_of_ble_eq_true rfl) hW g0 sh_1 (by decide) rfl (by decide) (s_51 hW g0 ⟨by omega, by omega⟩) (fun R17288 T17289 H17290 p17291 => ?_))
            obtain ⟨e17292, w17294, f17295, z17296, e17293, b17297⟩ := p17291
            subst e17292
            subst e17293
            have f17298 := f0.tr f17295 rfl
            show wp _ _ 56 76 [(4, .ref r17262), (0, .ref r0), (1, vI a1), (2, vI a2), (3, vI a3)] [vI z17296] _ H17290 _
            exact wp_ireturn e56 c56_76 rfl ⟨rfl, w17294, f17298, z17296, rfl, ⟨by omega, by omega⟩⟩
        · refine wp_of e56 c56_40 (rw_aload_n (pc' := 41) (v := .ref r0) rfl rfl rfl ?_)
          refine wp_of e56 c56_41 (rw_aload (pc' := 43) (v := .ref r17262) rfl rfl rfl ?_)
          refine wp_of e56 c56_43 (rw_iload_n (pc' := 44) (z := a2) rfl rfl ?_)
          refine wp_of e56 c56_44 (xc_V (pc' := 47) (r := r17262) (as := [vI a2]) (st := [.ref r0]) (lm_0_122) rfl rfl (Nat.le_of_ble_eq_true rfl) hW g17264 sh_35 (by decide) rfl (by decide) (s_58 hW g17264 ⟨by omega, by omega⟩) (fun R17299 T17300 H17301 p17302 => ?_))
          obtain ⟨e17303, e17305, z17306, e17304, b17307⟩ := p17302
          subst e17303
          subst e17304
          subst e17305
          show wp _ _ 56 47 [(4, .ref r17262), (0, .ref r0), (1, vI a1), (2, vI a2), (3, vI a3)] [vI z17306, .ref r0] _ H _
          refine wp_of e56 c56_47 (xc_V (pc' := 50) (r := r0) (as := [vI z17306]) (st := []) (lm_0_99) rfl rfl (Nat.le_of_ble_eq_true rfl) hW g0 sh_1 (by decide) rfl (by decide) (s_51 hW g0 ⟨by omega, by omega⟩) (fun R17308 T17309 H17310 p17311 => ?_))
          obtain ⟨e17312, w17314, f17315, z17316, e17313, b17317⟩ := p17311
          subst e17312
          subst e17313
          have f17318 := f0.tr f17315 rfl
          show wp _ _ 56 50 [(4, .ref r17262), (0, .ref r0), (1, vI a1), (2, vI a2), (3, vI a3)] [vI z17316] _ H17310 _
          exact wp_ireturn e56 c56_50 rfl ⟨rfl, w17314, f17318, z17316, rfl, ⟨by omega, by omega⟩⟩
      · refine wp_of e56 c56_18 (rw_aload_n (pc' := 19) (v := .ref r0) rfl rfl rfl ?_)
        refine wp_of e56 c56_19 (rw_iconst (pc' := 20) rfl ?_)
        refine wp_of e56 c56_20 (xc_V (pc' := 23) (r := r0) (as := [vI 1]) (st := []) (lm_0_70) rfl rfl (Nat.le_of_ble_eq_true rfl) hW g0 sh_1 (by decide) rfl (by decide) (s_12 hW g0 ⟨by omega, by omega⟩) (fun R17319 T17320 H17321 p17322 => ?_))
        obtain ⟨e17323, w17325, f17326, z17327, e17324, b17328⟩ := p17322
        subst e17323
        subst e17324
        have f17329 := f0.tr f17326 rfl
        show wp _ _ 56 23 [(0, .ref r0), (1, vI a1), (2, vI a2), (3, vI a3)] [vI z17327] _ H17321 _
        exact wp_ireturn e56 c56_23 rfl ⟨rfl, w17325, f17329, z17327, rfl, ⟨by omega, by omega⟩⟩
