/-! methods (own work, written by wip/gen2/sx.py) -/
/-! StrikeAwake.proof()I -/
theorem e137 : wq_en 137 = some (0, 1, false, some FieldType.int) := rfl
theorem c137_0 : mc_cd 137 0 = some (.aload_n 0, 1) := by decide +kernel
theorem c137_1 : mc_cd 137 1 = some (.getfield 58, 3) := by decide +kernel
theorem c137_4 : mc_cd 137 4 = some (.ifCond .ne 9, 3) := by decide +kernel
theorem c137_7 : mc_cd 137 7 = some (.aload_n 0, 1) := by decide +kernel
theorem c137_8 : mc_cd 137 8 = some (.iconst 1, 1) := by decide +kernel
theorem c137_9 : mc_cd 137 9 = some (.invokevirtual 70, 3) := by decide +kernel
theorem c137_12 : mc_cd 137 12 = some (.ireturn, 1) := by decide +kernel
theorem c137_13 : mc_cd 137 13 = some (.aload_n 0, 1) := by decide +kernel
theorem c137_14 : mc_cd 137 14 = some (.getfield 51, 3) := by decide +kernel
theorem c137_17 : mc_cd 137 17 = some (.getfield 141, 3) := by decide +kernel
theorem c137_20 : mc_cd 137 20 = some (.ldc2_w 252, 3) := by decide +kernel
theorem c137_23 : mc_cd 137 23 = some (.lcmp, 1) := by decide +kernel
theorem c137_24 : mc_cd 137 24 = some (.ifCond .le 9, 3) := by decide +kernel
theorem c137_27 : mc_cd 137 27 = some (.aload_n 0, 1) := by decide +kernel
theorem c137_28 : mc_cd 137 28 = some (.iconst 3, 1) := by decide +kernel
theorem c137_29 : mc_cd 137 29 = some (.invokevirtual 70, 3) := by decide +kernel
theorem c137_32 : mc_cd 137 32 = some (.ireturn, 1) := by decide +kernel
theorem c137_33 : mc_cd 137 33 = some (.aload_n 0, 1) := by decide +kernel
theorem c137_34 : mc_cd 137 34 = some (.getfield 30, 3) := by decide +kernel
theorem c137_37 : mc_cd 137 37 = some (.aload_n 0, 1) := by decide +kernel
theorem c137_38 : mc_cd 137 38 = some (.getfield 51, 3) := by decide +kernel
theorem c137_41 : mc_cd 137 41 = some (.aload_n 0, 1) := by decide +kernel
theorem c137_42 : mc_cd 137 42 = some (.getfield 23, 3) := by decide +kernel
theorem c137_45 : mc_cd 137 45 = some (.invokevirtual 254, 3) := by decide +kernel
theorem c137_48 : mc_cd 137 48 = some (.aload_n 0, 1) := by decide +kernel
theorem c137_49 : mc_cd 137 49 = some (.getfield 30, 3) := by decide +kernel
theorem c137_52 : mc_cd 137 52 = some (.getfield 177, 3) := by decide +kernel
theorem c137_55 : mc_cd 137 55 = some (.ifCond .le 9, 3) := by decide +kernel
theorem c137_58 : mc_cd 137 58 = some (.aload_n 0, 1) := by decide +kernel
theorem c137_59 : mc_cd 137 59 = some (.iconst 5, 1) := by decide +kernel
theorem c137_60 : mc_cd 137 60 = some (.invokevirtual 70, 3) := by decide +kernel
theorem c137_63 : mc_cd 137 63 = some (.ireturn, 1) := by decide +kernel
theorem c137_64 : mc_cd 137 64 = some (.aload_n 0, 1) := by decide +kernel
theorem c137_65 : mc_cd 137 65 = some (.aload_n 0, 1) := by decide +kernel
theorem c137_66 : mc_cd 137 66 = some (.getfield 44, 3) := by decide +kernel
theorem c137_69 : mc_cd 137 69 = some (.aload_n 0, 1) := by decide +kernel
theorem c137_70 : mc_cd 137 70 = some (.getfield 51, 3) := by decide +kernel
theorem c137_73 : mc_cd 137 73 = some (.aload_n 0, 1) := by decide +kernel
theorem c137_74 : mc_cd 137 74 = some (.getfield 23, 3) := by decide +kernel
theorem c137_77 : mc_cd 137 77 = some (.invokevirtual 258, 3) := by decide +kernel
theorem c137_80 : mc_cd 137 80 = some (.invokevirtual 99, 3) := by decide +kernel
theorem c137_83 : mc_cd 137 83 = some (.ireturn, 1) := by decide +kernel
abbrev q_137 (r0 : Nat) (T : wq_T) (H : wq_H) : Option Value → wq_T → wq_H → Prop := fun r T' H' => T = T' ∧ WT T H' ∧ wfr [(12, 5), (12, 6), (12, 7), (12, 8), (12, 9), (25, 1), (25, 2), (1, 10), (6, 5), (8, 999), (10, 999), (26, 999), (15, 999), (9, 999), (18, 999), (19, 999), (7, 999), (11, 999), (17, 999), (13, 999)] T H H' ∧ ∃ z : Int, some (vI z) = r ∧ ((-2147483648) ≤ z ∧ z ≤ 2147483647) ∧ (H' r0 10 ≠ 4)
set_option maxHeartbeats 4000000 in
theorem s_137 {kt : Nat → Option mc_E} {T : wq_T} {H : wq_H} {r0 : Nat} (hW : WT T H) (g0 : T.2.2.2 r0 = some 1) : wpc kt 6 137 [.ref r0] T H (q_137 r0 T H) := by
  refine wp_enter e137 (Nat.le_of_ble_eq_true rfl) rfl ?_
  have f0 : wfr [(12, 5), (12, 6), (12, 7), (12, 8), (12, 9), (25, 1), (25, 2), (1, 10), (6, 5), (8, 999), (10, 999), (26, 999), (15, 999), (9, 999), (18, 999), (19, 999), (7, 999), (11, 999), (17, 999), (13, 999)] T H H := wfr.rf
  show wp _ _ 137 0 [(0, .ref r0)] [] _ H _
  refine wp_of e137 c137_0 (rw_aload_n (pc' := 1) (v := .ref r0) rfl rfl rfl ?_)
  refine wp_of e137 c137_1 (xg_I (pc' := 4) lf_0_58 hW g0 sh_1 (by decide) (by decide) ty_1_8 rfl rfl (fun b74060 b74061 => ?_))
  refine wp_of e137 c137_4 (rw_if_ne (p1 := 13) (p2 := 7) (by decide) rfl ⟨by omega, by omega⟩ (fun c74062 => ?_) (fun c74062 => ?_))
  · refine wp_of e137 c137_13 (rw_aload_n (pc' := 14) (v := .ref r0) rfl rfl rfl ?_)
    refine wp_of e137 c137_14 (xg_R (pc' := 17) lf_0_51 hW g0 sh_1 (by decide) (by decide) ty_1_6 rfl rfl (fun r74063 q74064 g74065 => ?_))
    refine wp_of e137 c137_17 (xg_L (pc' := 20) lf_0_141 hW g74065 sh_27 (by decide) (by decide) ty_27_18 rfl rfl (fun b74066 b74067 => ?_))
    refine wp_of e137 c137_20 (rw_ldc2 (pc' := 23) (z := 5000) rfl rfl rfl ?_)
    refine wp_of e137 c137_23 (rw_lcmp (pc' := 24) rfl ⟨by omega, by omega⟩ ⟨by omega, by omega⟩ ?_)
    have b74068 := wq_cmp_b (H r74063 18) 5000
    refine wp_of e137 c137_24 (rw_if_le (p1 := 33) (p2 := 27) (by decide) rfl ⟨by omega, by omega⟩ (fun c74069 => ?_) (fun c74069 => ?_))
    · refine wp_of e137 c137_33 (rw_aload_n (pc' := 34) (v := .ref r0) rfl rfl rfl ?_)
      refine wp_of e137 c137_34 (xg_R (pc' := 37) lf_0_30 hW g0 sh_1 (by decide) (by decide) ty_1_3 rfl rfl (fun r74070 q74071 g74072 => ?_))
      refine wp_of e137 c137_37 (rw_aload_n (pc' := 38) (v := .ref r0) rfl rfl rfl ?_)
      refine wp_of e137 c137_38 (xg_K (pc' := 41) lf_0_51 hW g0 sh_1 (by decide) (by decide) rfl q74064 rfl ?_)
      refine wp_of e137 c137_41 (rw_aload_n (pc' := 42) (v := .ref r0) rfl rfl rfl ?_)
      refine wp_of e137 c137_42 (xg_R (pc' := 45) lf_0_23 hW g0 sh_1 (by decide) (by decide) ty_1_2 rfl rfl (fun r74073 q74074 g74075 => ?_))
      refine wp_of e137 c137_45 (xc_V (pc' := 48) (r := r74070) (as := [.ref r74063, .ref r74073]) (st := []) (lm_0_254) rfl rfl (Nat.le_of_ble_eq_true rfl) hW g74072 sh_12 (by decide) rfl (by decide) (s_85 hW g74072 g74065 g74075) (fun R74076 T74077 H74078 p74079 => ?_))
      obtain ⟨e74080, w74082, f74083, e74081⟩ := p74079
      subst e74080
      subst e74081
      have f74084 := f0.tr f74083 rfl
      show wp _ _ 137 48 [(0, .ref r0)] [] _ H74078 _
      refine wp_of e137 c137_48 (rw_aload_n (pc' := 49) (v := .ref r0) rfl rfl rfl ?_)
      have k74085 : H74078 r0 3 = H r0 3 := (f74083 r0 3 _ g0 rfl)
      have q74086 : H74078 r0 3 = (r74070 : Int) := k74085.trans q74071
      refine wp_of e137 c137_49 (xg_K (pc' := 52) lf_0_30 w74082 g0 sh_1 (by decide) (by decide) rfl q74086 rfl ?_)
      refine wp_of e137 c137_52 (xg_I (pc' := 55) lf_0_177 w74082 g74072 sh_12 (by decide) (by decide) ty_12_5 rfl rfl (fun b74087 b74088 => ?_))
      refine wp_of e137 c137_55 (rw_if_le (p1 := 64) (p2 := 58) (by decide) rfl ⟨by omega, by omega⟩ (fun c74089 => ?_) (fun c74089 => ?_))
      · refine wp_of e137 c137_64 (rw_aload_n (pc' := 65) (v := .ref r0) rfl rfl rfl ?_)
        refine wp_of e137 c137_65 (rw_aload_n (pc' := 66) (v := .ref r0) rfl rfl rfl ?_)
        refine wp_of e137 c137_66 (xg_R (pc' := 69) lf_0_44 w74082 g0 sh_1 (by decide) (by decide) ty_1_5 rfl rfl (fun r74090 q74091 g74092 => ?_))
        refine wp_of e137 c137_69 (rw_aload_n (pc' := 70) (v := .ref r0) rfl rfl rfl ?_)
        have k74093 : H74078 r0 6 = H r0 6 := (f74083 r0 6 _ g0 rfl)
        have q74094 : H74078 r0 6 = (r74063 : Int) := k74093.trans q74064
        refine wp_of e137 c137_70 (xg_K (pc' := 73) lf_0_51 w74082 g0 sh_1 (by decide) (by decide) rfl q74094 rfl ?_)
        refine wp_of e137 c137_73 (rw_aload_n (pc' := 74) (v := .ref r0) rfl rfl rfl ?_)
        have k74095 : H74078 r0 2 = H r0 2 := (f74083 r0 2 _ g0 rfl)
        have q74096 : H74078 r0 2 = (r74073 : Int) := k74095.trans q74074
        refine wp_of e137 c137_74 (xg_K (pc' := 77) lf_0_23 w74082 g0 sh_1 (by decide) (by decide) rfl q74096 rfl ?_)
        refine wp_of e137 c137_77 (xc_V (pc' := 80) (r := r74090) (as := [.ref r74063, .ref r74073]) (st := [.ref r0]) (lm_0_258) rfl rfl (Nat.le_of_ble_eq_true rfl) w74082 g74092 sh_25 (by decide) rfl (by decide) (s_138 w74082 g74092 g74065 g74075) (fun R74097 T74098 H74099 p74100 => ?_))
        obtain ⟨e74101, w74103, f74104, z74105, e74102, b74106⟩ := p74100
        subst e74101
        subst e74102
        have f74107 := f74084.tr f74104 rfl
        show wp _ _ 137 80 [(0, .ref r0)] [vI z74105, .ref r0] _ H74099 _
        refine wp_of e137 c137_80 (xc_V (pc' := 83) (r := r0) (as := [vI z74105]) (st := []) (lm_0_99) rfl rfl (Nat.le_of_ble_eq_true rfl) w74103 g0 sh_1 (by decide) rfl (by decide) (s_51 w74103 g0 ⟨by omega, by omega⟩) (fun R74108 T74109 H74110 p74111 => ?_))
        obtain ⟨e74112, w74114, f74115, z74117, e74113, b74118, p74116⟩ := p74111
        subst e74112
        subst e74113
        have f74119 := f74107.tr f74115 rfl
        show wp _ _ 137 83 [(0, .ref r0)] [vI z74117] _ H74110 _
        exact wp_ireturn e137 c137_83 rfl ⟨rfl, w74114, f74119, z74117, rfl, ⟨by omega, by omega⟩, by omega⟩
      · refine wp_of e137 c137_58 (rw_aload_n (pc' := 59) (v := .ref r0) rfl rfl rfl ?_)
        refine wp_of e137 c137_59 (rw_iconst (pc' := 60) rfl ?_)
        refine wp_of e137 c137_60 (xc_V (pc' := 63) (r := r0) (as := [vI 5]) (st := []) (lm_0_70) rfl rfl (Nat.le_of_ble_eq_true rfl) w74082 g0 sh_1 (by decide) rfl (by decide) (s_12 w74082 g0 ⟨by omega, by omega⟩) (fun R74120 T74121 H74122 p74123 => ?_))
        obtain ⟨e74124, w74126, f74127, z74129, e74125, b74130, p74128⟩ := p74123
        subst e74124
        subst e74125
        have f74131 := f74084.tr f74127 rfl
        show wp _ _ 137 63 [(0, .ref r0)] [vI z74129] _ H74122 _
        exact wp_ireturn e137 c137_63 rfl ⟨rfl, w74126, f74131, z74129, rfl, ⟨by omega, by omega⟩, by omega⟩
    · refine wp_of e137 c137_27 (rw_aload_n (pc' := 28) (v := .ref r0) rfl rfl rfl ?_)
      refine wp_of e137 c137_28 (rw_iconst (pc' := 29) rfl ?_)
      refine wp_of e137 c137_29 (xc_V (pc' := 32) (r := r0) (as := [vI 3]) (st := []) (lm_0_70) rfl rfl (Nat.le_of_ble_eq_true rfl) hW g0 sh_1 (by decide) rfl (by decide) (s_12 hW g0 ⟨by omega, by omega⟩) (fun R74132 T74133 H74134 p74135 => ?_))
      obtain ⟨e74136, w74138, f74139, z74141, e74137, b74142, p74140⟩ := p74135
      subst e74136
      subst e74137
      have f74143 := f0.tr f74139 rfl
      show wp _ _ 137 32 [(0, .ref r0)] [vI z74141] _ H74134 _
      exact wp_ireturn e137 c137_32 rfl ⟨rfl, w74138, f74143, z74141, rfl, ⟨by omega, by omega⟩, by omega⟩
  · refine wp_of e137 c137_7 (rw_aload_n (pc' := 8) (v := .ref r0) rfl rfl rfl ?_)
    refine wp_of e137 c137_8 (rw_iconst (pc' := 9) rfl ?_)
    refine wp_of e137 c137_9 (xc_V (pc' := 12) (r := r0) (as := [vI 1]) (st := []) (lm_0_70) rfl rfl (Nat.le_of_ble_eq_true rfl) hW g0 sh_1 (by decide) rfl (by decide) (s_12 hW g0 ⟨by omega, by omega⟩) (fun R74144 T74145 H74146 p74147 => ?_))
    obtain ⟨e74148, w74150, f74151, z74153, e74149, b74154, p74152⟩ := p74147
    subst e74148
    subst e74149
    have f74155 := f0.tr f74151 rfl
    show wp _ _ 137 12 [(0, .ref r0)] [vI z74153] _ H74146 _
    exact wp_ireturn e137 c137_12 rfl ⟨rfl, w74150, f74155, z74153, rfl, ⟨by omega, by omega⟩, by omega⟩
/-! StrikeAwake.part(IZ)I -/
theorem e146 : wq_en 146 = some (0, 5, false, some FieldType.int) := rfl
theorem c146_0 : mc_cd 146 0 = some (.aload_n 0, 1) := by decide +kernel
theorem c146_1 : mc_cd 146 1 = some (.aload_n 0, 1) := by decide +kernel
theorem c146_2 : mc_cd 146 2 = some (.iload_n 1, 1) := by decide +kernel
theorem c146_3 : mc_cd 146 3 = some (.invokevirtual 132, 3) := by decide +kernel
theorem c146_6 : mc_cd 146 6 = some (.ifCond .eq 19, 3) := by decide +kernel
theorem c146_9 : mc_cd 146 9 = some (.aload_n 0, 1) := by decide +kernel
theorem c146_10 : mc_cd 146 10 = some (.getfield 51, 3) := by decide +kernel
theorem c146_13 : mc_cd 146 13 = some (.getfield 262, 3) := by decide +kernel
theorem c146_16 : mc_cd 146 16 = some (.iload_n 1, 1) := by decide +kernel
theorem c146_17 : mc_cd 146 17 = some (.iaload, 1) := by decide +kernel
theorem c146_18 : mc_cd 146 18 = some (.ifCond .lt 7, 3) := by decide +kernel
theorem c146_21 : mc_cd 146 21 = some (.iconst 1, 1) := by decide +kernel
theorem c146_22 : mc_cd 146 22 = some (.goto 4, 3) := by decide +kernel
theorem c146_25 : mc_cd 146 25 = some (.iconst 0, 1) := by decide +kernel
theorem c146_26 : mc_cd 146 26 = some (.invokevirtual 198, 3) := by decide +kernel
theorem c146_29 : mc_cd 146 29 = some (.istore_n 3, 1) := by decide +kernel
theorem c146_30 : mc_cd 146 30 = some (.iload_n 3, 1) := by decide +kernel
theorem c146_31 : mc_cd 146 31 = some (.ifCond .eq 12, 3) := by decide +kernel
theorem c146_34 : mc_cd 146 34 = some (.aload_n 0, 1) := by decide +kernel
theorem c146_35 : mc_cd 146 35 = some (.iload_n 3, 1) := by decide +kernel
theorem c146_36 : mc_cd 146 36 = some (.putfield 102, 3) := by decide +kernel
theorem c146_39 : mc_cd 146 39 = some (.sipush (-1000), 3) := by decide +kernel
theorem c146_42 : mc_cd 146 42 = some (.ireturn, 1) := by decide +kernel
theorem c146_43 : mc_cd 146 43 = some (.iload_n 2, 1) := by decide +kernel
theorem c146_44 : mc_cd 146 44 = some (.ifCond .eq 15, 3) := by decide +kernel
theorem c146_47 : mc_cd 146 47 = some (.aload_n 0, 1) := by decide +kernel
theorem c146_48 : mc_cd 146 48 = some (.getfield 30, 3) := by decide +kernel
theorem c146_51 : mc_cd 146 51 = some (.getfield 265, 3) := by decide +kernel
theorem c146_54 : mc_cd 146 54 = some (.iload_n 1, 1) := by decide +kernel
theorem c146_55 : mc_cd 146 55 = some (.iaload, 1) := by decide +kernel
theorem c146_56 : mc_cd 146 56 = some (.goto 12, 3) := by decide +kernel
theorem c146_59 : mc_cd 146 59 = some (.aload_n 0, 1) := by decide +kernel
theorem c146_60 : mc_cd 146 60 = some (.getfield 30, 3) := by decide +kernel
theorem c146_63 : mc_cd 146 63 = some (.getfield 268, 3) := by decide +kernel
theorem c146_66 : mc_cd 146 66 = some (.iload_n 1, 1) := by decide +kernel
theorem c146_67 : mc_cd 146 67 = some (.iaload, 1) := by decide +kernel
theorem c146_68 : mc_cd 146 68 = some (.istore 4, 2) := by decide +kernel
theorem c146_70 : mc_cd 146 70 = some (.aload_n 0, 1) := by decide +kernel
theorem c146_71 : mc_cd 146 71 = some (.aload_n 0, 1) := by decide +kernel
theorem c146_72 : mc_cd 146 72 = some (.getfield 51, 3) := by decide +kernel
theorem c146_75 : mc_cd 146 75 = some (.getfield 262, 3) := by decide +kernel
theorem c146_78 : mc_cd 146 78 = some (.iload_n 1, 1) := by decide +kernel
theorem c146_79 : mc_cd 146 79 = some (.iaload, 1) := by decide +kernel
theorem c146_80 : mc_cd 146 80 = some (.iload 4, 2) := by decide +kernel
theorem c146_82 : mc_cd 146 82 = some (.isub, 1) := by decide +kernel
theorem c146_83 : mc_cd 146 83 = some (.invokevirtual 99, 3) := by decide +kernel
theorem c146_86 : mc_cd 146 86 = some (.ireturn, 1) := by decide +kernel
abbrev q_146 (r0 : Nat) (a1 : Int) (a2 : Int) (T : wq_T) (H : wq_H) : Option Value → wq_T → wq_H → Prop := fun r T' H' => T = T' ∧ WT T H' ∧ wfr [(12, 5), (12, 6), (12, 7), (12, 8), (12, 9), (1, 10), (6, 5), (8, 999), (10, 999), (15, 999), (9, 999), (18, 999), (19, 999), (7, 999), (11, 999), (17, 999), (13, 999)] T H H' ∧ ∃ z : Int, some (vI z) = r ∧ ((-2147483648) ≤ z ∧ z ≤ 2147483647) ∧ (H' r0 10 ≠ 4)
set_option maxHeartbeats 4000000 in
theorem s_146 {kt : Nat → Option mc_E} {T : wq_T} {H : wq_H} {r0 : Nat} {a1 : Int} {a2 : Int} (hW : WT T H) (g0 : T.2.2.2 r0 = some 1) (i1 : (-2147483648) ≤ a1 ∧ a1 ≤ 2147483647) (i2 : 0 ≤ a2 ∧ a2 ≤ 1) : wpc kt 7 146 [.ref r0, vI a1, vI a2] T H (q_146 r0 a1 a2 T H) := by
  refine wp_enter e146 (Nat.le_of_ble_eq_true rfl) rfl ?_
  have f0 : wfr [(12, 5), (12, 6), (12, 7), (12, 8), (12, 9), (1, 10), (6, 5), (8, 999), (10, 999), (15, 999), (9, 999), (18, 999), (19, 999), (7, 999), (11, 999), (17, 999), (13, 999)] T H H := wfr.rf
  show wp _ _ 146 0 [(0, .ref r0), (1, vI a1), (2, vI a2)] [] _ H _
  refine wp_of e146 c146_0 (rw_aload_n (pc' := 1) (v := .ref r0) rfl rfl rfl ?_)
  refine wp_of e146 c146_1 (rw_aload_n (pc' := 2) (v := .ref r0) rfl rfl rfl ?_)
  refine wp_of e146 c146_2 (rw_iload_n (pc' := 3) (z := a1) rfl rfl ?_)
  refine wp_of e146 c146_3 (xc_V (pc' := 6) (r := r0) (as := [vI a1]) (st := [.ref r0]) (lm_0_132) rfl rfl (Nat.le_of_ble_eq_true rfl) hW g0 sh_1 (by decide) rfl (by decide) (s_60 hW g0 ⟨by omega, by omega⟩) (fun R74292 T74293 H74294 p74295 => ?_))
  obtain ⟨e74296, e74298, z74300, e74297, b74301, p74299⟩ := p74295
  subst e74296
  subst e74297
  subst e74298
  show wp _ _ 146 6 [(0, .ref r0), (1, vI a1), (2, vI a2)] [vI z74300, .ref r0] _ H _
  refine wp_of e146 c146_6 (rw_if_eq (p1 := 25) (p2 := 9) (by decide) rfl ⟨by omega, by omega⟩ (fun c74302 => ?_) (fun c74302 => ?_))
  · refine wp_of e146 c146_25 (rw_iconst (pc' := 26) rfl ?_)
    refine wp_of e146 c146_26 (xc_V (pc' := 29) (r := r0) (as := [vI 0]) (st := []) (lm_0_198) rfl rfl (Nat.le_of_ble_eq_true rfl) hW g0 sh_1 (by decide) rfl (by decide) (s_102 hW g0 ⟨by omega, by omega⟩) (fun R74303 T74304 H74305 p74306 => ?_))
    obtain ⟨e74307, w74309, f74310, z74313, e74308, b74314, p74311, p74312⟩ := p74306
    subst e74307
    subst e74308
    have f74315 := f0.tr f74310 rfl
    show wp _ _ 146 29 [(0, .ref r0), (1, vI a1), (2, vI a2)] [vI z74313] _ H74305 _
    refine wp_of e146 c146_29 (rw_istore_n (pc' := 30) (z := z74313) (L' := [(3, vI z74313), (0, .ref r0), (1, vI a1), (2, vI a2)]) rfl rfl rfl ?_)
    refine wp_of e146 c146_30 (rw_iload_n (pc' := 31) (z := z74313) rfl rfl ?_)
    refine wp_of e146 c146_31 (rw_if_eq (p1 := 43) (p2 := 34) (by decide) rfl ⟨by omega, by omega⟩ (fun c74316 => ?_) (fun c74316 => ?_))
    · exfalso
      omega
    · refine wp_of e146 c146_34 (rw_aload_n (pc' := 35) (v := .ref r0) rfl rfl rfl ?_)
      refine wp_of e146 c146_35 (rw_iload_n (pc' := 36) (z := z74313) rfl rfl ?_)
      refine wp_of e146 c146_36 (xp_I (pc' := 39) lf_0_102 w74309 g0 sh_1 (by decide) (by decide) ty_1_10 rfl rfl (by omega) (by omega) ⟨by omega, by omega⟩ rfl (fun H74317 e74318 w74319 => ?_))
      have f74320 := f74315.put' e74318 g0 rfl
      have k74321 : H74317 r0 10 = z74313 := wq_u_s e74318
      refine wp_of e146 c146_39 (rw_sipush (pc' := 42) (z := -1000) rfl (by decide) ?_)
      exact wp_ireturn e146 c146_42 rfl ⟨rfl, w74319, f74320, -1000, rfl, ⟨by omega, by omega⟩, by omega⟩
  · refine wp_of e146 c146_9 (rw_aload_n (pc' := 10) (v := .ref r0) rfl rfl rfl ?_)
    refine wp_of e146 c146_10 (xg_R (pc' := 13) lf_0_51 hW g0 sh_1 (by decide) (by decide) ty_1_6 rfl rfl (fun r74322 q74323 g74324 => ?_))
    refine wp_of e146 c146_13 (xg_R (pc' := 16) lf_0_262 hW g74324 sh_27 (by decide) (by decide) ty_27_1 rfl rfl (fun r74325 q74326 g74327 => ?_))
    refine wp_of e146 c146_16 (rw_iload_n (pc' := 17) (z := a1) rfl rfl ?_)
    refine wp_of e146 c146_17 (xa_I (so := 0) (pc' := 18) hW g74327 sh_29 (by decide) (ty_29 _) (by omega) (by omega) rfl (fun b74328 b74329 => ?_))
    refine wp_of e146 c146_18 (rw_if_lt (p1 := 25) (p2 := 21) (by decide) rfl ⟨by omega, by omega⟩ (fun c74330 => ?_) (fun c74330 => ?_))
    · refine wp_of e146 c146_25 (rw_iconst (pc' := 26) rfl ?_)
      refine wp_of e146 c146_26 (xc_V (pc' := 29) (r := r0) (as := [vI 0]) (st := []) (lm_0_198) rfl rfl (Nat.le_of_ble_eq_true rfl) hW g0 sh_1 (by decide) rfl (by decide) (s_102 hW g0 ⟨by omega, by omega⟩) (fun R74331 T74332 H74333 p74334 => ?_))
      obtain ⟨e74335, w74337, f74338, z74341, e74336, b74342, p74339, p74340⟩ := p74334
      subst e74335
      subst e74336
      have f74343 := f0.tr f74338 rfl
      show wp _ _ 146 29 [(0, .ref r0), (1, vI a1), (2, vI a2)] [vI z74341] _ H74333 _
      refine wp_of e146 c146_29 (rw_istore_n (pc' := 30) (z := z74341) (L' := [(3, vI z74341), (0, .ref r0), (1, vI a1), (2, vI a2)]) rfl rfl rfl ?_)
      refine wp_of e146 c146_30 (rw_iload_n (pc' := 31) (z := z74341) rfl rfl ?_)
      refine wp_of e146 c146_31 (rw_if_eq (p1 := 43) (p2 := 34) (by decide) rfl ⟨by omega, by omega⟩ (fun c74344 => ?_) (fun c74344 => ?_))
      · exfalso
        omega
      · refine wp_of e146 c146_34 (rw_aload_n (pc' := 35) (v := .ref r0) rfl rfl rfl ?_)
        refine wp_of e146 c146_35 (rw_iload_n (pc' := 36) (z := z74341) rfl rfl ?_)
        refine wp_of e146 c146_36 (xp_I (pc' := 39) lf_0_102 w74337 g0 sh_1 (by decide) (by decide) ty_1_10 rfl rfl (by omega) (by omega) ⟨by omega, by omega⟩ rfl (fun H74345 e74346 w74347 => ?_))
        have f74348 := f74343.put' e74346 g0 rfl
        have k74349 : H74345 r0 10 = z74341 := wq_u_s e74346
        refine wp_of e146 c146_39 (rw_sipush (pc' := 42) (z := -1000) rfl (by decide) ?_)
        exact wp_ireturn e146 c146_42 rfl ⟨rfl, w74347, f74348, -1000, rfl, ⟨by omega, by omega⟩, by omega⟩
    · refine wp_of e146 c146_21 (rw_iconst (pc' := 22) rfl ?_)
      refine wp_of e146 c146_22 (rw_goto (p1 := 26) (by decide) ?_)
      refine wp_of e146 c146_26 (xc_V (pc' := 29) (r := r0) (as := [vI 1]) (st := []) (lm_0_198) rfl rfl (Nat.le_of_ble_eq_true rfl) hW g0 sh_1 (by decide) rfl (by decide) (s_102 hW g0 ⟨by omega, by omega⟩) (fun R74350 T74351 H74352 p74353 => ?_))
      obtain ⟨e74354, w74356, f74357, z74360, e74355, b74361, p74358, p74359⟩ := p74353
      subst e74354
      subst e74355
      have f74362 := f0.tr f74357 rfl
      show wp _ _ 146 29 [(0, .ref r0), (1, vI a1), (2, vI a2)] [vI z74360] _ H74352 _
      refine wp_of e146 c146_29 (rw_istore_n (pc' := 30) (z := z74360) (L' := [(3, vI z74360), (0, .ref r0), (1, vI a1), (2, vI a2)]) rfl rfl rfl ?_)
      refine wp_of e146 c146_30 (rw_iload_n (pc' := 31) (z := z74360) rfl rfl ?_)
      refine wp_of e146 c146_31 (rw_if_eq (p1 := 43) (p2 := 34) (by decide) rfl ⟨by omega, by omega⟩ (fun c74363 => ?_) (fun c74363 => ?_))
      · refine wp_of e146 c146_43 (rw_iload_n (pc' := 44) (z := a2) rfl rfl ?_)
        refine wp_of e146 c146_44 (rw_if_eq (p1 := 59) (p2 := 47) (by decide) rfl ⟨by omega, by omega⟩ (fun c74364 => ?_) (fun c74364 => ?_))
        · refine wp_of e146 c146_59 (rw_aload_n (pc' := 60) (v := .ref r0) rfl rfl rfl ?_)
          refine wp_of e146 c146_60 (xg_R (pc' := 63) lf_0_30 w74356 g0 sh_1 (by decide) (by decide) ty_1_3 rfl rfl (fun r74365 q74366 g74367 => ?_))
          refine wp_of e146 c146_63 (xg_R (pc' := 66) lf_0_268 w74356 g74367 sh_12 (by decide) (by decide) ty_12_4 rfl rfl (fun r74368 q74369 g74370 => ?_))
          refine wp_of e146 c146_66 (rw_iload_n (pc' := 67) (z := a1) rfl rfl ?_)
          refine wp_of e146 c146_67 (xa_I (so := 0) (pc' := 68) w74356 g74370 sh_19 (by decide) (ty_19 _) (by omega) (by omega) rfl (fun b74371 b74372 => ?_))
          refine wp_of e146 c146_68 (rw_istore (pc' := 70) (z := H74352 r74368 (a1.toNat)) (L' := [(4, vI (H74352 r74368 (a1.toNat))), (3, vI z74360), (0, .ref r0), (1, vI a1), (2, vI a2)]) rfl rfl rfl ?_)
          refine wp_of e146 c146_70 (rw_aload_n (pc' := 71) (v := .ref r0) rfl rfl rfl ?_)
          refine wp_of e146 c146_71 (rw_aload_n (pc' := 72) (v := .ref r0) rfl rfl rfl ?_)
          have k74373 : H74352 r0 6 = H r0 6 := (f74357 r0 6 _ g0 rfl)
          have q74374 : H74352 r0 6 = (r74322 : Int) := k74373.trans q74323
          refine wp_of e146 c146_72 (xg_K (pc' := 75) lf_0_51 w74356 g0 sh_1 (by decide) (by decide) rfl q74374 rfl ?_)
          have k74375 : H74352 r74322 1 = H r74322 1 := (f74357 r74322 1 _ g74324 rfl)
          have q74376 : H74352 r74322 1 = (r74325 : Int) := k74375.trans q74326
          refine wp_of e146 c146_75 (xg_K (pc' := 78) lf_0_262 w74356 g74324 sh_27 (by decide) (by decide) rfl q74376 rfl ?_)
          refine wp_of e146 c146_78 (rw_iload_n (pc' := 79) (z := a1) rfl rfl ?_)
          have k74377 : H74352 r74325 (a1.toNat) = H r74325 (a1.toNat) := (f74357 r74325 (a1.toNat) _ g74327 rfl)
          refine wp_of e146 c146_79 (xa_I (so := 0) (pc' := 80) w74356 g74327 sh_29 (by decide) (ty_29 _) (by omega) (by omega) rfl (fun b74378 b74379 => ?_))
          refine wp_of e146 c146_80 (rw_iload (pc' := 82) (z := H74352 r74368 (a1.toNat)) rfl rfl ?_)
          refine wp_of e146 c146_82 (rw_isubw (pc' := 83) rfl ?_)
          obtain ⟨v74380, e74381⟩ : ∃ x : Int, x = wq_w ((H74352 r74325 (a1.toNat)) - (H74352 r74368 (a1.toNat))) := ⟨_, rfl⟩
          rw [← e74381]
          have b74382 : -2147483648 ≤ v74380 ∧ v74380 ≤ 2147483647 := by
            rw [e74381]
            exact wI_w _
          refine wp_of e146 c146_83 (xc_V (pc' := 86) (r := r0) (as := [vI v74380]) (st := []) (lm_0_99) rfl rfl (Nat.le_of_ble_eq_true rfl) w74356 g0 sh_1 (by decide) rfl (by decide) (s_51 w74356 g0 ⟨by omega, by omega⟩) (fun R74383 T74384 H74385 p74386 => ?_))
          obtain ⟨e74387, w74389, f74390, z74392, e74388, b74393, p74391⟩ := p74386
          subst e74387
          subst e74388
          have f74394 := f74362.tr f74390 rfl
          show wp _ _ 146 86 [(4, vI (H74352 r74368 (a1.toNat))), (3, vI z74360), (0, .ref r0), (1, vI a1), (2, vI a2)] [vI z74392] _ H74385 _
          exact wp_ireturn e146 c146_86 rfl ⟨rfl, w74389, f74394, z74392, rfl, ⟨by omega, by omega⟩, by omega⟩
        · refine wp_of e146 c146_47 (rw_aload_n (pc' := 48) (v := .ref r0) rfl rfl rfl ?_)
          refine wp_of e146 c146_48 (xg_R (pc' := 51) lf_0_30 w74356 g0 sh_1 (by decide) (by decide) ty_1_3 rfl rfl (fun r74395 q74396 g74397 => ?_))
          refine wp_of e146 c146_51 (xg_R (pc' := 54) lf_0_265 w74356 g74397 sh_12 (by decide) (by decide) ty_12_3 rfl rfl (fun r74398 q74399 g74400 => ?_))
          refine wp_of e146 c146_54 (rw_iload_n (pc' := 55) (z := a1) rfl rfl ?_)
          refine wp_of e146 c146_55 (xa_I (so := 0) (pc' := 56) w74356 g74400 sh_18 (by decide) (ty_18 _) (by omega) (by omega) rfl (fun b74401 b74402 => ?_))
          refine wp_of e146 c146_56 (rw_goto (p1 := 68) (by decide) ?_)
          refine wp_of e146 c146_68 (rw_istore (pc' := 70) (z := H74352 r74398 (a1.toNat)) (L' := [(4, vI (H74352 r74398 (a1.toNat))), (3, vI z74360), (0, .ref r0), (1, vI a1), (2, vI a2)]) rfl rfl rfl ?_)
          refine wp_of e146 c146_70 (rw_aload_n (pc' := 71) (v := .ref r0) rfl rfl rfl ?_)
          refine wp_of e146 c146_71 (rw_aload_n (pc' := 72) (v := .ref r0) rfl rfl rfl ?_)
          have k74403 : H74352 r0 6 = H r0 6 := (f74357 r0 6 _ g0 rfl)
          have q74404 : H74352 r0 6 = (r74322 : Int) := k74403.trans q74323
          refine wp_of e146 c146_72 (xg_K (pc' := 75) lf_0_51 w74356 g0 sh_1 (by decide) (by decide) rfl q74404 rfl ?_)
          have k74405 : H74352 r74322 1 = H r74322 1 := (f74357 r74322 1 _ g74324 rfl)
          have q74406 : H74352 r74322 1 = (r74325 : Int) := k74405.trans q74326
          refine wp_of e146 c146_75 (xg_K (pc' := 78) lf_0_262 w74356 g74324 sh_27 (by decide) (by decide) rfl q74406 rfl ?_)
          refine wp_of e146 c146_78 (rw_iload_n (pc' := 79) (z := a1) rfl rfl ?_)
          have k74407 : H74352 r74325 (a1.toNat) = H r74325 (a1.toNat) := (f74357 r74325 (a1.toNat) _ g74327 rfl)
          refine wp_of e146 c146_79 (xa_I (so := 0) (pc' := 80) w74356 g74327 sh_29 (by decide) (ty_29 _) (by omega) (by omega) rfl (fun b74408 b74409 => ?_))
          refine wp_of e146 c146_80 (rw_iload (pc' := 82) (z := H74352 r74398 (a1.toNat)) rfl rfl ?_)
          refine wp_of e146 c146_82 (rw_isubw (pc' := 83) rfl ?_)
          obtain ⟨v74410, e74411⟩ : ∃ x : Int, x = wq_w ((H74352 r74325 (a1.toNat)) - (H74352 r74398 (a1.toNat))) := ⟨_, rfl⟩
          rw [← e74411]
          have b74412 : -2147483648 ≤ v74410 ∧ v74410 ≤ 2147483647 := by
            rw [e74411]
            exact wI_w _
          refine wp_of e146 c146_83 (xc_V (pc' := 86) (r := r0) (as := [vI v74410]) (st := []) (lm_0_99) rfl rfl (Nat.le_of_ble_eq_true rfl) w74356 g0 sh_1 (by decide) rfl (by decide) (s_51 w74356 g0 ⟨by omega, by omega⟩) (fun R74413 T74414 H74415 p74416 => ?_))
          obtain ⟨e74417, w74419, f74420, z74422, e74418, b74423, p74421⟩ := p74416
          subst e74417
          subst e74418
          have f74424 := f74362.tr f74420 rfl
          show wp _ _ 146 86 [(4, vI (H74352 r74398 (a1.toNat))), (3, vI z74360), (0, .ref r0), (1, vI a1), (2, vI a2)] [vI z74422] _ H74415 _
          exact wp_ireturn e146 c146_86 rfl ⟨rfl, w74419, f74424, z74422, rfl, ⟨by omega, by omega⟩, by omega⟩
      · refine wp_of e146 c146_34 (rw_aload_n (pc' := 35) (v := .ref r0) rfl rfl rfl ?_)
        refine wp_of e146 c146_35 (rw_iload_n (pc' := 36) (z := z74360) rfl rfl ?_)
        refine wp_of e146 c146_36 (xp_I (pc' := 39) lf_0_102 w74356 g0 sh_1 (by decide) (by decide) ty_1_10 rfl rfl (by omega) (by omega) ⟨by omega, by omega⟩ rfl (fun H74425 e74426 w74427 => ?_))
        have f74428 := f74362.put' e74426 g0 rfl
        have k74429 : H74425 r0 10 = z74360 := wq_u_s e74426
        refine wp_of e146 c146_39 (rw_sipush (pc' := 42) (z := -1000) rfl (by decide) ?_)
        exact wp_ireturn e146 c146_42 rfl ⟨rfl, w74427, f74428, -1000, rfl, ⟨by omega, by omega⟩, by omega⟩
/-! StrikeAwake$Walk.silentHours(LStrikeAwake$Parish;)I -/
theorem e148 : wq_en 148 = some (3, 2, false, some FieldType.int) := rfl
theorem c148_0 : mc_cd 148 0 = some (.aload_n 1, 1) := by decide +kernel
theorem c148_1 : mc_cd 148 1 = some (.invokevirtual 88, 3) := by decide +kernel
theorem c148_4 : mc_cd 148 4 = some (.aload_n 0, 1) := by decide +kernel
theorem c148_5 : mc_cd 148 5 = some (.getfield 22, 3) := by decide +kernel
theorem c148_8 : mc_cd 148 8 = some (.aload_n 0, 1) := by decide +kernel
theorem c148_9 : mc_cd 148 9 = some (.getfield 51, 3) := by decide +kernel
theorem c148_12 : mc_cd 148 12 = some (.iaload, 1) := by decide +kernel
theorem c148_13 : mc_cd 148 13 = some (.iconst (-1), 1) := by decide +kernel
theorem c148_14 : mc_cd 148 14 = some (.ixor, 1) := by decide +kernel
theorem c148_15 : mc_cd 148 15 = some (.iand, 1) := by decide +kernel
theorem c148_16 : mc_cd 148 16 = some (.ireturn, 1) := by decide +kernel
abbrev q_148 (r0 : Nat) (r1 : Nat) (T : wq_T) (H : wq_H) : Option Value → wq_T → wq_H → Prop := fun r T' H' => T = T' ∧ H = H' ∧ ∃ z : Int, some (vI z) = r ∧ ((-2147483648) ≤ z ∧ z ≤ 2147483647)
set_option maxHeartbeats 4000000 in
theorem s_148 {kt : Nat → Option mc_E} {T : wq_T} {H : wq_H} {r0 : Nat} {r1 : Nat} (hW : WT T H) (g0 : T.2.2.2 r0 = some 6) (g1 : T.2.2.2 r1 = some 27) : wpc kt 3 148 [.ref r0, .ref r1] T H (q_148 r0 r1 T H) := by
  refine wp_enter e148 (Nat.le_of_ble_eq_true rfl) rfl ?_
  show wp _ _ 148 0 [(0, .ref r0), (1, .ref r1)] [] _ H _
  refine wp_of e148 c148_0 (rw_aload_n (pc' := 1) (v := .ref r1) rfl rfl rfl ?_)
  refine wp_of e148 c148_1 (xc_V (pc' := 4) (r := r1) (as := []) (st := []) (lm_3_88) rfl rfl (Nat.le_of_ble_eq_true rfl) hW g1 sh_27 (by decide) rfl (by decide) (s_45 hW g1) (fun R74450 T74451 H74452 p74453 => ?_))
  obtain ⟨e74454, e74456, z74457, e74455, b74458⟩ := p74453
  subst e74454
  subst e74455
  subst e74456
  show wp _ _ 148 4 [(0, .ref r0), (1, .ref r1)] [vI z74457] _ H _
  refine wp_of e148 c148_4 (rw_aload_n (pc' := 5) (v := .ref r0) rfl rfl rfl ?_)
  refine wp_of e148 c148_5 (xg_R (pc' := 8) lf_3_22 hW g0 sh_6 (by decide) (by decide) ty_6_3 rfl rfl (fun r74459 q74460 g74461 => ?_))
  refine wp_of e148 c148_8 (rw_aload_n (pc' := 9) (v := .ref r0) rfl rfl rfl ?_)
  refine wp_of e148 c148_9 (xg_I (pc' := 12) lf_3_51 hW g0 sh_6 (by decide) (by decide) ty_6_5 rfl rfl (fun b74462 b74463 => ?_))
  refine wp_of e148 c148_12 (xa_I (so := 0) (pc' := 13) hW g74461 sh_10 (by decide) (ty_10 _) (by omega) (by omega) rfl (fun b74464 b74465 => ?_))
  refine wp_of e148 c148_13 (rw_iconst (pc' := 14) rfl ?_)
  refine wp_of e148 c148_14 (rw_ixor (pc' := 15) rfl ?_)
  obtain ⟨v74466, e74467⟩ : ∃ x : Int, x = wq_xor (H r74459 ((H r0 5).toNat)) (-1) := ⟨_, rfl⟩
  rw [← e74467]
  have b74468 : -2147483648 ≤ v74466 ∧ v74466 ≤ 2147483647 := by
    rw [e74467]
    exact wI_xor _ _
  refine wp_of e148 c148_15 (rw_iand (pc' := 16) rfl ?_)
  obtain ⟨v74469, e74470⟩ : ∃ x : Int, x = wq_and z74457 v74466 := ⟨_, rfl⟩
  rw [← e74470]
  have b74471 : -2147483648 ≤ v74469 ∧ v74469 ≤ 2147483647 := by
    rw [e74470]
    exact wI_and _ _
  exact wp_ireturn e148 c148_16 rfl ⟨rfl, rfl, v74469, rfl, ⟨by omega, by omega⟩⟩
/-! StrikeAwake.nothing()I -/
theorem e147 : wq_en 147 = some (0, 4, false, some FieldType.int) := rfl
theorem c147_0 : mc_cd 147 0 = some (.aload_n 0, 1) := by decide +kernel
theorem c147_1 : mc_cd 147 1 = some (.aload_n 0, 1) := by decide +kernel
theorem c147_2 : mc_cd 147 2 = some (.getfield 58, 3) := by decide +kernel
theorem c147_5 : mc_cd 147 5 = some (.invokevirtual 245, 3) := by decide +kernel
theorem c147_8 : mc_cd 147 8 = some (.istore_n 1, 1) := by decide +kernel
theorem c147_9 : mc_cd 147 9 = some (.iload_n 1, 1) := by decide +kernel
theorem c147_10 : mc_cd 147 10 = some (.ifCond .eq 9, 3) := by decide +kernel
theorem c147_13 : mc_cd 147 13 = some (.aload_n 0, 1) := by decide +kernel
theorem c147_14 : mc_cd 147 14 = some (.iload_n 1, 1) := by decide +kernel
theorem c147_15 : mc_cd 147 15 = some (.invokevirtual 70, 3) := by decide +kernel
theorem c147_18 : mc_cd 147 18 = some (.ireturn, 1) := by decide +kernel
theorem c147_19 : mc_cd 147 19 = some (.iconst 0, 1) := by decide +kernel
theorem c147_20 : mc_cd 147 20 = some (.istore_n 2, 1) := by decide +kernel
theorem c147_21 : mc_cd 147 21 = some (.aload_n 0, 1) := by decide +kernel
theorem c147_22 : mc_cd 147 22 = some (.getfield 23, 3) := by decide +kernel
theorem c147_25 : mc_cd 147 25 = some (.aload_n 0, 1) := by decide +kernel
theorem c147_26 : mc_cd 147 26 = some (.getfield 51, 3) := by decide +kernel
theorem c147_29 : mc_cd 147 29 = some (.invokevirtual 271, 3) := by decide +kernel
theorem c147_32 : mc_cd 147 32 = some (.iconst 0, 1) := by decide +kernel
theorem c147_33 : mc_cd 147 33 = some (.istore_n 3, 1) := by decide +kernel
theorem c147_34 : mc_cd 147 34 = some (.iload_n 3, 1) := by decide +kernel
theorem c147_35 : mc_cd 147 35 = some (.i2l, 1) := by decide +kernel
theorem c147_36 : mc_cd 147 36 = some (.aload_n 0, 1) := by decide +kernel
theorem c147_37 : mc_cd 147 37 = some (.getfield 51, 3) := by decide +kernel
theorem c147_40 : mc_cd 147 40 = some (.getfield 141, 3) := by decide +kernel
theorem c147_43 : mc_cd 147 43 = some (.lcmp, 1) := by decide +kernel
theorem c147_44 : mc_cd 147 44 = some (.ifCond .ge 51, 3) := by decide +kernel
theorem c147_47 : mc_cd 147 47 = some (.iload_n 3, 1) := by decide +kernel
theorem c147_48 : mc_cd 147 48 = some (.sipush 20000, 3) := by decide +kernel
theorem c147_51 : mc_cd 147 51 = some (.if_icmp .ge 44, 3) := by decide +kernel
theorem c147_54 : mc_cd 147 54 = some (.aload_n 0, 1) := by decide +kernel
theorem c147_55 : mc_cd 147 55 = some (.getfield 23, 3) := by decide +kernel
theorem c147_58 : mc_cd 147 58 = some (.invokevirtual 275, 3) := by decide +kernel
theorem c147_61 : mc_cd 147 61 = some (.ifCond .ne 17, 3) := by decide +kernel
theorem c147_64 : mc_cd 147 64 = some (.iload_n 2, 1) := by decide +kernel
theorem c147_65 : mc_cd 147 65 = some (.aload_n 0, 1) := by decide +kernel
theorem c147_66 : mc_cd 147 66 = some (.getfield 23, 3) := by decide +kernel
theorem c147_69 : mc_cd 147 69 = some (.aload_n 0, 1) := by decide +kernel
theorem c147_70 : mc_cd 147 70 = some (.getfield 51, 3) := by decide +kernel
theorem c147_73 : mc_cd 147 73 = some (.invokevirtual 278, 3) := by decide +kernel
theorem c147_76 : mc_cd 147 76 = some (.ior, 1) := by decide +kernel
theorem c147_77 : mc_cd 147 77 = some (.istore_n 2, 1) := by decide +kernel
theorem c147_78 : mc_cd 147 78 = some (.aload_n 0, 1) := by decide +kernel
theorem c147_79 : mc_cd 147 79 = some (.getfield 23, 3) := by decide +kernel
theorem c147_82 : mc_cd 147 82 = some (.aload_n 0, 1) := by decide +kernel
theorem c147_83 : mc_cd 147 83 = some (.getfield 51, 3) := by decide +kernel
theorem c147_86 : mc_cd 147 86 = some (.invokevirtual 281, 3) := by decide +kernel
theorem c147_89 : mc_cd 147 89 = some (.iinc 3 1, 3) := by decide +kernel
theorem c147_92 : mc_cd 147 92 = some (.goto (-58), 3) := by decide +kernel
theorem c147_95 : mc_cd 147 95 = some (.aload_n 0, 1) := by decide +kernel
theorem c147_96 : mc_cd 147 96 = some (.iload_n 2, 1) := by decide +kernel
theorem c147_97 : mc_cd 147 97 = some (.invokevirtual 99, 3) := by decide +kernel
theorem c147_100 : mc_cd 147 100 = some (.ireturn, 1) := by decide +kernel
abbrev q_147 (r0 : Nat) (T : wq_T) (H : wq_H) : Option Value → wq_T → wq_H → Prop := fun r T' H' => T = T' ∧ WT T H' ∧ wfr [(1, 10), (6, 5), (8, 999), (10, 999), (9, 999), (7, 999), (11, 999)] T H H' ∧ ∃ z : Int, some (vI z) = r ∧ ((-2147483648) ≤ z ∧ z ≤ 2147483647) ∧ (H' r0 10 ≠ 4)
set_option maxHeartbeats 4000000 in
theorem s_147 {kt : Nat → Option mc_E} {T : wq_T} {H : wq_H} {r0 : Nat} (hW : WT T H) (g0 : T.2.2.2 r0 = some 1) : wpc kt 4 147 [.ref r0] T H (q_147 r0 T H) := by
  refine wp_enter e147 (Nat.le_of_ble_eq_true rfl) rfl ?_
  have f0 : wfr [(1, 10), (6, 5), (8, 999), (10, 999), (9, 999), (7, 999), (11, 999)] T H H := wfr.rf
  show wp _ _ 147 0 [(0, .ref r0)] [] _ H _
  refine wp_of e147 c147_0 (rw_aload_n (pc' := 1) (v := .ref r0) rfl rfl rfl ?_)
  refine wp_of e147 c147_1 (rw_aload_n (pc' := 2) (v := .ref r0) rfl rfl rfl ?_)
  refine wp_of e147 c147_2 (xg_I (pc' := 5) lf_0_58 hW g0 sh_1 (by decide) (by decide) ty_1_8 rfl rfl (fun b74970 b74971 => ?_))
  refine wp_of e147 c147_5 (xc_V (pc' := 8) (r := r0) (as := [vI (H r0 8)]) (st := []) (lm_0_245) rfl rfl (Nat.le_of_ble_eq_true rfl) hW g0 sh_1 (by decide) rfl (by decide) (s_84 hW g0 ⟨by omega, by omega⟩) (fun R74972 T74973 H74974 p74975 => ?_))
  obtain ⟨e74976, e74978, z74981, e74977, b74982, p74979, p74980⟩ := p74975
  subst e74976
  subst e74977
  subst e74978
  show wp _ _ 147 8 [(0, .ref r0)] [vI z74981] _ H _
  refine wp_of e147 c147_8 (rw_istore_n (pc' := 9) (z := z74981) (L' := [(1, vI z74981), (0, .ref r0)]) rfl rfl rfl ?_)
  refine wp_of e147 c147_9 (rw_iload_n (pc' := 10) (z := z74981) rfl rfl ?_)
  refine wp_of e147 c147_10 (rw_if_eq (p1 := 19) (p2 := 13) (by decide) rfl ⟨by omega, by omega⟩ (fun c74983 => ?_) (fun c74983 => ?_))
  · refine wp_of e147 c147_19 (rw_iconst (pc' := 20) rfl ?_)
    refine wp_of e147 c147_20 (rw_istore_n (pc' := 21) (z := 0) (L' := [(2, vI 0), (1, vI z74981), (0, .ref r0)]) rfl rfl rfl ?_)
    refine wp_of e147 c147_21 (rw_aload_n (pc' := 22) (v := .ref r0) rfl rfl rfl ?_)
    refine wp_of e147 c147_22 (xg_R (pc' := 25) lf_0_23 hW g0 sh_1 (by decide) (by decide) ty_1_2 rfl rfl (fun r74984 q74985 g74986 => ?_))
    refine wp_of e147 c147_25 (rw_aload_n (pc' := 26) (v := .ref r0) rfl rfl rfl ?_)
    refine wp_of e147 c147_26 (xg_R (pc' := 29) lf_0_51 hW g0 sh_1 (by decide) (by decide) ty_1_6 rfl rfl (fun r74987 q74988 g74989 => ?_))
    refine wp_of e147 c147_29 (xc_V (pc' := 32) (r := r74984) (as := [.ref r74987]) (st := []) (lm_0_271) rfl rfl (Nat.le_of_ble_eq_true rfl) hW g74986 sh_6 (by decide) rfl (by decide) (s_87 hW g74986 g74989) (fun R74990 T74991 H74992 p74993 => ?_))
    obtain ⟨e74994, w74996, f74997, e74995⟩ := p74993
    subst e74994
    subst e74995
    have f74998 := f0.tr f74997 rfl
    show wp _ _ 147 32 [(2, vI 0), (1, vI z74981), (0, .ref r0)] [] _ H74992 _
    refine wp_of e147 c147_32 (rw_iconst (pc' := 33) rfl ?_)
    refine wp_of e147 c147_33 (rw_istore_n (pc' := 34) (z := 0) (L' := [(3, vI 0), (2, vI 0), (1, vI z74981), (0, .ref r0)]) rfl rfl rfl ?_)
    have lp75383 : ∀ (n75384 : Nat) (v75386 : Int) (v75387 : Int) (H75388 : wq_H), WT T H75388 → wfr [(8, 999), (10, 999), (9, 999), (7, 999), (11, 999)] T H74992 H75388 → (0 ≤ v75386 ∧ v75386 ≤ 20000) → ((-2147483648) ≤ v75387 ∧ v75387 ≤ 2147483647) → (20000 - v75386).toNat = n75384 → wp kt 3 147 34 [(3, vI v75386), (2, vI v75387), (0, .ref r0)] [] T H75388 (q_147 r0 T H) := by
      intro n75384
      induction n75384 using Nat.strongRecOn with
      | _ n75384 ih75385 =>
        intro v75386 v75387 H75388 w75389 f75390 b75391 b75392 m75393
        have f75394 := f74998.tr f75390 rfl
        refine wp_of e147 c147_34 (rw_iload_n (pc' := 35) (z := v75386) rfl rfl ?_)
        refine wp_of e147 c147_35 (rw_i2l (pc' := 36) rfl ⟨by omega, by omega⟩ ?_)
        refine wp_of e147 c147_36 (rw_aload_n (pc' := 37) (v := .ref r0) rfl rfl rfl ?_)
        have k75395 : H75388 r0 6 = H r0 6 := ((f75390 r0 6 _ g0 rfl).trans (f74997 r0 6 _ g0 rfl))
        have q75396 : H75388 r0 6 = (r74987 : Int) := k75395.trans q74988
        refine wp_of e147 c147_37 (xg_K (pc' := 40) lf_0_51 w75389 g0 sh_1 (by decide) (by decide) rfl q75396 rfl ?_)
        refine wp_of e147 c147_40 (xg_L (pc' := 43) lf_0_141 w75389 g74989 sh_27 (by decide) (by decide) ty_27_18 rfl rfl (fun b75397 b75398 => ?_))
        refine wp_of e147 c147_43 (rw_lcmp (pc' := 44) rfl ⟨by omega, by omega⟩ ⟨by omega, by omega⟩ ?_)
        have b75399 := wq_cmp_b v75386 (H75388 r74987 18)
        refine wp_of e147 c147_44 (rw_if_ge (p1 := 95) (p2 := 47) (by decide) rfl ⟨by omega, by omega⟩ (fun c75400 => ?_) (fun c75400 => ?_))
        · refine wp_of e147 c147_95 (rw_aload_n (pc' := 96) (v := .ref r0) rfl rfl rfl ?_)
          refine wp_of e147 c147_96 (rw_iload_n (pc' := 97) (z := v75387) rfl rfl ?_)
          refine wp_of e147 c147_97 (xc_V (pc' := 100) (r := r0) (as := [vI v75387]) (st := []) (lm_0_99) rfl rfl (Nat.le_of_ble_eq_true rfl) w75389 g0 sh_1 (by decide) rfl (by decide) (s_51 w75389 g0 ⟨by omega, by omega⟩) (fun R75401 T75402 H75403 p75404 => ?_))
          obtain ⟨e75405, w75407, f75408, z75410, e75406, b75411, p75409⟩ := p75404
          subst e75405
          subst e75406
          have f75412 := f75394.tr f75408 rfl
          show wp _ _ 147 100 [(3, vI v75386), (2, vI v75387), (0, .ref r0)] [vI z75410] _ H75403 _
          exact wp_ireturn e147 c147_100 rfl ⟨rfl, w75407, f75412, z75410, rfl, ⟨by omega, by omega⟩, by omega⟩
        · refine wp_of e147 c147_47 (rw_iload_n (pc' := 48) (z := v75386) rfl rfl ?_)
          refine wp_of e147 c147_48 (rw_sipush (pc' := 51) (z := 20000) rfl (by decide) ?_)
          refine wp_of e147 c147_51 (rw_icmp_ge (p1 := 95) (p2 := 54) (by decide) rfl ⟨by omega, by omega⟩ ⟨by omega, by omega⟩ (fun c75413 => ?_) (fun c75413 => ?_))
          · refine wp_of e147 c147_95 (rw_aload_n (pc' := 96) (v := .ref r0) rfl rfl rfl ?_)
            refine wp_of e147 c147_96 (rw_iload_n (pc' := 97) (z := v75387) rfl rfl ?_)
            refine wp_of e147 c147_97 (xc_V (pc' := 100) (r := r0) (as := [vI v75387]) (st := []) (lm_0_99) rfl rfl (Nat.le_of_ble_eq_true rfl) w75389 g0 sh_1 (by decide) rfl (by decide) (s_51 w75389 g0 ⟨by omega, by omega⟩) (fun R75414 T75415 H75416 p75417 => ?_))
            obtain ⟨e75418, w75420, f75421, z75423, e75419, b75424, p75422⟩ := p75417
            subst e75418
            subst e75419
            have f75425 := f75394.tr f75421 rfl
            show wp _ _ 147 100 [(3, vI v75386), (2, vI v75387), (0, .ref r0)] [vI z75423] _ H75416 _
            exact wp_ireturn e147 c147_100 rfl ⟨rfl, w75420, f75425, z75423, rfl, ⟨by omega, by omega⟩, by omega⟩
          · refine wp_of e147 c147_54 (rw_aload_n (pc' := 55) (v := .ref r0) rfl rfl rfl ?_)
            have k75426 : H75388 r0 2 = H r0 2 := ((f75390 r0 2 _ g0 rfl).trans (f74997 r0 2 _ g0 rfl))
            have q75427 : H75388 r0 2 = (r74984 : Int) := k75426.trans q74985
            refine wp_of e147 c147_55 (xg_K (pc' := 58) lf_0_23 w75389 g0 sh_1 (by decide) (by decide) rfl q75427 rfl ?_)
            refine wp_of e147 c147_58 (xc_V (pc' := 61) (r := r74984) (as := []) (st := []) (lm_0_275) rfl rfl (Nat.le_of_ble_eq_true rfl) w75389 g74986 sh_6 (by decide) rfl (by decide) (s_80 w75389 g74986) (fun R75428 T75429 H75430 p75431 => ?_))
            obtain ⟨e75432, e75434, z75435, e75433, b75436⟩ := p75431
            subst e75432
            subst e75433
            subst e75434
            show wp _ _ 147 61 [(3, vI v75386), (2, vI v75387), (0, .ref r0)] [vI z75435] _ H75388 _
            refine wp_of e147 c147_61 (rw_if_ne (p1 := 78) (p2 := 64) (by decide) rfl ⟨by omega, by omega⟩ (fun c75437 => ?_) (fun c75437 => ?_))
            · refine wp_of e147 c147_78 (rw_aload_n (pc' := 79) (v := .ref r0) rfl rfl rfl ?_)
              refine wp_of e147 c147_79 (xg_K (pc' := 82) lf_0_23 w75389 g0 sh_1 (by decide) (by decide) rfl q75427 rfl ?_)
              refine wp_of e147 c147_82 (rw_aload_n (pc' := 83) (v := .ref r0) rfl rfl rfl ?_)
              refine wp_of e147 c147_83 (xg_K (pc' := 86) lf_0_51 w75389 g0 sh_1 (by decide) (by decide) rfl q75396 rfl ?_)
              refine wp_of e147 c147_86 (xc_V (pc' := 89) (r := r74984) (as := [.ref r74987]) (st := []) (lm_0_281) rfl rfl (Nat.le_of_ble_eq_true rfl) w75389 g74986 sh_6 (by decide) rfl (by decide) (s_91 w75389 g74986 g74989) (fun R75438 T75439 H75440 p75441 => ?_))
              obtain ⟨e75442, w75444, f75445, e75443⟩ := p75441
              subst e75442
              subst e75443
              have f75446 := f75394.tr f75445 rfl
              have f75447 := f75390.tr f75445 rfl
              show wp _ _ 147 89 [(3, vI v75386), (2, vI v75387), (0, .ref r0)] [] _ H75440 _
              refine wp_of e147 c147_89 (rw_iinc (pc' := 92) (z := v75386) (L' := [(3, vI (v75386 + 1)), (2, vI v75387), (0, .ref r0)]) rfl rfl rfl rfl ?_)
              refine wp_of e147 c147_92 (rw_goto (p1 := 34) (by decide) ?_)
              exact wp_lc (ks := [3, 2, 0]) (wl_c rfl (wl_c rfl (wl_c rfl wl_n))) rfl (by decide) (ih75385 _ (by omega) (v75386 + 1) v75387 H75440 w75444 f75447 ⟨by omega, by omega⟩ ⟨by omega, by omega⟩ rfl)
            · refine wp_of e147 c147_64 (rw_iload_n (pc' := 65) (z := v75387) rfl rfl ?_)
              refine wp_of e147 c147_65 (rw_aload_n (pc' := 66) (v := .ref r0) rfl rfl rfl ?_)
              refine wp_of e147 c147_66 (xg_K (pc' := 69) lf_0_23 w75389 g0 sh_1 (by decide) (by decide) rfl q75427 rfl ?_)
              refine wp_of e147 c147_69 (rw_aload_n (pc' := 70) (v := .ref r0) rfl rfl rfl ?_)
              refine wp_of e147 c147_70 (xg_K (pc' := 73) lf_0_51 w75389 g0 sh_1 (by decide) (by decide) rfl q75396 rfl ?_)
              refine wp_of e147 c147_73 (xc_V (pc' := 76) (r := r74984) (as := [.ref r74987]) (st := [vI v75387]) (lm_0_278) rfl rfl (Nat.le_of_ble_eq_true rfl) w75389 g74986 sh_6 (by decide) rfl (by decide) (s_148 w75389 g74986 g74989) (fun R75448 T75449 H75450 p75451 => ?_))
              obtain ⟨e75452, e75454, z75455, e75453, b75456⟩ := p75451
              subst e75452
              subst e75453
              subst e75454
              show wp _ _ 147 76 [(3, vI v75386), (2, vI v75387), (0, .ref r0)] [vI z75455, vI v75387] _ H75388 _
              refine wp_of e147 c147_76 (rw_ior (pc' := 77) rfl ?_)
              obtain ⟨v75457, e75458⟩ : ∃ x : Int, x = wq_or v75387 z75455 := ⟨_, rfl⟩
              rw [← e75458]
              have b75459 : -2147483648 ≤ v75457 ∧ v75457 ≤ 2147483647 := by
                rw [e75458]
                exact wI_or _ _
              refine wp_of e147 c147_77 (rw_istore_n (pc' := 78) (z := v75457) (L' := [(2, vI v75457), (3, vI v75386), (0, .ref r0)]) rfl rfl rfl ?_)
              refine wp_of e147 c147_78 (rw_aload_n (pc' := 79) (v := .ref r0) rfl rfl rfl ?_)
              refine wp_of e147 c147_79 (xg_K (pc' := 82) lf_0_23 w75389 g0 sh_1 (by decide) (by decide) rfl q75427 rfl ?_)
              refine wp_of e147 c147_82 (rw_aload_n (pc' := 83) (v := .ref r0) rfl rfl rfl ?_)
              refine wp_of e147 c147_83 (xg_K (pc' := 86) lf_0_51 w75389 g0 sh_1 (by decide) (by decide) rfl q75396 rfl ?_)
              refine wp_of e147 c147_86 (xc_V (pc' := 89) (r := r74984) (as := [.ref r74987]) (st := []) (lm_0_281) rfl rfl (Nat.le_of_ble_eq_true rfl) w75389 g74986 sh_6 (by decide) rfl (by decide) (s_91 w75389 g74986 g74989) (fun R75460 T75461 H75462 p75463 => ?_))
              obtain ⟨e75464, w75466, f75467, e75465⟩ := p75463
              subst e75464
              subst e75465
              have f75468 := f75394.tr f75467 rfl
              have f75469 := f75390.tr f75467 rfl
              show wp _ _ 147 89 [(2, vI v75457), (3, vI v75386), (0, .ref r0)] [] _ H75462 _
              refine wp_of e147 c147_89 (rw_iinc (pc' := 92) (z := v75386) (L' := [(3, vI (v75386 + 1)), (2, vI v75457), (0, .ref r0)]) rfl rfl rfl rfl ?_)
              refine wp_of e147 c147_92 (rw_goto (p1 := 34) (by decide) ?_)
              exact wp_lc (ks := [3, 2, 0]) (wl_c rfl (wl_c rfl (wl_c rfl wl_n))) rfl (by decide) (ih75385 _ (by omega) (v75386 + 1) v75457 H75462 w75466 f75469 ⟨by omega, by omega⟩ ⟨by omega, by omega⟩ rfl)
    exact wp_lc (ks := [3, 2, 1, 0]) (wl_c rfl (wl_c rfl (wl_c rfl wl_n))) rfl (by decide) (lp75383 _ 0 0 H74992 w74996 wfr.rf ⟨by omega, by omega⟩ ⟨by omega, by omega⟩ rfl)
  · refine wp_of e147 c147_13 (rw_aload_n (pc' := 14) (v := .ref r0) rfl rfl rfl ?_)
    refine wp_of e147 c147_14 (rw_iload_n (pc' := 15) (z := z74981) rfl rfl ?_)
    refine wp_of e147 c147_15 (xc_V (pc' := 18) (r := r0) (as := [vI z74981]) (st := []) (lm_0_70) rfl rfl (Nat.le_of_ble_eq_true rfl) hW g0 sh_1 (by decide) rfl (by decide) (s_12 hW g0 ⟨by omega, by omega⟩) (fun R75470 T75471 H75472 p75473 => ?_))
    obtain ⟨e75474, w75476, f75477, z75479, e75475, b75480, p75478⟩ := p75473
    subst e75474
    subst e75475
    have f75481 := f0.tr f75477 rfl
    show wp _ _ 147 18 [(1, vI z74981), (0, .ref r0)] [vI z75479] _ H75472 _
    exact wp_ireturn e147 c147_18 rfl ⟨rfl, w75476, f75481, z75479, rfl, ⟨by omega, by omega⟩, by omega⟩
/-! StrikeAwake$Parish.hoursOffered(I)I -/
theorem e151 : wq_en 151 = some (7, 4, false, some FieldType.int) := rfl
theorem c151_0 : mc_cd 151 0 = some (.iconst 0, 1) := by decide +kernel
theorem c151_1 : mc_cd 151 1 = some (.istore_n 2, 1) := by decide +kernel
theorem c151_2 : mc_cd 151 2 = some (.iconst 0, 1) := by decide +kernel
theorem c151_3 : mc_cd 151 3 = some (.istore_n 3, 1) := by decide +kernel
theorem c151_4 : mc_cd 151 4 = some (.iload_n 3, 1) := by decide +kernel
theorem c151_5 : mc_cd 151 5 = some (.aload_n 0, 1) := by decide +kernel
theorem c151_6 : mc_cd 151 6 = some (.getfield 62, 3) := by decide +kernel
theorem c151_9 : mc_cd 151 9 = some (.if_icmp .ge 26, 3) := by decide +kernel
theorem c151_12 : mc_cd 151 12 = some (.iload_n 1, 1) := by decide +kernel
theorem c151_13 : mc_cd 151 13 = some (.iload_n 3, 1) := by decide +kernel
theorem c151_14 : mc_cd 151 14 = some (.invokestatic 121, 3) := by decide +kernel
theorem c151_17 : mc_cd 151 17 = some (.ifCond .eq 12, 3) := by decide +kernel
theorem c151_20 : mc_cd 151 20 = some (.iload_n 2, 1) := by decide +kernel
theorem c151_21 : mc_cd 151 21 = some (.aload_n 0, 1) := by decide +kernel
theorem c151_22 : mc_cd 151 22 = some (.getfield 33, 3) := by decide +kernel
theorem c151_25 : mc_cd 151 25 = some (.iload_n 3, 1) := by decide +kernel
theorem c151_26 : mc_cd 151 26 = some (.iaload, 1) := by decide +kernel
theorem c151_27 : mc_cd 151 27 = some (.ior, 1) := by decide +kernel
theorem c151_28 : mc_cd 151 28 = some (.istore_n 2, 1) := by decide +kernel
theorem c151_29 : mc_cd 151 29 = some (.iinc 3 1, 3) := by decide +kernel
theorem c151_32 : mc_cd 151 32 = some (.goto (-28), 3) := by decide +kernel
theorem c151_35 : mc_cd 151 35 = some (.iload_n 2, 1) := by decide +kernel
theorem c151_36 : mc_cd 151 36 = some (.ireturn, 1) := by decide +kernel
abbrev q_151 (r0 : Nat) (a1 : Int) (T : wq_T) (H : wq_H) : Option Value → wq_T → wq_H → Prop := fun r T' H' => T = T' ∧ H = H' ∧ ∃ z : Int, some (vI z) = r ∧ ((-2147483648) ≤ z ∧ z ≤ 2147483647)
set_option maxHeartbeats 4000000 in
theorem s_151 {kt : Nat → Option mc_E} {T : wq_T} {H : wq_H} {r0 : Nat} {a1 : Int} (hW : WT T H) (g0 : T.2.2.2 r0 = some 27) (i1 : (-2147483648) ≤ a1 ∧ a1 ≤ 2147483647) : wpc kt 2 151 [.ref r0, vI a1] T H (q_151 r0 a1 T H) := by
  refine wp_enter e151 (Nat.le_of_ble_eq_true rfl) rfl ?_
  show wp _ _ 151 0 [(0, .ref r0), (1, vI a1)] [] _ H _
  refine wp_of e151 c151_0 (rw_iconst (pc' := 1) rfl ?_)
  refine wp_of e151 c151_1 (rw_istore_n (pc' := 2) (z := 0) (L' := [(2, vI 0), (0, .ref r0), (1, vI a1)]) rfl rfl rfl ?_)
  refine wp_of e151 c151_2 (rw_iconst (pc' := 3) rfl ?_)
  refine wp_of e151 c151_3 (rw_istore_n (pc' := 4) (z := 0) (L' := [(3, vI 0), (2, vI 0), (0, .ref r0), (1, vI a1)]) rfl rfl rfl ?_)
  have lp75783 : ∀ (n75784 : Nat) (v75786 : Int) (v75787 : Int), (0 ≤ v75786 ∧ v75786 ≤ 6) → ((-2147483648) ≤ v75787 ∧ v75787 ≤ 2147483647) → (6 - v75786).toNat = n75784 → wp kt 1 151 4 [(3, vI v75786), (2, vI v75787), (0, .ref r0), (1, vI a1)] [] T H (q_151 r0 a1 T H) := by
    intro n75784
    induction n75784 using Nat.strongRecOn with
    | _ n75784 ih75785 =>
      intro v75786 v75787 b75790 b75791 m75792
      refine wp_of e151 c151_4 (rw_iload_n (pc' := 5) (z := v75786) rfl rfl ?_)
      refine wp_of e151 c151_5 (rw_aload_n (pc' := 6) (v := .ref r0) rfl rfl rfl ?_)
      refine wp_of e151 c151_6 (xg_I (pc' := 9) lf_7_62 hW g0 sh_27 (by decide) (by decide) ty_27_14 rfl rfl (fun b75793 b75794 => ?_))
      refine wp_of e151 c151_9 (rw_icmp_ge (p1 := 35) (p2 := 12) (by decide) rfl ⟨by omega, by omega⟩ ⟨by omega, by omega⟩ (fun c75795 => ?_) (fun c75795 => ?_))
      · refine wp_of e151 c151_35 (rw_iload_n (pc' := 36) (z := v75787) rfl rfl ?_)
        exact wp_ireturn e151 c151_36 rfl ⟨rfl, rfl, v75787, rfl, ⟨by omega, by omega⟩⟩
      · refine wp_of e151 c151_12 (rw_iload_n (pc' := 13) (z := a1) rfl rfl ?_)
        refine wp_of e151 c151_13 (rw_iload_n (pc' := 14) (z := v75786) rfl rfl ?_)
        refine wp_of e151 c151_14 (xc_S (pc' := 17) (as := [vI a1, vI v75786]) (st := []) (lm_7_121) rfl rfl (Nat.le_of_ble_eq_true rfl) rfl (by decide) (s_36 hW ⟨by omega, by omega⟩ ⟨by omega, by omega⟩) (fun R75796 T75797 H75798 p75799 => ?_))
        obtain ⟨e75800, e75802, z75803, e75801, b75804⟩ := p75799
        subst e75800
        subst e75801
        subst e75802
        show wp _ _ 151 17 [(3, vI v75786), (2, vI v75787), (0, .ref r0), (1, vI a1)] [vI z75803] _ H _
        refine wp_of e151 c151_17 (rw_if_eq (p1 := 29) (p2 := 20) (by decide) rfl ⟨by omega, by omega⟩ (fun c75805 => ?_) (fun c75805 => ?_))
        · refine wp_of e151 c151_29 (rw_iinc (pc' := 32) (z := v75786) (L' := [(3, vI (v75786 + 1)), (2, vI v75787), (0, .ref r0), (1, vI a1)]) rfl rfl rfl rfl ?_)
          refine wp_of e151 c151_32 (rw_goto (p1 := 4) (by decide) ?_)
          exact wp_lc (ks := [3, 2, 0, 1]) (wl_c rfl (wl_c rfl (wl_c rfl (wl_c rfl wl_n)))) rfl (by decide) (ih75785 _ (by omega) (v75786 + 1) v75787 ⟨by omega, by omega⟩ ⟨by omega, by omega⟩ rfl)
        · refine wp_of e151 c151_20 (rw_iload_n (pc' := 21) (z := v75787) rfl rfl ?_)
          refine wp_of e151 c151_21 (rw_aload_n (pc' := 22) (v := .ref r0) rfl rfl rfl ?_)
          refine wp_of e151 c151_22 (xg_R (pc' := 25) lf_7_33 hW g0 sh_27 (by decide) (by decide) ty_27_6 rfl rfl (fun r75806 q75807 g75808 => ?_))
          refine wp_of e151 c151_25 (rw_iload_n (pc' := 26) (z := v75786) rfl rfl ?_)
          refine wp_of e151 c151_26 (xa_I (so := 0) (pc' := 27) hW g75808 sh_34 (by decide) (ty_34 _) (by omega) (by omega) rfl (fun b75809 b75810 => ?_))
          refine wp_of e151 c151_27 (rw_ior (pc' := 28) rfl ?_)
          obtain ⟨v75811, e75812⟩ : ∃ x : Int, x = wq_or v75787 (H r75806 (v75786.toNat)) := ⟨_, rfl⟩
          rw [← e75812]
          have b75813 : -2147483648 ≤ v75811 ∧ v75811 ≤ 2147483647 := by
            rw [e75812]
            exact wI_or _ _
          refine wp_of e151 c151_28 (rw_istore_n (pc' := 29) (z := v75811) (L' := [(2, vI v75811), (3, vI v75786), (0, .ref r0), (1, vI a1)]) rfl rfl rfl ?_)
          refine wp_of e151 c151_29 (rw_iinc (pc' := 32) (z := v75786) (L' := [(3, vI (v75786 + 1)), (2, vI v75811), (0, .ref r0), (1, vI a1)]) rfl rfl rfl rfl ?_)
          refine wp_of e151 c151_32 (rw_goto (p1 := 4) (by decide) ?_)
          exact wp_lc (ks := [3, 2, 0, 1]) (wl_c rfl (wl_c rfl (wl_c rfl (wl_c rfl wl_n)))) rfl (by decide) (ih75785 _ (by omega) (v75786 + 1) v75811 ⟨by omega, by omega⟩ ⟨by omega, by omega⟩ rfl)
  exact wp_lc (ks := [3, 2, 0, 1]) (wl_c rfl (wl_c rfl (wl_c rfl (wl_c rfl wl_n)))) rfl (by decide) (lp75783 _ 0 0 ⟨by omega, by omega⟩ ⟨by omega, by omega⟩ rfl)
/-! StrikeAwake$Parish.fewestOffers()I -/
theorem e150 : wq_en 150 = some (7, 4, false, some FieldType.int) := rfl
theorem c150_0 : mc_cd 150 0 = some (.aload_n 0, 1) := by decide +kernel
theorem c150_1 : mc_cd 150 1 = some (.invokevirtual 96, 3) := by decide +kernel
theorem c150_4 : mc_cd 150 4 = some (.istore_n 1, 1) := by decide +kernel
theorem c150_5 : mc_cd 150 5 = some (.iconst 1, 1) := by decide +kernel
theorem c150_6 : mc_cd 150 6 = some (.istore_n 2, 1) := by decide +kernel
theorem c150_7 : mc_cd 150 7 = some (.iload_n 2, 1) := by decide +kernel
theorem c150_8 : mc_cd 150 8 = some (.aload_n 0, 1) := by decide +kernel
theorem c150_9 : mc_cd 150 9 = some (.getfield 62, 3) := by decide +kernel
theorem c150_12 : mc_cd 150 12 = some (.if_icmp .gt 46, 3) := by decide +kernel
theorem c150_15 : mc_cd 150 15 = some (.iconst 1, 1) := by decide +kernel
theorem c150_16 : mc_cd 150 16 = some (.istore_n 3, 1) := by decide +kernel
theorem c150_17 : mc_cd 150 17 = some (.iload_n 3, 1) := by decide +kernel
theorem c150_18 : mc_cd 150 18 = some (.iconst 1, 1) := by decide +kernel
theorem c150_19 : mc_cd 150 19 = some (.aload_n 0, 1) := by decide +kernel
theorem c150_20 : mc_cd 150 20 = some (.getfield 62, 3) := by decide +kernel
theorem c150_23 : mc_cd 150 23 = some (.ishl, 1) := by decide +kernel
theorem c150_24 : mc_cd 150 24 = some (.if_icmp .ge 28, 3) := by decide +kernel
theorem c150_27 : mc_cd 150 27 = some (.iload_n 3, 1) := by decide +kernel
theorem c150_28 : mc_cd 150 28 = some (.invokestatic 113, 3) := by decide +kernel
theorem c150_31 : mc_cd 150 31 = some (.iload_n 2, 1) := by decide +kernel
theorem c150_32 : mc_cd 150 32 = some (.if_icmp .ne 14, 3) := by decide +kernel
theorem c150_35 : mc_cd 150 35 = some (.aload_n 0, 1) := by decide +kernel
theorem c150_36 : mc_cd 150 36 = some (.iload_n 3, 1) := by decide +kernel
theorem c150_37 : mc_cd 150 37 = some (.invokevirtual 118, 3) := by decide +kernel
theorem c150_40 : mc_cd 150 40 = some (.iload_n 1, 1) := by decide +kernel
theorem c150_41 : mc_cd 150 41 = some (.if_icmp .ne 5, 3) := by decide +kernel
theorem c150_44 : mc_cd 150 44 = some (.iload_n 3, 1) := by decide +kernel
theorem c150_45 : mc_cd 150 45 = some (.ireturn, 1) := by decide +kernel
theorem c150_46 : mc_cd 150 46 = some (.iinc 3 1, 3) := by decide +kernel
theorem c150_49 : mc_cd 150 49 = some (.goto (-32), 3) := by decide +kernel
theorem c150_52 : mc_cd 150 52 = some (.iinc 2 1, 3) := by decide +kernel
theorem c150_55 : mc_cd 150 55 = some (.goto (-48), 3) := by decide +kernel
theorem c150_58 : mc_cd 150 58 = some (.bipush (-2), 2) := by decide +kernel
theorem c150_60 : mc_cd 150 60 = some (.ireturn, 1) := by decide +kernel
abbrev q_150 (r0 : Nat) (T : wq_T) (H : wq_H) : Option Value → wq_T → wq_H → Prop := fun r T' H' => T = T' ∧ H = H' ∧ ∃ z : Int, some (vI z) = r ∧ ((-2147483648) ≤ z ∧ z ≤ 2147483647)
set_option maxHeartbeats 4000000 in
theorem s_150 {kt : Nat → Option mc_E} {T : wq_T} {H : wq_H} {r0 : Nat} (hW : WT T H) (g0 : T.2.2.2 r0 = some 27) : wpc kt 3 150 [.ref r0] T H (q_150 r0 T H) := by
  refine wp_enter e150 (Nat.le_of_ble_eq_true rfl) rfl ?_
  show wp _ _ 150 0 [(0, .ref r0)] [] _ H _
  refine wp_of e150 c150_0 (rw_aload_n (pc' := 1) (v := .ref r0) rfl rfl rfl ?_)
  refine wp_of e150 c150_1 (xc_V (pc' := 4) (r := r0) (as := []) (st := []) (lm_7_96) rfl rfl (Nat.le_of_ble_eq_true rfl) hW g0 sh_27 (by decide) rfl (by decide) (s_45 hW g0) (fun R77720 T77721 H77722 p77723 => ?_))
  obtain ⟨e77724, e77726, z77727, e77725, b77728⟩ := p77723
  subst e77724
  subst e77725
  subst e77726
  show wp _ _ 150 4 [(0, .ref r0)] [vI z77727] _ H _
  refine wp_of e150 c150_4 (rw_istore_n (pc' := 5) (z := z77727) (L' := [(1, vI z77727), (0, .ref r0)]) rfl rfl rfl ?_)
  refine wp_of e150 c150_5 (rw_iconst (pc' := 6) rfl ?_)
  refine wp_of e150 c150_6 (rw_istore_n (pc' := 7) (z := 1) (L' := [(2, vI 1), (1, vI z77727), (0, .ref r0)]) rfl rfl rfl ?_)
  have lp79388 : ∀ (n79389 : Nat) (v79391 : Int), (1 ≤ v79391 ∧ v79391 ≤ 7) → (7 - v79391).toNat = n79389 → wp kt 2 150 7 [(2, vI v79391), (1, vI z77727), (0, .ref r0)] [] T H (q_150 r0 T H) := by
    intro n79389
    induction n79389 using Nat.strongRecOn with
    | _ n79389 ih79390 =>
      intro v79391 b79394 m79395
      refine wp_of e150 c150_7 (rw_iload_n (pc' := 8) (z := v79391) rfl rfl ?_)
      refine wp_of e150 c150_8 (rw_aload_n (pc' := 9) (v := .ref r0) rfl rfl rfl ?_)
      refine wp_of e150 c150_9 (xg_I (pc' := 12) lf_7_62 hW g0 sh_27 (by decide) (by decide) ty_27_14 rfl rfl (fun b79396 b79397 => ?_))
      refine wp_of e150 c150_12 (rw_icmp_gt (p1 := 58) (p2 := 15) (by decide) rfl ⟨by omega, by omega⟩ ⟨by omega, by omega⟩ (fun c79398 => ?_) (fun c79398 => ?_))
      · refine wp_of e150 c150_58 (rw_bipush (pc' := 60) (z := -2) rfl (by decide) ?_)
        exact wp_ireturn e150 c150_60 rfl ⟨rfl, rfl, -2, rfl, ⟨by omega, by omega⟩⟩
      · refine wp_of e150 c150_15 (rw_iconst (pc' := 16) rfl ?_)
        refine wp_of e150 c150_16 (rw_istore_n (pc' := 17) (z := 1) (L' := [(3, vI 1), (2, vI v79391), (1, vI z77727), (0, .ref r0)]) rfl rfl rfl ?_)
        have lp79607 : ∀ (n79608 : Nat) (v79610 : Int), (1 ≤ v79610 ∧ v79610 ≤ 64) → (64 - v79610).toNat = n79608 → wp kt 2 150 17 [(3, vI v79610), (2, vI v79391), (1, vI z77727), (0, .ref r0)] [] T H (q_150 r0 T H) := by
          intro n79608
          induction n79608 using Nat.strongRecOn with
          | _ n79608 ih79609 =>
            intro v79610 b79613 m79614
            refine wp_of e150 c150_17 (rw_iload_n (pc' := 18) (z := v79610) rfl rfl ?_)
            refine wp_of e150 c150_18 (rw_iconst (pc' := 19) rfl ?_)
            refine wp_of e150 c150_19 (rw_aload_n (pc' := 20) (v := .ref r0) rfl rfl rfl ?_)
            refine wp_of e150 c150_20 (xg_I (pc' := 23) lf_7_62 hW g0 sh_27 (by decide) (by decide) ty_27_14 rfl rfl (fun b79615 b79616 => ?_))
            refine wp_of e150 c150_23 (rw_ishl (pc' := 24) rfl ?_)
            obtain ⟨v79617, e79618⟩ : ∃ x : Int, x = wq_shl 1 (H r0 14) := ⟨_, rfl⟩
            rw [← e79618]
            have b79619 : 1 ≤ v79617 ∧ v79617 ≤ 64 := by
              rw [e79618]
              exact wq_shl1_6 ⟨by omega, by omega⟩
            refine wp_of e150 c150_24 (rw_icmp_ge (p1 := 52) (p2 := 27) (by decide) rfl ⟨by omega, by omega⟩ ⟨by omega, by omega⟩ (fun c79620 => ?_) (fun c79620 => ?_))
            · refine wp_of e150 c150_52 (rw_iinc (pc' := 55) (z := v79391) (L' := [(2, vI (v79391 + 1)), (3, vI v79610), (1, vI z77727), (0, .ref r0)]) rfl rfl rfl rfl ?_)
              refine wp_of e150 c150_55 (rw_goto (p1 := 7) (by decide) ?_)
              exact wp_lc (ks := [2, 3, 1, 0]) (wl_c rfl (wl_c rfl (wl_c rfl wl_n))) rfl (by decide) (ih79390 _ (by omega) (v79391 + 1) ⟨by omega, by omega⟩ rfl)
            · refine wp_of e150 c150_27 (rw_iload_n (pc' := 28) (z := v79610) rfl rfl ?_)
              refine wp_of e150 c150_28 (xc_S (pc' := 31) (as := [vI v79610]) (st := []) (lm_7_113) rfl rfl (Nat.le_of_ble_eq_true rfl) rfl (by decide) (s_126 hW ⟨by omega, by omega⟩) (fun R79621 T79622 H79623 p79624 => ?_))
              obtain ⟨e79625, e79627, z79628, e79626, b79629⟩ := p79624
              subst e79625
              subst e79626
              subst e79627
              show wp _ _ 150 31 [(3, vI v79610), (2, vI v79391), (1, vI z77727), (0, .ref r0)] [vI z79628] _ H _
              refine wp_of e150 c150_31 (rw_iload_n (pc' := 32) (z := v79391) rfl rfl ?_)
              refine wp_of e150 c150_32 (rw_icmp_ne (p1 := 46) (p2 := 35) (by decide) rfl ⟨by omega, by omega⟩ ⟨by omega, by omega⟩ (fun c79630 => ?_) (fun c79630 => ?_))
              · refine wp_of e150 c150_46 (rw_iinc (pc' := 49) (z := v79610) (L' := [(3, vI (v79610 + 1)), (2, vI v79391), (1, vI z77727), (0, .ref r0)]) rfl rfl rfl rfl ?_)
                refine wp_of e150 c150_49 (rw_goto (p1 := 17) (by decide) ?_)
                exact wp_lc (ks := [3, 2, 1, 0]) (wl_c rfl (wl_c rfl (wl_c rfl (wl_c rfl wl_n)))) rfl (by decide) (ih79609 _ (by omega) (v79610 + 1) ⟨by omega, by omega⟩ rfl)
              · refine wp_of e150 c150_35 (rw_aload_n (pc' := 36) (v := .ref r0) rfl rfl rfl ?_)
                refine wp_of e150 c150_36 (rw_iload_n (pc' := 37) (z := v79610) rfl rfl ?_)
                refine wp_of e150 c150_37 (xc_V (pc' := 40) (r := r0) (as := [vI v79610]) (st := []) (lm_7_118) rfl rfl (Nat.le_of_ble_eq_true rfl) hW g0 sh_27 (by decide) rfl (by decide) (s_151 hW g0 ⟨by omega, by omega⟩) (fun R79631 T79632 H79633 p79634 => ?_))
                obtain ⟨e79635, e79637, z79638, e79636, b79639⟩ := p79634
                subst e79635
                subst e79636
                subst e79637
                show wp _ _ 150 40 [(3, vI v79610), (2, vI v79391), (1, vI z77727), (0, .ref r0)] [vI z79638] _ H _
                refine wp_of e150 c150_40 (rw_iload_n (pc' := 41) (z := z77727) rfl rfl ?_)
                refine wp_of e150 c150_41 (rw_icmp_ne (p1 := 46) (p2 := 44) (by decide) rfl ⟨by omega, by omega⟩ ⟨by omega, by omega⟩ (fun c79640 => ?_) (fun c79640 => ?_))
                · refine wp_of e150 c150_46 (rw_iinc (pc' := 49) (z := v79610) (L' := [(3, vI (v79610 + 1)), (2, vI v79391), (1, vI z77727), (0, .ref r0)]) rfl rfl rfl rfl ?_)
                  refine wp_of e150 c150_49 (rw_goto (p1 := 17) (by decide) ?_)
                  exact wp_lc (ks := [3, 2, 1, 0]) (wl_c rfl (wl_c rfl (wl_c rfl (wl_c rfl wl_n)))) rfl (by decide) (ih79609 _ (by omega) (v79610 + 1) ⟨by omega, by omega⟩ rfl)
                · refine wp_of e150 c150_44 (rw_iload_n (pc' := 45) (z := v79610) rfl rfl ?_)
                  exact wp_ireturn e150 c150_45 rfl ⟨rfl, rfl, v79610, rfl, ⟨by omega, by omega⟩⟩
        exact wp_lc (ks := [3, 2, 1, 0]) (wl_c rfl (wl_c rfl (wl_c rfl (wl_c rfl wl_n)))) rfl (by decide) (lp79607 _ 1 ⟨by omega, by omega⟩ rfl)
  exact wp_lc (ks := [2, 1, 0]) (wl_c rfl (wl_c rfl (wl_c rfl wl_n))) rfl (by decide) (lp79388 _ 1 ⟨by omega, by omega⟩ rfl)
/-! StrikeAwake.keep()I -/
theorem e149 : wq_en 149 = some (0, 1, false, some FieldType.int) := rfl
theorem c149_0 : mc_cd 149 0 = some (.aload_n 0, 1) := by decide +kernel
theorem c149_1 : mc_cd 149 1 = some (.getfield 58, 3) := by decide +kernel
theorem c149_4 : mc_cd 149 4 = some (.ifCond .ne 9, 3) := by decide +kernel
theorem c149_7 : mc_cd 149 7 = some (.aload_n 0, 1) := by decide +kernel
theorem c149_8 : mc_cd 149 8 = some (.iconst 1, 1) := by decide +kernel
theorem c149_9 : mc_cd 149 9 = some (.invokevirtual 70, 3) := by decide +kernel
theorem c149_12 : mc_cd 149 12 = some (.ireturn, 1) := by decide +kernel
theorem c149_13 : mc_cd 149 13 = some (.aload_n 0, 1) := by decide +kernel
theorem c149_14 : mc_cd 149 14 = some (.aload_n 0, 1) := by decide +kernel
theorem c149_15 : mc_cd 149 15 = some (.getfield 51, 3) := by decide +kernel
theorem c149_18 : mc_cd 149 18 = some (.invokevirtual 284, 3) := by decide +kernel
theorem c149_21 : mc_cd 149 21 = some (.invokevirtual 99, 3) := by decide +kernel
theorem c149_24 : mc_cd 149 24 = some (.ireturn, 1) := by decide +kernel
abbrev q_149 (r0 : Nat) (T : wq_T) (H : wq_H) : Option Value → wq_T → wq_H → Prop := fun r T' H' => T = T' ∧ WT T H' ∧ wfr [(1, 10)] T H H' ∧ ∃ z : Int, some (vI z) = r ∧ ((-2147483648) ≤ z ∧ z ≤ 2147483647) ∧ (H' r0 10 ≠ 4)
set_option maxHeartbeats 4000000 in
theorem s_149 {kt : Nat → Option mc_E} {T : wq_T} {H : wq_H} {r0 : Nat} (hW : WT T H) (g0 : T.2.2.2 r0 = some 1) : wpc kt 4 149 [.ref r0] T H (q_149 r0 T H) := by
  refine wp_enter e149 (Nat.le_of_ble_eq_true rfl) rfl ?_
  have f0 : wfr [(1, 10)] T H H := wfr.rf
  show wp _ _ 149 0 [(0, .ref r0)] [] _ H _
  refine wp_of e149 c149_0 (rw_aload_n (pc' := 1) (v := .ref r0) rfl rfl rfl ?_)
  refine wp_of e149 c149_1 (xg_I (pc' := 4) lf_0_58 hW g0 sh_1 (by decide) (by decide) ty_1_8 rfl rfl (fun b79680 b79681 => ?_))
  refine wp_of e149 c149_4 (rw_if_ne (p1 := 13) (p2 := 7) (by decide) rfl ⟨by omega, by omega⟩ (fun c79682 => ?_) (fun c79682 => ?_))
  · refine wp_of e149 c149_13 (rw_aload_n (pc' := 14) (v := .ref r0) rfl rfl rfl ?_)
    refine wp_of e149 c149_14 (rw_aload_n (pc' := 15) (v := .ref r0) rfl rfl rfl ?_)
    refine wp_of e149 c149_15 (xg_R (pc' := 18) lf_0_51 hW g0 sh_1 (by decide) (by decide) ty_1_6 rfl rfl (fun r79683 q79684 g79685 => ?_))
    refine wp_of e149 c149_18 (xc_V (pc' := 21) (r := r79683) (as := []) (st := [.ref r0]) (lm_0_284) rfl rfl (Nat.le_of_ble_eq_true rfl) hW g79685 sh_27 (by decide) rfl (by decide) (s_150 hW g79685) (fun R79686 T79687 H79688 p79689 => ?_))
    obtain ⟨e79690, e79692, z79693, e79691, b79694⟩ := p79689
    subst e79690
    subst e79691
    subst e79692
    show wp _ _ 149 21 [(0, .ref r0)] [vI z79693, .ref r0] _ H _
    refine wp_of e149 c149_21 (xc_V (pc' := 24) (r := r0) (as := [vI z79693]) (st := []) (lm_0_99) rfl rfl (Nat.le_of_ble_eq_true rfl) hW g0 sh_1 (by decide) rfl (by decide) (s_51 hW g0 ⟨by omega, by omega⟩) (fun R79695 T79696 H79697 p79698 => ?_))
    obtain ⟨e79699, w79701, f79702, z79704, e79700, b79705, p79703⟩ := p79698
    subst e79699
    subst e79700
    have f79706 := f0.tr f79702 rfl
    show wp _ _ 149 24 [(0, .ref r0)] [vI z79704] _ H79697 _
    exact wp_ireturn e149 c149_24 rfl ⟨rfl, w79701, f79706, z79704, rfl, ⟨by omega, by omega⟩, by omega⟩
  · refine wp_of e149 c149_7 (rw_aload_n (pc' := 8) (v := .ref r0) rfl rfl rfl ?_)
    refine wp_of e149 c149_8 (rw_iconst (pc' := 9) rfl ?_)
    refine wp_of e149 c149_9 (xc_V (pc' := 12) (r := r0) (as := [vI 1]) (st := []) (lm_0_70) rfl rfl (Nat.le_of_ble_eq_true rfl) hW g0 sh_1 (by decide) rfl (by decide) (s_12 hW g0 ⟨by omega, by omega⟩) (fun R79707 T79708 H79709 p79710 => ?_))
    obtain ⟨e79711, w79713, f79714, z79716, e79712, b79717, p79715⟩ := p79710
    subst e79711
    subst e79712
    have f79718 := f0.tr f79714 rfl
    show wp _ _ 149 12 [(0, .ref r0)] [vI z79716] _ H79709 _
    exact wp_ireturn e149 c149_12 rfl ⟨rfl, w79713, f79718, z79716, rfl, ⟨by omega, by omega⟩, by omega⟩
/-! StrikeAwake.quiet(I)I -/
theorem e152 : wq_en 152 = some (0, 2, false, some FieldType.int) := rfl
theorem c152_0 : mc_cd 152 0 = some (.aload_n 0, 1) := by decide +kernel
theorem c152_1 : mc_cd 152 1 = some (.getfield 58, 3) := by decide +kernel
theorem c152_4 : mc_cd 152 4 = some (.ifCond .ne 9, 3) := by decide +kernel
theorem c152_7 : mc_cd 152 7 = some (.aload_n 0, 1) := by decide +kernel
theorem c152_8 : mc_cd 152 8 = some (.iconst 1, 1) := by decide +kernel
theorem c152_9 : mc_cd 152 9 = some (.invokevirtual 70, 3) := by decide +kernel
theorem c152_12 : mc_cd 152 12 = some (.ireturn, 1) := by decide +kernel
theorem c152_13 : mc_cd 152 13 = some (.iload_n 1, 1) := by decide +kernel
theorem c152_14 : mc_cd 152 14 = some (.ifCond .lt 9, 3) := by decide +kernel
theorem c152_17 : mc_cd 152 17 = some (.iload_n 1, 1) := by decide +kernel
theorem c152_18 : mc_cd 152 18 = some (.bipush 99, 2) := by decide +kernel
theorem c152_20 : mc_cd 152 20 = some (.if_icmp .le 9, 3) := by decide +kernel
theorem c152_23 : mc_cd 152 23 = some (.aload_n 0, 1) := by decide +kernel
theorem c152_24 : mc_cd 152 24 = some (.iconst 2, 1) := by decide +kernel
theorem c152_25 : mc_cd 152 25 = some (.invokevirtual 70, 3) := by decide +kernel
theorem c152_28 : mc_cd 152 28 = some (.ireturn, 1) := by decide +kernel
theorem c152_29 : mc_cd 152 29 = some (.aload_n 0, 1) := by decide +kernel
theorem c152_30 : mc_cd 152 30 = some (.aload_n 0, 1) := by decide +kernel
theorem c152_31 : mc_cd 152 31 = some (.getfield 51, 3) := by decide +kernel
theorem c152_34 : mc_cd 152 34 = some (.iload_n 1, 1) := by decide +kernel
theorem c152_35 : mc_cd 152 35 = some (.invokevirtual 288, 3) := by decide +kernel
theorem c152_38 : mc_cd 152 38 = some (.invokevirtual 99, 3) := by decide +kernel
theorem c152_41 : mc_cd 152 41 = some (.ireturn, 1) := by decide +kernel
abbrev q_152 (r0 : Nat) (a1 : Int) (T : wq_T) (H : wq_H) : Option Value → wq_T → wq_H → Prop := fun r T' H' => T = T' ∧ WT T H' ∧ wfr [(1, 10)] T H H' ∧ ∃ z : Int, some (vI z) = r ∧ ((-2147483648) ≤ z ∧ z ≤ 2147483647) ∧ (H' r0 10 ≠ 4)
set_option maxHeartbeats 4000000 in
theorem s_152 {kt : Nat → Option mc_E} {T : wq_T} {H : wq_H} {r0 : Nat} {a1 : Int} (hW : WT T H) (g0 : T.2.2.2 r0 = some 1) (i1 : (-2147483648) ≤ a1 ∧ a1 ≤ 2147483647) : wpc kt 2 152 [.ref r0, vI a1] T H (q_152 r0 a1 T H) := by
  refine wp_enter e152 (Nat.le_of_ble_eq_true rfl) rfl ?_
  have f0 : wfr [(1, 10)] T H H := wfr.rf
  show wp _ _ 152 0 [(0, .ref r0), (1, vI a1)] [] _ H _
  refine wp_of e152 c152_0 (rw_aload_n (pc' := 1) (v := .ref r0) rfl rfl rfl ?_)
  refine wp_of e152 c152_1 (xg_I (pc' := 4) lf_0_58 hW g0 sh_1 (by decide) (by decide) ty_1_8 rfl rfl (fun b79784 b79785 => ?_))
  refine wp_of e152 c152_4 (rw_if_ne (p1 := 13) (p2 := 7) (by decide) rfl ⟨by omega, by omega⟩ (fun c79786 => ?_) (fun c79786 => ?_))
  · refine wp_of e152 c152_13 (rw_iload_n (pc' := 14) (z := a1) rfl rfl ?_)
    refine wp_of e152 c152_14 (rw_if_lt (p1 := 23) (p2 := 17) (by decide) rfl ⟨by omega, by omega⟩ (fun c79787 => ?_) (fun c79787 => ?_))
    · refine wp_of e152 c152_23 (rw_aload_n (pc' := 24) (v := .ref r0) rfl rfl rfl ?_)
      refine wp_of e152 c152_24 (rw_iconst (pc' := 25) rfl ?_)
      refine wp_of e152 c152_25 (xc_V (pc' := 28) (r := r0) (as := [vI 2]) (st := []) (lm_0_70) rfl rfl (Nat.le_of_ble_eq_true rfl) hW g0 sh_1 (by decide) rfl (by decide) (s_12 hW g0 ⟨by omega, by omega⟩) (fun R79788 T79789 H79790 p79791 => ?_))
      obtain ⟨e79792, w79794, f79795, z79797, e79793, b79798, p79796⟩ := p79791
      subst e79792
      subst e79793
      have f79799 := f0.tr f79795 rfl
      show wp _ _ 152 28 [(0, .ref r0), (1, vI a1)] [vI z79797] _ H79790 _
      exact wp_ireturn e152 c152_28 rfl ⟨rfl, w79794, f79799, z79797, rfl, ⟨by omega, by omega⟩, by omega⟩
    · refine wp_of e152 c152_17 (rw_iload_n (pc' := 18) (z := a1) rfl rfl ?_)
      refine wp_of e152 c152_18 (rw_bipush (pc' := 20) (z := 99) rfl (by decide) ?_)
      refine wp_of e152 c152_20 (rw_icmp_le (p1 := 29) (p2 := 23) (by decide) rfl ⟨by omega, by omega⟩ ⟨by omega, by omega⟩ (fun c79800 => ?_) (fun c79800 => ?_))
      · refine wp_of e152 c152_29 (rw_aload_n (pc' := 30) (v := .ref r0) rfl rfl rfl ?_)
        refine wp_of e152 c152_30 (rw_aload_n (pc' := 31) (v := .ref r0) rfl rfl rfl ?_)
        refine wp_of e152 c152_31 (xg_R (pc' := 34) lf_0_51 hW g0 sh_1 (by decide) (by decide) ty_1_6 rfl rfl (fun r79801 q79802 g79803 => ?_))
        refine wp_of e152 c152_34 (rw_iload_n (pc' := 35) (z := a1) rfl rfl ?_)
        refine wp_of e152 c152_35 (xc_V (pc' := 38) (r := r79801) (as := [vI a1]) (st := [.ref r0]) (lm_0_288) rfl rfl (Nat.le_of_ble_eq_true rfl) hW g79803 sh_27 (by decide) rfl (by decide) (s_46 hW g79803 ⟨by omega, by omega⟩) (fun R79804 T79805 H79806 p79807 => ?_))
        obtain ⟨e79808, e79810, z79811, e79809, b79812⟩ := p79807
        subst e79808
        subst e79809
        subst e79810
        show wp _ _ 152 38 [(0, .ref r0), (1, vI a1)] [vI z79811, .ref r0] _ H _
        refine wp_of e152 c152_38 (xc_V (pc' := 41) (r := r0) (as := [vI z79811]) (st := []) (lm_0_99) rfl rfl (Nat.le_of_ble_eq_true rfl) hW g0 sh_1 (by decide) rfl (by decide) (s_51 hW g0 ⟨by omega, by omega⟩) (fun R79813 T79814 H79815 p79816 => ?_))
        obtain ⟨e79817, w79819, f79820, z79822, e79818, b79823, p79821⟩ := p79816
        subst e79817
        subst e79818
        have f79824 := f0.tr f79820 rfl
        show wp _ _ 152 41 [(0, .ref r0), (1, vI a1)] [vI z79822] _ H79815 _
        exact wp_ireturn e152 c152_41 rfl ⟨rfl, w79819, f79824, z79822, rfl, ⟨by omega, by omega⟩, by omega⟩
      · refine wp_of e152 c152_23 (rw_aload_n (pc' := 24) (v := .ref r0) rfl rfl rfl ?_)
        refine wp_of e152 c152_24 (rw_iconst (pc' := 25) rfl ?_)
        refine wp_of e152 c152_25 (xc_V (pc' := 28) (r := r0) (as := [vI 2]) (st := []) (lm_0_70) rfl rfl (Nat.le_of_ble_eq_true rfl) hW g0 sh_1 (by decide) rfl (by decide) (s_12 hW g0 ⟨by omega, by omega⟩) (fun R79825 T79826 H79827 p79828 => ?_))
        obtain ⟨e79829, w79831, f79832, z79834, e79830, b79835, p79833⟩ := p79828
        subst e79829
        subst e79830
        have f79836 := f0.tr f79832 rfl
        show wp _ _ 152 28 [(0, .ref r0), (1, vI a1)] [vI z79834] _ H79827 _
        exact wp_ireturn e152 c152_28 rfl ⟨rfl, w79831, f79836, z79834, rfl, ⟨by omega, by omega⟩, by omega⟩
  · refine wp_of e152 c152_7 (rw_aload_n (pc' := 8) (v := .ref r0) rfl rfl rfl ?_)
    refine wp_of e152 c152_8 (rw_iconst (pc' := 9) rfl ?_)
    refine wp_of e152 c152_9 (xc_V (pc' := 12) (r := r0) (as := [vI 1]) (st := []) (lm_0_70) rfl rfl (Nat.le_of_ble_eq_true rfl) hW g0 sh_1 (by decide) rfl (by decide) (s_12 hW g0 ⟨by omega, by omega⟩) (fun R79837 T79838 H79839 p79840 => ?_))
    obtain ⟨e79841, w79843, f79844, z79846, e79842, b79847, p79845⟩ := p79840
    subst e79841
    subst e79842
    have f79848 := f0.tr f79844 rfl
    show wp _ _ 152 12 [(0, .ref r0), (1, vI a1)] [vI z79846] _ H79839 _
    exact wp_ireturn e152 c152_12 rfl ⟨rfl, w79843, f79848, z79846, rfl, ⟨by omega, by omega⟩, by omega⟩
/-! StrikeAwake.strike(II)I -/
theorem e153 : wq_en 153 = some (0, 3, false, some FieldType.int) := rfl
theorem c153_0 : mc_cd 153 0 = some (.aload_n 0, 1) := by decide +kernel
theorem c153_1 : mc_cd 153 1 = some (.iload_n 1, 1) := by decide +kernel
theorem c153_2 : mc_cd 153 2 = some (.invokevirtual 132, 3) := by decide +kernel
theorem c153_5 : mc_cd 153 5 = some (.ifCond .ne 9, 3) := by decide +kernel
theorem c153_8 : mc_cd 153 8 = some (.aload_n 0, 1) := by decide +kernel
theorem c153_9 : mc_cd 153 9 = some (.iconst 1, 1) := by decide +kernel
theorem c153_10 : mc_cd 153 10 = some (.invokevirtual 70, 3) := by decide +kernel
theorem c153_13 : mc_cd 153 13 = some (.ireturn, 1) := by decide +kernel
theorem c153_14 : mc_cd 153 14 = some (.iload_n 2, 1) := by decide +kernel
theorem c153_15 : mc_cd 153 15 = some (.ifCond .lt 9, 3) := by decide +kernel
theorem c153_18 : mc_cd 153 18 = some (.iload_n 2, 1) := by decide +kernel
theorem c153_19 : mc_cd 153 19 = some (.bipush 99, 2) := by decide +kernel
theorem c153_21 : mc_cd 153 21 = some (.if_icmp .le 9, 3) := by decide +kernel
theorem c153_24 : mc_cd 153 24 = some (.aload_n 0, 1) := by decide +kernel
theorem c153_25 : mc_cd 153 25 = some (.iconst 2, 1) := by decide +kernel
theorem c153_26 : mc_cd 153 26 = some (.invokevirtual 70, 3) := by decide +kernel
theorem c153_29 : mc_cd 153 29 = some (.ireturn, 1) := by decide +kernel
theorem c153_30 : mc_cd 153 30 = some (.aload_n 0, 1) := by decide +kernel
theorem c153_31 : mc_cd 153 31 = some (.getfield 51, 3) := by decide +kernel
theorem c153_34 : mc_cd 153 34 = some (.iload_n 1, 1) := by decide +kernel
theorem c153_35 : mc_cd 153 35 = some (.iload_n 2, 1) := by decide +kernel
theorem c153_36 : mc_cd 153 36 = some (.invokevirtual 291, 3) := by decide +kernel
theorem c153_39 : mc_cd 153 39 = some (.aload_n 0, 1) := by decide +kernel
theorem c153_40 : mc_cd 153 40 = some (.getfield 30, 3) := by decide +kernel
theorem c153_43 : mc_cd 153 43 = some (.invokevirtual 93, 3) := by decide +kernel
theorem c153_46 : mc_cd 153 46 = some (.aload_n 0, 1) := by decide +kernel
theorem c153_47 : mc_cd 153 47 = some (.aload_n 0, 1) := by decide +kernel
theorem c153_48 : mc_cd 153 48 = some (.getfield 51, 3) := by decide +kernel
theorem c153_51 : mc_cd 153 51 = some (.getfield 295, 3) := by decide +kernel
theorem c153_54 : mc_cd 153 54 = some (.invokevirtual 99, 3) := by decide +kernel
theorem c153_57 : mc_cd 153 57 = some (.ireturn, 1) := by decide +kernel
abbrev q_153 (r0 : Nat) (a1 : Int) (a2 : Int) (T : wq_T) (H : wq_H) : Option Value → wq_T → wq_H → Prop := fun r T' H' => T = T' ∧ WT T H' ∧ wfr [(12, 9), (27, 16), (1, 10), (29, 999), (30, 999)] T H H' ∧ ∃ z : Int, some (vI z) = r ∧ ((-2147483648) ≤ z ∧ z ≤ 2147483647) ∧ (H' r0 10 ≠ 4)
set_option maxHeartbeats 4000000 in
theorem s_153 {kt : Nat → Option mc_E} {T : wq_T} {H : wq_H} {r0 : Nat} {a1 : Int} {a2 : Int} (hW : WT T H) (g0 : T.2.2.2 r0 = some 1) (i1 : (-2147483648) ≤ a1 ∧ a1 ≤ 2147483647) (i2 : (-2147483648) ≤ a2 ∧ a2 ≤ 2147483647) : wpc kt 3 153 [.ref r0, vI a1, vI a2] T H (q_153 r0 a1 a2 T H) := by
  refine wp_enter e153 (Nat.le_of_ble_eq_true rfl) rfl ?_
  have f0 : wfr [(12, 9), (27, 16), (1, 10), (29, 999), (30, 999)] T H H := wfr.rf
  show wp _ _ 153 0 [(0, .ref r0), (1, vI a1), (2, vI a2)] [] _ H _
  refine wp_of e153 c153_0 (rw_aload_n (pc' := 1) (v := .ref r0) rfl rfl rfl ?_)
  refine wp_of e153 c153_1 (rw_iload_n (pc' := 2) (z := a1) rfl rfl ?_)
  refine wp_of e153 c153_2 (xc_V (pc' := 5) (r := r0) (as := [vI a1]) (st := []) (lm_0_132) rfl rfl (Nat.le_of_ble_eq_true rfl) hW g0 sh_1 (by decide) rfl (by decide) (s_60 hW g0 ⟨by omega, by omega⟩) (fun R79938 T79939 H79940 p79941 => ?_))
  obtain ⟨e79942, e79944, z79946, e79943, b79947, p79945⟩ := p79941
  subst e79942
  subst e79943
  subst e79944
  show wp _ _ 153 5 [(0, .ref r0), (1, vI a1), (2, vI a2)] [vI z79946] _ H _
  refine wp_of e153 c153_5 (rw_if_ne (p1 := 14) (p2 := 8) (by decide) rfl ⟨by omega, by omega⟩ (fun c79948 => ?_) (fun c79948 => ?_))
  · refine wp_of e153 c153_14 (rw_iload_n (pc' := 15) (z := a2) rfl rfl ?_)
    refine wp_of e153 c153_15 (rw_if_lt (p1 := 24) (p2 := 18) (by decide) rfl ⟨by omega, by omega⟩ (fun c79949 => ?_) (fun c79949 => ?_))
    · refine wp_of e153 c153_24 (rw_aload_n (pc' := 25) (v := .ref r0) rfl rfl rfl ?_)
      refine wp_of e153 c153_25 (rw_iconst (pc' := 26) rfl ?_)
      refine wp_of e153 c153_26 (xc_V (pc' := 29) (r := r0) (as := [vI 2]) (st := []) (lm_0_70) rfl rfl (Nat.le_of_ble_eq_true rfl) hW g0 sh_1 (by decide) rfl (by decide) (s_12 hW g0 ⟨by omega, by omega⟩) (fun R79950 T79951 H79952 p79953 => ?_))
      obtain ⟨e79954, w79956, f79957, z79959, e79955, b79960, p79958⟩ := p79953
      subst e79954
      subst e79955
      have f79961 := f0.tr f79957 rfl
      show wp _ _ 153 29 [(0, .ref r0), (1, vI a1), (2, vI a2)] [vI z79959] _ H79952 _
      exact wp_ireturn e153 c153_29 rfl ⟨rfl, w79956, f79961, z79959, rfl, ⟨by omega, by omega⟩, by omega⟩
    · refine wp_of e153 c153_18 (rw_iload_n (pc' := 19) (z := a2) rfl rfl ?_)
      refine wp_of e153 c153_19 (rw_bipush (pc' := 21) (z := 99) rfl (by decide) ?_)
      refine wp_of e153 c153_21 (rw_icmp_le (p1 := 30) (p2 := 24) (by decide) rfl ⟨by omega, by omega⟩ ⟨by omega, by omega⟩ (fun c79962 => ?_) (fun c79962 => ?_))
      · refine wp_of e153 c153_30 (rw_aload_n (pc' := 31) (v := .ref r0) rfl rfl rfl ?_)
        refine wp_of e153 c153_31 (xg_R (pc' := 34) lf_0_51 hW g0 sh_1 (by decide) (by decide) ty_1_6 rfl rfl (fun r79963 q79964 g79965 => ?_))
        refine wp_of e153 c153_34 (rw_iload_n (pc' := 35) (z := a1) rfl rfl ?_)
        refine wp_of e153 c153_35 (rw_iload_n (pc' := 36) (z := a2) rfl rfl ?_)
        refine wp_of e153 c153_36 (xc_V (pc' := 39) (r := r79963) (as := [vI a1, vI a2]) (st := []) (lm_0_291) rfl rfl (Nat.le_of_ble_eq_true rfl) hW g79965 sh_27 (by decide) rfl (by decide) (s_40 hW g79965 ⟨by omega, by omega⟩ ⟨by omega, by omega⟩) (fun R79966 T79967 H79968 p79969 => ?_))
        obtain ⟨e79970, w79972, f79973, e79971⟩ := p79969
        subst e79970
        subst e79971
        have f79974 := f0.tr f79973 rfl
        show wp _ _ 153 39 [(0, .ref r0), (1, vI a1), (2, vI a2)] [] _ H79968 _
        refine wp_of e153 c153_39 (rw_aload_n (pc' := 40) (v := .ref r0) rfl rfl rfl ?_)
        refine wp_of e153 c153_40 (xg_R (pc' := 43) lf_0_30 w79972 g0 sh_1 (by decide) (by decide) ty_1_3 rfl rfl (fun r79975 q79976 g79977 => ?_))
        refine wp_of e153 c153_43 (xc_V (pc' := 46) (r := r79975) (as := []) (st := []) (lm_0_93) rfl rfl (Nat.le_of_ble_eq_true rfl) w79972 g79977 sh_12 (by decide) rfl (by decide) (s_50 w79972 g79977) (fun R79978 T79979 H79980 p79981 => ?_))
        obtain ⟨e79982, w79984, f79985, e79983⟩ := p79981
        subst e79982
        subst e79983
        have f79986 := f79974.tr f79985 rfl
        show wp _ _ 153 46 [(0, .ref r0), (1, vI a1), (2, vI a2)] [] _ H79980 _
        refine wp_of e153 c153_46 (rw_aload_n (pc' := 47) (v := .ref r0) rfl rfl rfl ?_)
        refine wp_of e153 c153_47 (rw_aload_n (pc' := 48) (v := .ref r0) rfl rfl rfl ?_)
        have k79987 : H79980 r0 6 = H r0 6 := ((f79985 r0 6 _ g0 rfl).trans (f79973 r0 6 _ g0 rfl))
        have q79988 : H79980 r0 6 = (r79963 : Int) := k79987.trans q79964
        refine wp_of e153 c153_48 (xg_K (pc' := 51) lf_0_51 w79984 g0 sh_1 (by decide) (by decide) rfl q79988 rfl ?_)
        refine wp_of e153 c153_51 (xg_I (pc' := 54) lf_0_295 w79984 g79965 sh_27 (by decide) (by decide) ty_27_16 rfl rfl (fun b79989 b79990 => ?_))
        refine wp_of e153 c153_54 (xc_V (pc' := 57) (r := r0) (as := [vI (H79980 r79963 16)]) (st := []) (lm_0_99) rfl rfl (Nat.le_of_ble_eq_true rfl) w79984 g0 sh_1 (by decide) rfl (by decide) (s_51 w79984 g0 ⟨by omega, by omega⟩) (fun R79991 T79992 H79993 p79994 => ?_))
        obtain ⟨e79995, w79997, f79998, z80000, e79996, b80001, p79999⟩ := p79994
        subst e79995
        subst e79996
        have f80002 := f79986.tr f79998 rfl
        show wp _ _ 153 57 [(0, .ref r0), (1, vI a1), (2, vI a2)] [vI z80000] _ H79993 _
        exact wp_ireturn e153 c153_57 rfl ⟨rfl, w79997, f80002, z80000, rfl, ⟨by omega, by omega⟩, by omega⟩
      · refine wp_of e153 c153_24 (rw_aload_n (pc' := 25) (v := .ref r0) rfl rfl rfl ?_)
        refine wp_of e153 c153_25 (rw_iconst (pc' := 26) rfl ?_)
        refine wp_of e153 c153_26 (xc_V (pc' := 29) (r := r0) (as := [vI 2]) (st := []) (lm_0_70) rfl rfl (Nat.le_of_ble_eq_true rfl) hW g0 sh_1 (by decide) rfl (by decide) (s_12 hW g0 ⟨by omega, by omega⟩) (fun R80003 T80004 H80005 p80006 => ?_))
        obtain ⟨e80007, w80009, f80010, z80012, e80008, b80013, p80011⟩ := p80006
        subst e80007
        subst e80008
        have f80014 := f0.tr f80010 rfl
        show wp _ _ 153 29 [(0, .ref r0), (1, vI a1), (2, vI a2)] [vI z80012] _ H80005 _
        exact wp_ireturn e153 c153_29 rfl ⟨rfl, w80009, f80014, z80012, rfl, ⟨by omega, by omega⟩, by omega⟩
  · refine wp_of e153 c153_8 (rw_aload_n (pc' := 9) (v := .ref r0) rfl rfl rfl ?_)
    refine wp_of e153 c153_9 (rw_iconst (pc' := 10) rfl ?_)
    refine wp_of e153 c153_10 (xc_V (pc' := 13) (r := r0) (as := [vI 1]) (st := []) (lm_0_70) rfl rfl (Nat.le_of_ble_eq_true rfl) hW g0 sh_1 (by decide) rfl (by decide) (s_12 hW g0 ⟨by omega, by omega⟩) (fun R80015 T80016 H80017 p80018 => ?_))
    obtain ⟨e80019, w80021, f80022, z80024, e80020, b80025, p80023⟩ := p80018
    subst e80019
    subst e80020
    have f80026 := f0.tr f80022 rfl
    show wp _ _ 153 13 [(0, .ref r0), (1, vI a1), (2, vI a2)] [vI z80024] _ H80017 _
    exact wp_ireturn e153 c153_13 rfl ⟨rfl, w80021, f80026, z80024, rfl, ⟨by omega, by omega⟩, by omega⟩
/-! StrikeAwake.still(I)Z -/
theorem e154 : wq_en 154 = some (0, 2, false, some FieldType.boolean) := rfl
theorem c154_0 : mc_cd 154 0 = some (.aload_n 0, 1) := by decide +kernel
theorem c154_1 : mc_cd 154 1 = some (.iload_n 1, 1) := by decide +kernel
theorem c154_2 : mc_cd 154 2 = some (.invokevirtual 132, 3) := by decide +kernel
theorem c154_5 : mc_cd 154 5 = some (.ifCond .eq 15, 3) := by decide +kernel
theorem c154_8 : mc_cd 154 8 = some (.aload_n 0, 1) := by decide +kernel
theorem c154_9 : mc_cd 154 9 = some (.getfield 51, 3) := by decide +kernel
theorem c154_12 : mc_cd 154 12 = some (.getfield 262, 3) := by decide +kernel
theorem c154_15 : mc_cd 154 15 = some (.iload_n 1, 1) := by decide +kernel
theorem c154_16 : mc_cd 154 16 = some (.iaload, 1) := by decide +kernel
theorem c154_17 : mc_cd 154 17 = some (.ifCond .ge 9, 3) := by decide +kernel
theorem c154_20 : mc_cd 154 20 = some (.aload_n 0, 1) := by decide +kernel
theorem c154_21 : mc_cd 154 21 = some (.iconst 1, 1) := by decide +kernel
theorem c154_22 : mc_cd 154 22 = some (.invokevirtual 145, 3) := by decide +kernel
theorem c154_25 : mc_cd 154 25 = some (.ireturn, 1) := by decide +kernel
theorem c154_26 : mc_cd 154 26 = some (.aload_n 0, 1) := by decide +kernel
theorem c154_27 : mc_cd 154 27 = some (.getfield 51, 3) := by decide +kernel
theorem c154_30 : mc_cd 154 30 = some (.iload_n 1, 1) := by decide +kernel
theorem c154_31 : mc_cd 154 31 = some (.bipush (-2), 2) := by decide +kernel
theorem c154_33 : mc_cd 154 33 = some (.invokevirtual 291, 3) := by decide +kernel
theorem c154_36 : mc_cd 154 36 = some (.aload_n 0, 1) := by decide +kernel
theorem c154_37 : mc_cd 154 37 = some (.getfield 30, 3) := by decide +kernel
theorem c154_40 : mc_cd 154 40 = some (.invokevirtual 93, 3) := by decide +kernel
theorem c154_43 : mc_cd 154 43 = some (.aload_n 0, 1) := by decide +kernel
theorem c154_44 : mc_cd 154 44 = some (.invokevirtual 151, 3) := by decide +kernel
theorem c154_47 : mc_cd 154 47 = some (.ireturn, 1) := by decide +kernel
abbrev q_154 (r0 : Nat) (a1 : Int) (T : wq_T) (H : wq_H) : Option Value → wq_T → wq_H → Prop := fun r T' H' => T = T' ∧ WT T H' ∧ wfr [(12, 9), (27, 16), (1, 10), (29, 999), (30, 999)] T H H' ∧ ∃ z : Int, some (vI z) = r ∧ (0 ≤ z ∧ z ≤ 1) ∧ (H' r0 10 ≠ 4)
set_option maxHeartbeats 4000000 in
theorem s_154 {kt : Nat → Option mc_E} {T : wq_T} {H : wq_H} {r0 : Nat} {a1 : Int} (hW : WT T H) (g0 : T.2.2.2 r0 = some 1) (i1 : (-2147483648) ≤ a1 ∧ a1 ≤ 2147483647) : wpc kt 3 154 [.ref r0, vI a1] T H (q_154 r0 a1 T H) := by
  refine wp_enter e154 (Nat.le_of_ble_eq_true rfl) rfl ?_
  have f0 : wfr [(12, 9), (27, 16), (1, 10), (29, 999), (30, 999)] T H H := wfr.rf
  show wp _ _ 154 0 [(0, .ref r0), (1, vI a1)] [] _ H _
  refine wp_of e154 c154_0 (rw_aload_n (pc' := 1) (v := .ref r0) rfl rfl rfl ?_)
  refine wp_of e154 c154_1 (rw_iload_n (pc' := 2) (z := a1) rfl rfl ?_)
  refine wp_of e154 c154_2 (xc_V (pc' := 5) (r := r0) (as := [vI a1]) (st := []) (lm_0_132) rfl rfl (Nat.le_of_ble_eq_true rfl) hW g0 sh_1 (by decide) rfl (by decide) (s_60 hW g0 ⟨by omega, by omega⟩) (fun R80104 T80105 H80106 p80107 => ?_))
  obtain ⟨e80108, e80110, z80112, e80109, b80113, p80111⟩ := p80107
  subst e80108
  subst e80109
  subst e80110
  show wp _ _ 154 5 [(0, .ref r0), (1, vI a1)] [vI z80112] _ H _
  refine wp_of e154 c154_5 (rw_if_eq (p1 := 20) (p2 := 8) (by decide) rfl ⟨by omega, by omega⟩ (fun c80114 => ?_) (fun c80114 => ?_))
  · refine wp_of e154 c154_20 (rw_aload_n (pc' := 21) (v := .ref r0) rfl rfl rfl ?_)
    refine wp_of e154 c154_21 (rw_iconst (pc' := 22) rfl ?_)
    refine wp_of e154 c154_22 (xc_V (pc' := 25) (r := r0) (as := [vI 1]) (st := []) (lm_0_145) rfl rfl (Nat.le_of_ble_eq_true rfl) hW g0 sh_1 (by decide) rfl (by decide) (s_63 hW g0 ⟨by omega, by omega⟩) (fun R80115 T80116 H80117 p80118 => ?_))
    obtain ⟨e80119, w80121, f80122, z80124, e80120, b80125, p80123⟩ := p80118
    subst e80119
    subst e80120
    have f80126 := f0.tr f80122 rfl
    show wp _ _ 154 25 [(0, .ref r0), (1, vI a1)] [vI z80124] _ H80117 _
    exact wp_zreturn e154 c154_25 rfl (by omega) ⟨rfl, w80121, f80126, z80124, rfl, ⟨by omega, by omega⟩, by omega⟩
  · refine wp_of e154 c154_8 (rw_aload_n (pc' := 9) (v := .ref r0) rfl rfl rfl ?_)
    refine wp_of e154 c154_9 (xg_R (pc' := 12) lf_0_51 hW g0 sh_1 (by decide) (by decide) ty_1_6 rfl rfl (fun r80127 q80128 g80129 => ?_))
    refine wp_of e154 c154_12 (xg_R (pc' := 15) lf_0_262 hW g80129 sh_27 (by decide) (by decide) ty_27_1 rfl rfl (fun r80130 q80131 g80132 => ?_))
    refine wp_of e154 c154_15 (rw_iload_n (pc' := 16) (z := a1) rfl rfl ?_)
    refine wp_of e154 c154_16 (xa_I (so := 0) (pc' := 17) hW g80132 sh_29 (by decide) (ty_29 _) (by omega) (by omega) rfl (fun b80133 b80134 => ?_))
    refine wp_of e154 c154_17 (rw_if_ge (p1 := 26) (p2 := 20) (by decide) rfl ⟨by omega, by omega⟩ (fun c80135 => ?_) (fun c80135 => ?_))
    · refine wp_of e154 c154_26 (rw_aload_n (pc' := 27) (v := .ref r0) rfl rfl rfl ?_)
      refine wp_of e154 c154_27 (xg_K (pc' := 30) lf_0_51 hW g0 sh_1 (by decide) (by decide) rfl q80128 rfl ?_)
      refine wp_of e154 c154_30 (rw_iload_n (pc' := 31) (z := a1) rfl rfl ?_)
      refine wp_of e154 c154_31 (rw_bipush (pc' := 33) (z := -2) rfl (by decide) ?_)
      refine wp_of e154 c154_33 (xc_V (pc' := 36) (r := r80127) (as := [vI a1, vI (-2)]) (st := []) (lm_0_291) rfl rfl (Nat.le_of_ble_eq_true rfl) hW g80129 sh_27 (by decide) rfl (by decide) (s_40 hW g80129 ⟨by omega, by omega⟩ ⟨by omega, by omega⟩) (fun R80136 T80137 H80138 p80139 => ?_))
      obtain ⟨e80140, w80142, f80143, e80141⟩ := p80139
      subst e80140
      subst e80141
      have f80144 := f0.tr f80143 rfl
      show wp _ _ 154 36 [(0, .ref r0), (1, vI a1)] [] _ H80138 _
      refine wp_of e154 c154_36 (rw_aload_n (pc' := 37) (v := .ref r0) rfl rfl rfl ?_)
      refine wp_of e154 c154_37 (xg_R (pc' := 40) lf_0_30 w80142 g0 sh_1 (by decide) (by decide) ty_1_3 rfl rfl (fun r80145 q80146 g80147 => ?_))
      refine wp_of e154 c154_40 (xc_V (pc' := 43) (r := r80145) (as := []) (st := []) (lm_0_93) rfl rfl (Nat.le_of_ble_eq_true rfl) w80142 g80147 sh_12 (by decide) rfl (by decide) (s_50 w80142 g80147) (fun R80148 T80149 H80150 p80151 => ?_))
      obtain ⟨e80152, w80154, f80155, e80153⟩ := p80151
      subst e80152
      subst e80153
      have f80156 := f80144.tr f80155 rfl
      show wp _ _ 154 43 [(0, .ref r0), (1, vI a1)] [] _ H80150 _
      refine wp_of e154 c154_43 (rw_aload_n (pc' := 44) (v := .ref r0) rfl rfl rfl ?_)
      refine wp_of e154 c154_44 (xc_V (pc' := 47) (r := r0) (as := []) (st := []) (lm_0_151) rfl rfl (Nat.le_of_ble_eq_true rfl) w80154 g0 sh_1 (by decide) rfl (by decide) (s_64 w80154 g0) (fun R80157 T80158 H80159 p80160 => ?_))
      obtain ⟨e80161, w80163, f80164, z80166, e80162, b80167, p80165⟩ := p80160
      subst e80161
      subst e80162
      have f80168 := f80156.tr f80164 rfl
      show wp _ _ 154 47 [(0, .ref r0), (1, vI a1)] [vI z80166] _ H80159 _
      exact wp_zreturn e154 c154_47 rfl (by omega) ⟨rfl, w80163, f80168, z80166, rfl, ⟨by omega, by omega⟩, by omega⟩
    · refine wp_of e154 c154_20 (rw_aload_n (pc' := 21) (v := .ref r0) rfl rfl rfl ?_)
      refine wp_of e154 c154_21 (rw_iconst (pc' := 22) rfl ?_)
      refine wp_of e154 c154_22 (xc_V (pc' := 25) (r := r0) (as := [vI 1]) (st := []) (lm_0_145) rfl rfl (Nat.le_of_ble_eq_true rfl) hW g0 sh_1 (by decide) rfl (by decide) (s_63 hW g0 ⟨by omega, by omega⟩) (fun R80169 T80170 H80171 p80172 => ?_))
      obtain ⟨e80173, w80175, f80176, z80178, e80174, b80179, p80177⟩ := p80172
      subst e80173
      subst e80174
      have f80180 := f0.tr f80176 rfl
      show wp _ _ 154 25 [(0, .ref r0), (1, vI a1)] [vI z80178] _ H80171 _
      exact wp_zreturn e154 c154_25 rfl (by omega) ⟨rfl, w80175, f80180, z80178, rfl, ⟨by omega, by omega⟩, by omega⟩
/-! StrikeAwake.struck(I)I -/
theorem e155 : wq_en 155 = some (0, 2, false, some FieldType.int) := rfl
theorem c155_0 : mc_cd 155 0 = some (.aload_n 0, 1) := by decide +kernel
theorem c155_1 : mc_cd 155 1 = some (.iload_n 1, 1) := by decide +kernel
theorem c155_2 : mc_cd 155 2 = some (.invokevirtual 132, 3) := by decide +kernel
theorem c155_5 : mc_cd 155 5 = some (.ifCond .ne 9, 3) := by decide +kernel
theorem c155_8 : mc_cd 155 8 = some (.aload_n 0, 1) := by decide +kernel
theorem c155_9 : mc_cd 155 9 = some (.iconst 1, 1) := by decide +kernel
theorem c155_10 : mc_cd 155 10 = some (.invokevirtual 70, 3) := by decide +kernel
theorem c155_13 : mc_cd 155 13 = some (.ireturn, 1) := by decide +kernel
theorem c155_14 : mc_cd 155 14 = some (.aload_n 0, 1) := by decide +kernel
theorem c155_15 : mc_cd 155 15 = some (.aload_n 0, 1) := by decide +kernel
theorem c155_16 : mc_cd 155 16 = some (.getfield 51, 3) := by decide +kernel
theorem c155_19 : mc_cd 155 19 = some (.getfield 262, 3) := by decide +kernel
theorem c155_22 : mc_cd 155 22 = some (.iload_n 1, 1) := by decide +kernel
theorem c155_23 : mc_cd 155 23 = some (.iaload, 1) := by decide +kernel
theorem c155_24 : mc_cd 155 24 = some (.invokevirtual 99, 3) := by decide +kernel
theorem c155_27 : mc_cd 155 27 = some (.ireturn, 1) := by decide +kernel
abbrev q_155 (r0 : Nat) (a1 : Int) (T : wq_T) (H : wq_H) : Option Value → wq_T → wq_H → Prop := fun r T' H' => T = T' ∧ WT T H' ∧ wfr [(1, 10)] T H H' ∧ ∃ z : Int, some (vI z) = r ∧ ((-2147483648) ≤ z ∧ z ≤ 2147483647) ∧ (H' r0 10 ≠ 4)
set_option maxHeartbeats 4000000 in
theorem s_155 {kt : Nat → Option mc_E} {T : wq_T} {H : wq_H} {r0 : Nat} {a1 : Int} (hW : WT T H) (g0 : T.2.2.2 r0 = some 1) (i1 : (-2147483648) ≤ a1 ∧ a1 ≤ 2147483647) : wpc kt 2 155 [.ref r0, vI a1] T H (q_155 r0 a1 T H) := by
  refine wp_enter e155 (Nat.le_of_ble_eq_true rfl) rfl ?_
  have f0 : wfr [(1, 10)] T H H := wfr.rf
  show wp _ _ 155 0 [(0, .ref r0), (1, vI a1)] [] _ H _
  refine wp_of e155 c155_0 (rw_aload_n (pc' := 1) (v := .ref r0) rfl rfl rfl ?_)
  refine wp_of e155 c155_1 (rw_iload_n (pc' := 2) (z := a1) rfl rfl ?_)
  refine wp_of e155 c155_2 (xc_V (pc' := 5) (r := r0) (as := [vI a1]) (st := []) (lm_0_132) rfl rfl (Nat.le_of_ble_eq_true rfl) hW g0 sh_1 (by decide) rfl (by decide) (s_60 hW g0 ⟨by omega, by omega⟩) (fun R80224 T80225 H80226 p80227 => ?_))
  obtain ⟨e80228, e80230, z80232, e80229, b80233, p80231⟩ := p80227
  subst e80228
  subst e80229
  subst e80230
  show wp _ _ 155 5 [(0, .ref r0), (1, vI a1)] [vI z80232] _ H _
  refine wp_of e155 c155_5 (rw_if_ne (p1 := 14) (p2 := 8) (by decide) rfl ⟨by omega, by omega⟩ (fun c80234 => ?_) (fun c80234 => ?_))
  · refine wp_of e155 c155_14 (rw_aload_n (pc' := 15) (v := .ref r0) rfl rfl rfl ?_)
    refine wp_of e155 c155_15 (rw_aload_n (pc' := 16) (v := .ref r0) rfl rfl rfl ?_)
    refine wp_of e155 c155_16 (xg_R (pc' := 19) lf_0_51 hW g0 sh_1 (by decide) (by decide) ty_1_6 rfl rfl (fun r80235 q80236 g80237 => ?_))
    refine wp_of e155 c155_19 (xg_R (pc' := 22) lf_0_262 hW g80237 sh_27 (by decide) (by decide) ty_27_1 rfl rfl (fun r80238 q80239 g80240 => ?_))
    refine wp_of e155 c155_22 (rw_iload_n (pc' := 23) (z := a1) rfl rfl ?_)
    refine wp_of e155 c155_23 (xa_I (so := 0) (pc' := 24) hW g80240 sh_29 (by decide) (ty_29 _) (by omega) (by omega) rfl (fun b80241 b80242 => ?_))
    refine wp_of e155 c155_24 (xc_V (pc' := 27) (r := r0) (as := [vI (H r80238 (a1.toNat))]) (st := []) (lm_0_99) rfl rfl (Nat.le_of_ble_eq_true rfl) hW g0 sh_1 (by decide) rfl (by decide) (s_51 hW g0 ⟨by omega, by omega⟩) (fun R80243 T80244 H80245 p80246 => ?_))
    obtain ⟨e80247, w80249, f80250, z80252, e80248, b80253, p80251⟩ := p80246
    subst e80247
    subst e80248
    have f80254 := f0.tr f80250 rfl
    show wp _ _ 155 27 [(0, .ref r0), (1, vI a1)] [vI z80252] _ H80245 _
    exact wp_ireturn e155 c155_27 rfl ⟨rfl, w80249, f80254, z80252, rfl, ⟨by omega, by omega⟩, by omega⟩
  · refine wp_of e155 c155_8 (rw_aload_n (pc' := 9) (v := .ref r0) rfl rfl rfl ?_)
    refine wp_of e155 c155_9 (rw_iconst (pc' := 10) rfl ?_)
    refine wp_of e155 c155_10 (xc_V (pc' := 13) (r := r0) (as := [vI 1]) (st := []) (lm_0_70) rfl rfl (Nat.le_of_ble_eq_true rfl) hW g0 sh_1 (by decide) rfl (by decide) (s_12 hW g0 ⟨by omega, by omega⟩) (fun R80255 T80256 H80257 p80258 => ?_))
    obtain ⟨e80259, w80261, f80262, z80264, e80260, b80265, p80263⟩ := p80258
    subst e80259
    subst e80260
    have f80266 := f0.tr f80262 rfl
    show wp _ _ 155 13 [(0, .ref r0), (1, vI a1)] [vI z80264] _ H80257 _
    exact wp_ireturn e155 c155_13 rfl ⟨rfl, w80261, f80266, z80264, rfl, ⟨by omega, by omega⟩, by omega⟩
/-! StrikeAwake.seek()I -/
theorem e156 : wq_en 156 = some (0, 3, false, some FieldType.int) := rfl
theorem c156_0 : mc_cd 156 0 = some (.aload_n 0, 1) := by decide +kernel
theorem c156_1 : mc_cd 156 1 = some (.aload_n 0, 1) := by decide +kernel
theorem c156_2 : mc_cd 156 2 = some (.getfield 58, 3) := by decide +kernel
theorem c156_5 : mc_cd 156 5 = some (.invokevirtual 174, 3) := by decide +kernel
theorem c156_8 : mc_cd 156 8 = some (.istore_n 1, 1) := by decide +kernel
theorem c156_9 : mc_cd 156 9 = some (.iload_n 1, 1) := by decide +kernel
theorem c156_10 : mc_cd 156 10 = some (.ifCond .eq 9, 3) := by decide +kernel
theorem c156_13 : mc_cd 156 13 = some (.aload_n 0, 1) := by decide +kernel
theorem c156_14 : mc_cd 156 14 = some (.iload_n 1, 1) := by decide +kernel
theorem c156_15 : mc_cd 156 15 = some (.invokevirtual 70, 3) := by decide +kernel
theorem c156_18 : mc_cd 156 18 = some (.ireturn, 1) := by decide +kernel
theorem c156_19 : mc_cd 156 19 = some (.aload_n 0, 1) := by decide +kernel
theorem c156_20 : mc_cd 156 20 = some (.getfield 30, 3) := by decide +kernel
theorem c156_23 : mc_cd 156 23 = some (.aload_n 0, 1) := by decide +kernel
theorem c156_24 : mc_cd 156 24 = some (.getfield 51, 3) := by decide +kernel
theorem c156_27 : mc_cd 156 27 = some (.getfield 298, 3) := by decide +kernel
theorem c156_30 : mc_cd 156 30 = some (.aload_n 0, 1) := by decide +kernel
theorem c156_31 : mc_cd 156 31 = some (.getfield 51, 3) := by decide +kernel
theorem c156_34 : mc_cd 156 34 = some (.invokevirtual 301, 3) := by decide +kernel
theorem c156_37 : mc_cd 156 37 = some (.istore_n 2, 1) := by decide +kernel
theorem c156_38 : mc_cd 156 38 = some (.iload_n 2, 1) := by decide +kernel
theorem c156_39 : mc_cd 156 39 = some (.ifCond .ge 10, 3) := by decide +kernel
theorem c156_42 : mc_cd 156 42 = some (.aload_n 0, 1) := by decide +kernel
theorem c156_43 : mc_cd 156 43 = some (.bipush 6, 2) := by decide +kernel
theorem c156_45 : mc_cd 156 45 = some (.invokevirtual 70, 3) := by decide +kernel
theorem c156_48 : mc_cd 156 48 = some (.ireturn, 1) := by decide +kernel
theorem c156_49 : mc_cd 156 49 = some (.aload_n 0, 1) := by decide +kernel
theorem c156_50 : mc_cd 156 50 = some (.getfield 51, 3) := by decide +kernel
theorem c156_53 : mc_cd 156 53 = some (.iload_n 2, 1) := by decide +kernel
theorem c156_54 : mc_cd 156 54 = some (.iconst 1, 1) := by decide +kernel
theorem c156_55 : mc_cd 156 55 = some (.iadd, 1) := by decide +kernel
theorem c156_56 : mc_cd 156 56 = some (.putfield 298, 3) := by decide +kernel
theorem c156_59 : mc_cd 156 59 = some (.aload_n 0, 1) := by decide +kernel
theorem c156_60 : mc_cd 156 60 = some (.iload_n 2, 1) := by decide +kernel
theorem c156_61 : mc_cd 156 61 = some (.invokevirtual 99, 3) := by decide +kernel
theorem c156_64 : mc_cd 156 64 = some (.ireturn, 1) := by decide +kernel
abbrev q_156 (r0 : Nat) (T : wq_T) (H : wq_H) : Option Value → wq_T → wq_H → Prop := fun r T' H' => T = T' ∧ WT T H' ∧ wfr [(12, 5), (12, 6), (12, 7), (12, 8), (12, 9), (27, 17), (1, 10), (6, 5), (8, 999), (10, 999), (15, 999), (9, 999), (18, 999), (19, 999), (7, 999), (11, 999), (17, 999), (13, 999)] T H H' ∧ ∃ z : Int, some (vI z) = r ∧ ((-2147483648) ≤ z ∧ z ≤ 2147483647) ∧ (H' r0 10 ≠ 4)
set_option maxHeartbeats 4000000 in
theorem s_156 {kt : Nat → Option mc_E} {T : wq_T} {H : wq_H} {r0 : Nat} (hW : WT T H) (g0 : T.2.2.2 r0 = some 1) : wpc kt 6 156 [.ref r0] T H (q_156 r0 T H) := by
  refine wp_enter e156 (Nat.le_of_ble_eq_true rfl) rfl ?_
  have f0 : wfr [(12, 5), (12, 6), (12, 7), (12, 8), (12, 9), (27, 17), (1, 10), (6, 5), (8, 999), (10, 999), (15, 999), (9, 999), (18, 999), (19, 999), (7, 999), (11, 999), (17, 999), (13, 999)] T H H := wfr.rf
  show wp _ _ 156 0 [(0, .ref r0)] [] _ H _
  refine wp_of e156 c156_0 (rw_aload_n (pc' := 1) (v := .ref r0) rfl rfl rfl ?_)
  refine wp_of e156 c156_1 (rw_aload_n (pc' := 2) (v := .ref r0) rfl rfl rfl ?_)
  refine wp_of e156 c156_2 (xg_I (pc' := 5) lf_0_58 hW g0 sh_1 (by decide) (by decide) ty_1_8 rfl rfl (fun b80342 b80343 => ?_))
  refine wp_of e156 c156_5 (xc_V (pc' := 8) (r := r0) (as := [vI (H r0 8)]) (st := []) (lm_0_174) rfl rfl (Nat.le_of_ble_eq_true rfl) hW g0 sh_1 (by decide) rfl (by decide) (s_83 hW g0 ⟨by omega, by omega⟩) (fun R80344 T80345 H80346 p80347 => ?_))
  obtain ⟨e80348, w80350, f80351, z80354, e80349, b80355, p80352, p80353⟩ := p80347
  subst e80348
  subst e80349
  have f80356 := f0.tr f80351 rfl
  show wp _ _ 156 8 [(0, .ref r0)] [vI z80354] _ H80346 _
  refine wp_of e156 c156_8 (rw_istore_n (pc' := 9) (z := z80354) (L' := [(1, vI z80354), (0, .ref r0)]) rfl rfl rfl ?_)
  refine wp_of e156 c156_9 (rw_iload_n (pc' := 10) (z := z80354) rfl rfl ?_)
  refine wp_of e156 c156_10 (rw_if_eq (p1 := 19) (p2 := 13) (by decide) rfl ⟨by omega, by omega⟩ (fun c80357 => ?_) (fun c80357 => ?_))
  · refine wp_of e156 c156_19 (rw_aload_n (pc' := 20) (v := .ref r0) rfl rfl rfl ?_)
    refine wp_of e156 c156_20 (xg_R (pc' := 23) lf_0_30 w80350 g0 sh_1 (by decide) (by decide) ty_1_3 rfl rfl (fun r80358 q80359 g80360 => ?_))
    refine wp_of e156 c156_23 (rw_aload_n (pc' := 24) (v := .ref r0) rfl rfl rfl ?_)
    refine wp_of e156 c156_24 (xg_R (pc' := 27) lf_0_51 w80350 g0 sh_1 (by decide) (by decide) ty_1_6 rfl rfl (fun r80361 q80362 g80363 => ?_))
    refine wp_of e156 c156_27 (xg_I (pc' := 30) lf_0_298 w80350 g80363 sh_27 (by decide) (by decide) ty_27_17 rfl rfl (fun b80364 b80365 => ?_))
    refine wp_of e156 c156_30 (rw_aload_n (pc' := 31) (v := .ref r0) rfl rfl rfl ?_)
    refine wp_of e156 c156_31 (xg_K (pc' := 34) lf_0_51 w80350 g0 sh_1 (by decide) (by decide) rfl q80362 rfl ?_)
    refine wp_of e156 c156_34 (xc_V (pc' := 37) (r := r80358) (as := [vI (H80346 r80361 17), .ref r80361]) (st := []) (lm_0_301) rfl rfl (Nat.le_of_ble_eq_true rfl) w80350 g80360 sh_12 (by decide) rfl (by decide) (s_124 w80350 g80360 ⟨by omega, by omega⟩ g80363) (fun R80366 T80367 H80368 p80369 => ?_))
    obtain ⟨e80370, e80372, z80373, e80371, b80374⟩ := p80369
    subst e80370
    subst e80371
    subst e80372
    show wp _ _ 156 37 [(1, vI z80354), (0, .ref r0)] [vI z80373] _ H80346 _
    refine wp_of e156 c156_37 (rw_istore_n (pc' := 38) (z := z80373) (L' := [(2, vI z80373), (1, vI z80354), (0, .ref r0)]) rfl rfl rfl ?_)
    refine wp_of e156 c156_38 (rw_iload_n (pc' := 39) (z := z80373) rfl rfl ?_)
    refine wp_of e156 c156_39 (rw_if_ge (p1 := 49) (p2 := 42) (by decide) rfl ⟨by omega, by omega⟩ (fun c80375 => ?_) (fun c80375 => ?_))
    · refine wp_of e156 c156_49 (rw_aload_n (pc' := 50) (v := .ref r0) rfl rfl rfl ?_)
      refine wp_of e156 c156_50 (xg_K (pc' := 53) lf_0_51 w80350 g0 sh_1 (by decide) (by decide) rfl q80362 rfl ?_)
      refine wp_of e156 c156_53 (rw_iload_n (pc' := 54) (z := z80373) rfl rfl ?_)
      refine wp_of e156 c156_54 (rw_iconst (pc' := 55) rfl ?_)
      refine wp_of e156 c156_55 (rw_iadd (pc' := 56) rfl ?_)
      refine wp_of e156 c156_56 (xp_I (pc' := 59) lf_0_298 w80350 g80363 sh_27 (by decide) (by decide) ty_27_17 rfl rfl (by omega) (by omega) ⟨by omega, by omega⟩ rfl (fun H80376 e80377 w80378 => ?_))
      have f80379 := f80356.put' e80377 g80363 rfl
      have k80380 : H80376 r80361 17 = z80373 + 1 := wq_u_s e80377
      refine wp_of e156 c156_59 (rw_aload_n (pc' := 60) (v := .ref r0) rfl rfl rfl ?_)
      refine wp_of e156 c156_60 (rw_iload_n (pc' := 61) (z := z80373) rfl rfl ?_)
      refine wp_of e156 c156_61 (xc_V (pc' := 64) (r := r0) (as := [vI z80373]) (st := []) (lm_0_99) rfl rfl (Nat.le_of_ble_eq_true rfl) w80378 g0 sh_1 (by decide) rfl (by decide) (s_51 w80378 g0 ⟨by omega, by omega⟩) (fun R80381 T80382 H80383 p80384 => ?_))
      obtain ⟨e80385, w80387, f80388, z80390, e80386, b80391, p80389⟩ := p80384
      subst e80385
      subst e80386
      have f80392 := f80379.tr f80388 rfl
      show wp _ _ 156 64 [(2, vI z80373), (1, vI z80354), (0, .ref r0)] [vI z80390] _ H80383 _
      exact wp_ireturn e156 c156_64 rfl ⟨rfl, w80387, f80392, z80390, rfl, ⟨by omega, by omega⟩, by omega⟩
    · refine wp_of e156 c156_42 (rw_aload_n (pc' := 43) (v := .ref r0) rfl rfl rfl ?_)
      refine wp_of e156 c156_43 (rw_bipush (pc' := 45) (z := 6) rfl (by decide) ?_)
      refine wp_of e156 c156_45 (xc_V (pc' := 48) (r := r0) (as := [vI 6]) (st := []) (lm_0_70) rfl rfl (Nat.le_of_ble_eq_true rfl) w80350 g0 sh_1 (by decide) rfl (by decide) (s_12 w80350 g0 ⟨by omega, by omega⟩) (fun R80393 T80394 H80395 p80396 => ?_))
      obtain ⟨e80397, w80399, f80400, z80402, e80398, b80403, p80401⟩ := p80396
      subst e80397
      subst e80398
      have f80404 := f80356.tr f80400 rfl
      show wp _ _ 156 48 [(2, vI z80373), (1, vI z80354), (0, .ref r0)] [vI z80402] _ H80395 _
      exact wp_ireturn e156 c156_48 rfl ⟨rfl, w80399, f80404, z80402, rfl, ⟨by omega, by omega⟩, by omega⟩
  · refine wp_of e156 c156_13 (rw_aload_n (pc' := 14) (v := .ref r0) rfl rfl rfl ?_)
    refine wp_of e156 c156_14 (rw_iload_n (pc' := 15) (z := z80354) rfl rfl ?_)
    refine wp_of e156 c156_15 (xc_V (pc' := 18) (r := r0) (as := [vI z80354]) (st := []) (lm_0_70) rfl rfl (Nat.le_of_ble_eq_true rfl) w80350 g0 sh_1 (by decide) rfl (by decide) (s_12 w80350 g0 ⟨by omega, by omega⟩) (fun R80405 T80406 H80407 p80408 => ?_))
    obtain ⟨e80409, w80411, f80412, z80414, e80410, b80415, p80413⟩ := p80408
    subst e80409
    subst e80410
    have f80416 := f80356.tr f80412 rfl
    show wp _ _ 156 18 [(1, vI z80354), (0, .ref r0)] [vI z80414] _ H80407 _
    exact wp_ireturn e156 c156_18 rfl ⟨rfl, w80411, f80416, z80414, rfl, ⟨by omega, by omega⟩, by omega⟩
/-! StrikeAwake.lot(II)I -/
theorem e157 : wq_en 157 = some (0, 4, false, some FieldType.int) := rfl
theorem c157_0 : mc_cd 157 0 = some (.aload_n 0, 1) := by decide +kernel
theorem c157_1 : mc_cd 157 1 = some (.aload_n 0, 1) := by decide +kernel
theorem c157_2 : mc_cd 157 2 = some (.iload_n 2, 1) := by decide +kernel
theorem c157_3 : mc_cd 157 3 = some (.invokevirtual 105, 3) := by decide +kernel
theorem c157_6 : mc_cd 157 6 = some (.ifCond .eq 24, 3) := by decide +kernel
theorem c157_9 : mc_cd 157 9 = some (.iload_n 1, 1) := by decide +kernel
theorem c157_10 : mc_cd 157 10 = some (.ifCond .lt 20, 3) := by decide +kernel
theorem c157_13 : mc_cd 157 13 = some (.iload_n 1, 1) := by decide +kernel
theorem c157_14 : mc_cd 157 14 = some (.i2l, 1) := by decide +kernel
theorem c157_15 : mc_cd 157 15 = some (.aload_n 0, 1) := by decide +kernel
theorem c157_16 : mc_cd 157 16 = some (.getfield 51, 3) := by decide +kernel
theorem c157_19 : mc_cd 157 19 = some (.getfield 141, 3) := by decide +kernel
theorem c157_22 : mc_cd 157 22 = some (.lcmp, 1) := by decide +kernel
theorem c157_23 : mc_cd 157 23 = some (.ifCond .ge 7, 3) := by decide +kernel
theorem c157_26 : mc_cd 157 26 = some (.iconst 1, 1) := by decide +kernel
theorem c157_27 : mc_cd 157 27 = some (.goto 4, 3) := by decide +kernel
theorem c157_30 : mc_cd 157 30 = some (.iconst 0, 1) := by decide +kernel
theorem c157_31 : mc_cd 157 31 = some (.invokevirtual 245, 3) := by decide +kernel
theorem c157_34 : mc_cd 157 34 = some (.istore_n 3, 1) := by decide +kernel
theorem c157_35 : mc_cd 157 35 = some (.iload_n 3, 1) := by decide +kernel
theorem c157_36 : mc_cd 157 36 = some (.ifCond .eq 9, 3) := by decide +kernel
theorem c157_39 : mc_cd 157 39 = some (.aload_n 0, 1) := by decide +kernel
theorem c157_40 : mc_cd 157 40 = some (.iload_n 3, 1) := by decide +kernel
theorem c157_41 : mc_cd 157 41 = some (.invokevirtual 70, 3) := by decide +kernel
theorem c157_44 : mc_cd 157 44 = some (.ireturn, 1) := by decide +kernel
theorem c157_45 : mc_cd 157 45 = some (.aload_n 0, 1) := by decide +kernel
theorem c157_46 : mc_cd 157 46 = some (.aload_n 0, 1) := by decide +kernel
theorem c157_47 : mc_cd 157 47 = some (.getfield 51, 3) := by decide +kernel
theorem c157_50 : mc_cd 157 50 = some (.iload_n 1, 1) := by decide +kernel
theorem c157_51 : mc_cd 157 51 = some (.iload_n 2, 1) := by decide +kernel
theorem c157_52 : mc_cd 157 52 = some (.invokevirtual 183, 3) := by decide +kernel
theorem c157_55 : mc_cd 157 55 = some (.invokevirtual 99, 3) := by decide +kernel
theorem c157_58 : mc_cd 157 58 = some (.ireturn, 1) := by decide +kernel
abbrev q_157 (r0 : Nat) (a1 : Int) (a2 : Int) (T : wq_T) (H : wq_H) : Option Value → wq_T → wq_H → Prop := fun r T' H' => T = T' ∧ WT T H' ∧ wfr [(1, 10)] T H H' ∧ ∃ z : Int, some (vI z) = r ∧ ((-2147483648) ≤ z ∧ z ≤ 2147483647) ∧ (H' r0 10 ≠ 4)
set_option maxHeartbeats 4000000 in
theorem s_157 {kt : Nat → Option mc_E} {T : wq_T} {H : wq_H} {r0 : Nat} {a1 : Int} {a2 : Int} (hW : WT T H) (g0 : T.2.2.2 r0 = some 1) (i1 : (-2147483648) ≤ a1 ∧ a1 ≤ 2147483647) (i2 : (-2147483648) ≤ a2 ∧ a2 ≤ 2147483647) : wpc kt 2 157 [.ref r0, vI a1, vI a2] T H (q_157 r0 a1 a2 T H) := by
  refine wp_enter e157 (Nat.le_of_ble_eq_true rfl) rfl ?_
  have f0 : wfr [(1, 10)] T H H := wfr.rf
  show wp _ _ 157 0 [(0, .ref r0), (1, vI a1), (2, vI a2)] [] _ H _
  refine wp_of e157 c157_0 (rw_aload_n (pc' := 1) (v := .ref r0) rfl rfl rfl ?_)
  refine wp_of e157 c157_1 (rw_aload_n (pc' := 2) (v := .ref r0) rfl rfl rfl ?_)
  refine wp_of e157 c157_2 (rw_iload_n (pc' := 3) (z := a2) rfl rfl ?_)
  refine wp_of e157 c157_3 (xc_V (pc' := 6) (r := r0) (as := [vI a2]) (st := [.ref r0]) (lm_0_105) rfl rfl (Nat.le_of_ble_eq_true rfl) hW g0 sh_1 (by decide) rfl (by decide) (s_55 hW g0 ⟨by omega, by omega⟩) (fun R80553 T80554 H80555 p80556 => ?_))
  obtain ⟨e80557, e80559, z80561, e80558, b80562, p80560⟩ := p80556
  subst e80557
  subst e80558
  subst e80559
  show wp _ _ 157 6 [(0, .ref r0), (1, vI a1), (2, vI a2)] [vI z80561, .ref r0] _ H _
  refine wp_of e157 c157_6 (rw_if_eq (p1 := 30) (p2 := 9) (by decide) rfl ⟨by omega, by omega⟩ (fun c80563 => ?_) (fun c80563 => ?_))
  · refine wp_of e157 c157_30 (rw_iconst (pc' := 31) rfl ?_)
    refine wp_of e157 c157_31 (xc_V (pc' := 34) (r := r0) (as := [vI 0]) (st := []) (lm_0_245) rfl rfl (Nat.le_of_ble_eq_true rfl) hW g0 sh_1 (by decide) rfl (by decide) (s_84 hW g0 ⟨by omega, by omega⟩) (fun R80564 T80565 H80566 p80567 => ?_))
    obtain ⟨e80568, e80570, z80573, e80569, b80574, p80571, p80572⟩ := p80567
    subst e80568
    subst e80569
    subst e80570
    show wp _ _ 157 34 [(0, .ref r0), (1, vI a1), (2, vI a2)] [vI z80573] _ H _
    refine wp_of e157 c157_34 (rw_istore_n (pc' := 35) (z := z80573) (L' := [(3, vI z80573), (0, .ref r0), (1, vI a1), (2, vI a2)]) rfl rfl rfl ?_)
    refine wp_of e157 c157_35 (rw_iload_n (pc' := 36) (z := z80573) rfl rfl ?_)
    refine wp_of e157 c157_36 (rw_if_eq (p1 := 45) (p2 := 39) (by decide) rfl ⟨by omega, by omega⟩ (fun c80575 => ?_) (fun c80575 => ?_))
    · exfalso
      omega
    · refine wp_of e157 c157_39 (rw_aload_n (pc' := 40) (v := .ref r0) rfl rfl rfl ?_)
      refine wp_of e157 c157_40 (rw_iload_n (pc' := 41) (z := z80573) rfl rfl ?_)
      refine wp_of e157 c157_41 (xc_V (pc' := 44) (r := r0) (as := [vI z80573]) (st := []) (lm_0_70) rfl rfl (Nat.le_of_ble_eq_true rfl) hW g0 sh_1 (by decide) rfl (by decide) (s_12 hW g0 ⟨by omega, by omega⟩) (fun R80576 T80577 H80578 p80579 => ?_))
      obtain ⟨e80580, w80582, f80583, z80585, e80581, b80586, p80584⟩ := p80579
      subst e80580
      subst e80581
      have f80587 := f0.tr f80583 rfl
      show wp _ _ 157 44 [(3, vI z80573), (0, .ref r0), (1, vI a1), (2, vI a2)] [vI z80585] _ H80578 _
      exact wp_ireturn e157 c157_44 rfl ⟨rfl, w80582, f80587, z80585, rfl, ⟨by omega, by omega⟩, by omega⟩
  · refine wp_of e157 c157_9 (rw_iload_n (pc' := 10) (z := a1) rfl rfl ?_)
    refine wp_of e157 c157_10 (rw_if_lt (p1 := 30) (p2 := 13) (by decide) rfl ⟨by omega, by omega⟩ (fun c80588 => ?_) (fun c80588 => ?_))
    · refine wp_of e157 c157_30 (rw_iconst (pc' := 31) rfl ?_)
      refine wp_of e157 c157_31 (xc_V (pc' := 34) (r := r0) (as := [vI 0]) (st := []) (lm_0_245) rfl rfl (Nat.le_of_ble_eq_true rfl) hW g0 sh_1 (by decide) rfl (by decide) (s_84 hW g0 ⟨by omega, by omega⟩) (fun R80589 T80590 H80591 p80592 => ?_))
      obtain ⟨e80593, e80595, z80598, e80594, b80599, p80596, p80597⟩ := p80592
      subst e80593
      subst e80594
      subst e80595
      show wp _ _ 157 34 [(0, .ref r0), (1, vI a1), (2, vI a2)] [vI z80598] _ H _
      refine wp_of e157 c157_34 (rw_istore_n (pc' := 35) (z := z80598) (L' := [(3, vI z80598), (0, .ref r0), (1, vI a1), (2, vI a2)]) rfl rfl rfl ?_)
      refine wp_of e157 c157_35 (rw_iload_n (pc' := 36) (z := z80598) rfl rfl ?_)
      refine wp_of e157 c157_36 (rw_if_eq (p1 := 45) (p2 := 39) (by decide) rfl ⟨by omega, by omega⟩ (fun c80600 => ?_) (fun c80600 => ?_))
      · exfalso
        omega
      · refine wp_of e157 c157_39 (rw_aload_n (pc' := 40) (v := .ref r0) rfl rfl rfl ?_)
        refine wp_of e157 c157_40 (rw_iload_n (pc' := 41) (z := z80598) rfl rfl ?_)
        refine wp_of e157 c157_41 (xc_V (pc' := 44) (r := r0) (as := [vI z80598]) (st := []) (lm_0_70) rfl rfl (Nat.le_of_ble_eq_true rfl) hW g0 sh_1 (by decide) rfl (by decide) (s_12 hW g0 ⟨by omega, by omega⟩) (fun R80601 T80602 H80603 p80604 => ?_))
        obtain ⟨e80605, w80607, f80608, z80610, e80606, b80611, p80609⟩ := p80604
        subst e80605
        subst e80606
        have f80612 := f0.tr f80608 rfl
        show wp _ _ 157 44 [(3, vI z80598), (0, .ref r0), (1, vI a1), (2, vI a2)] [vI z80610] _ H80603 _
        exact wp_ireturn e157 c157_44 rfl ⟨rfl, w80607, f80612, z80610, rfl, ⟨by omega, by omega⟩, by omega⟩
    · refine wp_of e157 c157_13 (rw_iload_n (pc' := 14) (z := a1) rfl rfl ?_)
      refine wp_of e157 c157_14 (rw_i2l (pc' := 15) rfl ⟨by omega, by omega⟩ ?_)
      refine wp_of e157 c157_15 (rw_aload_n (pc' := 16) (v := .ref r0) rfl rfl rfl ?_)
      refine wp_of e157 c157_16 (xg_R (pc' := 19) lf_0_51 hW g0 sh_1 (by decide) (by decide) ty_1_6 rfl rfl (fun r80613 q80614 g80615 => ?_))
      refine wp_of e157 c157_19 (xg_L (pc' := 22) lf_0_141 hW g80615 sh_27 (by decide) (by decide) ty_27_18 rfl rfl (fun b80616 b80617 => ?_))
      refine wp_of e157 c157_22 (rw_lcmp (pc' := 23) rfl ⟨by omega, by omega⟩ ⟨by omega, by omega⟩ ?_)
      have b80618 := wq_cmp_b a1 (H r80613 18)
      refine wp_of e157 c157_23 (rw_if_ge (p1 := 30) (p2 := 26) (by decide) rfl ⟨by omega, by omega⟩ (fun c80619 => ?_) (fun c80619 => ?_))
      · refine wp_of e157 c157_30 (rw_iconst (pc' := 31) rfl ?_)
        refine wp_of e157 c157_31 (xc_V (pc' := 34) (r := r0) (as := [vI 0]) (st := []) (lm_0_245) rfl rfl (Nat.le_of_ble_eq_true rfl) hW g0 sh_1 (by decide) rfl (by decide) (s_84 hW g0 ⟨by omega, by omega⟩) (fun R80620 T80621 H80622 p80623 => ?_))
        obtain ⟨e80624, e80626, z80629, e80625, b80630, p80627, p80628⟩ := p80623
        subst e80624
        subst e80625
        subst e80626
        show wp _ _ 157 34 [(0, .ref r0), (1, vI a1), (2, vI a2)] [vI z80629] _ H _
        refine wp_of e157 c157_34 (rw_istore_n (pc' := 35) (z := z80629) (L' := [(3, vI z80629), (0, .ref r0), (1, vI a1), (2, vI a2)]) rfl rfl rfl ?_)
        refine wp_of e157 c157_35 (rw_iload_n (pc' := 36) (z := z80629) rfl rfl ?_)
        refine wp_of e157 c157_36 (rw_if_eq (p1 := 45) (p2 := 39) (by decide) rfl ⟨by omega, by omega⟩ (fun c80631 => ?_) (fun c80631 => ?_))
        · exfalso
          omega
        · refine wp_of e157 c157_39 (rw_aload_n (pc' := 40) (v := .ref r0) rfl rfl rfl ?_)
          refine wp_of e157 c157_40 (rw_iload_n (pc' := 41) (z := z80629) rfl rfl ?_)
          refine wp_of e157 c157_41 (xc_V (pc' := 44) (r := r0) (as := [vI z80629]) (st := []) (lm_0_70) rfl rfl (Nat.le_of_ble_eq_true rfl) hW g0 sh_1 (by decide) rfl (by decide) (s_12 hW g0 ⟨by omega, by omega⟩) (fun R80632 T80633 H80634 p80635 => ?_))
          obtain ⟨e80636, w80638, f80639, z80641, e80637, b80642, p80640⟩ := p80635
          subst e80636
          subst e80637
          have f80643 := f0.tr f80639 rfl
          show wp _ _ 157 44 [(3, vI z80629), (0, .ref r0), (1, vI a1), (2, vI a2)] [vI z80641] _ H80634 _
          exact wp_ireturn e157 c157_44 rfl ⟨rfl, w80638, f80643, z80641, rfl, ⟨by omega, by omega⟩, by omega⟩
      · refine wp_of e157 c157_26 (rw_iconst (pc' := 27) rfl ?_)
        refine wp_of e157 c157_27 (rw_goto (p1 := 31) (by decide) ?_)
        refine wp_of e157 c157_31 (xc_V (pc' := 34) (r := r0) (as := [vI 1]) (st := []) (lm_0_245) rfl rfl (Nat.le_of_ble_eq_true rfl) hW g0 sh_1 (by decide) rfl (by decide) (s_84 hW g0 ⟨by omega, by omega⟩) (fun R80644 T80645 H80646 p80647 => ?_))
        obtain ⟨e80648, e80650, z80653, e80649, b80654, p80651, p80652⟩ := p80647
        subst e80648
        subst e80649
        subst e80650
        show wp _ _ 157 34 [(0, .ref r0), (1, vI a1), (2, vI a2)] [vI z80653] _ H _
        refine wp_of e157 c157_34 (rw_istore_n (pc' := 35) (z := z80653) (L' := [(3, vI z80653), (0, .ref r0), (1, vI a1), (2, vI a2)]) rfl rfl rfl ?_)
        refine wp_of e157 c157_35 (rw_iload_n (pc' := 36) (z := z80653) rfl rfl ?_)
        refine wp_of e157 c157_36 (rw_if_eq (p1 := 45) (p2 := 39) (by decide) rfl ⟨by omega, by omega⟩ (fun c80655 => ?_) (fun c80655 => ?_))
        · refine wp_of e157 c157_45 (rw_aload_n (pc' := 46) (v := .ref r0) rfl rfl rfl ?_)
          refine wp_of e157 c157_46 (rw_aload_n (pc' := 47) (v := .ref r0) rfl rfl rfl ?_)
          refine wp_of e157 c157_47 (xg_K (pc' := 50) lf_0_51 hW g0 sh_1 (by decide) (by decide) rfl q80614 rfl ?_)
          refine wp_of e157 c157_50 (rw_iload_n (pc' := 51) (z := a1) rfl rfl ?_)
          refine wp_of e157 c157_51 (rw_iload_n (pc' := 52) (z := a2) rfl rfl ?_)
          refine wp_of e157 c157_52 (xc_V (pc' := 55) (r := r80613) (as := [vI a1, vI a2]) (st := [.ref r0]) (lm_0_183) rfl rfl (Nat.le_of_ble_eq_true rfl) hW g80615 sh_27 (by decide) rfl (by decide) (s_96 hW g80615 ⟨by omega, by omega⟩ ⟨by omega, by omega⟩) (fun R80656 T80657 H80658 p80659 => ?_))
          obtain ⟨e80660, e80662, z80663, e80661, b80664⟩ := p80659
          subst e80660
          subst e80661
          subst e80662
          show wp _ _ 157 55 [(3, vI z80653), (0, .ref r0), (1, vI a1), (2, vI a2)] [vI z80663, .ref r0] _ H _
          refine wp_of e157 c157_55 (xc_V (pc' := 58) (r := r0) (as := [vI z80663]) (st := []) (lm_0_99) rfl rfl (Nat.le_of_ble_eq_true rfl) hW g0 sh_1 (by decide) rfl (by decide) (s_51 hW g0 ⟨by omega, by omega⟩) (fun R80665 T80666 H80667 p80668 => ?_))
          obtain ⟨e80669, w80671, f80672, z80674, e80670, b80675, p80673⟩ := p80668
          subst e80669
          subst e80670
          have f80676 := f0.tr f80672 rfl
          show wp _ _ 157 58 [(3, vI z80653), (0, .ref r0), (1, vI a1), (2, vI a2)] [vI z80674] _ H80667 _
          exact wp_ireturn e157 c157_58 rfl ⟨rfl, w80671, f80676, z80674, rfl, ⟨by omega, by omega⟩, by omega⟩
        · refine wp_of e157 c157_39 (rw_aload_n (pc' := 40) (v := .ref r0) rfl rfl rfl ?_)
          refine wp_of e157 c157_40 (rw_iload_n (pc' := 41) (z := z80653) rfl rfl ?_)
          refine wp_of e157 c157_41 (xc_V (pc' := 44) (r := r0) (as := [vI z80653]) (st := []) (lm_0_70) rfl rfl (Nat.le_of_ble_eq_true rfl) hW g0 sh_1 (by decide) rfl (by decide) (s_12 hW g0 ⟨by omega, by omega⟩) (fun R80677 T80678 H80679 p80680 => ?_))
          obtain ⟨e80681, w80683, f80684, z80686, e80682, b80687, p80685⟩ := p80680
          subst e80681
          subst e80682
          have f80688 := f0.tr f80684 rfl
          show wp _ _ 157 44 [(3, vI z80653), (0, .ref r0), (1, vI a1), (2, vI a2)] [vI z80686] _ H80679 _
          exact wp_ireturn e157 c157_44 rfl ⟨rfl, w80683, f80688, z80686, rfl, ⟨by omega, by omega⟩, by omega⟩
/-! StrikeAwake.again()Z -/
theorem e158 : wq_en 158 = some (0, 1, false, some FieldType.boolean) := rfl
theorem c158_0 : mc_cd 158 0 = some (.aload_n 0, 1) := by decide +kernel
theorem c158_1 : mc_cd 158 1 = some (.getfield 58, 3) := by decide +kernel
theorem c158_4 : mc_cd 158 4 = some (.ifCond .ne 9, 3) := by decide +kernel
theorem c158_7 : mc_cd 158 7 = some (.aload_n 0, 1) := by decide +kernel
theorem c158_8 : mc_cd 158 8 = some (.iconst 1, 1) := by decide +kernel
theorem c158_9 : mc_cd 158 9 = some (.invokevirtual 145, 3) := by decide +kernel
theorem c158_12 : mc_cd 158 12 = some (.ireturn, 1) := by decide +kernel
theorem c158_13 : mc_cd 158 13 = some (.aload_n 0, 1) := by decide +kernel
theorem c158_14 : mc_cd 158 14 = some (.getfield 51, 3) := by decide +kernel
theorem c158_17 : mc_cd 158 17 = some (.iconst 0, 1) := by decide +kernel
theorem c158_18 : mc_cd 158 18 = some (.putfield 298, 3) := by decide +kernel
theorem c158_21 : mc_cd 158 21 = some (.aload_n 0, 1) := by decide +kernel
theorem c158_22 : mc_cd 158 22 = some (.invokevirtual 151, 3) := by decide +kernel
theorem c158_25 : mc_cd 158 25 = some (.ireturn, 1) := by decide +kernel
abbrev q_158 (r0 : Nat) (T : wq_T) (H : wq_H) : Option Value → wq_T → wq_H → Prop := fun r T' H' => T = T' ∧ WT T H' ∧ wfr [(27, 17), (1, 10)] T H H' ∧ ∃ z : Int, some (vI z) = r ∧ (0 ≤ z ∧ z ≤ 1) ∧ (H' r0 10 ≠ 4)
set_option maxHeartbeats 4000000 in
theorem s_158 {kt : Nat → Option mc_E} {T : wq_T} {H : wq_H} {r0 : Nat} (hW : WT T H) (g0 : T.2.2.2 r0 = some 1) : wpc kt 2 158 [.ref r0] T H (q_158 r0 T H) := by
  refine wp_enter e158 (Nat.le_of_ble_eq_true rfl) rfl ?_
  have f0 : wfr [(27, 17), (1, 10)] T H H := wfr.rf
  show wp _ _ 158 0 [(0, .ref r0)] [] _ H _
  refine wp_of e158 c158_0 (rw_aload_n (pc' := 1) (v := .ref r0) rfl rfl rfl ?_)
  refine wp_of e158 c158_1 (xg_I (pc' := 4) lf_0_58 hW g0 sh_1 (by decide) (by decide) ty_1_8 rfl rfl (fun b80724 b80725 => ?_))
  refine wp_of e158 c158_4 (rw_if_ne (p1 := 13) (p2 := 7) (by decide) rfl ⟨by omega, by omega⟩ (fun c80726 => ?_) (fun c80726 => ?_))
  · refine wp_of e158 c158_13 (rw_aload_n (pc' := 14) (v := .ref r0) rfl rfl rfl ?_)
    refine wp_of e158 c158_14 (xg_R (pc' := 17) lf_0_51 hW g0 sh_1 (by decide) (by decide) ty_1_6 rfl rfl (fun r80727 q80728 g80729 => ?_))
    refine wp_of e158 c158_17 (rw_iconst (pc' := 18) rfl ?_)
    refine wp_of e158 c158_18 (xp_I (pc' := 21) lf_0_298 hW g80729 sh_27 (by decide) (by decide) ty_27_17 rfl rfl (by omega) (by omega) ⟨by omega, by omega⟩ rfl (fun H80730 e80731 w80732 => ?_))
    have f80733 := f0.put' e80731 g80729 rfl
    have k80734 : H80730 r80727 17 = 0 := wq_u_s e80731
    refine wp_of e158 c158_21 (rw_aload_n (pc' := 22) (v := .ref r0) rfl rfl rfl ?_)
    refine wp_of e158 c158_22 (xc_V (pc' := 25) (r := r0) (as := []) (st := []) (lm_0_151) rfl rfl (Nat.le_of_ble_eq_true rfl) w80732 g0 sh_1 (by decide) rfl (by decide) (s_64 w80732 g0) (fun R80735 T80736 H80737 p80738 => ?_))
    obtain ⟨e80739, w80741, f80742, z80744, e80740, b80745, p80743⟩ := p80738
    subst e80739
    subst e80740
    have f80746 := f80733.tr f80742 rfl
    show wp _ _ 158 25 [(0, .ref r0)] [vI z80744] _ H80737 _
    exact wp_zreturn e158 c158_25 rfl (by omega) ⟨rfl, w80741, f80746, z80744, rfl, ⟨by omega, by omega⟩, by omega⟩
  · refine wp_of e158 c158_7 (rw_aload_n (pc' := 8) (v := .ref r0) rfl rfl rfl ?_)
    refine wp_of e158 c158_8 (rw_iconst (pc' := 9) rfl ?_)
    refine wp_of e158 c158_9 (xc_V (pc' := 12) (r := r0) (as := [vI 1]) (st := []) (lm_0_145) rfl rfl (Nat.le_of_ble_eq_true rfl) hW g0 sh_1 (by decide) rfl (by decide) (s_63 hW g0 ⟨by omega, by omega⟩) (fun R80747 T80748 H80749 p80750 => ?_))
    obtain ⟨e80751, w80753, f80754, z80756, e80752, b80757, p80755⟩ := p80750
    subst e80751
    subst e80752
    have f80758 := f0.tr f80754 rfl
    show wp _ _ 158 12 [(0, .ref r0)] [vI z80756] _ H80749 _
    exact wp_zreturn e158 c158_12 rfl (by omega) ⟨rfl, w80753, f80758, z80756, rfl, ⟨by omega, by omega⟩, by omega⟩
/-! StrikeAwake$Parish.picture()J -/
theorem e160 : wq_en 160 = some (7, 4, false, some FieldType.long) := rfl
theorem c160_0 : mc_cd 160 0 = some (.aload_n 0, 1) := by decide +kernel
theorem c160_1 : mc_cd 160 1 = some (.getfield 68, 3) := by decide +kernel
theorem c160_4 : mc_cd 160 4 = some (.i2l, 1) := by decide +kernel
theorem c160_5 : mc_cd 160 5 = some (.lstore_n 1, 1) := by decide +kernel
theorem c160_6 : mc_cd 160 6 = some (.iconst 0, 1) := by decide +kernel
theorem c160_7 : mc_cd 160 7 = some (.istore_n 3, 1) := by decide +kernel
theorem c160_8 : mc_cd 160 8 = some (.iload_n 3, 1) := by decide +kernel
theorem c160_9 : mc_cd 160 9 = some (.aload_n 0, 1) := by decide +kernel
theorem c160_10 : mc_cd 160 10 = some (.getfield 50, 3) := by decide +kernel
theorem c160_13 : mc_cd 160 13 = some (.if_icmp .ge 26, 3) := by decide +kernel
theorem c160_16 : mc_cd 160 16 = some (.lload_n 1, 1) := by decide +kernel
theorem c160_17 : mc_cd 160 17 = some (.ldc2_w 125, 3) := by decide +kernel
theorem c160_20 : mc_cd 160 20 = some (.lmul, 1) := by decide +kernel
theorem c160_21 : mc_cd 160 21 = some (.aload_n 0, 1) := by decide +kernel
theorem c160_22 : mc_cd 160 22 = some (.getfield 11, 3) := by decide +kernel
theorem c160_25 : mc_cd 160 25 = some (.iload_n 3, 1) := by decide +kernel
theorem c160_26 : mc_cd 160 26 = some (.aaload, 1) := by decide +kernel
theorem c160_27 : mc_cd 160 27 = some (.getfield 127, 3) := by decide +kernel
theorem c160_30 : mc_cd 160 30 = some (.i2l, 1) := by decide +kernel
theorem c160_31 : mc_cd 160 31 = some (.ladd, 1) := by decide +kernel
theorem c160_32 : mc_cd 160 32 = some (.lstore_n 1, 1) := by decide +kernel
theorem c160_33 : mc_cd 160 33 = some (.iinc 3 1, 3) := by decide +kernel
theorem c160_36 : mc_cd 160 36 = some (.goto (-28), 3) := by decide +kernel
theorem c160_39 : mc_cd 160 39 = some (.lload_n 1, 1) := by decide +kernel
theorem c160_40 : mc_cd 160 40 = some (.lreturn, 1) := by decide +kernel
abbrev q_160 (r0 : Nat) (T : wq_T) (H : wq_H) : Option Value → wq_T → wq_H → Prop := fun r T' H' => T = T' ∧ H = H' ∧ ∃ z : Int, some (vL z) = r ∧ ((-9223372036854775808) ≤ z ∧ z ≤ 9223372036854775807)
set_option maxHeartbeats 4000000 in
theorem s_160 {kt : Nat → Option mc_E} {T : wq_T} {H : wq_H} {r0 : Nat} (hW : WT T H) (g0 : T.2.2.2 r0 = some 27) : wpc kt 1 160 [.ref r0] T H (q_160 r0 T H) := by
  refine wp_enter e160 (Nat.le_of_ble_eq_true rfl) rfl ?_
  show wp _ _ 160 0 [(0, .ref r0)] [] _ H _
  refine wp_of e160 c160_0 (rw_aload_n (pc' := 1) (v := .ref r0) rfl rfl rfl ?_)
  refine wp_of e160 c160_1 (xg_I (pc' := 4) lf_7_68 hW g0 sh_27 (by decide) (by decide) ty_27_17 rfl rfl (fun b80870 b80871 => ?_))
  refine wp_of e160 c160_4 (rw_i2l (pc' := 5) rfl ⟨by omega, by omega⟩ ?_)
  refine wp_of e160 c160_5 (rw_lstore_n (pc' := 6) (z := H r0 17) (L' := [(1, vL (H r0 17)), (0, .ref r0)]) rfl rfl rfl ?_)
  refine wp_of e160 c160_6 (rw_iconst (pc' := 7) rfl ?_)
  refine wp_of e160 c160_7 (rw_istore_n (pc' := 8) (z := 0) (L' := [(3, vI 0), (1, vL (H r0 17)), (0, .ref r0)]) rfl rfl rfl ?_)
  have lp80965 : ∀ (n80966 : Nat) (v80968 : Int) (v80969 : Int), (0 ≤ v80968 ∧ v80968 ≤ 6) → ((-9223372036854775808) ≤ v80969 ∧ v80969 ≤ 9223372036854775807) → (6 - v80968).toNat = n80966 → wp kt 0 160 8 [(3, vI v80968), (1, vL v80969), (0, .ref r0)] [] T H (q_160 r0 T H) := by
    intro n80966
    induction n80966 using Nat.strongRecOn with
    | _ n80966 ih80967 =>
      intro v80968 v80969 b80972 b80973 m80974
      refine wp_of e160 c160_8 (rw_iload_n (pc' := 9) (z := v80968) rfl rfl ?_)
      refine wp_of e160 c160_9 (rw_aload_n (pc' := 10) (v := .ref r0) rfl rfl rfl ?_)
      refine wp_of e160 c160_10 (xg_I (pc' := 13) lf_7_50 hW g0 sh_27 (by decide) (by decide) ty_27_10 rfl rfl (fun b80975 b80976 => ?_))
      refine wp_of e160 c160_13 (rw_icmp_ge (p1 := 39) (p2 := 16) (by decide) rfl ⟨by omega, by omega⟩ ⟨by omega, by omega⟩ (fun c80977 => ?_) (fun c80977 => ?_))
      · refine wp_of e160 c160_39 (rw_lload_n (pc' := 40) (z := v80969) rfl rfl ?_)
        exact wp_lreturn e160 c160_40 rfl ⟨rfl, rfl, v80969, rfl, ⟨by omega, by omega⟩⟩
      · refine wp_of e160 c160_16 (rw_lload_n (pc' := 17) (z := v80969) rfl rfl ?_)
        refine wp_of e160 c160_17 (rw_ldc2 (pc' := 20) (z := 40) rfl rfl rfl ?_)
        refine wp_of e160 c160_20 (rw_lmulw (pc' := 21) rfl ?_)
        obtain ⟨v80978, e80979⟩ : ∃ x : Int, x = wl_w (v80969 * 40) := ⟨_, rfl⟩
        rw [← e80979]
        have b80980 : -9223372036854775808 ≤ v80978 ∧ v80978 ≤ 9223372036854775807 := by
          rw [e80979]
          exact wL_w _
        refine wp_of e160 c160_21 (rw_aload_n (pc' := 22) (v := .ref r0) rfl rfl rfl ?_)
        refine wp_of e160 c160_22 (xg_R (pc' := 25) lf_7_11 hW g0 sh_27 (by decide) (by decide) ty_27_0 rfl rfl (fun r80981 q80982 g80983 => ?_))
        refine wp_of e160 c160_25 (rw_iload_n (pc' := 26) (z := v80968) rfl rfl ?_)
        refine wp_of e160 c160_26 (xa_R (pc' := 27) (by decide) hW g80983 sh_28 (by decide) (ty_28 _) (by omega) (by omega) rfl (fun r80984 q80985 g80986 => ?_))
        refine wp_of e160 c160_27 (xg_I (pc' := 30) lf_7_127 hW g80986 sh_35 (by decide) (by decide) ty_35_16 rfl rfl (fun b80987 b80988 => ?_))
        refine wp_of e160 c160_30 (rw_i2l (pc' := 31) rfl ⟨by omega, by omega⟩ ?_)
        refine wp_of e160 c160_31 (rw_laddw (pc' := 32) rfl ?_)
        obtain ⟨v80989, e80990⟩ : ∃ x : Int, x = wl_w (v80978 + (H r80984 16)) := ⟨_, rfl⟩
        rw [← e80990]
        have b80991 : -9223372036854775808 ≤ v80989 ∧ v80989 ≤ 9223372036854775807 := by
          rw [e80990]
          exact wL_w _
        refine wp_of e160 c160_32 (rw_lstore_n (pc' := 33) (z := v80989) (L' := [(1, vL v80989), (3, vI v80968), (0, .ref r0)]) rfl rfl rfl ?_)
        refine wp_of e160 c160_33 (rw_iinc (pc' := 36) (z := v80968) (L' := [(3, vI (v80968 + 1)), (1, vL v80989), (0, .ref r0)]) rfl rfl rfl rfl ?_)
        refine wp_of e160 c160_36 (rw_goto (p1 := 8) (by decide) ?_)
        exact wp_lc (ks := [3, 1, 0]) (wl_c rfl (wl_c rfl (wl_c rfl wl_n))) rfl (by decide) (ih80967 _ (by omega) (v80968 + 1) v80989 ⟨by omega, by omega⟩ ⟨by omega, by omega⟩ rfl)
  exact wp_lc (ks := [3, 1, 0]) (wl_c rfl (wl_c rfl (wl_c rfl wl_n))) rfl (by decide) (lp80965 _ 0 (H r0 17) ⟨by omega, by omega⟩ ⟨by omega, by omega⟩ rfl)
/-! StrikeAwake.image()J -/
theorem e159 : wq_en 159 = some (0, 1, false, some FieldType.long) := rfl
theorem c159_0 : mc_cd 159 0 = some (.aload_n 0, 1) := by decide +kernel
theorem c159_1 : mc_cd 159 1 = some (.getfield 58, 3) := by decide +kernel
theorem c159_4 : mc_cd 159 4 = some (.ifCond .ne 10, 3) := by decide +kernel
theorem c159_7 : mc_cd 159 7 = some (.aload_n 0, 1) := by decide +kernel
theorem c159_8 : mc_cd 159 8 = some (.iconst 1, 1) := by decide +kernel
theorem c159_9 : mc_cd 159 9 = some (.invokevirtual 70, 3) := by decide +kernel
theorem c159_12 : mc_cd 159 12 = some (.i2l, 1) := by decide +kernel
theorem c159_13 : mc_cd 159 13 = some (.lreturn, 1) := by decide +kernel
theorem c159_14 : mc_cd 159 14 = some (.aload_n 0, 1) := by decide +kernel
theorem c159_15 : mc_cd 159 15 = some (.iconst 0, 1) := by decide +kernel
theorem c159_16 : mc_cd 159 16 = some (.putfield 102, 3) := by decide +kernel
theorem c159_19 : mc_cd 159 19 = some (.aload_n 0, 1) := by decide +kernel
theorem c159_20 : mc_cd 159 20 = some (.getfield 51, 3) := by decide +kernel
theorem c159_23 : mc_cd 159 23 = some (.invokevirtual 305, 3) := by decide +kernel
theorem c159_26 : mc_cd 159 26 = some (.lreturn, 1) := by decide +kernel
abbrev q_159 (r0 : Nat) (T : wq_T) (H : wq_H) : Option Value → wq_T → wq_H → Prop := fun r T' H' => T = T' ∧ WT T H' ∧ wfr [(1, 10)] T H H' ∧ ∃ z : Int, some (vL z) = r ∧ ((-9223372036854775808) ≤ z ∧ z ≤ 9223372036854775807) ∧ (H' r0 10 ≠ 4)
set_option maxHeartbeats 4000000 in
theorem s_159 {kt : Nat → Option mc_E} {T : wq_T} {H : wq_H} {r0 : Nat} (hW : WT T H) (g0 : T.2.2.2 r0 = some 1) : wpc kt 2 159 [.ref r0] T H (q_159 r0 T H) := by
  refine wp_enter e159 (Nat.le_of_ble_eq_true rfl) rfl ?_
  have f0 : wfr [(1, 10)] T H H := wfr.rf
  show wp _ _ 159 0 [(0, .ref r0)] [] _ H _
  refine wp_of e159 c159_0 (rw_aload_n (pc' := 1) (v := .ref r0) rfl rfl rfl ?_)
  refine wp_of e159 c159_1 (xg_I (pc' := 4) lf_0_58 hW g0 sh_1 (by decide) (by decide) ty_1_8 rfl rfl (fun b81024 b81025 => ?_))
  refine wp_of e159 c159_4 (rw_if_ne (p1 := 14) (p2 := 7) (by decide) rfl ⟨by omega, by omega⟩ (fun c81026 => ?_) (fun c81026 => ?_))
  · refine wp_of e159 c159_14 (rw_aload_n (pc' := 15) (v := .ref r0) rfl rfl rfl ?_)
    refine wp_of e159 c159_15 (rw_iconst (pc' := 16) rfl ?_)
    refine wp_of e159 c159_16 (xp_I (pc' := 19) lf_0_102 hW g0 sh_1 (by decide) (by decide) ty_1_10 rfl rfl (by omega) (by omega) ⟨by omega, by omega⟩ rfl (fun H81027 e81028 w81029 => ?_))
    have f81030 := f0.put' e81028 g0 rfl
    have k81031 : H81027 r0 10 = 0 := wq_u_s e81028
    refine wp_of e159 c159_19 (rw_aload_n (pc' := 20) (v := .ref r0) rfl rfl rfl ?_)
    refine wp_of e159 c159_20 (xg_R (pc' := 23) lf_0_51 w81029 g0 sh_1 (by decide) (by decide) ty_1_6 rfl rfl (fun r81032 q81033 g81034 => ?_))
    refine wp_of e159 c159_23 (xc_V (pc' := 26) (r := r81032) (as := []) (st := []) (lm_0_305) rfl rfl (Nat.le_of_ble_eq_true rfl) w81029 g81034 sh_27 (by decide) rfl (by decide) (s_160 w81029 g81034) (fun R81035 T81036 H81037 p81038 => ?_))
    obtain ⟨e81039, e81041, z81042, e81040, b81043⟩ := p81038
    subst e81039
    subst e81040
    subst e81041
    show wp _ _ 159 26 [(0, .ref r0)] [vL z81042] _ H81027 _
    exact wp_lreturn e159 c159_26 rfl ⟨rfl, w81029, f81030, z81042, rfl, ⟨by omega, by omega⟩, by omega⟩
  · refine wp_of e159 c159_7 (rw_aload_n (pc' := 8) (v := .ref r0) rfl rfl rfl ?_)
    refine wp_of e159 c159_8 (rw_iconst (pc' := 9) rfl ?_)
    refine wp_of e159 c159_9 (xc_V (pc' := 12) (r := r0) (as := [vI 1]) (st := []) (lm_0_70) rfl rfl (Nat.le_of_ble_eq_true rfl) hW g0 sh_1 (by decide) rfl (by decide) (s_12 hW g0 ⟨by omega, by omega⟩) (fun R81044 T81045 H81046 p81047 => ?_))
    obtain ⟨e81048, w81050, f81051, z81053, e81049, b81054, p81052⟩ := p81047
    subst e81048
    subst e81049
    have f81055 := f0.tr f81051 rfl
    show wp _ _ 159 12 [(0, .ref r0)] [vI z81053] _ H81046 _
    refine wp_of e159 c159_12 (rw_i2l (pc' := 13) rfl ⟨by omega, by omega⟩ ?_)
    exact wp_lreturn e159 c159_13 rfl ⟨rfl, w81050, f81055, z81053, rfl, ⟨by omega, by omega⟩, by omega⟩
/-! StrikeAwake$Parish.isPicture(J)Z -/
theorem e162 : wq_en 162 = some (7, 8, false, some FieldType.boolean) := rfl
theorem c162_0 : mc_cd 162 0 = some (.lload_n 1, 1) := by decide +kernel
theorem c162_1 : mc_cd 162 1 = some (.lstore_n 3, 1) := by decide +kernel
theorem c162_2 : mc_cd 162 2 = some (.aload_n 0, 1) := by decide +kernel
theorem c162_3 : mc_cd 162 3 = some (.getfield 50, 3) := by decide +kernel
theorem c162_6 : mc_cd 162 6 = some (.iconst 1, 1) := by decide +kernel
theorem c162_7 : mc_cd 162 7 = some (.isub, 1) := by decide +kernel
theorem c162_8 : mc_cd 162 8 = some (.istore 5, 2) := by decide +kernel
theorem c162_10 : mc_cd 162 10 = some (.iload 5, 2) := by decide +kernel
theorem c162_12 : mc_cd 162 12 = some (.ifCond .lt 48, 3) := by decide +kernel
theorem c162_15 : mc_cd 162 15 = some (.lload_n 3, 1) := by decide +kernel
theorem c162_16 : mc_cd 162 16 = some (.ldc2_w 125, 3) := by decide +kernel
theorem c162_19 : mc_cd 162 19 = some (.lrem, 1) := by decide +kernel
theorem c162_20 : mc_cd 162 20 = some (.lstore 6, 2) := by decide +kernel
theorem c162_22 : mc_cd 162 22 = some (.lload 6, 2) := by decide +kernel
theorem c162_24 : mc_cd 162 24 = some (.lconst 0, 1) := by decide +kernel
theorem c162_25 : mc_cd 162 25 = some (.lcmp, 1) := by decide +kernel
theorem c162_26 : mc_cd 162 26 = some (.ifCond .eq 22, 3) := by decide +kernel
theorem c162_29 : mc_cd 162 29 = some (.lload 6, 2) := by decide +kernel
theorem c162_31 : mc_cd 162 31 = some (.aload_n 0, 1) := by decide +kernel
theorem c162_32 : mc_cd 162 32 = some (.getfield 11, 3) := by decide +kernel
theorem c162_35 : mc_cd 162 35 = some (.iload 5, 2) := by decide +kernel
theorem c162_37 : mc_cd 162 37 = some (.aaload, 1) := by decide +kernel
theorem c162_38 : mc_cd 162 38 = some (.getfield 110, 3) := by decide +kernel
theorem c162_41 : mc_cd 162 41 = some (.i2l, 1) := by decide +kernel
theorem c162_42 : mc_cd 162 42 = some (.lcmp, 1) := by decide +kernel
theorem c162_43 : mc_cd 162 43 = some (.ifCond .lt 5, 3) := by decide +kernel
theorem c162_46 : mc_cd 162 46 = some (.iconst 0, 1) := by decide +kernel
theorem c162_47 : mc_cd 162 47 = some (.ireturn, 1) := by decide +kernel
theorem c162_48 : mc_cd 162 48 = some (.lload_n 3, 1) := by decide +kernel
theorem c162_49 : mc_cd 162 49 = some (.ldc2_w 125, 3) := by decide +kernel
theorem c162_52 : mc_cd 162 52 = some (.ldiv, 1) := by decide +kernel
theorem c162_53 : mc_cd 162 53 = some (.lstore_n 3, 1) := by decide +kernel
theorem c162_54 : mc_cd 162 54 = some (.iinc 5 (-1), 3) := by decide +kernel
theorem c162_57 : mc_cd 162 57 = some (.goto (-47), 3) := by decide +kernel
theorem c162_60 : mc_cd 162 60 = some (.lload_n 1, 1) := by decide +kernel
theorem c162_61 : mc_cd 162 61 = some (.lconst 0, 1) := by decide +kernel
theorem c162_62 : mc_cd 162 62 = some (.lcmp, 1) := by decide +kernel
theorem c162_63 : mc_cd 162 63 = some (.ifCond .lt 15, 3) := by decide +kernel
theorem c162_66 : mc_cd 162 66 = some (.lload_n 3, 1) := by decide +kernel
theorem c162_67 : mc_cd 162 67 = some (.ldc2_w 130, 3) := by decide +kernel
theorem c162_70 : mc_cd 162 70 = some (.lcmp, 1) := by decide +kernel
theorem c162_71 : mc_cd 162 71 = some (.ifCond .gt 7, 3) := by decide +kernel
theorem c162_74 : mc_cd 162 74 = some (.iconst 1, 1) := by decide +kernel
theorem c162_75 : mc_cd 162 75 = some (.goto 4, 3) := by decide +kernel
theorem c162_78 : mc_cd 162 78 = some (.iconst 0, 1) := by decide +kernel
theorem c162_79 : mc_cd 162 79 = some (.ireturn, 1) := by decide +kernel
abbrev q_162 (r0 : Nat) (a1 : Int) (T : wq_T) (H : wq_H) : Option Value → wq_T → wq_H → Prop := fun r T' H' => T = T' ∧ H = H' ∧ ∃ z : Int, some (vI z) = r ∧ (0 ≤ z ∧ z ≤ 1) ∧ (z = 0 ∨ (0 ≤ a1 ∧ wdv (H r0 10).toNat a1 ≤ 20000))
set_option maxHeartbeats 4000000 in
theorem s_162 {kt : Nat → Option mc_E} {T : wq_T} {H : wq_H} {r0 : Nat} {a1 : Int} (hW : WT T H) (g0 : T.2.2.2 r0 = some 27) (i1 : (-9223372036854775808) ≤ a1 ∧ a1 ≤ 9223372036854775807) : wpc kt 1 162 [.ref r0, vL a1] T H (q_162 r0 a1 T H) := by
  refine wp_enter e162 (Nat.le_of_ble_eq_true rfl) rfl ?_
  show wp _ _ 162 0 [(0, .ref r0), (1, vL a1)] [] _ H _
  refine wp_of e162 c162_0 (rw_lload_n (pc' := 1) (z := a1) rfl rfl ?_)
  refine wp_of e162 c162_1 (rw_lstore_n (pc' := 2) (z := a1) (L' := [(3, vL a1), (0, .ref r0), (1, vL a1)]) rfl rfl rfl ?_)
  refine wp_of e162 c162_2 (rw_aload_n (pc' := 3) (v := .ref r0) rfl rfl rfl ?_)
  refine wp_of e162 c162_3 (xg_I (pc' := 6) lf_7_50 hW g0 sh_27 (by decide) (by decide) ty_27_10 rfl rfl (fun b81101 b81102 => ?_))
  refine wp_of e162 c162_6 (rw_iconst (pc' := 7) rfl ?_)
  refine wp_of e162 c162_7 (rw_isub (pc' := 8) rfl ?_)
  refine wp_of e162 c162_8 (rw_istore (pc' := 10) (z := (H r0 10) - 1) (L' := [(5, vI ((H r0 10) - 1)), (3, vL a1), (0, .ref r0), (1, vL a1)]) rfl rfl rfl ?_)
  have lp81122 : ∀ (n81123 : Nat) (v81125 : Int) (v81126 : Int), ((-1) ≤ v81125 ∧ v81125 ≤ 5) → ((-9223372036854775808) ≤ v81126 ∧ v81126 ≤ 9223372036854775807) → (v81125 ≤ H r0 10 - 1) → (a1 < 0 ∨ (0 ≤ v81126 ∧ v81126 = wdv (H r0 10 - 1 - v81125).toNat a1)) → (v81125 - (-1)).toNat = n81123 → wp kt 0 162 10 [(5, vI v81125), (3, vL v81126), (0, .ref r0), (1, vL a1)] [] T H (q_162 r0 a1 T H) := by
    intro n81123
    induction n81123 using Nat.strongRecOn with
    | _ n81123 ih81124 =>
      intro v81125 v81126 b81129 b81130 x81131 x81132 m81133
      have hx : v81125 = -1 → wdv (H r0 10 - 1 - v81125).toNat a1 = wdv (H r0 10).toNat a1 := fun q => by rw [show (H r0 10 - 1 - v81125).toNat = (H r0 10).toNat by omega]
      refine wp_of e162 c162_10 (rw_iload (pc' := 12) (z := v81125) rfl rfl ?_)
      refine wp_of e162 c162_12 (rw_if_lt (p1 := 60) (p2 := 15) (by decide) rfl ⟨by omega, by omega⟩ (fun c81134 => ?_) (fun c81134 => ?_))
      · refine wp_of e162 c162_60 (rw_lload_n (pc' := 61) (z := a1) rfl rfl ?_)
        refine wp_of e162 c162_61 (rw_lconst (pc' := 62) (z := 0) rfl rfl ?_)
        refine wp_of e162 c162_62 (rw_lcmp (pc' := 63) rfl ⟨by omega, by omega⟩ ⟨by omega, by omega⟩ ?_)
        have b81135 := wq_cmp_b a1 0
        refine wp_of e162 c162_63 (rw_if_lt (p1 := 78) (p2 := 66) (by decide) rfl ⟨by omega, by omega⟩ (fun c81136 => ?_) (fun c81136 => ?_))
        · refine wp_of e162 c162_78 (rw_iconst (pc' := 79) rfl ?_)
          exact wp_zreturn e162 c162_79 rfl (by omega) ⟨rfl, rfl, 0, rfl, ⟨by omega, by omega⟩, by omega⟩
        · refine wp_of e162 c162_66 (rw_lload_n (pc' := 67) (z := v81126) rfl rfl ?_)
          refine wp_of e162 c162_67 (rw_ldc2 (pc' := 70) (z := 20000) rfl rfl rfl ?_)
          refine wp_of e162 c162_70 (rw_lcmp (pc' := 71) rfl ⟨by omega, by omega⟩ ⟨by omega, by omega⟩ ?_)
          have b81137 := wq_cmp_b v81126 20000
          refine wp_of e162 c162_71 (rw_if_gt (p1 := 78) (p2 := 74) (by decide) rfl ⟨by omega, by omega⟩ (fun c81138 => ?_) (fun c81138 => ?_))
          · refine wp_of e162 c162_78 (rw_iconst (pc' := 79) rfl ?_)
            exact wp_zreturn e162 c162_79 rfl (by omega) ⟨rfl, rfl, 0, rfl, ⟨by omega, by omega⟩, by omega⟩
          · refine wp_of e162 c162_74 (rw_iconst (pc' := 75) rfl ?_)
            refine wp_of e162 c162_75 (rw_goto (p1 := 79) (by decide) ?_)
            exact wp_zreturn e162 c162_79 rfl (by omega) ⟨rfl, rfl, 1, rfl, ⟨by omega, by omega⟩, by omega⟩
      · refine wp_of e162 c162_15 (rw_lload_n (pc' := 16) (z := v81126) rfl rfl ?_)
        refine wp_of e162 c162_16 (rw_ldc2 (pc' := 19) (z := 40) rfl rfl rfl ?_)
        refine wp_of e162 c162_19 (rw_lrem (pc' := 20) rfl ⟨by omega, by omega⟩ (by omega) ?_)
        obtain ⟨v81139, e81140⟩ : ∃ x : Int, x = wl_rem v81126 40 := ⟨_, rfl⟩
        rw [← e81140]
        have b81141 : -9223372036854775808 ≤ v81139 ∧ v81139 ≤ 9223372036854775807 := by
          rw [e81140]
          exact wL_rem _ _
        have b81142 : v81126 < 0 ∨ v81139 = v81126 % 40 := by
          rw [e81140]
          exact wl_rem_or ⟨by omega, by omega⟩ ⟨by omega, by omega⟩
        refine wp_of e162 c162_20 (rw_lstore (pc' := 22) (z := v81139) (L' := [(6, vL v81139), (5, vI v81125), (3, vL v81126), (0, .ref r0), (1, vL a1)]) rfl rfl rfl ?_)
        refine wp_of e162 c162_22 (rw_lload (pc' := 24) (z := v81139) rfl rfl ?_)
        refine wp_of e162 c162_24 (rw_lconst (pc' := 25) (z := 0) rfl rfl ?_)
        refine wp_of e162 c162_25 (rw_lcmp (pc' := 26) rfl ⟨by omega, by omega⟩ ⟨by omega, by omega⟩ ?_)
        have b81143 := wq_cmp_b v81139 0
        refine wp_of e162 c162_26 (rw_if_eq (p1 := 48) (p2 := 29) (by decide) rfl ⟨by omega, by omega⟩ (fun c81144 => ?_) (fun c81144 => ?_))
        · refine wp_of e162 c162_48 (rw_lload_n (pc' := 49) (z := v81126) rfl rfl ?_)
          refine wp_of e162 c162_49 (rw_ldc2 (pc' := 52) (z := 40) rfl rfl rfl ?_)
          refine wp_of e162 c162_52 (rw_ldiv (pc' := 53) rfl ⟨by omega, by omega⟩ (by omega) ?_)
          obtain ⟨v81145, e81146⟩ : ∃ x : Int, x = wl_div v81126 40 := ⟨_, rfl⟩
          rw [← e81146]
          have b81147 : -9223372036854775808 ≤ v81145 ∧ v81145 ≤ 9223372036854775807 := by
            rw [e81146]
            exact wL_div _ _
          have b81148 : v81126 < 0 ∨ v81145 = v81126 / 40 := by
            rw [e81146]
            exact wl_div_or ⟨by omega, by omega⟩ ⟨by omega, by omega⟩
          refine wp_of e162 c162_53 (rw_lstore_n (pc' := 54) (z := v81145) (L' := [(3, vL v81145), (6, vL v81139), (5, vI v81125), (0, .ref r0), (1, vL a1)]) rfl rfl rfl ?_)
          refine wp_of e162 c162_54 (rw_iinc (pc' := 57) (z := v81125) (L' := [(5, vI (v81125 + (-1))), (3, vL v81145), (6, vL v81139), (0, .ref r0), (1, vL a1)]) rfl rfl rfl rfl ?_)
          refine wp_of e162 c162_57 (rw_goto (p1 := 10) (by decide) ?_)
          exact wp_lc (ks := [5, 3, 6, 0, 1]) (wl_c rfl (wl_c rfl (wl_c rfl (wl_c rfl wl_n)))) rfl (by decide) (ih81124 _ (by omega) (v81125 + (-1)) v81145 ⟨by omega, by omega⟩ ⟨by omega, by omega⟩ (by omega) (wdv_o (by assumption) (by omega) (by assumption)) rfl)
        · refine wp_of e162 c162_29 (rw_lload (pc' := 31) (z := v81139) rfl rfl ?_)
          refine wp_of e162 c162_31 (rw_aload_n (pc' := 32) (v := .ref r0) rfl rfl rfl ?_)
          refine wp_of e162 c162_32 (xg_R (pc' := 35) lf_7_11 hW g0 sh_27 (by decide) (by decide) ty_27_0 rfl rfl (fun r81149 q81150 g81151 => ?_))
          refine wp_of e162 c162_35 (rw_iload (pc' := 37) (z := v81125) rfl rfl ?_)
          refine wp_of e162 c162_37 (xa_R (pc' := 38) (by decide) hW g81151 sh_28 (by decide) (ty_28 _) (by omega) (by omega) rfl (fun r81152 q81153 g81154 => ?_))
          refine wp_of e162 c162_38 (xg_I (pc' := 41) lf_7_110 hW g81154 sh_35 (by decide) (by decide) ty_35_15 rfl rfl (fun b81155 b81156 => ?_))
          refine wp_of e162 c162_41 (rw_i2l (pc' := 42) rfl ⟨by omega, by omega⟩ ?_)
          refine wp_of e162 c162_42 (rw_lcmp (pc' := 43) rfl ⟨by omega, by omega⟩ ⟨by omega, by omega⟩ ?_)
          have b81157 := wq_cmp_b v81139 (H r81152 15)
          refine wp_of e162 c162_43 (rw_if_lt (p1 := 48) (p2 := 46) (by decide) rfl ⟨by omega, by omega⟩ (fun c81158 => ?_) (fun c81158 => ?_))
          · refine wp_of e162 c162_48 (rw_lload_n (pc' := 49) (z := v81126) rfl rfl ?_)
            refine wp_of e162 c162_49 (rw_ldc2 (pc' := 52) (z := 40) rfl rfl rfl ?_)
            refine wp_of e162 c162_52 (rw_ldiv (pc' := 53) rfl ⟨by omega, by omega⟩ (by omega) ?_)
            obtain ⟨v81159, e81160⟩ : ∃ x : Int, x = wl_div v81126 40 := ⟨_, rfl⟩
            rw [← e81160]
            have b81161 : -9223372036854775808 ≤ v81159 ∧ v81159 ≤ 9223372036854775807 := by
              rw [e81160]
              exact wL_div _ _
            have b81162 : v81126 < 0 ∨ v81159 = v81126 / 40 := by
              rw [e81160]
              exact wl_div_or ⟨by omega, by omega⟩ ⟨by omega, by omega⟩
            refine wp_of e162 c162_53 (rw_lstore_n (pc' := 54) (z := v81159) (L' := [(3, vL v81159), (6, vL v81139), (5, vI v81125), (0, .ref r0), (1, vL a1)]) rfl rfl rfl ?_)
            refine wp_of e162 c162_54 (rw_iinc (pc' := 57) (z := v81125) (L' := [(5, vI (v81125 + (-1))), (3, vL v81159), (6, vL v81139), (0, .ref r0), (1, vL a1)]) rfl rfl rfl rfl ?_)
            refine wp_of e162 c162_57 (rw_goto (p1 := 10) (by decide) ?_)
            exact wp_lc (ks := [5, 3, 6, 0, 1]) (wl_c rfl (wl_c rfl (wl_c rfl (wl_c rfl wl_n)))) rfl (by decide) (ih81124 _ (by omega) (v81125 + (-1)) v81159 ⟨by omega, by omega⟩ ⟨by omega, by omega⟩ (by omega) (wdv_o (by assumption) (by omega) (by assumption)) rfl)
          · refine wp_of e162 c162_46 (rw_iconst (pc' := 47) rfl ?_)
            exact wp_zreturn e162 c162_47 rfl (by omega) ⟨rfl, rfl, 0, rfl, ⟨by omega, by omega⟩, by omega⟩
  exact wp_lc (ks := [5, 3, 0, 1]) (wl_c rfl (wl_c rfl (wl_c rfl (wl_c rfl wl_n)))) rfl (by decide) (lp81122 _ ((H r0 10) - 1) a1 ⟨by omega, by omega⟩ ⟨by omega, by omega⟩ (by omega) (by rw [show (H r0 10 - 1 - (H r0 10 - 1)).toNat = 0 by omega]; exact (Decidable.em (a1 < 0)).imp id (fun h => ⟨by omega, rfl⟩)) rfl)
/-! StrikeAwake$Parish.takePicture(J)V -/
theorem e163 : wq_en 163 = some (7, 6, false, none) := rfl
theorem c163_0 : mc_cd 163 0 = some (.lload_n 1, 1) := by decide +kernel
theorem c163_1 : mc_cd 163 1 = some (.lstore_n 3, 1) := by decide +kernel
theorem c163_2 : mc_cd 163 2 = some (.aload_n 0, 1) := by decide +kernel
theorem c163_3 : mc_cd 163 3 = some (.getfield 50, 3) := by decide +kernel
theorem c163_6 : mc_cd 163 6 = some (.iconst 1, 1) := by decide +kernel
theorem c163_7 : mc_cd 163 7 = some (.isub, 1) := by decide +kernel
theorem c163_8 : mc_cd 163 8 = some (.istore 5, 2) := by decide +kernel
theorem c163_10 : mc_cd 163 10 = some (.iload 5, 2) := by decide +kernel
theorem c163_12 : mc_cd 163 12 = some (.ifCond .lt 31, 3) := by decide +kernel
theorem c163_15 : mc_cd 163 15 = some (.aload_n 0, 1) := by decide +kernel
theorem c163_16 : mc_cd 163 16 = some (.getfield 11, 3) := by decide +kernel
theorem c163_19 : mc_cd 163 19 = some (.iload 5, 2) := by decide +kernel
theorem c163_21 : mc_cd 163 21 = some (.aaload, 1) := by decide +kernel
theorem c163_22 : mc_cd 163 22 = some (.lload_n 3, 1) := by decide +kernel
theorem c163_23 : mc_cd 163 23 = some (.ldc2_w 125, 3) := by decide +kernel
theorem c163_26 : mc_cd 163 26 = some (.lrem, 1) := by decide +kernel
theorem c163_27 : mc_cd 163 27 = some (.l2i, 1) := by decide +kernel
theorem c163_28 : mc_cd 163 28 = some (.putfield 127, 3) := by decide +kernel
theorem c163_31 : mc_cd 163 31 = some (.lload_n 3, 1) := by decide +kernel
theorem c163_32 : mc_cd 163 32 = some (.ldc2_w 125, 3) := by decide +kernel
theorem c163_35 : mc_cd 163 35 = some (.ldiv, 1) := by decide +kernel
theorem c163_36 : mc_cd 163 36 = some (.lstore_n 3, 1) := by decide +kernel
theorem c163_37 : mc_cd 163 37 = some (.iinc 5 (-1), 3) := by decide +kernel
theorem c163_40 : mc_cd 163 40 = some (.goto (-30), 3) := by decide +kernel
theorem c163_43 : mc_cd 163 43 = some (.aload_n 0, 1) := by decide +kernel
theorem c163_44 : mc_cd 163 44 = some (.lload_n 3, 1) := by decide +kernel
theorem c163_45 : mc_cd 163 45 = some (.l2i, 1) := by decide +kernel
theorem c163_46 : mc_cd 163 46 = some (.putfield 68, 3) := by decide +kernel
theorem c163_49 : mc_cd 163 49 = some (.return_, 1) := by decide +kernel
abbrev q_163 (r0 : Nat) (a1 : Int) (T : wq_T) (H : wq_H) : Option Value → wq_T → wq_H → Prop := fun r T' H' => T = T' ∧ WT T H' ∧ wfr [(27, 17), (35, 16)] T H H' ∧ none = r
set_option maxHeartbeats 4000000 in
theorem s_163 {kt : Nat → Option mc_E} {T : wq_T} {H : wq_H} {r0 : Nat} {a1 : Int} (hW : WT T H) (g0 : T.2.2.2 r0 = some 27) (i1 : 0 ≤ a1 ∧ a1 ≤ 9223372036854775807) (p0 : wdv (H r0 10).toNat a1 ≤ 20000) : wpc kt 1 163 [.ref r0, vL a1] T H (q_163 r0 a1 T H) := by
  refine wp_enter e163 (Nat.le_of_ble_eq_true rfl) rfl ?_
  have f0 : wfr [(27, 17), (35, 16)] T H H := wfr.rf
  show wp _ _ 163 0 [(0, .ref r0), (1, vL a1)] [] _ H _
  refine wp_of e163 c163_0 (rw_lload_n (pc' := 1) (z := a1) rfl rfl ?_)
  refine wp_of e163 c163_1 (rw_lstore_n (pc' := 2) (z := a1) (L' := [(3, vL a1), (0, .ref r0), (1, vL a1)]) rfl rfl rfl ?_)
  refine wp_of e163 c163_2 (rw_aload_n (pc' := 3) (v := .ref r0) rfl rfl rfl ?_)
  refine wp_of e163 c163_3 (xg_I (pc' := 6) lf_7_50 hW g0 sh_27 (by decide) (by decide) ty_27_10 rfl rfl (fun b81227 b81228 => ?_))
  refine wp_of e163 c163_6 (rw_iconst (pc' := 7) rfl ?_)
  refine wp_of e163 c163_7 (rw_isub (pc' := 8) rfl ?_)
  refine wp_of e163 c163_8 (rw_istore (pc' := 10) (z := (H r0 10) - 1) (L' := [(5, vI ((H r0 10) - 1)), (3, vL a1), (0, .ref r0), (1, vL a1)]) rfl rfl rfl ?_)
  have lp81265 : ∀ (n81266 : Nat) (v81268 : Int) (v81269 : Int) (H81270 : wq_H), WT T H81270 → wfr [(35, 16)] T H H81270 → ((-1) ≤ v81268 ∧ v81268 ≤ 5) → (0 ≤ v81269 ∧ v81269 ≤ 9223372036854775807) → (v81268 ≤ H81270 r0 10 - 1) → (v81269 = wdv (H81270 r0 10 - 1 - v81268).toNat a1) → (v81268 - (-1)).toNat = n81266 → wp kt 0 163 10 [(5, vI v81268), (3, vL v81269), (0, .ref r0)] [] T H81270 (q_163 r0 a1 T H) := by
    intro n81266
    induction n81266 using Nat.strongRecOn with
    | _ n81266 ih81267 =>
      intro v81268 v81269 H81270 w81271 f81272 b81273 b81274 x81275 x81276 m81277
      have f81278 := f0.tr f81272 rfl
      have k81279 : H81270 r0 10 = H r0 10 := (f81272 r0 10 _ g0 rfl)
      have hx : v81268 = -1 → wdv (H81270 r0 10 - 1 - v81268).toNat a1 = wdv (H r0 10).toNat a1 := fun q => by rw [show (H81270 r0 10 - 1 - v81268).toNat = (H r0 10).toNat by omega]
      refine wp_of e163 c163_10 (rw_iload (pc' := 12) (z := v81268) rfl rfl ?_)
      refine wp_of e163 c163_12 (rw_if_lt (p1 := 43) (p2 := 15) (by decide) rfl ⟨by omega, by omega⟩ (fun c81280 => ?_) (fun c81280 => ?_))
      · refine wp_of e163 c163_43 (rw_aload_n (pc' := 44) (v := .ref r0) rfl rfl rfl ?_)
        refine wp_of e163 c163_44 (rw_lload_n (pc' := 45) (z := v81269) rfl rfl ?_)
        refine wp_of e163 c163_45 (rw_l2i (pc' := 46) rfl ?_)
        obtain ⟨v81281, e81282⟩ : ∃ x : Int, x = wq_w v81269 := ⟨_, rfl⟩
        rw [← e81282]
        have b81283 : -2147483648 ≤ v81281 ∧ v81281 ≤ 2147483647 := by
          rw [e81282]
          exact wI_w _
        have b81284 : (-2147483648 ≤ v81269 ∧ v81269 ≤ 2147483647) → v81281 = v81269 := by
          rw [e81282]
          exact fun h => wq_w_id h
        refine wp_of e163 c163_46 (xp_I (pc' := 49) lf_7_68 w81271 g0 sh_27 (by decide) (by decide) ty_27_17 rfl rfl (by omega) (by omega) ⟨by omega, by omega⟩ rfl (fun H81285 e81286 w81287 => ?_))
        have f81288 := f81278.put' e81286 g0 rfl
        have k81289 : H81285 r0 17 = v81281 := wq_u_s e81286
        exact wp_return e163 c163_49 rfl ⟨rfl, w81287, f81288, rfl⟩
      · refine wp_of e163 c163_15 (rw_aload_n (pc' := 16) (v := .ref r0) rfl rfl rfl ?_)
        refine wp_of e163 c163_16 (xg_R (pc' := 19) lf_7_11 w81271 g0 sh_27 (by decide) (by decide) ty_27_0 rfl rfl (fun r81290 q81291 g81292 => ?_))
        refine wp_of e163 c163_19 (rw_iload (pc' := 21) (z := v81268) rfl rfl ?_)
        refine wp_of e163 c163_21 (xa_R (pc' := 22) (by decide) w81271 g81292 sh_28 (by decide) (ty_28 _) (by omega) (by omega) rfl (fun r81293 q81294 g81295 => ?_))
        refine wp_of e163 c163_22 (rw_lload_n (pc' := 23) (z := v81269) rfl rfl ?_)
        refine wp_of e163 c163_23 (rw_ldc2 (pc' := 26) (z := 40) rfl rfl rfl ?_)
        refine wp_of e163 c163_26 (rw_lrem (pc' := 27) rfl ⟨by omega, by omega⟩ (by omega) ?_)
        obtain ⟨v81296, e81297⟩ : ∃ x : Int, x = wl_rem v81269 40 := ⟨_, rfl⟩
        rw [← e81297]
        have b81298 : v81296 = v81269 % 40 := by
          rw [e81297]
          exact wl_rem_e ⟨by omega, by omega⟩ ⟨by omega, by omega⟩
        refine wp_of e163 c163_27 (rw_l2i (pc' := 28) rfl ?_)
        obtain ⟨v81299, e81300⟩ : ∃ x : Int, x = wq_w v81296 := ⟨_, rfl⟩
        rw [← e81300]
        have b81301 : v81299 = v81296 := by
          rw [e81300]
          exact wq_w_id ⟨by omega, by omega⟩
        refine wp_of e163 c163_28 (xp_I (pc' := 31) lf_7_127 w81271 g81295 sh_35 (by decide) (by decide) ty_35_16 rfl rfl (by omega) (by omega) ⟨by omega, by omega⟩ rfl (fun H81302 e81303 w81304 => ?_))
        have f81305 := f81278.put' e81303 g81295 rfl
        have f81306 := f81272.put' e81303 g81295 rfl
        have k81307 : H81302 r81293 16 = v81299 := wq_u_s e81303
        refine wp_of e163 c163_31 (rw_lload_n (pc' := 32) (z := v81269) rfl rfl ?_)
        refine wp_of e163 c163_32 (rw_ldc2 (pc' := 35) (z := 40) rfl rfl rfl ?_)
        refine wp_of e163 c163_35 (rw_ldiv (pc' := 36) rfl ⟨by omega, by omega⟩ (by omega) ?_)
        obtain ⟨v81308, e81309⟩ : ∃ x : Int, x = wl_div v81269 40 := ⟨_, rfl⟩
        rw [← e81309]
        have b81310 : v81308 = v81269 / 40 := by
          rw [e81309]
          exact wl_div_e ⟨by omega, by omega⟩ ⟨by omega, by omega⟩
        refine wp_of e163 c163_36 (rw_lstore_n (pc' := 37) (z := v81308) (L' := [(3, vL v81308), (5, vI v81268), (0, .ref r0)]) rfl rfl rfl ?_)
        refine wp_of e163 c163_37 (rw_iinc (pc' := 40) (z := v81268) (L' := [(5, vI (v81268 + (-1))), (3, vL v81308), (0, .ref r0)]) rfl rfl rfl rfl ?_)
        refine wp_of e163 c163_40 (rw_goto (p1 := 10) (by decide) ?_)
        have k81311 : H81302 r0 10 = H81270 r0 10 := (wq_u_t e81303 g81295 g0 rfl 10)
        exact wp_lc (ks := [5, 3, 0]) (wl_c rfl (wl_c rfl (wl_c rfl wl_n))) rfl (by decide) (ih81267 _ (by omega) (v81268 + (-1)) v81308 H81302 w81304 f81306 ⟨by omega, by omega⟩ ⟨by omega, by omega⟩ (by omega) (wdv_s (by assumption) (by omega) (by assumption)) rfl)
  exact wp_lc (ks := [5, 3, 0, 1]) (wl_c rfl (wl_c rfl (wl_c rfl wl_n))) rfl (by decide) (lp81265 _ ((H r0 10) - 1) a1 H hW wfr.rf ⟨by omega, by omega⟩ ⟨by omega, by omega⟩ (by omega) (by rw [show (H r0 10 - 1 - (H r0 10 - 1)).toNat = 0 by omega]; rfl) rfl)
