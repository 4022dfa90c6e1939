section
/-! what methods do (own work, written by wip/gen3/sx3.py) -/
/-! StrikeAwakeModel.isStruck(I)Z  -/
abbrev uq_280 (r0 : Nat) (a1 : Int) (e : xD) (d : xD) (T : wq_T) (H : wq_H) : Option Value → wq_T → wq_H → Prop := fun r T' H' => T = T' ∧ H = H' ∧ ∃ z : Int, some (vI z) = r ∧ (0 ≤ z ∧ z ≤ 1) ∧ (((z = 1) ∧ ((0 ≤ a1 ∧ a1 < d 0 0) ∧ H r0 3 ≠ -1) ∧ (e 13 (a1).toNat > 0)) ∨ ((z = 0) ∧ ((a1 < 0 ∨ d 0 0 ≤ a1) ∨ e 13 (a1).toNat ≤ 0)))
set_option maxHeartbeats 4000000 in
theorem u_280 {kt : Nat → Option mc_E} {T : wq_T} {H : wq_H} {r0 : Nat} {a1 : Int} {e : xD} {d : xD} (hW : WT T H) (g0 : T.2.2.2 r0 = some 42) (i1 : (-2147483648) ≤ a1 ∧ a1 ≤ 2147483647) (hRB_r0 : RB T H r0 e d) : wpc kt 2 280 [.ref r0, vI a1] T H (uq_280 r0 a1 e d T H) := by
  refine wp_enter e280 (Nat.le_of_ble_eq_true rfl) rfl ?_
  show wp _ _ 280 0 [(0, .ref r0), (1, vI a1)] [] _ H _
  have _b := RB_b hW hRB_r0
  have _nu := RB_n3 hRB_r0
  refine wp_of e280 c280_0 (rw_aload_n (pc' := 1) (v := .ref r0) rfl rfl rfl ?_)
  refine wp_of e280 c280_1 (rw_iload_n (pc' := 2) (z := a1) rfl rfl ?_)
  refine wp_of e280 c280_2 (xc_V (pc' := 5) (r := r0) (as := [vI a1]) (st := []) (lm_9_373) rfl rfl (Nat.le_of_ble_eq_true rfl) hW g0 sh_42 (by decide) rfl (by decide) (u_218 (e := e) (d := d) hW g0 ⟨i1.1, i1.2⟩ hRB_r0) (fun R1023 T1024 H1025 p1026 => ?_))
  obtain ⟨e1027, e1029, z1030, e1028, b1031, p1032⟩ := p1026
  subst e1027
  subst e1028
  subst e1029
  rcases p1032 with ⟨a1033, a1034⟩ | ⟨a1035, a1036⟩
  · show wp _ _ 280 5 [(0, .ref r0), (1, vI a1)] [vI z1030] _ H _
    refine wp_of e280 c280_5 (rw_if_eq (p1 := 21) (p2 := 8) (by decide) rfl ⟨Int.le_trans (by decide) b1031.1, Int.le_trans b1031.2 (by decide)⟩ (fun c1037 => ?_) (fun c1037 => ?_))
    · exfalso
      omega
    · have _ar := RB_ar hRB_r0 (by omega)
      have _pk := _ar.1
      have h1038 : MN20 T H r0 24 (e 13) := _ar.2.2.1
      refine wp_of e280 c280_8 (rw_aload_n (pc' := 9) (v := .ref r0) rfl rfl rfl ?_)
      refine wp_of e280 c280_9 (xg_R (pc' := 12) lf_9_17 hW g0 sh_42 (by decide) (by decide) ty_42_20 rfl rfl (fun r1039 q1040 g1041 => ?_))
      refine wp_of e280 c280_12 (rw_iload_n (pc' := 13) (z := a1) rfl rfl ?_)
      refine wp_of e280 c280_13 (xa_I (so := 0) (pc' := 14) hW g1041 sh_44 (by decide) (ty_44 _) (by omega) (by omega) rfl (fun b1042 b1043 => ?_))
      have := DA_at h1038 q1040 (k := (a1.toNat)) (by omega)
      refine wp_of e280 c280_14 (rw_if_le (p1 := 21) (p2 := 17) (by decide) rfl ⟨b1042, b1043⟩ (fun c1044 => ?_) (fun c1044 => ?_))
      · refine wp_of e280 c280_21 (rw_iconst (pc' := 22) rfl ?_)
        exact wp_zreturn e280 c280_22 rfl (by omega) ⟨rfl, rfl, 0, rfl, ⟨by decide, by decide⟩, (Or.inr ⟨by omega, by omega⟩)⟩
      · refine wp_of e280 c280_17 (rw_iconst (pc' := 18) rfl ?_)
        refine wp_of e280 c280_18 (rw_goto (p1 := 22) (by decide) ?_)
        exact wp_zreturn e280 c280_22 rfl (by omega) ⟨rfl, rfl, 1, rfl, ⟨by decide, by decide⟩, (Or.inl ⟨by omega, by omega, by omega⟩)⟩
  · show wp _ _ 280 5 [(0, .ref r0), (1, vI a1)] [vI z1030] _ H _
    refine wp_of e280 c280_5 (rw_if_eq (p1 := 21) (p2 := 8) (by decide) rfl ⟨Int.le_trans (by decide) b1031.1, Int.le_trans b1031.2 (by decide)⟩ (fun c1045 => ?_) (fun c1045 => ?_))
    · refine wp_of e280 c280_21 (rw_iconst (pc' := 22) rfl ?_)
      exact wp_zreturn e280 c280_22 rfl (by omega) ⟨rfl, rfl, 0, rfl, ⟨by decide, by decide⟩, (Or.inr ⟨by omega, by omega⟩)⟩
    · exfalso
      omega
/-! StrikeAwakeModel.still(I)Z  -/
abbrev uq_286 (r0 : Nat) (a1 : Int) (e : xD) (d : xD) (y : Int) (T : wq_T) (H : wq_H) : Option Value → wq_T → wq_H → Prop := fun r T' H' => T = T' ∧ WT T H' ∧ wfr [(42, 0), (42, 1), (42, 2), (42, 28), (44, 999)] T H H' ∧ ∃ z : Int, some (vI z) = r ∧ (0 ≤ z ∧ z ≤ 1) ∧ (((z = 1) ∧ (0 ≤ y ∧ y < d 0 0) ∧ (e 13 (y).toNat > 0) ∧ (wKI H' r0 = 1) ∧ (H' r0 28 = 0) ∧ RB T H' r0 (wq_u e 13 (y).toNat 0) d) ∨ ((z = 0) ∧ ((y < 0 ∨ d 0 0 ≤ y) ∨ e 13 (y).toNat ≤ 0) ∧ (wKI H' r0 = 1) ∧ RB T H' r0 e d ∧ KNN T H' r0 e d))
set_option maxHeartbeats 4000000 in
theorem u_286 {kt : Nat → Option mc_E} {T : wq_T} {H : wq_H} {r0 : Nat} {a1 : Int} {e : xD} {d : xD} {y : Int} (hW : WT T H) (g0 : T.2.2.2 r0 = some 42) (i1 : (-2147483648) ≤ a1 ∧ a1 ≤ 2147483647) (p0 : wKI H r0 = 1) (p1 : a1 = y) (hRB_r0 : RB T H r0 e d) (hKNN_r0 : KNN T H r0 e d) : wpc kt 3 286 [.ref r0, vI a1] T H (uq_286 r0 a1 e d y T H) := by
  refine wp_enter e286 (Nat.le_of_ble_eq_true rfl) rfl ?_
  have f0 : wfr [(42, 0), (42, 1), (42, 2), (42, 28), (44, 999)] T H H := wfr.rf
  show wp _ _ 286 0 [(0, .ref r0), (1, vI a1)] [] _ H _
  have _b := RB_b hW hRB_r0
  have _nu := RB_n3 hRB_r0
  refine wp_of e286 c286_0 (rw_aload_n (pc' := 1) (v := .ref r0) rfl rfl rfl ?_)
  refine wp_of e286 c286_1 (rw_iconst (pc' := 2) rfl ?_)
  refine wp_of e286 c286_2 (xp_I (pc' := 5) lf_9_48 hW g0 sh_42 (by decide) (by decide) ty_42_0 rfl rfl (by decide) (by decide) ⟨by decide, by decide⟩ rfl (fun H1065 e1066 w1067 => ?_))
  have f1068 := f0.put' e1066 g0 rfl
  have k1069 : H1065 r0 0 = 0 := wq_u_s e1066
  refine wp_of e286 c286_5 (rw_aload_n (pc' := 6) (v := .ref r0) rfl rfl rfl ?_)
  refine wp_of e286 c286_6 (rw_iload_n (pc' := 7) (z := a1) rfl rfl ?_)
  have h1070 : RB T H1065 r0 e d := (RB_fr hW g0 ((wfr.rf (l := [(42, 0)])).put' e1066 g0 rfl) rfl hRB_r0)
  refine wp_of e286 c286_7 (xc_V (pc' := 10) (r := r0) (as := [vI a1]) (st := []) (lm_9_487) rfl rfl (Nat.le_of_ble_eq_true rfl) w1067 g0 sh_42 (by decide) rfl (by decide) (u_280 (e := e) (d := d) w1067 g0 ⟨i1.1, i1.2⟩ h1070) (fun R1071 T1072 H1073 p1074 => ?_))
  obtain ⟨e1075, e1077, z1078, e1076, b1079, p1080⟩ := p1074
  subst e1075
  subst e1076
  subst e1077
  rcases p1080 with ⟨a1081, a1082, a1083⟩ | ⟨a1084, a1085⟩
  · show wp _ _ 286 10 [(0, .ref r0), (1, vI a1)] [vI z1078] _ H1065 _
    have _ty : e 13 (a1).toNat = e 13 (y).toNat := by rw [p1]
    refine wp_of e286 c286_10 (rw_if_ne (p1 := 19) (p2 := 13) (by decide) rfl ⟨Int.le_trans (by decide) b1079.1, Int.le_trans b1079.2 (by decide)⟩ (fun c1086 => ?_) (fun c1086 => ?_))
    · refine wp_of e286 c286_19 (rw_aload_n (pc' := 20) (v := .ref r0) rfl rfl rfl ?_)
      refine wp_of e286 c286_20 (xg_R (pc' := 23) lf_9_17 w1067 g0 sh_42 (by decide) (by decide) ty_42_20 rfl rfl (fun r1087 q1088 g1089 => ?_))
      refine wp_of e286 c286_23 (rw_iload_n (pc' := 24) (z := a1) rfl rfl ?_)
      refine wp_of e286 c286_24 (rw_iconst (pc' := 25) rfl ?_)
      refine wp_of e286 c286_25 (xs_I (pc' := 26) w1067 g1089 (by decide) sh_44 (by decide) (ty_44 _) (by decide) (by decide) ⟨by decide, by decide⟩ (by omega) (by omega) rfl (fun H1090 e1091 w1092 => ?_))
      have f1093 := f1068.put' e1091 g1089 rfl
      have h1094 : RB T H1090 r0 (wq_u e 13 (y).toNat 0) d := RB_st w1067 h1070 (by omega) g0 q1088 g1089 e1091 (by omega) (by omega)
      refine wp_of e286 c286_26 (rw_aload_n (pc' := 27) (v := .ref r0) rfl rfl rfl ?_)
      refine wp_of e286 c286_27 (rw_iconst (pc' := 28) rfl ?_)
      refine wp_of e286 c286_28 (xp_Z (pc' := 31) lf_9_353 w1092 g0 sh_42 (by decide) (by decide) ty_42_28 rfl rfl (by decide) (by decide) rfl (fun H1095 e1096 w1097 => ?_))
      have f1098 := f1093.put' e1096 g0 rfl
      have k1099 : H1095 r0 28 = 0 := wq_u_s e1096
      refine wp_of e286 c286_31 (rw_aload_n (pc' := 32) (v := .ref r0) rfl rfl rfl ?_)
      refine wp_of e286 c286_32 (xc_V (pc' := 35) (r := r0) (as := []) (st := []) (lm_9_403) rfl rfl (Nat.le_of_ble_eq_true rfl) w1097 g0 sh_42 (by decide) rfl (by decide) (u_224  w1097 g0) (fun R1100 T1101 H1102 p1103 => ?_))
      obtain ⟨e1104, w1106, f1107, z1108, e1105, b1109, p1110⟩ := p1103
      subst e1104
      subst e1105
      obtain ⟨a1111, a1112, a1113⟩ := p1110
      have f1114 := f1098.tr f1107 rfl
      show wp _ _ 286 35 [(0, .ref r0), (1, vI a1)] [vI z1108] _ H1102 _
      have k1115 : H1102 r0 28 = H1095 r0 28 := (f1107 r0 28 _ g0 rfl)
      have k1116 : wKI H1102 r0 = 1 := wKI_1.mpr (by omega)
      have h1117 : RB T H1102 r0 (wq_u e 13 (y).toNat 0) d := (RB_fr w1097 g0 f1107 rfl (RB_fr w1092 g0 ((wfr.rf (l := [(42, 28)])).put' e1096 g0 rfl) rfl h1094))
      exact wp_zreturn e286 c286_35 rfl (by omega) ⟨rfl, w1106, f1114, z1108, rfl, ⟨b1109.1, b1109.2⟩, (Or.inl ⟨by omega, by omega, by omega, by omega, by omega, h1117⟩)⟩
    · exfalso
      omega
  · show wp _ _ 286 10 [(0, .ref r0), (1, vI a1)] [vI z1078] _ H1065 _
    have _ty : e 13 (a1).toNat = e 13 (y).toNat := by rw [p1]
    refine wp_of e286 c286_10 (rw_if_ne (p1 := 19) (p2 := 13) (by decide) rfl ⟨Int.le_trans (by decide) b1079.1, Int.le_trans b1079.2 (by decide)⟩ (fun c1118 => ?_) (fun c1118 => ?_))
    · exfalso
      omega
    · refine wp_of e286 c286_13 (rw_aload_n (pc' := 14) (v := .ref r0) rfl rfl rfl ?_)
      refine wp_of e286 c286_14 (rw_iconst (pc' := 15) rfl ?_)
      refine wp_of e286 c286_15 (xc_V (pc' := 18) (r := r0) (as := [vI 1]) (st := []) (lm_9_400) rfl rfl (Nat.le_of_ble_eq_true rfl) w1067 g0 sh_42 (by decide) rfl (by decide) (u_223  w1067 g0 ⟨by decide, by decide⟩) (fun R1119 T1120 H1121 p1122 => ?_))
      obtain ⟨e1123, w1125, f1126, z1127, e1124, b1128, p1129⟩ := p1122
      subst e1123
      subst e1124
      obtain ⟨a1130, a1131, a1132⟩ := p1129
      have f1133 := f1068.tr f1126 rfl
      show wp _ _ 286 18 [(0, .ref r0), (1, vI a1)] [vI z1127] _ H1121 _
      have k1134 : wKI H1121 r0 = wKI H r0 := ((wKI_fr w1067 g0 f1126 rfl).trans (wKI_fr hW g0 ((wfr.rf (l := [(42, 0)])).put' e1066 g0 rfl) rfl))
      have h1135 : RB T H1121 r0 e d := (RB_fr w1067 g0 f1126 rfl h1070)
      have h1136 : KNN T H1121 r0 e d := (KNN_fr w1067 g0 f1126 rfl (KNN_fr hW g0 ((wfr.rf (l := [(42, 0)])).put' e1066 g0 rfl) rfl hKNN_r0))
      exact wp_zreturn e286 c286_18 rfl (by omega) ⟨rfl, w1125, f1133, z1127, rfl, ⟨b1128.1, b1128.2⟩, (Or.inr ⟨by omega, by omega, by omega, h1135, h1136⟩)⟩
/-! StrikeAwakeModel.takes(I)V  -/
abbrev uq_243 (r0 : Nat) (a1 : Int) (pp : Nat) (e : xD) (d : xD) (T : wq_T) (H : wq_H) : Option Value → wq_T → wq_H → Prop := fun r T' H' => T = T' ∧ WT T H' ∧ wfr [(51, 999)] T H H' ∧ none = r ∧ ((LQ27 T H' r0 0 (d 0 3) (xlot d a1)))
set_option maxHeartbeats 4000000 in
theorem u_243 {kt : Nat → Option mc_E} {T : wq_T} {H : wq_H} {r0 : Nat} {a1 : Int} {pp : Nat} {e : xD} {d : xD} (hW : WT T H) (g0 : T.2.2.2 r0 = some 42) (i1 : 0 ≤ a1 ∧ a1 ≤ 2147483647) (qpp : H r0 3 = (pp : Int)) (gpp : T.2.2.2 pp = some 54) (p0 : 0 < xlots d) (hRB_r0 : RB T H r0 e d) : wpc kt 1 243 [.ref r0, vI a1] T H (uq_243 r0 a1 pp e d T H) := by
  refine wp_enter e243 (Nat.le_of_ble_eq_true rfl) rfl ?_
  have f0 : wfr [(51, 999)] T H H := wfr.rf
  show wp _ _ 243 0 [(0, .ref r0), (1, vI a1)] [] _ H _
  have _b := RB_b hW hRB_r0
  have _k := RP_k (RB_at hRB_r0 qpp)
  have _n3 : H r0 3 ≠ -1 := by omega
  have _ar := RB_ar hRB_r0 (by omega)
  have _pk := _ar.1
  have h1070 : MN21 T H r0 (d 0 3) (lln (xsp d)) := _ar.2.2.2.1
  have _l0 := @lft_0 d a1
  refine wp_of e243 c243_0 (rw_iload_n (pc' := 1) (z := a1) rfl rfl ?_)
  refine wp_of e243 c243_1 (rw_istore_n (pc' := 2) (z := a1) (L' := [(2, vI a1), (0, .ref r0), (1, vI a1)]) rfl rfl rfl ?_)
  refine wp_of e243 c243_2 (rw_aload_n (pc' := 3) (v := .ref r0) rfl rfl rfl ?_)
  refine wp_of e243 c243_3 (xg_K (pc' := 6) lf_9_337 hW g0 sh_42 (by decide) (by decide) rfl qpp rfl ?_)
  refine wp_of e243 c243_6 (xg_I (pc' := 9) lf_9_188 hW gpp sh_54 (by decide) (by decide) ty_54_3 rfl rfl (fun b1071 b1072 => ?_))
  refine wp_of e243 c243_9 (rw_iconst (pc' := 10) rfl ?_)
  refine wp_of e243 c243_10 (rw_isub (pc' := 11) rfl ?_)
  refine wp_of e243 c243_11 (rw_istore_n (pc' := 12) (z := (H pp 3) - 1) (L' := [(3, vI ((H pp 3) - 1)), (2, vI a1), (0, .ref r0), (1, vI a1)]) rfl rfl rfl ?_)
  have lp1117 : ∀ (n1118 : Nat) (v1120 : Int) (v1121 : Int) (H1122 : wq_H), WT T H1122 → wfr [(51, 999)] T H H1122 → ((-1) ≤ v1120 ∧ v1120 ≤ 5) → (0 ≤ v1121 ∧ v1121 ≤ 2147483647) → LQ27 T H1122 r0 (v1120 + 1) (d 0 3) (xlot d a1) → MN21 T H1122 r0 (d 0 3) (lln (xsp d)) → (v1120 ≤ d 0 3 - 1) → (v1121 = a1 / xpr d (v1120 + 1).toNat ((d 0 3).toNat - (v1120 + 1).toNat)) → (v1120 - (-1)).toNat = n1118 → wp kt 0 243 12 [(3, vI v1120), (2, vI v1121), (0, .ref r0)] [] T H1122 (uq_243 r0 a1 pp e d T H) := by
    intro n1118
    induction n1118 using Nat.strongRecOn with
    | _ n1118 ih1119 =>
      intro v1120 v1121 H1122 w1123 f1124 b1125 b1126 h1128 h1129 x1130 x1131 m1127
      have f1132 := f0.tr f1124 rfl
      refine wp_of e243 c243_12 (rw_iload_n (pc' := 13) (z := v1120) rfl rfl ?_)
      refine wp_of e243 c243_13 (rw_if_lt (p1 := 45) (p2 := 16) (by decide) rfl ⟨Int.le_trans (by decide) b1125.1, Int.le_trans b1125.2 (by decide)⟩ (fun c1133 => ?_) (fun c1133 => ?_))
      · exact wp_return e243 c243_45 rfl ⟨rfl, w1123, f1132, rfl, (by rw [show (0 : Int) = v1120 + 1 by omega]; exact h1128)⟩
      · have _po := xpr_pos (d := d) (k := (v1120).toNat) _pk (by omega) (by omega)
        refine wp_of e243 c243_16 (rw_aload_n (pc' := 17) (v := .ref r0) rfl rfl rfl ?_)
        refine wp_of e243 c243_17 (xg_R (pc' := 20) lf_9_39 w1123 g0 sh_42 (by decide) (by decide) ty_42_27 rfl rfl (fun r1134 q1135 g1136 => ?_))
        refine wp_of e243 c243_20 (rw_iload_n (pc' := 21) (z := v1120) rfl rfl ?_)
        refine wp_of e243 c243_21 (rw_iload_n (pc' := 22) (z := v1121) rfl rfl ?_)
        refine wp_of e243 c243_22 (rw_aload_n (pc' := 23) (v := .ref r0) rfl rfl rfl ?_)
        refine wp_of e243 c243_23 (xg_R (pc' := 26) lf_9_21 w1123 g0 sh_42 (by decide) (by decide) ty_42_21 rfl rfl (fun r1137 q1138 g1139 => ?_))
        refine wp_of e243 c243_26 (rw_iload_n (pc' := 27) (z := v1120) rfl rfl ?_)
        refine wp_of e243 c243_27 (xa_I (so := 0) (pc' := 28) w1123 g1139 sh_45 (by decide) (ty_45 _) (by omega) (Int.lt_of_le_of_lt b1125.2 (by decide)) rfl (fun b1140 b1141 => ?_))
        have := DA_at h1129 q1138 (k := (v1120.toNat)) (by omega)
        have _l : lln (xsp d) (v1120.toNat) = ((xsp d (v1120.toNat)).length : Int) := rfl
        have _sl := @xsp_len d (v1120.toNat) _pk
        have _f := lft_s (d := d) (i := v1120) (a := a1) (v := v1121) (c := H1122 r1137 (v1120.toNat)) (by omega) (by omega) _pk (by omega) ⟨by omega, by omega⟩ (by assumption) ⟨by omega, by omega⟩ (by omega)
        refine wp_of e243 c243_28 (rw_irem (pc' := 29) rfl ⟨by omega, by omega⟩ (by omega) ?_)
        obtain ⟨v1142, e1143⟩ : ∃ x : Int, x = wq_rem v1121 (H1122 r1137 (v1120.toNat)) := ⟨_, rfl⟩
        rw [← e1143]
        have b1144 : 0 ≤ v1142 ∧ v1142 < (H1122 r1137 (v1120.toNat)) := by
          rw [e1143]
          rw [wq_rem_e ⟨by omega, by omega⟩ ⟨by omega, by omega⟩]; exact ⟨Int.emod_nonneg _ (by omega), Int.emod_lt_of_pos _ (by omega)⟩
        refine wp_of e243 c243_29 (xs_I (pc' := 30) w1123 g1136 (by decide) sh_51 (by decide) (ty_51 _) (by omega) (by omega) ⟨by omega, by omega⟩ (by omega) (Int.lt_of_le_of_lt b1125.2 (by decide)) rfl (fun H1145 e1146 w1147 => ?_))
        have f1148 := f1132.put' e1146 g1136 rfl
        have f1149 := f1124.put' e1146 g1136 rfl
        have h1150 : LQ27 T H1145 r0 v1120 (d 0 3) (xlot d a1) := LR_put h1128 q1135 g0 g1136 (by decide) e1146 (by omega) (by
          rw [show (v1120.toNat) = (v1120).toNat by omega, ← _f.2.1]
          assumption)
        refine wp_of e243 c243_30 (rw_iload_n (pc' := 31) (z := v1121) rfl rfl ?_)
        refine wp_of e243 c243_31 (rw_aload_n (pc' := 32) (v := .ref r0) rfl rfl rfl ?_)
        have k1151 : H1145 r0 21 = H1122 r0 21 := (wq_u_t e1146 g1136 g0 rfl 21)
        have q1152 : H1145 r0 21 = (r1137 : Int) := k1151.trans q1138
        refine wp_of e243 c243_32 (xg_K (pc' := 35) lf_9_21 w1147 g0 sh_42 (by decide) (by decide) rfl q1152 rfl ?_)
        refine wp_of e243 c243_35 (rw_iload_n (pc' := 36) (z := v1120) rfl rfl ?_)
        have k1153 : H1145 r1137 (v1120.toNat) = H1122 r1137 (v1120.toNat) := (wq_u_t e1146 g1136 g1139 rfl (v1120.toNat))
        refine wp_of e243 c243_36 (xa_I (so := 0) (pc' := 37) w1147 g1139 sh_45 (by decide) (ty_45 _) (by omega) (Int.lt_of_le_of_lt b1125.2 (by decide)) rfl (fun b1154 b1155 => ?_))
        have h1156 : MN21 T H1145 r0 (d 0 3) (lln (xsp d)) := (MN21_fr w1123 g0 ((wfr.rf (l := [(51, 999)])).put' e1146 g1136 rfl) rfl h1129)
        have := DA_at h1156 q1152 (k := (v1120.toNat)) (by omega)
        have _l : lln (xsp d) (v1120.toNat) = ((xsp d (v1120.toNat)).length : Int) := rfl
        have _sl := @xsp_len d (v1120.toNat) _pk
        have _f := lft_s (d := d) (i := v1120) (a := a1) (v := v1121) (c := H1145 r1137 (v1120.toNat)) (by omega) (by omega) _pk (by omega) ⟨by omega, by omega⟩ (by assumption) ⟨by omega, by omega⟩ (by omega)
        refine wp_of e243 c243_37 (rw_idiv (pc' := 38) rfl ⟨by omega, by omega⟩ (by omega) ?_)
        obtain ⟨v1157, e1158⟩ : ∃ x : Int, x = wq_div v1121 (H1145 r1137 (v1120.toNat)) := ⟨_, rfl⟩
        rw [← e1158]
        have b1159 : 0 ≤ v1157 ∧ v1157 ≤ v1121 := by
          rw [e1158]
          rw [wq_div_e ⟨by omega, by omega⟩ ⟨by omega, by omega⟩]; exact ⟨Int.ediv_nonneg (by omega) (by omega), Int.ediv_le_self _ (by omega)⟩
        refine wp_of e243 c243_38 (rw_istore_n (pc' := 39) (z := v1157) (L' := [(2, vI v1157), (3, vI v1120), (0, .ref r0)]) rfl rfl rfl ?_)
        have h1160 : LQ27 T H1145 r0 ((v1120 + (-1)) + 1) (d 0 3) (xlot d a1) := by rw [show (v1120 + (-1)) + 1 = v1120 by omega]; exact h1150
        refine wp_of e243 c243_39 (rw_iinc (pc' := 42) (z := v1120) (L' := [(3, vI (v1120 + (-1))), (2, vI v1157), (0, .ref r0)]) rfl rfl rfl rfl ?_)
        refine wp_of e243 c243_42 (rw_goto (p1 := 12) (by decide) ?_)
        exact wp_lc (ks := [3, 2, 0]) (wl_c rfl (wl_c rfl (wl_c rfl wl_n))) rfl (by decide) (ih1119 _ (by omega) (v1120 + (-1)) v1157 H1145 w1147 f1149 ⟨by omega, by omega⟩ ⟨by omega, by omega⟩ h1160 h1156 (by omega) (by rw [show (v1120 + (-1) + 1).toNat = (v1120).toNat by omega, ← _f.2.2]; assumption) rfl)
  have h1161 : LQ27 T H r0 (((H pp 3) - 1) + 1) (d 0 3) (xlot d a1) := LR_0 (hW.ref g0 (n := 33) (p := 0) (q := 0) rfl (by decide) rfl) (by omega)
  exact wp_lc (ks := [3, 2, 0, 1]) (wl_c rfl (wl_c rfl (wl_c rfl wl_n))) rfl (by decide) (lp1117 _ ((H pp 3) - 1) a1 H hW wfr.rf ⟨by omega, by omega⟩ ⟨i1.1, i1.2⟩ h1161 h1070 (by omega) (by rw [show (((H pp 3) - 1) + 1).toNat = (d 0 3).toNat by omega, Nat.sub_self]; exact _l0) rfl)
/-! StrikeAwakeModel.restore(J)Z  -/
abbrev uq_292 (r0 : Nat) (a1 : Int) (e : xD) (d : xD) (nY : Int) (gY : Nat → Int) (cY : Int) (T : wq_T) (H : wq_H) : Option Value → wq_T → wq_H → Prop := fun r T' H' => T = T' ∧ WT T H' ∧ wfr [(42, 0), (42, 1), (42, 2), (42, 32), (53, 999), (50, 999)] T H H' ∧ ∃ z : Int, some (vI z) = r ∧ (0 ≤ z ∧ z ≤ 1) ∧ (((z = 1) ∧ (H r0 3 ≠ -1 ∧ 0 ≤ a1 ∧ wdv (d 0 3).toNat a1 ≤ 20000) ∧ (xpd d a1 0 (d 0 3).toNat = 0) ∧ RY T H' r0 nY (xdg d a1) (wdv (d 0 3).toNat a1)) ∨ ((z = 0) ∧ (H r0 3 = -1 ∨ a1 < 0 ∨ 0 < xpd d a1 0 (d 0 3).toNat ∨ 20000 < wdv (d 0 3).toNat a1) ∧ RY T H' r0 nY gY cY))
set_option maxHeartbeats 4000000 in
theorem u_292 {kt : Nat → Option mc_E} {T : wq_T} {H : wq_H} {r0 : Nat} {a1 : Int} {e : xD} {d : xD} {nY : Int} {gY : Nat → Int} {cY : Int} (hW : WT T H) (g0 : T.2.2.2 r0 = some 42) (i1 : (-9223372036854775808) ≤ a1 ∧ a1 ≤ 9223372036854775807) (p0 : nY = d 0 3) (hRB_r0 : RB T H r0 e d) (hRY_r0 : RY T H r0 nY gY cY) : wpc kt 3 292 [.ref r0, vL a1] T H (uq_292 r0 a1 e d nY gY cY T H) := by
  refine wp_enter e292 (Nat.le_of_ble_eq_true rfl) rfl ?_
  have f0 : wfr [(42, 0), (42, 1), (42, 2), (42, 32), (53, 999), (50, 999)] T H H := wfr.rf
  show wp _ _ 292 0 [(0, .ref r0), (1, vL a1)] [] _ H _
  have _b := RB_b hW hRB_r0
  have _nu := RB_n3 hRB_r0
  refine wp_of e292 c292_0 (rw_aload_n (pc' := 1) (v := .ref r0) rfl rfl rfl ?_)
  refine wp_of e292 c292_1 (rw_iconst (pc' := 2) rfl ?_)
  refine wp_of e292 c292_2 (xp_I (pc' := 5) lf_9_48 hW g0 sh_42 (by decide) (by decide) ty_42_0 rfl rfl (by decide) (by decide) ⟨by decide, by decide⟩ rfl (fun H1381 e1382 w1383 => ?_))
  have f1384 := f0.put' e1382 g0 rfl
  have k1385 : H1381 r0 0 = 0 := wq_u_s e1382
  refine wp_of e292 c292_5 (rw_aload_n (pc' := 6) (v := .ref r0) rfl rfl rfl ?_)
  have k1386 : H1381 r0 3 = H r0 3 := (wq_u_j e1382 rfl)
  refine wp_of e292 c292_6 (xg_O (pc' := 9) lf_9_337 w1383 g0 sh_42 (by decide) (by decide) ty_42_3 rfl rfl (fun q1388 => ?_) (fun r1387 q1388 g1389 => ?_))
  · refine wp_of e292 c292_9 (rw_ifnonnull_n (p1 := 18) (p2 := 12) (by decide) rfl ?_)
    refine wp_of e292 c292_12 (rw_aload_n (pc' := 13) (v := .ref r0) rfl rfl rfl ?_)
    refine wp_of e292 c292_13 (rw_iconst (pc' := 14) rfl ?_)
    refine wp_of e292 c292_14 (xc_V (pc' := 17) (r := r0) (as := [vI 1]) (st := []) (lm_9_400) rfl rfl (Nat.le_of_ble_eq_true rfl) w1383 g0 sh_42 (by decide) rfl (by decide) (u_223  w1383 g0 ⟨by decide, by decide⟩) (fun R1390 T1391 H1392 p1393 => ?_))
    obtain ⟨e1394, w1396, f1397, z1398, e1395, b1399, p1400⟩ := p1393
    subst e1394
    subst e1395
    obtain ⟨a1401, a1402, a1403⟩ := p1400
    have f1404 := f1384.tr f1397 rfl
    show wp _ _ 292 17 [(0, .ref r0), (1, vL a1)] [vI z1398] _ H1392 _
    have h1405 : RY T H1392 r0 nY gY cY := (RY_fr w1383 g0 f1397 rfl (RY_fr hW g0 ((wfr.rf (l := [(42, 0)])).put' e1382 g0 rfl) rfl hRY_r0))
    exact wp_zreturn e292 c292_17 rfl (by omega) ⟨rfl, w1396, f1404, z1398, rfl, ⟨b1399.1, b1399.2⟩, (Or.inr ⟨by omega, by omega, h1405⟩)⟩
  · refine wp_of e292 c292_9 (rw_ifnonnull_r (p1 := 18) (p2 := 12) (by decide) rfl ?_)
    have h1406 : RB T H1381 r0 e d := (RB_fr hW g0 ((wfr.rf (l := [(42, 0)])).put' e1382 g0 rfl) rfl hRB_r0)
    have _k := RP_k (RB_at h1406 q1388)
    have _n3 : H1381 r0 3 ≠ -1 := by omega
    have _ar := RB_ar h1406 (by omega)
    have _pk := _ar.1
    have h1407 : MN21 T H1381 r0 (d 0 3) (lln (xsp d)) := _ar.2.2.2.1
    refine wp_of e292 c292_18 (rw_lload_n (pc' := 19) (z := a1) rfl rfl ?_)
    refine wp_of e292 c292_19 (rw_lstore_n (pc' := 20) (z := a1) (L' := [(3, vL a1), (0, .ref r0), (1, vL a1)]) rfl rfl rfl ?_)
    refine wp_of e292 c292_20 (rw_lload_n (pc' := 21) (z := a1) rfl rfl ?_)
    refine wp_of e292 c292_21 (rw_lconst (pc' := 22) (z := 0) rfl rfl ?_)
    refine wp_of e292 c292_22 (rw_lcmp (pc' := 23) rfl ⟨i1.1, i1.2⟩ ⟨by decide, by decide⟩ ?_)
    have b1408 := wq_cmp_b a1 0
    refine wp_of e292 c292_23 (rw_if_lt (p1 := 30) (p2 := 26) (by decide) rfl ⟨by omega, by omega⟩ (fun c1409 => ?_) (fun c1409 => ?_))
    · refine wp_of e292 c292_30 (rw_iconst (pc' := 31) rfl ?_)
      refine wp_of e292 c292_31 (rw_istore (pc' := 33) (z := 0) (L' := [(5, vI 0), (3, vL a1), (0, .ref r0), (1, vL a1)]) rfl rfl rfl ?_)
      refine wp_of e292 c292_33 (rw_aload_n (pc' := 34) (v := .ref r0) rfl rfl rfl ?_)
      refine wp_of e292 c292_34 (xg_K (pc' := 37) lf_9_337 w1383 g0 sh_42 (by decide) (by decide) rfl q1388 rfl ?_)
      refine wp_of e292 c292_37 (xg_I (pc' := 40) lf_9_188 w1383 g1389 sh_54 (by decide) (by decide) ty_54_3 rfl rfl (fun b1410 b1411 => ?_))
      refine wp_of e292 c292_40 (rw_iconst (pc' := 41) rfl ?_)
      refine wp_of e292 c292_41 (rw_isub (pc' := 42) rfl ?_)
      refine wp_of e292 c292_42 (rw_istore (pc' := 44) (z := (H1381 r1387 3) - 1) (L' := [(6, vI ((H1381 r1387 3) - 1)), (5, vI 0), (3, vL a1), (0, .ref r0), (1, vL a1)]) rfl rfl rfl ?_)
      have lp1414 : ∀ (n1415 : Nat) (v1417 : Int) (v1418 : Int) (v1419 : Int), ((-1) ≤ v1417 ∧ v1417 ≤ 5) → (0 ≤ v1418 ∧ v1418 ≤ 0) → ((-9223372036854775808) ≤ v1419 ∧ v1419 ≤ (-1)) → MN21 T H1381 r0 (d 0 3) (lln (xsp d)) → LQ31 T H1381 r0 (v1417 + 1) (d 0 3) (xdg d a1) → (v1417 ≤ d 0 3 - 1) → ((v1418 = 1 ∧ 0 ≤ a1 ∧ 0 ≤ v1419) ∨ (v1418 = 0 ∧ (a1 < 0 ∨ 0 < xpd d a1 0 (d 0 3).toNat))) → (v1418 = 0 ∨ v1419 = wdv (d 0 3 - 1 - v1417).toNat a1) → (v1418 = 0 ∨ xpd d a1 (v1417 + 1).toNat ((d 0 3).toNat - (v1417 + 1).toNat) = 0) → 0 = n1415 → wp kt 2 292 44 [(6, vI v1417), (5, vI v1418), (3, vL v1419), (0, .ref r0)] [] T H1381 (uq_292 r0 a1 e d nY gY cY T H) := by
        intro n1415
        induction n1415 using Nat.strongRecOn with
        | _ n1415 ih1416 =>
          intro v1417 v1418 v1419 b1422 b1423 b1424 h1426 h1427 x1428 x1429 x1430 x1431 m1425
          have _x : v1417 = -1 → v1418 = 0 ∨ (v1419 = wdv (d 0 3).toNat a1 ∧ xpd d a1 0 (d 0 3).toNat = 0) := fun q => by
            rcases ‹v1418 = 0 ∨ v1419 = wdv (d 0 3 - 1 - v1417).toNat a1› with h | h
            · exact Or.inl h
            · rcases ‹v1418 = 0 ∨ xpd d a1 (v1417 + 1).toNat ((d 0 3).toNat - (v1417 + 1).toNat) = 0› with k | k
              · exact Or.inl k
              · rw [q] at k
                exact Or.inr ⟨wdv_z h q, k⟩
          refine wp_of e292 c292_44 (rw_iload (pc' := 46) (z := v1417) rfl rfl ?_)
          refine wp_of e292 c292_46 (rw_if_lt (p1 := 113) (p2 := 49) (by decide) rfl ⟨Int.le_trans (by decide) b1422.1, Int.le_trans b1422.2 (by decide)⟩ (fun c1432 => ?_) (fun c1432 => ?_))
          · refine wp_of e292 c292_113 (rw_iload (pc' := 115) (z := v1418) rfl rfl ?_)
            refine wp_of e292 c292_115 (rw_if_eq (p1 := 126) (p2 := 118) (by decide) rfl ⟨Int.le_trans (by decide) b1423.1, Int.le_trans b1423.2 (by decide)⟩ (fun c1433 => ?_) (fun c1433 => ?_))
            · refine wp_of e292 c292_126 (rw_aload_n (pc' := 127) (v := .ref r0) rfl rfl rfl ?_)
              refine wp_of e292 c292_127 (rw_iconst (pc' := 128) rfl ?_)
              refine wp_of e292 c292_128 (xc_V (pc' := 131) (r := r0) (as := [vI 2]) (st := []) (lm_9_400) rfl rfl (Nat.le_of_ble_eq_true rfl) w1383 g0 sh_42 (by decide) rfl (by decide) (u_223  w1383 g0 ⟨by decide, by decide⟩) (fun R1434 T1435 H1436 p1437 => ?_))
              obtain ⟨e1438, w1440, f1441, z1442, e1439, b1443, p1444⟩ := p1437
              subst e1438
              subst e1439
              obtain ⟨a1445, a1446, a1447⟩ := p1444
              have f1448 := f1384.tr f1441 rfl
              show wp _ _ 292 131 [(6, vI v1417), (5, vI v1418), (3, vL v1419), (0, .ref r0)] [vI z1442] _ H1436 _
              have h1449 : RY T H1436 r0 nY gY cY := (RY_fr w1383 g0 f1441 rfl (RY_fr hW g0 ((wfr.rf (l := [(42, 0)])).put' e1382 g0 rfl) rfl hRY_r0))
              exact wp_zreturn e292 c292_131 rfl (by omega) ⟨rfl, w1440, f1448, z1442, rfl, ⟨b1443.1, b1443.2⟩, (Or.inr ⟨by omega, by omega, h1449⟩)⟩
            · exfalso
              omega
          · refine wp_of e292 c292_49 (rw_iload (pc' := 51) (z := v1418) rfl rfl ?_)
            refine wp_of e292 c292_51 (rw_if_eq (p1 := 113) (p2 := 54) (by decide) rfl ⟨Int.le_trans (by decide) b1423.1, Int.le_trans b1423.2 (by decide)⟩ (fun c1450 => ?_) (fun c1450 => ?_))
            · refine wp_of e292 c292_113 (rw_iload (pc' := 115) (z := v1418) rfl rfl ?_)
              refine wp_of e292 c292_115 (rw_if_eq (p1 := 126) (p2 := 118) (by decide) rfl ⟨Int.le_trans (by decide) b1423.1, Int.le_trans b1423.2 (by decide)⟩ (fun c1451 => ?_) (fun c1451 => ?_))
              · refine wp_of e292 c292_126 (rw_aload_n (pc' := 127) (v := .ref r0) rfl rfl rfl ?_)
                refine wp_of e292 c292_127 (rw_iconst (pc' := 128) rfl ?_)
                refine wp_of e292 c292_128 (xc_V (pc' := 131) (r := r0) (as := [vI 2]) (st := []) (lm_9_400) rfl rfl (Nat.le_of_ble_eq_true rfl) w1383 g0 sh_42 (by decide) rfl (by decide) (u_223  w1383 g0 ⟨by decide, by decide⟩) (fun R1452 T1453 H1454 p1455 => ?_))
                obtain ⟨e1456, w1458, f1459, z1460, e1457, b1461, p1462⟩ := p1455
                subst e1456
                subst e1457
                obtain ⟨a1463, a1464, a1465⟩ := p1462
                have f1466 := f1384.tr f1459 rfl
                show wp _ _ 292 131 [(6, vI v1417), (5, vI v1418), (3, vL v1419), (0, .ref r0)] [vI z1460] _ H1454 _
                have h1467 : RY T H1454 r0 nY gY cY := (RY_fr w1383 g0 f1459 rfl (RY_fr hW g0 ((wfr.rf (l := [(42, 0)])).put' e1382 g0 rfl) rfl hRY_r0))
                exact wp_zreturn e292 c292_131 rfl (by omega) ⟨rfl, w1458, f1466, z1460, rfl, ⟨b1461.1, b1461.2⟩, (Or.inr ⟨by omega, by omega, h1467⟩)⟩
              · exfalso
                omega
            · exfalso
              omega
      have h1468 : LQ31 T H1381 r0 (((H1381 r1387 3) - 1) + 1) (d 0 3) (xdg d a1) := LR_0 (w1383.ref g0 (n := 33) (p := 0) (q := 0) rfl (by decide) rfl) (by omega)
      exact wp_lc (ks := [6, 5, 3, 0, 1]) (wl_c rfl (wl_c rfl (wl_c rfl (wl_c rfl wl_n)))) rfl (by decide) (lp1414 _ ((H1381 r1387 3) - 1) 0 a1 ⟨by omega, by omega⟩ ⟨by decide, by decide⟩ ⟨i1.1, by omega⟩ h1407 h1468 (by omega) (by omega) (Or.inr (wdv_1 (by omega))) (Or.inr (xpd_e (by omega))) rfl)
    · refine wp_of e292 c292_26 (rw_iconst (pc' := 27) rfl ?_)
      refine wp_of e292 c292_27 (rw_goto (p1 := 31) (by decide) ?_)
      refine wp_of e292 c292_31 (rw_istore (pc' := 33) (z := 1) (L' := [(5, vI 1), (3, vL a1), (0, .ref r0), (1, vL a1)]) rfl rfl rfl ?_)
      refine wp_of e292 c292_33 (rw_aload_n (pc' := 34) (v := .ref r0) rfl rfl rfl ?_)
      refine wp_of e292 c292_34 (xg_K (pc' := 37) lf_9_337 w1383 g0 sh_42 (by decide) (by decide) rfl q1388 rfl ?_)
      refine wp_of e292 c292_37 (xg_I (pc' := 40) lf_9_188 w1383 g1389 sh_54 (by decide) (by decide) ty_54_3 rfl rfl (fun b1469 b1470 => ?_))
      refine wp_of e292 c292_40 (rw_iconst (pc' := 41) rfl ?_)
      refine wp_of e292 c292_41 (rw_isub (pc' := 42) rfl ?_)
      refine wp_of e292 c292_42 (rw_istore (pc' := 44) (z := (H1381 r1387 3) - 1) (L' := [(6, vI ((H1381 r1387 3) - 1)), (5, vI 1), (3, vL a1), (0, .ref r0), (1, vL a1)]) rfl rfl rfl ?_)
      have lp1535 : ∀ (n1536 : Nat) (v1538 : Int) (v1539 : Int) (v1540 : Int) (H1541 : wq_H), WT T H1541 → wfr [(53, 999)] T H1381 H1541 → ((-1) ≤ v1538 ∧ v1538 ≤ 5) → (0 ≤ v1539 ∧ v1539 ≤ 1) → (0 ≤ v1540 ∧ v1540 ≤ 9223372036854775807) → MN21 T H1541 r0 (d 0 3) (lln (xsp d)) → LQ31 T H1541 r0 (v1538 + 1) (d 0 3) (xdg d a1) → (v1538 ≤ d 0 3 - 1) → ((v1539 = 1 ∧ 0 ≤ a1 ∧ 0 ≤ v1540) ∨ (v1539 = 0 ∧ (a1 < 0 ∨ 0 < xpd d a1 0 (d 0 3).toNat))) → (v1539 = 0 ∨ v1540 = wdv (d 0 3 - 1 - v1538).toNat a1) → (v1539 = 0 ∨ xpd d a1 (v1538 + 1).toNat ((d 0 3).toNat - (v1538 + 1).toNat) = 0) → (v1538 - (-1)).toNat = n1536 → wp kt 2 292 44 [(6, vI v1538), (5, vI v1539), (3, vL v1540), (0, .ref r0)] [] T H1541 (uq_292 r0 a1 e d nY gY cY T H) := by
        intro n1536
        induction n1536 using Nat.strongRecOn with
        | _ n1536 ih1537 =>
          intro v1538 v1539 v1540 H1541 w1542 f1543 b1544 b1545 b1546 h1548 h1549 x1550 x1551 x1552 x1553 m1547
          have f1554 := f1384.tr f1543 rfl
          have _x : v1538 = -1 → v1539 = 0 ∨ (v1540 = wdv (d 0 3).toNat a1 ∧ xpd d a1 0 (d 0 3).toNat = 0) := fun q => by
            rcases ‹v1539 = 0 ∨ v1540 = wdv (d 0 3 - 1 - v1538).toNat a1› with h | h
            · exact Or.inl h
            · rcases ‹v1539 = 0 ∨ xpd d a1 (v1538 + 1).toNat ((d 0 3).toNat - (v1538 + 1).toNat) = 0› with k | k
              · exact Or.inl k
              · rw [q] at k
                exact Or.inr ⟨wdv_z h q, k⟩
          refine wp_of e292 c292_44 (rw_iload (pc' := 46) (z := v1538) rfl rfl ?_)
          refine wp_of e292 c292_46 (rw_if_lt (p1 := 113) (p2 := 49) (by decide) rfl ⟨Int.le_trans (by decide) b1544.1, Int.le_trans b1544.2 (by decide)⟩ (fun c1555 => ?_) (fun c1555 => ?_))
          · refine wp_of e292 c292_113 (rw_iload (pc' := 115) (z := v1539) rfl rfl ?_)
            refine wp_of e292 c292_115 (rw_if_eq (p1 := 126) (p2 := 118) (by decide) rfl ⟨Int.le_trans (by decide) b1545.1, Int.le_trans b1545.2 (by decide)⟩ (fun c1556 => ?_) (fun c1556 => ?_))
            · refine wp_of e292 c292_126 (rw_aload_n (pc' := 127) (v := .ref r0) rfl rfl rfl ?_)
              refine wp_of e292 c292_127 (rw_iconst (pc' := 128) rfl ?_)
              refine wp_of e292 c292_128 (xc_V (pc' := 131) (r := r0) (as := [vI 2]) (st := []) (lm_9_400) rfl rfl (Nat.le_of_ble_eq_true rfl) w1542 g0 sh_42 (by decide) rfl (by decide) (u_223  w1542 g0 ⟨by decide, by decide⟩) (fun R1557 T1558 H1559 p1560 => ?_))
              obtain ⟨e1561, w1563, f1564, z1565, e1562, b1566, p1567⟩ := p1560
              subst e1561
              subst e1562
              obtain ⟨a1568, a1569, a1570⟩ := p1567
              have f1571 := f1554.tr f1564 rfl
              show wp _ _ 292 131 [(6, vI v1538), (5, vI v1539), (3, vL v1540), (0, .ref r0)] [vI z1565] _ H1559 _
              have h1572 : RY T H1559 r0 nY gY cY := (RY_fr w1542 g0 f1564 rfl (RY_fr w1383 g0 f1543 rfl (RY_fr hW g0 ((wfr.rf (l := [(42, 0)])).put' e1382 g0 rfl) rfl hRY_r0)))
              exact wp_zreturn e292 c292_131 rfl (by omega) ⟨rfl, w1563, f1571, z1565, rfl, ⟨b1566.1, b1566.2⟩, (Or.inr ⟨by omega, by omega, h1572⟩)⟩
            · refine wp_of e292 c292_118 (rw_lload_n (pc' := 119) (z := v1540) rfl rfl ?_)
              refine wp_of e292 c292_119 (rw_ldc2 (pc' := 122) (z := 20000) rfl rfl rfl ?_)
              refine wp_of e292 c292_122 (rw_lcmp (pc' := 123) rfl ⟨Int.le_trans (by decide) b1546.1, b1546.2⟩ ⟨by decide, by decide⟩ ?_)
              have b1573 := wq_cmp_b v1540 20000
              refine wp_of e292 c292_123 (rw_if_le (p1 := 132) (p2 := 126) (by decide) rfl ⟨by omega, by omega⟩ (fun c1574 => ?_) (fun c1574 => ?_))
              · have h1575 : LQ31 T H1541 r0 0 (d 0 3) (xdg d a1) := by rw [show (0 : Int) = v1538 + 1 by omega]; exact h1549
                refine wp_of e292 c292_132 (rw_iconst (pc' := 133) rfl ?_)
                refine wp_of e292 c292_133 (rw_istore (pc' := 135) (z := 0) (L' := [(6, vI 0), (5, vI v1539), (3, vL v1540), (0, .ref r0)]) rfl rfl rfl ?_)
                have lp1702 : ∀ (n1703 : Nat) (v1705 : Int) (H1706 : wq_H), WT T H1706 → wfr [(50, 999)] T H1541 H1706 → (0 ≤ v1705 ∧ v1705 ≤ 6) → MN26 T H1706 r0 v1705 (xdg d a1) → LQ31 T H1706 r0 0 (d 0 3) (xdg d a1) → (v1705 ≤ d 0 3) → (6 - v1705).toNat = n1703 → wp kt 2 292 135 [(6, vI v1705), (3, vL v1540), (0, .ref r0)] [] T H1706 (uq_292 r0 a1 e d nY gY cY T H) := by
                  intro n1703
                  induction n1703 using Nat.strongRecOn with
                  | _ n1703 ih1704 =>
                    intro v1705 H1706 w1707 f1708 b1709 h1711 h1712 x1713 m1710
                    have f1714 := f1554.tr f1708 rfl
                    refine wp_of e292 c292_135 (rw_iload (pc' := 137) (z := v1705) rfl rfl ?_)
                    refine wp_of e292 c292_137 (rw_aload_n (pc' := 138) (v := .ref r0) rfl rfl rfl ?_)
                    have k1715 : H1706 r0 3 = H1381 r0 3 := ((f1708 r0 3 _ g0 rfl).trans (f1543 r0 3 _ g0 rfl))
                    have q1716 : H1706 r0 3 = (r1387 : Int) := k1715.trans q1388
                    refine wp_of e292 c292_138 (xg_K (pc' := 141) lf_9_337 w1707 g0 sh_42 (by decide) (by decide) rfl q1716 rfl ?_)
                    have k1717 : H1706 r1387 3 = H1381 r1387 3 := ((f1708 r1387 3 _ g1389 rfl).trans (f1543 r1387 3 _ g1389 rfl))
                    refine wp_of e292 c292_141 (xg_I (pc' := 144) lf_9_188 w1707 g1389 sh_54 (by decide) (by decide) ty_54_3 rfl rfl (fun b1718 b1719 => ?_))
                    refine wp_of e292 c292_144 (rw_icmp_ge (p1 := 167) (p2 := 147) (by decide) rfl ⟨Int.le_trans (by decide) b1709.1, Int.le_trans b1709.2 (by decide)⟩ ⟨Int.le_trans (by decide) b1718, Int.le_trans b1719 (by decide)⟩ (fun c1720 => ?_) (fun c1720 => ?_))
                    · have h1721 : MN26 T H1706 r0 nY (xdg d a1) := DA_le h1711 (by omega)
                      refine wp_of e292 c292_167 (rw_aload_n (pc' := 168) (v := .ref r0) rfl rfl rfl ?_)
                      refine wp_of e292 c292_168 (rw_lload_n (pc' := 169) (z := v1540) rfl rfl ?_)
                      refine wp_of e292 c292_169 (rw_l2i (pc' := 170) rfl ?_)
                      obtain ⟨v1722, e1723⟩ : ∃ x : Int, x = wq_w v1540 := ⟨_, rfl⟩
                      rw [← e1723]
                      have b1724 : v1722 = v1540 := by
                        rw [e1723]
                        exact wq_w_id ⟨by omega, by omega⟩
                      refine wp_of e292 c292_170 (xp_I (pc' := 173) lf_9_340 w1707 g0 sh_42 (by decide) (by decide) ty_42_32 rfl rfl (by omega) (by omega) ⟨by omega, by omega⟩ rfl (fun H1725 e1726 w1727 => ?_))
                      have f1728 := f1714.put' e1726 g0 rfl
                      have k1729 : H1725 r0 32 = v1722 := wq_u_s e1726
                      refine wp_of e292 c292_173 (rw_aload_n (pc' := 174) (v := .ref r0) rfl rfl rfl ?_)
                      refine wp_of e292 c292_174 (xc_V (pc' := 177) (r := r0) (as := []) (st := []) (lm_9_403) rfl rfl (Nat.le_of_ble_eq_true rfl) w1727 g0 sh_42 (by decide) rfl (by decide) (u_224  w1727 g0) (fun R1730 T1731 H1732 p1733 => ?_))
                      obtain ⟨e1734, w1736, f1737, z1738, e1735, b1739, p1740⟩ := p1733
                      subst e1734
                      subst e1735
                      obtain ⟨a1741, a1742, a1743⟩ := p1740
                      have f1744 := f1728.tr f1737 rfl
                      show wp _ _ 292 177 [(6, vI v1705), (3, vL v1540), (0, .ref r0)] [vI z1738] _ H1732 _
                      have k1745 : H1732 r0 32 = H1725 r0 32 := (f1737 r0 32 _ g0 rfl)
                      have h1746 : MN26 T H1732 r0 nY (xdg d a1) := (MN26_fr w1727 g0 f1737 rfl (MN26_fr w1707 g0 ((wfr.rf (l := [(42, 32)])).put' e1726 g0 rfl) rfl h1721))
                      exact wp_zreturn e292 c292_177 rfl (by omega) ⟨rfl, w1736, f1744, z1738, rfl, ⟨b1739.1, b1739.2⟩, (Or.inl ⟨by omega, by omega, by omega, ⟨h1746, by omega⟩⟩)⟩
                    · refine wp_of e292 c292_147 (rw_aload_n (pc' := 148) (v := .ref r0) rfl rfl rfl ?_)
                      refine wp_of e292 c292_148 (xg_R (pc' := 151) lf_9_36 w1707 g0 sh_42 (by decide) (by decide) ty_42_26 rfl rfl (fun r1747 q1748 g1749 => ?_))
                      refine wp_of e292 c292_151 (rw_iload (pc' := 153) (z := v1705) rfl rfl ?_)
                      refine wp_of e292 c292_153 (rw_aload_n (pc' := 154) (v := .ref r0) rfl rfl rfl ?_)
                      refine wp_of e292 c292_154 (xg_R (pc' := 157) lf_9_45 w1707 g0 sh_42 (by decide) (by decide) ty_42_31 rfl rfl (fun r1750 q1751 g1752 => ?_))
                      refine wp_of e292 c292_157 (rw_iload (pc' := 159) (z := v1705) rfl rfl ?_)
                      refine wp_of e292 c292_159 (xa_I (so := 0) (pc' := 160) w1707 g1752 sh_53 (by decide) (ty_53 _) (b1709.1) (by omega) rfl (fun b1753 b1754 => ?_))
                      have _o := LR_at h1712 q1751 (k := (v1705.toNat)) (by omega) (by omega)
                      refine wp_of e292 c292_160 (xs_I (pc' := 161) w1707 g1749 (by decide) sh_50 (by decide) (ty_50 _) (b1753) (b1754) ⟨Int.le_trans (by decide) b1753, Int.le_trans b1754 (by decide)⟩ (b1709.1) (by omega) rfl (fun H1755 e1756 w1757 => ?_))
                      have f1758 := f1714.put' e1756 g1749 rfl
                      have f1759 := f1708.put' e1756 g1749 rfl
                      have h1760 : MN26 T H1755 r0 (v1705 + 1) (xdg d a1) := DAo_put h1711 q1748 g0 g1749 (by decide) e1756 (by omega) rfl (by omega) (fun _ _ => rfl)
                      refine wp_of e292 c292_161 (rw_iinc (pc' := 164) (z := v1705) (L' := [(6, vI (v1705 + 1)), (3, vL v1540), (0, .ref r0)]) rfl rfl rfl rfl ?_)
                      refine wp_of e292 c292_164 (rw_goto (p1 := 135) (by decide) ?_)
                      have h1761 : LQ31 T H1755 r0 0 (d 0 3) (xdg d a1) := (LQ31_fr w1707 g0 ((wfr.rf (l := [(50, 999)])).put' e1756 g1749 rfl) rfl h1712)
                      exact wp_lc (ks := [6, 3, 0]) (wl_c rfl (wl_c rfl (wl_c rfl wl_n))) rfl (by decide) (ih1704 _ (by omega) (v1705 + 1) H1755 w1757 f1759 ⟨by omega, by omega⟩ h1760 h1761 (by omega) rfl)
                have h1762 : MN26 T H1541 r0 0 (xdg d a1) := DAo_0 (w1542.ref g0 (n := 33) (p := 0) (q := 0) rfl (by decide) rfl) (Int.le_refl _)
                exact wp_lc (ks := [6, 5, 3, 0]) (wl_c rfl (wl_c rfl (wl_c rfl wl_n))) rfl (by decide) (lp1702 _ 0 H1541 w1542 wfr.rf ⟨by decide, by decide⟩ h1762 h1575 (by omega) rfl)
              · refine wp_of e292 c292_126 (rw_aload_n (pc' := 127) (v := .ref r0) rfl rfl rfl ?_)
                refine wp_of e292 c292_127 (rw_iconst (pc' := 128) rfl ?_)
                refine wp_of e292 c292_128 (xc_V (pc' := 131) (r := r0) (as := [vI 2]) (st := []) (lm_9_400) rfl rfl (Nat.le_of_ble_eq_true rfl) w1542 g0 sh_42 (by decide) rfl (by decide) (u_223  w1542 g0 ⟨by decide, by decide⟩) (fun R1763 T1764 H1765 p1766 => ?_))
                obtain ⟨e1767, w1769, f1770, z1771, e1768, b1772, p1773⟩ := p1766
                subst e1767
                subst e1768
                obtain ⟨a1774, a1775, a1776⟩ := p1773
                have f1777 := f1554.tr f1770 rfl
                show wp _ _ 292 131 [(6, vI v1538), (5, vI v1539), (3, vL v1540), (0, .ref r0)] [vI z1771] _ H1765 _
                have h1778 : RY T H1765 r0 nY gY cY := (RY_fr w1542 g0 f1770 rfl (RY_fr w1383 g0 f1543 rfl (RY_fr hW g0 ((wfr.rf (l := [(42, 0)])).put' e1382 g0 rfl) rfl hRY_r0)))
                exact wp_zreturn e292 c292_131 rfl (by omega) ⟨rfl, w1769, f1777, z1771, rfl, ⟨b1772.1, b1772.2⟩, (Or.inr ⟨by omega, by omega, h1778⟩)⟩
          · refine wp_of e292 c292_49 (rw_iload (pc' := 51) (z := v1539) rfl rfl ?_)
            refine wp_of e292 c292_51 (rw_if_eq (p1 := 113) (p2 := 54) (by decide) rfl ⟨Int.le_trans (by decide) b1545.1, Int.le_trans b1545.2 (by decide)⟩ (fun c1779 => ?_) (fun c1779 => ?_))
            · refine wp_of e292 c292_113 (rw_iload (pc' := 115) (z := v1539) rfl rfl ?_)
              refine wp_of e292 c292_115 (rw_if_eq (p1 := 126) (p2 := 118) (by decide) rfl ⟨Int.le_trans (by decide) b1545.1, Int.le_trans b1545.2 (by decide)⟩ (fun c1780 => ?_) (fun c1780 => ?_))
              · refine wp_of e292 c292_126 (rw_aload_n (pc' := 127) (v := .ref r0) rfl rfl rfl ?_)
                refine wp_of e292 c292_127 (rw_iconst (pc' := 128) rfl ?_)
                refine wp_of e292 c292_128 (xc_V (pc' := 131) (r := r0) (as := [vI 2]) (st := []) (lm_9_400) rfl rfl (Nat.le_of_ble_eq_true rfl) w1542 g0 sh_42 (by decide) rfl (by decide) (u_223  w1542 g0 ⟨by decide, by decide⟩) (fun R1781 T1782 H1783 p1784 => ?_))
                obtain ⟨e1785, w1787, f1788, z1789, e1786, b1790, p1791⟩ := p1784
                subst e1785
                subst e1786
                obtain ⟨a1792, a1793, a1794⟩ := p1791
                have f1795 := f1554.tr f1788 rfl
                show wp _ _ 292 131 [(6, vI v1538), (5, vI v1539), (3, vL v1540), (0, .ref r0)] [vI z1789] _ H1783 _
                have h1796 : RY T H1783 r0 nY gY cY := (RY_fr w1542 g0 f1788 rfl (RY_fr w1383 g0 f1543 rfl (RY_fr hW g0 ((wfr.rf (l := [(42, 0)])).put' e1382 g0 rfl) rfl hRY_r0)))
                exact wp_zreturn e292 c292_131 rfl (by omega) ⟨rfl, w1787, f1795, z1789, rfl, ⟨b1790.1, b1790.2⟩, (Or.inr ⟨by omega, by omega, h1796⟩)⟩
              · exfalso
                omega
            · have _v := (‹v1539 = 0 ∨ v1540 = wdv (d 0 3 - 1 - v1538).toNat a1›).resolve_left (by omega)
              have _y := (‹v1539 = 0 ∨ xpd d a1 (v1538 + 1).toNat ((d 0 3).toNat - (v1538 + 1).toNat) = 0›).resolve_left (by omega)
              refine wp_of e292 c292_54 (rw_aload_n (pc' := 55) (v := .ref r0) rfl rfl rfl ?_)
              refine wp_of e292 c292_55 (xg_R (pc' := 58) lf_9_45 w1542 g0 sh_42 (by decide) (by decide) ty_42_31 rfl rfl (fun r1797 q1798 g1799 => ?_))
              refine wp_of e292 c292_58 (rw_iload (pc' := 60) (z := v1538) rfl rfl ?_)
              refine wp_of e292 c292_60 (rw_lload_n (pc' := 61) (z := v1540) rfl rfl ?_)
              refine wp_of e292 c292_61 (rw_ldc2 (pc' := 64) (z := 40) rfl rfl rfl ?_)
              refine wp_of e292 c292_64 (rw_lrem (pc' := 65) rfl ⟨by omega, by omega⟩ (by omega) ?_)
              obtain ⟨v1800, e1801⟩ : ∃ x : Int, x = wl_rem v1540 40 := ⟨_, rfl⟩
              rw [← e1801]
              have b1802 : v1800 = v1540 % 40 := by
                rw [e1801]
                exact wl_rem_e ⟨by omega, by omega⟩ ⟨by omega, by omega⟩
              refine wp_of e292 c292_65 (rw_l2i (pc' := 66) rfl ?_)
              obtain ⟨v1803, e1804⟩ : ∃ x : Int, x = wq_w v1800 := ⟨_, rfl⟩
              rw [← e1804]
              have b1805 : v1803 = v1800 := by
                rw [e1804]
                exact wq_w_id ⟨by omega, by omega⟩
              have _xq : v1803 = xdg d a1 (v1538).toNat := xdg_e (by omega) (by omega) _v (by omega)
              refine wp_of e292 c292_66 (xs_I (pc' := 67) w1542 g1799 (by decide) sh_53 (by decide) (ty_53 _) (by omega) (by omega) ⟨by omega, by omega⟩ (by omega) (Int.lt_of_le_of_lt b1544.2 (by decide)) rfl (fun H1806 e1807 w1808 => ?_))
              have f1809 := f1554.put' e1807 g1799 rfl
              have f1810 := f1543.put' e1807 g1799 rfl
              have h1811 : LQ31 T H1806 r0 v1538 (d 0 3) (xdg d a1) := LR_put h1549 q1798 g0 g1799 (by decide) e1807 (by omega) (xdg_e (by omega) (by omega) _v (by omega))
              refine wp_of e292 c292_67 (rw_aload_n (pc' := 68) (v := .ref r0) rfl rfl rfl ?_)
              have k1812 : H1806 r0 31 = H1541 r0 31 := (wq_u_t e1807 g1799 g0 rfl 31)
              have q1813 : H1806 r0 31 = (r1797 : Int) := k1812.trans q1798
              refine wp_of e292 c292_68 (xg_K (pc' := 71) lf_9_45 w1808 g0 sh_42 (by decide) (by decide) rfl q1813 rfl ?_)
              refine wp_of e292 c292_71 (rw_iload (pc' := 73) (z := v1538) rfl rfl ?_)
              refine wp_of e292 c292_73 (xa_I (so := 0) (pc' := 74) w1808 g1799 sh_53 (by decide) (ty_53 _) (by omega) (Int.lt_of_le_of_lt b1544.2 (by decide)) rfl (fun b1814 b1815 => ?_))
              have _o := LR_at h1811 q1813 (k := (v1538.toNat)) (by omega) (by omega)
              refine wp_of e292 c292_74 (rw_if_eq (p1 := 94) (p2 := 77) (by decide) rfl ⟨Int.le_trans (by decide) b1814, Int.le_trans b1815 (by decide)⟩ (fun c1816 => ?_) (fun c1816 => ?_))
              · have _s := xpd_s (d := d) (a := a1) (v := v1800) (x := v1540) (i := v1538) (by omega) (by omega) (Or.inr (by assumption)) (by omega) (by omega) (Or.inr (by assumption))
                refine wp_of e292 c292_94 (rw_iconst (pc' := 95) rfl ?_)
                refine wp_of e292 c292_95 (rw_goto (p1 := 99) (by decide) ?_)
                refine wp_of e292 c292_99 (rw_istore (pc' := 101) (z := 1) (L' := [(5, vI 1), (6, vI v1538), (3, vL v1540), (0, .ref r0)]) rfl rfl rfl ?_)
                refine wp_of e292 c292_101 (rw_lload_n (pc' := 102) (z := v1540) rfl rfl ?_)
                refine wp_of e292 c292_102 (rw_ldc2 (pc' := 105) (z := 40) rfl rfl rfl ?_)
                refine wp_of e292 c292_105 (rw_ldiv (pc' := 106) rfl ⟨by omega, by omega⟩ (by omega) ?_)
                obtain ⟨v1817, e1818⟩ : ∃ x : Int, x = wl_div v1540 40 := ⟨_, rfl⟩
                rw [← e1818]
                have b1819 : v1817 = v1540 / 40 := by
                  rw [e1818]
                  exact wl_div_e ⟨by omega, by omega⟩ ⟨by omega, by omega⟩
                refine wp_of e292 c292_106 (rw_lstore_n (pc' := 107) (z := v1817) (L' := [(3, vL v1817), (5, vI 1), (6, vI v1538), (0, .ref r0)]) rfl rfl rfl ?_)
                have h1820 : LQ31 T H1806 r0 ((v1538 + (-1)) + 1) (d 0 3) (xdg d a1) := by rw [show (v1538 + (-1)) + 1 = v1538 by omega]; exact h1811
                refine wp_of e292 c292_107 (rw_iinc (pc' := 110) (z := v1538) (L' := [(6, vI (v1538 + (-1))), (3, vL v1817), (5, vI 1), (0, .ref r0)]) rfl rfl rfl rfl ?_)
                refine wp_of e292 c292_110 (rw_goto (p1 := 44) (by decide) ?_)
                have h1821 : MN21 T H1806 r0 (d 0 3) (lln (xsp d)) := (MN21_fr w1542 g0 ((wfr.rf (l := [(53, 999)])).put' e1807 g1799 rfl) rfl h1548)
                exact wp_lc (ks := [6, 3, 5, 0]) (wl_c rfl (wl_c rfl (wl_c rfl (wl_c rfl wl_n)))) rfl (by decide) (ih1537 _ (by omega) (v1538 + (-1)) 1 v1817 H1806 w1808 f1810 ⟨by omega, by omega⟩ ⟨by decide, by decide⟩ ⟨by omega, by omega⟩ h1821 h1820 (by omega) (by omega) (by first | exact Or.inl (by omega) | exact Or.inr (wdv_n (by omega) _v (by omega))) (by first | exact Or.inl (by omega) | (rw [show (v1538 + (-1) + 1).toNat = (v1538).toNat by omega]; exact Or.inr (_s.resolve_left (by omega)))) rfl)
              · refine wp_of e292 c292_77 (rw_aload_n (pc' := 78) (v := .ref r0) rfl rfl rfl ?_)
                refine wp_of e292 c292_78 (xg_K (pc' := 81) lf_9_45 w1808 g0 sh_42 (by decide) (by decide) rfl q1813 rfl ?_)
                refine wp_of e292 c292_81 (rw_iload (pc' := 83) (z := v1538) rfl rfl ?_)
                refine wp_of e292 c292_83 (xa_I (so := 0) (pc' := 84) w1808 g1799 sh_53 (by decide) (ty_53 _) (by omega) (Int.lt_of_le_of_lt b1544.2 (by decide)) rfl (fun b1822 b1823 => ?_))
                have _o := LR_at h1811 q1813 (k := (v1538.toNat)) (by omega) (by omega)
                refine wp_of e292 c292_84 (rw_aload_n (pc' := 85) (v := .ref r0) rfl rfl rfl ?_)
                refine wp_of e292 c292_85 (xg_R (pc' := 88) lf_9_21 w1808 g0 sh_42 (by decide) (by decide) ty_42_21 rfl rfl (fun r1824 q1825 g1826 => ?_))
                refine wp_of e292 c292_88 (rw_iload (pc' := 90) (z := v1538) rfl rfl ?_)
                refine wp_of e292 c292_90 (xa_I (so := 0) (pc' := 91) w1808 g1826 sh_45 (by decide) (ty_45 _) (by omega) (Int.lt_of_le_of_lt b1544.2 (by decide)) rfl (fun b1827 b1828 => ?_))
                have h1829 : MN21 T H1806 r0 (d 0 3) (lln (xsp d)) := (MN21_fr w1542 g0 ((wfr.rf (l := [(53, 999)])).put' e1807 g1799 rfl) rfl h1548)
                have := DA_at h1829 q1825 (k := (v1538.toNat)) (by omega)
                have _l : lln (xsp d) (v1538.toNat) = ((xsp d (v1538.toNat)).length : Int) := rfl
                refine wp_of e292 c292_91 (rw_icmp_ge (p1 := 98) (p2 := 94) (by decide) rfl ⟨Int.le_trans (by decide) b1822, Int.le_trans b1823 (by decide)⟩ ⟨Int.le_trans (by decide) b1827, Int.le_trans b1828 (by decide)⟩ (fun c1830 => ?_) (fun c1830 => ?_))
                · have _s := xpd_n (d := d) (a := a1) (v := v1800) (x := v1540) (i := v1538) (by omega) (by omega) (Or.inr (by assumption)) (by omega) (by omega) (by omega)
                  refine wp_of e292 c292_98 (rw_iconst (pc' := 99) rfl ?_)
                  refine wp_of e292 c292_99 (rw_istore (pc' := 101) (z := 0) (L' := [(5, vI 0), (6, vI v1538), (3, vL v1540), (0, .ref r0)]) rfl rfl rfl ?_)
                  refine wp_of e292 c292_101 (rw_lload_n (pc' := 102) (z := v1540) rfl rfl ?_)
                  refine wp_of e292 c292_102 (rw_ldc2 (pc' := 105) (z := 40) rfl rfl rfl ?_)
                  refine wp_of e292 c292_105 (rw_ldiv (pc' := 106) rfl ⟨by omega, by omega⟩ (by omega) ?_)
                  obtain ⟨v1831, e1832⟩ : ∃ x : Int, x = wl_div v1540 40 := ⟨_, rfl⟩
                  rw [← e1832]
                  have b1833 : v1831 = v1540 / 40 := by
                    rw [e1832]
                    exact wl_div_e ⟨by omega, by omega⟩ ⟨by omega, by omega⟩
                  refine wp_of e292 c292_106 (rw_lstore_n (pc' := 107) (z := v1831) (L' := [(3, vL v1831), (5, vI 0), (6, vI v1538), (0, .ref r0)]) rfl rfl rfl ?_)
                  have h1834 : LQ31 T H1806 r0 ((v1538 + (-1)) + 1) (d 0 3) (xdg d a1) := by rw [show (v1538 + (-1)) + 1 = v1538 by omega]; exact h1811
                  refine wp_of e292 c292_107 (rw_iinc (pc' := 110) (z := v1538) (L' := [(6, vI (v1538 + (-1))), (3, vL v1831), (5, vI 0), (0, .ref r0)]) rfl rfl rfl rfl ?_)
                  refine wp_of e292 c292_110 (rw_goto (p1 := 44) (by decide) ?_)
                  exact wp_lc (ks := [6, 3, 5, 0]) (wl_c rfl (wl_c rfl (wl_c rfl (wl_c rfl wl_n)))) rfl (by decide) (ih1537 _ (by omega) (v1538 + (-1)) 0 v1831 H1806 w1808 f1810 ⟨by omega, by omega⟩ ⟨by decide, by decide⟩ ⟨by omega, by omega⟩ h1829 h1834 (by omega) (by omega) (by first | exact Or.inl (by omega) | exact Or.inr (wdv_n (by omega) _v (by omega))) (by first | exact Or.inl (by omega) | (rw [show (v1538 + (-1) + 1).toNat = (v1538).toNat by omega]; exact Or.inr (_s.resolve_left (by omega)))) rfl)
                · have _s := xpd_s (d := d) (a := a1) (v := v1800) (x := v1540) (i := v1538) (by omega) (by omega) (Or.inr (by assumption)) (by omega) (by omega) (Or.inr (by assumption))
                  refine wp_of e292 c292_94 (rw_iconst (pc' := 95) rfl ?_)
                  refine wp_of e292 c292_95 (rw_goto (p1 := 99) (by decide) ?_)
                  refine wp_of e292 c292_99 (rw_istore (pc' := 101) (z := 1) (L' := [(5, vI 1), (6, vI v1538), (3, vL v1540), (0, .ref r0)]) rfl rfl rfl ?_)
                  refine wp_of e292 c292_101 (rw_lload_n (pc' := 102) (z := v1540) rfl rfl ?_)
                  refine wp_of e292 c292_102 (rw_ldc2 (pc' := 105) (z := 40) rfl rfl rfl ?_)
                  refine wp_of e292 c292_105 (rw_ldiv (pc' := 106) rfl ⟨by omega, by omega⟩ (by omega) ?_)
                  obtain ⟨v1835, e1836⟩ : ∃ x : Int, x = wl_div v1540 40 := ⟨_, rfl⟩
                  rw [← e1836]
                  have b1837 : v1835 = v1540 / 40 := by
                    rw [e1836]
                    exact wl_div_e ⟨by omega, by omega⟩ ⟨by omega, by omega⟩
                  refine wp_of e292 c292_106 (rw_lstore_n (pc' := 107) (z := v1835) (L' := [(3, vL v1835), (5, vI 1), (6, vI v1538), (0, .ref r0)]) rfl rfl rfl ?_)
                  have h1838 : LQ31 T H1806 r0 ((v1538 + (-1)) + 1) (d 0 3) (xdg d a1) := by rw [show (v1538 + (-1)) + 1 = v1538 by omega]; exact h1811
                  refine wp_of e292 c292_107 (rw_iinc (pc' := 110) (z := v1538) (L' := [(6, vI (v1538 + (-1))), (3, vL v1835), (5, vI 1), (0, .ref r0)]) rfl rfl rfl rfl ?_)
                  refine wp_of e292 c292_110 (rw_goto (p1 := 44) (by decide) ?_)
                  exact wp_lc (ks := [6, 3, 5, 0]) (wl_c rfl (wl_c rfl (wl_c rfl (wl_c rfl wl_n)))) rfl (by decide) (ih1537 _ (by omega) (v1538 + (-1)) 1 v1835 H1806 w1808 f1810 ⟨by omega, by omega⟩ ⟨by decide, by decide⟩ ⟨by omega, by omega⟩ h1829 h1838 (by omega) (by omega) (by first | exact Or.inl (by omega) | exact Or.inr (wdv_n (by omega) _v (by omega))) (by first | exact Or.inl (by omega) | (rw [show (v1538 + (-1) + 1).toNat = (v1538).toNat by omega]; exact Or.inr (_s.resolve_left (by omega)))) rfl)
      have h1839 : LQ31 T H1381 r0 (((H1381 r1387 3) - 1) + 1) (d 0 3) (xdg d a1) := LR_0 (w1383.ref g0 (n := 33) (p := 0) (q := 0) rfl (by decide) rfl) (by omega)
      exact wp_lc (ks := [6, 5, 3, 0, 1]) (wl_c rfl (wl_c rfl (wl_c rfl (wl_c rfl wl_n)))) rfl (by decide) (lp1535 _ ((H1381 r1387 3) - 1) 1 a1 H1381 w1383 wfr.rf ⟨by omega, by omega⟩ ⟨by decide, by decide⟩ ⟨by omega, i1.2⟩ h1407 h1839 (by omega) (by omega) (Or.inr (wdv_1 (by omega))) (Or.inr (xpd_e (by omega))) rfl)
/-! StrikeAwakeModel.born(I)I  -/
abbrev uq_229 (r0 : Nat) (a1 : Int) (pp : Nat) (e : xD) (d : xD) (T : wq_T) (H : wq_H) : Option Value → wq_T → wq_H → Prop := fun r T' H' => T = T' ∧ H = H' ∧ ∃ z : Int, some (vI z) = r ∧ (0 ≤ z ∧ z ≤ 3) ∧ (((z = ((xbn (d 12) (a1).toNat (d 0 5).toNat : Nat) : Int))))
set_option maxHeartbeats 4000000 in
theorem u_229 {kt : Nat → Option mc_E} {T : wq_T} {H : wq_H} {r0 : Nat} {a1 : Int} {pp : Nat} {e : xD} {d : xD} (hW : WT T H) (g0 : T.2.2.2 r0 = some 42) (i1 : 0 ≤ a1 ∧ a1 ≤ 23) (qpp : H r0 3 = (pp : Int)) (gpp : T.2.2.2 pp = some 54) (p0 : XW d) (hRB_r0 : RB T H r0 e d) : wpc kt 1 229 [.ref r0, vI a1] T H (uq_229 r0 a1 pp e d T H) := by
  refine wp_enter e229 (Nat.le_of_ble_eq_true rfl) rfl ?_
  show wp _ _ 229 0 [(0, .ref r0), (1, vI a1)] [] _ H _
  have b1060 : 0 ≤ H pp 5 ∧ H pp 5 ≤ 3 := hW.box gpp (n := 27) rfl (by decide) rfl
  have h1061 : MA20 T H pp (d 12) := RP_20 (RB_at hRB_r0 qpp)
  have _xc := p0.2.1
  unfold XC at _xc
  have _n3 : H r0 3 ≠ -1 := by omega
  have _k := RP_k (RB_at hRB_r0 qpp)
  refine wp_of e229 c229_0 (rw_iconst (pc' := 1) rfl ?_)
  refine wp_of e229 c229_1 (rw_istore_n (pc' := 2) (z := 0) (L' := [(2, vI 0), (0, .ref r0), (1, vI a1)]) rfl rfl rfl ?_)
  refine wp_of e229 c229_2 (rw_iconst (pc' := 3) rfl ?_)
  refine wp_of e229 c229_3 (rw_istore_n (pc' := 4) (z := 0) (L' := [(3, vI 0), (2, vI 0), (0, .ref r0), (1, vI a1)]) rfl rfl rfl ?_)
  have lp1110 : ∀ (n1111 : Nat) (v1113 : Int) (v1114 : Int), (0 ≤ v1113 ∧ v1113 ≤ 3) → (0 ≤ v1114 ∧ v1114 ≤ 3) → (v1114 ≤ v1113) → (v1113 ≤ d 0 5) → (v1114 = ((xbn (d 12) (a1).toNat (v1113).toNat : Nat) : Int)) → (3 - v1113).toNat = n1111 → wp kt 0 229 4 [(3, vI v1113), (2, vI v1114), (0, .ref r0), (1, vI a1)] [] T H (uq_229 r0 a1 pp e d T H) := by
    intro n1111
    induction n1111 using Nat.strongRecOn with
    | _ n1111 ih1112 =>
      intro v1113 v1114 b1117 b1118 x1119 x1120 x1122 m1121
      refine wp_of e229 c229_4 (rw_iload_n (pc' := 5) (z := v1113) rfl rfl ?_)
      refine wp_of e229 c229_5 (rw_aload_n (pc' := 6) (v := .ref r0) rfl rfl rfl ?_)
      refine wp_of e229 c229_6 (xg_K (pc' := 9) lf_9_337 hW g0 sh_42 (by decide) (by decide) rfl qpp rfl ?_)
      refine wp_of e229 c229_9 (xg_I (pc' := 12) lf_9_288 hW gpp sh_54 (by decide) (by decide) ty_54_5 rfl rfl (fun b1123 b1124 => ?_))
      refine wp_of e229 c229_12 (rw_icmp_ge (p1 := 42) (p2 := 15) (by decide) rfl ⟨Int.le_trans (by decide) b1117.1, Int.le_trans b1117.2 (by decide)⟩ ⟨Int.le_trans (by decide) b1123, Int.le_trans b1124 (by decide)⟩ (fun c1125 => ?_) (fun c1125 => ?_))
      · refine wp_of e229 c229_42 (rw_iload_n (pc' := 43) (z := v1114) rfl rfl ?_)
        exact wp_ireturn e229 c229_43 rfl ⟨rfl, rfl, v1114, rfl, ⟨b1118.1, b1118.2⟩, (by rw [show (d 0 5).toNat = (v1113).toNat by omega]; assumption)⟩
      · refine wp_of e229 c229_15 (rw_iload_n (pc' := 16) (z := v1114) rfl rfl ?_)
        refine wp_of e229 c229_16 (rw_aload_n (pc' := 17) (v := .ref r0) rfl rfl rfl ?_)
        refine wp_of e229 c229_17 (xg_K (pc' := 20) lf_9_337 hW g0 sh_42 (by decide) (by decide) rfl qpp rfl ?_)
        refine wp_of e229 c229_20 (xg_R (pc' := 23) lf_9_291 hW gpp sh_54 (by decide) (by decide) ty_54_20 rfl rfl (fun r1126 q1127 g1128 => ?_))
        refine wp_of e229 c229_23 (rw_iload_n (pc' := 24) (z := v1113) rfl rfl ?_)
        refine wp_of e229 c229_24 (xa_I (so := 0) (pc' := 25) hW g1128 sh_66 (by decide) (ty_66 _) (b1117.1) (by omega) rfl (fun b1129 b1130 => ?_))
        have := MA_at h1061 q1127 (k := (v1113.toNat)) (by omega)
        refine wp_of e229 c229_25 (rw_iload_n (pc' := 26) (z := a1) rfl rfl ?_)
        refine wp_of e229 c229_26 (rw_icmp_gt (p1 := 33) (p2 := 29) (by decide) rfl ⟨b1129, b1130⟩ ⟨Int.le_trans (by decide) i1.1, Int.le_trans i1.2 (by decide)⟩ (fun c1131 => ?_) (fun c1131 => ?_))
        · refine wp_of e229 c229_33 (rw_iconst (pc' := 34) rfl ?_)
          refine wp_of e229 c229_34 (rw_iadd (pc' := 35) rfl ?_)
          refine wp_of e229 c229_35 (rw_istore_n (pc' := 36) (z := v1114 + 0) (L' := [(2, vI (v1114 + 0)), (3, vI v1113), (0, .ref r0), (1, vI a1)]) rfl rfl rfl ?_)
          have _q : v1114 + 0 = ((xbn (d 12) (a1).toNat (v1113 + 1).toNat : Nat) : Int) := by
            rw [show (v1113 + 1).toNat = (v1113).toNat + 1 by omega]
            have _e : xbn (d 12) (a1).toNat ((v1113).toNat + 1) = xbn (d 12) (a1).toNat (v1113).toNat + (if d 12 (v1113).toNat ≤ (((a1).toNat : Nat) : Int) then 1 else 0) := rfl
            rw [_e]
            split <;> omega
          refine wp_of e229 c229_36 (rw_iinc (pc' := 39) (z := v1113) (L' := [(3, vI (v1113 + 1)), (2, vI (v1114 + 0)), (0, .ref r0), (1, vI a1)]) rfl rfl rfl rfl ?_)
          refine wp_of e229 c229_39 (rw_goto (p1 := 4) (by decide) ?_)
          exact wp_lc (ks := [3, 2, 0, 1]) (wl_c rfl (wl_c rfl (wl_c rfl (wl_c rfl wl_n)))) rfl (by decide) (ih1112 _ (by omega) (v1113 + 1) (v1114 + 0) ⟨by omega, by omega⟩ ⟨by omega, by omega⟩ (by omega) (by omega) (_q) rfl)
        · refine wp_of e229 c229_29 (rw_iconst (pc' := 30) rfl ?_)
          refine wp_of e229 c229_30 (rw_goto (p1 := 34) (by decide) ?_)
          refine wp_of e229 c229_34 (rw_iadd (pc' := 35) rfl ?_)
          refine wp_of e229 c229_35 (rw_istore_n (pc' := 36) (z := v1114 + 1) (L' := [(2, vI (v1114 + 1)), (3, vI v1113), (0, .ref r0), (1, vI a1)]) rfl rfl rfl ?_)
          have _q : v1114 + 1 = ((xbn (d 12) (a1).toNat (v1113 + 1).toNat : Nat) : Int) := by
            rw [show (v1113 + 1).toNat = (v1113).toNat + 1 by omega]
            have _e : xbn (d 12) (a1).toNat ((v1113).toNat + 1) = xbn (d 12) (a1).toNat (v1113).toNat + (if d 12 (v1113).toNat ≤ (((a1).toNat : Nat) : Int) then 1 else 0) := rfl
            rw [_e]
            split <;> omega
          refine wp_of e229 c229_36 (rw_iinc (pc' := 39) (z := v1113) (L' := [(3, vI (v1113 + 1)), (2, vI (v1114 + 1)), (0, .ref r0), (1, vI a1)]) rfl rfl rfl rfl ?_)
          refine wp_of e229 c229_39 (rw_goto (p1 := 4) (by decide) ?_)
          exact wp_lc (ks := [3, 2, 0, 1]) (wl_c rfl (wl_c rfl (wl_c rfl (wl_c rfl wl_n)))) rfl (by decide) (ih1112 _ (by omega) (v1113 + 1) (v1114 + 1) ⟨by omega, by omega⟩ ⟨by omega, by omega⟩ (by omega) (by omega) (_q) rfl)
  exact wp_lc (ks := [3, 2, 0, 1]) (wl_c rfl (wl_c rfl (wl_c rfl (wl_c rfl wl_n)))) rfl (by decide) (lp1110 _ 0 0 ⟨by decide, by decide⟩ ⟨by decide, by decide⟩ (by omega) (by omega) (rfl) rfl)
/-! StrikeAwakeModel.strikesIn([II)I l -/
abbrev uq_228_l (r0 : Nat) (r1 : Nat) (a2 : Int) (pp : Nat) (e : xD) (d : xD) (g : Nat → Int) (T : wq_T) (H : wq_H) : Option Value → wq_T → wq_H → Prop := fun r T' H' => T = T' ∧ H = H' ∧ ∃ z : Int, some (vI z) = r ∧ (0 ≤ z ∧ z ≤ 9) ∧ (((z = ((xdue d g (a2).toNat : Nat) : Int))))
set_option maxHeartbeats 4000000 in
theorem u_228_l {kt : Nat → Option mc_E} {T : wq_T} {H : wq_H} {r0 : Nat} {r1 : Nat} {a2 : Int} {pp : Nat} {e : xD} {d : xD} {g : Nat → Int} (hW : WT T H) (g0 : T.2.2.2 r0 = some 42) (g1 : T.2.2.2 r1 = some 51) (i2 : 0 ≤ a2 ∧ a2 ≤ 23) (qpp : H r0 3 = (pp : Int)) (gpp : T.2.2.2 pp = some 54) (p0 : XW d) (p1 : SL d g) (hRB_r0 : RB T H r0 e d) (hRR_r1 : RR T H r1 (d 0 3) g) : wpc kt 2 228 [.ref r0, .ref r1, vI a2] T H (uq_228_l r0 r1 a2 pp e d g T H) := by
  refine wp_enter e228 (Nat.le_of_ble_eq_true rfl) rfl ?_
  show wp _ _ 228 0 [(0, .ref r0), (1, .ref r1), (2, vI a2)] [] _ H _
  have b1242 : 0 ≤ H pp 3 ∧ H pp 3 ≤ 6 := hW.box gpp (n := 27) rfl (by decide) rfl
  have _xc := p0.2.1
  unfold XC at _xc
  have _n3 : H r0 3 ≠ -1 := by omega
  have _k := RP_k (RB_at hRB_r0 qpp)
  have _ar := RB_ar hRB_r0 (by omega)
  have _pk := _ar.1
  have h1243 : LB25 T H r0 (xwk d) (xsq d) := _ar.2.2.2.2.2.2.2
  refine wp_of e228 c228_0 (rw_aload_n (pc' := 1) (v := .ref r0) rfl rfl rfl ?_)
  refine wp_of e228 c228_1 (rw_iload_n (pc' := 2) (z := a2) rfl rfl ?_)
  refine wp_of e228 c228_2 (xc_V (pc' := 5) (r := r0) (as := [vI a2]) (st := []) (lm_9_384) rfl rfl (Nat.le_of_ble_eq_true rfl) hW g0 sh_42 (by decide) rfl (by decide) (u_229 (e := e) (d := d) hW g0 ⟨i2.1, i2.2⟩ qpp gpp (by assumption) hRB_r0) (fun R1244 T1245 H1246 p1247 => ?_))
  obtain ⟨e1248, e1250, z1251, e1249, b1252, p1253⟩ := p1247
  subst e1248
  subst e1249
  subst e1250
  show wp _ _ 228 5 [(0, .ref r0), (1, .ref r1), (2, vI a2)] [vI z1251] _ H _
  refine wp_of e228 c228_5 (rw_istore_n (pc' := 6) (z := z1251) (L' := [(3, vI z1251), (0, .ref r0), (1, .ref r1), (2, vI a2)]) rfl rfl rfl ?_)
  refine wp_of e228 c228_6 (rw_iconst (pc' := 7) rfl ?_)
  refine wp_of e228 c228_7 (rw_istore (pc' := 9) (z := 0) (L' := [(4, vI 0), (3, vI z1251), (0, .ref r0), (1, .ref r1), (2, vI a2)]) rfl rfl rfl ?_)
  have lp1458 : ∀ (n1459 : Nat) (v1461 : Int) (v1462 : Int), (0 ≤ v1461 ∧ v1461 ≤ 6) → (0 ≤ v1462 ∧ v1462 ≤ 9) → (v1462 ≤ v1461 + 3) → (v1461 ≤ d 0 3) → (v1462 = ((xct d g (a2).toNat (v1461).toNat : Nat) : Int)) → (6 - v1461).toNat = n1459 → wp kt 1 228 9 [(4, vI v1461), (3, vI v1462), (0, .ref r0), (1, .ref r1), (2, vI a2)] [] T H (uq_228_l r0 r1 a2 pp e d g T H) := by
    intro n1459
    induction n1459 using Nat.strongRecOn with
    | _ n1459 ih1460 =>
      intro v1461 v1462 b1465 b1466 x1467 x1468 x1470 m1469
      refine wp_of e228 c228_9 (rw_iload (pc' := 11) (z := v1461) rfl rfl ?_)
      refine wp_of e228 c228_11 (rw_aload_n (pc' := 12) (v := .ref r0) rfl rfl rfl ?_)
      refine wp_of e228 c228_12 (xg_K (pc' := 15) lf_9_337 hW g0 sh_42 (by decide) (by decide) rfl qpp rfl ?_)
      refine wp_of e228 c228_15 (xg_I (pc' := 18) lf_9_188 hW gpp sh_54 (by decide) (by decide) ty_54_3 rfl rfl (fun b1471 b1472 => ?_))
      refine wp_of e228 c228_18 (rw_icmp_ge (p1 := 57) (p2 := 21) (by decide) rfl ⟨Int.le_trans (by decide) b1465.1, Int.le_trans b1465.2 (by decide)⟩ ⟨Int.le_trans (by decide) b1471, Int.le_trans b1472 (by decide)⟩ (fun c1473 => ?_) (fun c1473 => ?_))
      · refine wp_of e228 c228_57 (rw_iload_n (pc' := 58) (z := v1462) rfl rfl ?_)
        exact wp_ireturn e228 c228_58 rfl ⟨rfl, rfl, v1462, rfl, ⟨b1466.1, b1466.2⟩, (by show _ = ((xct d g (a2).toNat (d 0 3).toNat : Nat) : Int); rw [show (d 0 3).toNat = (v1461).toNat by omega]; assumption)⟩
      · refine wp_of e228 c228_21 (rw_iload_n (pc' := 22) (z := v1462) rfl rfl ?_)
        refine wp_of e228 c228_22 (rw_aload_n (pc' := 23) (v := .ref r0) rfl rfl rfl ?_)
        refine wp_of e228 c228_23 (xg_R (pc' := 26) lf_9_33 hW g0 sh_42 (by decide) (by decide) ty_42_25 rfl rfl (fun r1474 q1475 g1476 => ?_))
        refine wp_of e228 c228_26 (rw_bipush (pc' := 28) (z := 40) rfl (by decide) ?_)
        refine wp_of e228 c228_28 (rw_iload (pc' := 30) (z := v1461) rfl rfl ?_)
        refine wp_of e228 c228_30 (rw_imul (pc' := 31) rfl ?_)
        refine wp_of e228 c228_31 (rw_aload_n (pc' := 32) (v := .ref r1) rfl rfl rfl ?_)
        refine wp_of e228 c228_32 (rw_iload (pc' := 34) (z := v1461) rfl rfl ?_)
        refine wp_of e228 c228_34 (xa_I (so := 0) (pc' := 35) hW g1 sh_51 (by decide) (ty_51 _) (b1465.1) (by omega) rfl (fun b1477 b1478 => ?_))
        have := RR_at hRR_r1 (k := (v1461.toNat)) (by omega)
        have _s := p1 (v1461.toNat) (by omega)
        refine wp_of e228 c228_35 (rw_iadd (pc' := 36) rfl ?_)
        refine wp_of e228 c228_36 (xa_I (so := 0) (pc' := 37) hW g1476 sh_49 (by decide) (ty_49 _) (by omega) (by omega) rfl (fun b1479 b1480 => ?_))
        have := LB_x h1243 q1475 (k := (v1461).toNat) (i := (g (v1461).toNat).toNat) (s := (((40 * v1461) + (H r1 (v1461.toNat))).toNat)) (by omega) (by omega) (by omega) _pk (by omega)
        have _x : xwk d (v1461).toNat ((xsp d (v1461).toNat).getD (g (v1461).toNat).toNat (0, 0)) = xwb d g (v1461).toNat := rfl
        refine wp_of e228 c228_37 (rw_iload_n (pc' := 38) (z := a2) rfl rfl ?_)
        have _h := hb_and (b := xwb d g (v1461).toNat) (h := (a2).toNat) (by have := @xwb_b d g (v1461).toNat; omega) (by omega)
        rw [Int.toNat_of_nonneg (by omega : 0 ≤ a2), ← (show H r1474 (((40 * v1461) + (H r1 (v1461.toNat))).toNat) = xwb d g (v1461).toNat by omega)] at _h
        have _hb := @hb_b (xwb d g (v1461).toNat) (a2).toNat
        rw [← (show H r1474 (((40 * v1461) + (H r1 (v1461.toNat))).toNat) = xwb d g (v1461).toNat by omega)] at _hb
        have _hx : hb (H r1474 (((40 * v1461) + (H r1 (v1461.toNat))).toNat)) (a2).toNat = hb (xwb d g (v1461).toNat) (a2).toNat := by rw [show H r1474 (((40 * v1461) + (H r1 (v1461.toNat))).toNat) = xwb d g (v1461).toNat by omega]
        refine wp_of e228 c228_38 (xc_S (pc' := 41) (as := [vI (H r1474 (((40 * v1461) + (H r1 (v1461.toNat))).toNat)), vI a2]) (st := [vI v1462]) (lm_9_346) rfl rfl (Nat.le_of_ble_eq_true rfl) rfl (by decide) (u_205  hW ⟨b1479, b1480⟩ ⟨Int.le_trans (by decide) i2.1, Int.le_trans i2.2 (by decide)⟩) (fun R1481 T1482 H1483 p1484 => ?_))
        obtain ⟨e1485, e1487, z1488, e1486, b1489, p1490⟩ := p1484
        subst e1485
        subst e1486
        subst e1487
        rcases p1490 with ⟨a1491, a1492⟩ | ⟨a1493, a1494⟩
        · show wp _ _ 228 41 [(4, vI v1461), (3, vI v1462), (0, .ref r0), (1, .ref r1), (2, vI a2)] [vI z1488, vI v1462] _ H _
          refine wp_of e228 c228_41 (rw_if_eq (p1 := 48) (p2 := 44) (by decide) rfl ⟨Int.le_trans (by decide) b1489.1, Int.le_trans b1489.2 (by decide)⟩ (fun c1495 => ?_) (fun c1495 => ?_))
          · exfalso
            omega
          · refine wp_of e228 c228_44 (rw_iconst (pc' := 45) rfl ?_)
            refine wp_of e228 c228_45 (rw_goto (p1 := 49) (by decide) ?_)
            refine wp_of e228 c228_49 (rw_iadd (pc' := 50) rfl ?_)
            refine wp_of e228 c228_50 (rw_istore_n (pc' := 51) (z := v1462 + 1) (L' := [(3, vI (v1462 + 1)), (4, vI v1461), (0, .ref r0), (1, .ref r1), (2, vI a2)]) rfl rfl rfl ?_)
            have _q : v1462 + 1 = ((xct d g (a2).toNat (v1461 + 1).toNat : Nat) : Int) := by
              rw [show (v1461 + 1).toNat = (v1461).toNat + 1 by omega]
              have _e : xct d g (a2).toNat ((v1461).toNat + 1) = xct d g (a2).toNat (v1461).toNat + hb (xwb d g (v1461).toNat) (a2).toNat := rfl
              rw [_e]
              omega
            refine wp_of e228 c228_51 (rw_iinc (pc' := 54) (z := v1461) (L' := [(4, vI (v1461 + 1)), (3, vI (v1462 + 1)), (0, .ref r0), (1, .ref r1), (2, vI a2)]) rfl rfl rfl rfl ?_)
            refine wp_of e228 c228_54 (rw_goto (p1 := 9) (by decide) ?_)
            exact wp_lc (ks := [4, 3, 0, 1, 2]) (wl_c rfl (wl_c rfl (wl_c rfl (wl_c rfl (wl_c rfl wl_n))))) rfl (by decide) (ih1460 _ (by omega) (v1461 + 1) (v1462 + 1) ⟨by omega, by omega⟩ ⟨by omega, by omega⟩ (by omega) (by omega) (_q) rfl)
        · show wp _ _ 228 41 [(4, vI v1461), (3, vI v1462), (0, .ref r0), (1, .ref r1), (2, vI a2)] [vI z1488, vI v1462] _ H _
          refine wp_of e228 c228_41 (rw_if_eq (p1 := 48) (p2 := 44) (by decide) rfl ⟨Int.le_trans (by decide) b1489.1, Int.le_trans b1489.2 (by decide)⟩ (fun c1496 => ?_) (fun c1496 => ?_))
          · refine wp_of e228 c228_48 (rw_iconst (pc' := 49) rfl ?_)
            refine wp_of e228 c228_49 (rw_iadd (pc' := 50) rfl ?_)
            refine wp_of e228 c228_50 (rw_istore_n (pc' := 51) (z := v1462 + 0) (L' := [(3, vI (v1462 + 0)), (4, vI v1461), (0, .ref r0), (1, .ref r1), (2, vI a2)]) rfl rfl rfl ?_)
            have _q : v1462 + 0 = ((xct d g (a2).toNat (v1461 + 1).toNat : Nat) : Int) := by
              rw [show (v1461 + 1).toNat = (v1461).toNat + 1 by omega]
              have _e : xct d g (a2).toNat ((v1461).toNat + 1) = xct d g (a2).toNat (v1461).toNat + hb (xwb d g (v1461).toNat) (a2).toNat := rfl
              rw [_e]
              omega
            refine wp_of e228 c228_51 (rw_iinc (pc' := 54) (z := v1461) (L' := [(4, vI (v1461 + 1)), (3, vI (v1462 + 0)), (0, .ref r0), (1, .ref r1), (2, vI a2)]) rfl rfl rfl rfl ?_)
            refine wp_of e228 c228_54 (rw_goto (p1 := 9) (by decide) ?_)
            exact wp_lc (ks := [4, 3, 0, 1, 2]) (wl_c rfl (wl_c rfl (wl_c rfl (wl_c rfl (wl_c rfl wl_n))))) rfl (by decide) (ih1460 _ (by omega) (v1461 + 1) (v1462 + 0) ⟨by omega, by omega⟩ ⟨by omega, by omega⟩ (by omega) (by omega) (_q) rfl)
          · exfalso
            omega
  exact wp_lc (ks := [4, 3, 0, 1, 2]) (wl_c rfl (wl_c rfl (wl_c rfl (wl_c rfl (wl_c rfl wl_n))))) rfl (by decide) (lp1458 _ 0 z1251 ⟨by decide, by decide⟩ ⟨b1252.1, Int.le_trans b1252.2 (by decide)⟩ (by omega) (by omega) (by assumption) rfl)
/-! StrikeAwakeModel.offIn([II)I l -/
abbrev uq_234_l (r0 : Nat) (r1 : Nat) (a2 : Int) (pp : Nat) (e : xD) (d : xD) (g : Nat → Int) (T : wq_T) (H : wq_H) : Option Value → wq_T → wq_H → Prop := fun r T' H' => T = T' ∧ H = H' ∧ ∃ z : Int, some (vI z) = r ∧ (0 ≤ z ∧ z ≤ 2) ∧ (((z = xvo (e 13 (a2).toNat - 1) ((xdue d g (a2).toNat : Nat) : Int) (d 0 1))))
set_option maxHeartbeats 4000000 in
theorem u_234_l {kt : Nat → Option mc_E} {T : wq_T} {H : wq_H} {r0 : Nat} {r1 : Nat} {a2 : Int} {pp : Nat} {e : xD} {d : xD} {g : Nat → Int} (hW : WT T H) (g0 : T.2.2.2 r0 = some 42) (g1 : T.2.2.2 r1 = some 51) (i2 : 0 ≤ a2 ∧ a2 ≤ 23) (qpp : H r0 3 = (pp : Int)) (gpp : T.2.2.2 pp = some 54) (p0 : XW d) (p1 : SL d g) (p2 : ∀ h : Nat, h < 24 → 0 ≤ e 13 h ∧ e 13 h ≤ 100) (hRB_r0 : RB T H r0 e d) (hRR_r1 : RR T H r1 (d 0 3) g) : wpc kt 3 234 [.ref r0, .ref r1, vI a2] T H (uq_234_l r0 r1 a2 pp e d g T H) := by
  refine wp_enter e234 (Nat.le_of_ble_eq_true rfl) rfl ?_
  show wp _ _ 234 0 [(0, .ref r0), (1, .ref r1), (2, vI a2)] [] _ H _
  have _xc := p0.2.1
  unfold XC at _xc
  have _n3 : H r0 3 ≠ -1 := by omega
  have _k := RP_k (RB_at hRB_r0 qpp)
  have _ar := RB_ar hRB_r0 (by omega)
  have _pk := _ar.1
  have h1045 : MN20 T H r0 24 (e 13) := _ar.2.2.1
  refine wp_of e234 c234_0 (rw_aload_n (pc' := 1) (v := .ref r0) rfl rfl rfl ?_)
  refine wp_of e234 c234_1 (xg_R (pc' := 4) lf_9_17 hW g0 sh_42 (by decide) (by decide) ty_42_20 rfl rfl (fun r1046 q1047 g1048 => ?_))
  refine wp_of e234 c234_4 (rw_iload_n (pc' := 5) (z := a2) rfl rfl ?_)
  refine wp_of e234 c234_5 (xa_I (so := 0) (pc' := 6) hW g1048 sh_44 (by decide) (ty_44 _) (i2.1) (Int.lt_of_le_of_lt i2.2 (by decide)) rfl (fun b1049 b1050 => ?_))
  have := DA_at h1045 q1047 (k := (a2.toNat)) (by omega)
  have _eb := p2 (a2.toNat) (by omega)
  refine wp_of e234 c234_6 (rw_iconst (pc' := 7) rfl ?_)
  refine wp_of e234 c234_7 (rw_isubw (pc' := 8) rfl ?_)
  obtain ⟨v1051, e1052⟩ : ∃ x : Int, x = wq_w ((H r1046 (a2.toNat)) - 1) := ⟨_, rfl⟩
  rw [← e1052]
  have b1053 : -2147483648 ≤ v1051 ∧ v1051 ≤ 2147483647 := by
    rw [e1052]
    exact wI_w _
  have b1054 : (-2147483648 ≤ (H r1046 (a2.toNat)) - 1 ∧ (H r1046 (a2.toNat)) - 1 ≤ 2147483647) → v1051 = (H r1046 (a2.toNat)) - 1 := fun h => by rw [e1052]; exact wq_w_id h
  refine wp_of e234 c234_8 (rw_aload_n (pc' := 9) (v := .ref r0) rfl rfl rfl ?_)
  refine wp_of e234 c234_9 (rw_aload_n (pc' := 10) (v := .ref r1) rfl rfl rfl ?_)
  refine wp_of e234 c234_10 (rw_iload_n (pc' := 11) (z := a2) rfl rfl ?_)
  refine wp_of e234 c234_11 (xc_V (pc' := 14) (r := r0) (as := [.ref r1, vI a2]) (st := [vI v1051]) (lm_9_386) rfl rfl (Nat.le_of_ble_eq_true rfl) hW g0 sh_42 (by decide) rfl (by decide) (u_228_l (e := e) (d := d) (g := g) hW g0 g1 ⟨i2.1, i2.2⟩ qpp gpp (by assumption) (by assumption) hRB_r0 hRR_r1) (fun R1055 T1056 H1057 p1058 => ?_))
  obtain ⟨e1059, e1061, z1062, e1060, b1063, p1064⟩ := p1058
  subst e1059
  subst e1060
  subst e1061
  show wp _ _ 234 14 [(0, .ref r0), (1, .ref r1), (2, vI a2)] [vI z1062, vI v1051] _ H _
  refine wp_of e234 c234_14 (rw_isubw (pc' := 15) rfl ?_)
  obtain ⟨v1066, e1067⟩ : ∃ x : Int, x = wq_w (v1051 - z1062) := ⟨_, rfl⟩
  rw [← e1067]
  have b1068 : -2147483648 ≤ v1066 ∧ v1066 ≤ 2147483647 := by
    rw [e1067]
    exact wI_w _
  have b1069 : (-2147483648 ≤ v1051 - z1062 ∧ v1051 - z1062 ≤ 2147483647) → v1066 = v1051 - z1062 := fun h => by rw [e1067]; exact wq_w_id h
  refine wp_of e234 c234_15 (rw_istore_n (pc' := 16) (z := v1066) (L' := [(3, vI v1066), (0, .ref r0), (1, .ref r1), (2, vI a2)]) rfl rfl rfl ?_)
  refine wp_of e234 c234_16 (rw_iload_n (pc' := 17) (z := v1066) rfl rfl ?_)
  refine wp_of e234 c234_17 (rw_iconst (pc' := 18) rfl ?_)
  refine wp_of e234 c234_18 (rw_aload_n (pc' := 19) (v := .ref r0) rfl rfl rfl ?_)
  refine wp_of e234 c234_19 (xg_K (pc' := 22) lf_9_337 hW g0 sh_42 (by decide) (by decide) rfl qpp rfl ?_)
  refine wp_of e234 c234_22 (xg_I (pc' := 25) lf_9_222 hW gpp sh_54 (by decide) (by decide) ty_54_1 rfl rfl (fun b1070 b1071 => ?_))
  refine wp_of e234 c234_25 (xc_S (pc' := 28) (as := [vI v1066, vI 0, vI (H pp 1)]) (st := []) (lm_9_125) rfl rfl (Nat.le_of_ble_eq_true rfl) rfl (by decide) (u_186  hW ⟨b1068.1, b1068.2⟩ ⟨by decide, by decide⟩ ⟨b1070, b1071⟩) (fun R1072 T1073 H1074 p1075 => ?_))
  obtain ⟨e1076, e1078, z1079, e1077, b1080, p1081⟩ := p1075
  subst e1076
  subst e1077
  subst e1078
  rcases p1081 with ⟨a1082, a1083⟩ | ⟨a1084, a1085⟩
  · show wp _ _ 234 28 [(3, vI v1066), (0, .ref r0), (1, .ref r1), (2, vI a2)] [vI z1079] _ H _
    refine wp_of e234 c234_28 (rw_if_eq (p1 := 33) (p2 := 31) (by decide) rfl ⟨Int.le_trans (by decide) b1080.1, Int.le_trans b1080.2 (by decide)⟩ (fun c1086 => ?_) (fun c1086 => ?_))
    · exfalso
      omega
    · refine wp_of e234 c234_31 (rw_iconst (pc' := 32) rfl ?_)
      have _z : (0 : Int) = xvo (e 13 (a2).toNat - 1) ((xdue d g (a2).toNat : Nat) : Int) (d 0 1) := by
        unfold xvo
        repeat first | rw [if_pos (Int.le_antisymm (by omega -splitDisjunctions) (by omega -splitDisjunctions))] | rw [if_pos (by omega -splitDisjunctions)] | rw [if_pos (And.intro (by omega -splitDisjunctions) (by omega -splitDisjunctions))] | rw [if_neg (by omega -splitDisjunctions)] | rw [if_neg (by omega)] | rw [if_pos (by omega)]
        first | done | rfl | (exfalso; omega)
      exact wp_ireturn e234 c234_32 rfl ⟨rfl, rfl, 0, rfl, ⟨by decide, by decide⟩, (_z)⟩
  · show wp _ _ 234 28 [(3, vI v1066), (0, .ref r0), (1, .ref r1), (2, vI a2)] [vI z1079] _ H _
    refine wp_of e234 c234_28 (rw_if_eq (p1 := 33) (p2 := 31) (by decide) rfl ⟨Int.le_trans (by decide) b1080.1, Int.le_trans b1080.2 (by decide)⟩ (fun c1087 => ?_) (fun c1087 => ?_))
    · refine wp_of e234 c234_33 (rw_iload_n (pc' := 34) (z := v1066) rfl rfl ?_)
      refine wp_of e234 c234_34 (rw_iconst (pc' := 35) rfl ?_)
      refine wp_of e234 c234_35 (rw_icmp_eq (p1 := 51) (p2 := 38) (by decide) rfl ⟨b1068.1, b1068.2⟩ ⟨by decide, by decide⟩ (fun c1088 => ?_) (fun c1088 => ?_))
      · refine wp_of e234 c234_51 (rw_iconst (pc' := 52) rfl ?_)
        refine wp_of e234 c234_52 (rw_goto (p1 := 56) (by decide) ?_)
        have _z : (1 : Int) = xvo (e 13 (a2).toNat - 1) ((xdue d g (a2).toNat : Nat) : Int) (d 0 1) := by
          unfold xvo
          repeat first | rw [if_pos (Int.le_antisymm (by omega -splitDisjunctions) (by omega -splitDisjunctions))] | rw [if_pos (by omega -splitDisjunctions)] | rw [if_pos (And.intro (by omega -splitDisjunctions) (by omega -splitDisjunctions))] | rw [if_neg (by omega -splitDisjunctions)] | rw [if_neg (by omega)] | rw [if_pos (by omega)]
          first | done | rfl | (exfalso; omega)
        exact wp_ireturn e234 c234_56 rfl ⟨rfl, rfl, 1, rfl, ⟨by decide, by decide⟩, (_z)⟩
      · refine wp_of e234 c234_38 (rw_iload_n (pc' := 39) (z := v1066) rfl rfl ?_)
        refine wp_of e234 c234_39 (rw_aload_n (pc' := 40) (v := .ref r0) rfl rfl rfl ?_)
        refine wp_of e234 c234_40 (xg_K (pc' := 43) lf_9_337 hW g0 sh_42 (by decide) (by decide) rfl qpp rfl ?_)
        refine wp_of e234 c234_43 (xg_I (pc' := 46) lf_9_222 hW gpp sh_54 (by decide) (by decide) ty_54_1 rfl rfl (fun b1089 b1090 => ?_))
        refine wp_of e234 c234_46 (rw_iconst (pc' := 47) rfl ?_)
        refine wp_of e234 c234_47 (rw_iaddw (pc' := 48) rfl ?_)
        obtain ⟨v1091, e1092⟩ : ∃ x : Int, x = wq_w ((H pp 1) + 1) := ⟨_, rfl⟩
        rw [← e1092]
        have b1093 : -2147483648 ≤ v1091 ∧ v1091 ≤ 2147483647 := by
          rw [e1092]
          exact wI_w _
        have b1094 : (-2147483648 ≤ (H pp 1) + 1 ∧ (H pp 1) + 1 ≤ 2147483647) → v1091 = (H pp 1) + 1 := fun h => by rw [e1092]; exact wq_w_id h
        refine wp_of e234 c234_48 (rw_icmp_ne (p1 := 55) (p2 := 51) (by decide) rfl ⟨b1068.1, b1068.2⟩ ⟨b1093.1, b1093.2⟩ (fun c1095 => ?_) (fun c1095 => ?_))
        · refine wp_of e234 c234_55 (rw_iconst (pc' := 56) rfl ?_)
          have _z : (2 : Int) = xvo (e 13 (a2).toNat - 1) ((xdue d g (a2).toNat : Nat) : Int) (d 0 1) := by
            unfold xvo
            repeat first | rw [if_pos (Int.le_antisymm (by omega -splitDisjunctions) (by omega -splitDisjunctions))] | rw [if_pos (by omega -splitDisjunctions)] | rw [if_pos (And.intro (by omega -splitDisjunctions) (by omega -splitDisjunctions))] | rw [if_neg (by omega -splitDisjunctions)] | rw [if_neg (by omega)] | rw [if_pos (by omega)]
            first | done | rfl | (exfalso; omega)
          exact wp_ireturn e234 c234_56 rfl ⟨rfl, rfl, 2, rfl, ⟨by decide, by decide⟩, (_z)⟩
        · refine wp_of e234 c234_51 (rw_iconst (pc' := 52) rfl ?_)
          refine wp_of e234 c234_52 (rw_goto (p1 := 56) (by decide) ?_)
          have _z : (1 : Int) = xvo (e 13 (a2).toNat - 1) ((xdue d g (a2).toNat : Nat) : Int) (d 0 1) := by
            unfold xvo
            repeat first | rw [if_pos (Int.le_antisymm (by omega -splitDisjunctions) (by omega -splitDisjunctions))] | rw [if_pos (by omega -splitDisjunctions)] | rw [if_pos (And.intro (by omega -splitDisjunctions) (by omega -splitDisjunctions))] | rw [if_neg (by omega -splitDisjunctions)] | rw [if_neg (by omega)] | rw [if_pos (by omega)]
            first | done | rfl | (exfalso; omega)
          exact wp_ireturn e234 c234_56 rfl ⟨rfl, rfl, 1, rfl, ⟨by decide, by decide⟩, (_z)⟩
    · exfalso
      omega
end
section
/-! StrikeAwakeModel.bothAsleep([I)I l -/
abbrev uq_235_l (r0 : Nat) (r1 : Nat) (pp : Nat) (e : xD) (d : xD) (g : Nat → Int) (T : wq_T) (H : wq_H) : Option Value → wq_T → wq_H → Prop := fun r T' H' => T = T' ∧ H = H' ∧ ∃ z : Int, some (vI z) = r ∧ (0 ≤ z ∧ z ≤ 16777215) ∧ (((z = xqu d g (d 0 3).toNat)))
set_option maxHeartbeats 4000000 in
theorem u_235_l {kt : Nat → Option mc_E} {T : wq_T} {H : wq_H} {r0 : Nat} {r1 : Nat} {pp : Nat} {e : xD} {d : xD} {g : Nat → Int} (hW : WT T H) (g0 : T.2.2.2 r0 = some 42) (g1 : T.2.2.2 r1 = some 51) (qpp : H r0 3 = (pp : Int)) (gpp : T.2.2.2 pp = some 54) (p0 : XW d) (p1 : SL d g) (p2 : XN d) (hRB_r0 : RB T H r0 e d) (hRR_r1 : RR T H r1 (d 0 3) g) : wpc kt 1 235 [.ref r0, .ref r1] T H (uq_235_l r0 r1 pp e d g T H) := by
  refine wp_enter e235 (Nat.le_of_ble_eq_true rfl) rfl ?_
  show wp _ _ 235 0 [(0, .ref r0), (1, .ref r1)] [] _ H _
  have b1176 : 0 ≤ H pp 4 ∧ H pp 4 ≤ 3 := hW.box gpp (n := 27) rfl (by decide) rfl
  have h1177 : MA18 T H pp (d 10) := RP_18 (RB_at hRB_r0 qpp)
  have h1178 : MA19 T H pp (d 11) := RP_19 (RB_at hRB_r0 qpp)
  have _xc := p0.2.1
  unfold XC at _xc
  have _n3 : H r0 3 ≠ -1 := by omega
  have _k := RP_k (RB_at hRB_r0 qpp)
  have _ar := RB_ar hRB_r0 (by omega)
  have _pk := _ar.1
  have h1179 : LB24 T H r0 (xas d) (xsq d) := _ar.2.2.2.2.2.2.1
  refine wp_of e235 c235_0 (rw_iconst (pc' := 1) rfl ?_)
  refine wp_of e235 c235_1 (rw_istore_n (pc' := 2) (z := 0) (L' := [(2, vI 0), (0, .ref r0), (1, .ref r1)]) rfl rfl rfl ?_)
  refine wp_of e235 c235_2 (rw_iconst (pc' := 3) rfl ?_)
  refine wp_of e235 c235_3 (rw_istore_n (pc' := 4) (z := 0) (L' := [(3, vI 0), (2, vI 0), (0, .ref r0), (1, .ref r1)]) rfl rfl rfl ?_)
  have lp1320 : ∀ (n1321 : Nat) (v1323 : Int) (v1324 : Int), (0 ≤ v1323 ∧ v1323 ≤ 3) → (0 ≤ v1324 ∧ v1324 ≤ 16777215) → (v1323 ≤ d 0 4) → (v1324 = xpq d g (v1323).toNat) → (3 - v1323).toNat = n1321 → wp kt 0 235 4 [(3, vI v1323), (2, vI v1324), (0, .ref r0), (1, .ref r1)] [] T H (uq_235_l r0 r1 pp e d g T H) := by
    intro n1321
    induction n1321 using Nat.strongRecOn with
    | _ n1321 ih1322 =>
      intro v1323 v1324 b1327 b1328 x1329 x1331 m1330
      refine wp_of e235 c235_4 (rw_iload_n (pc' := 5) (z := v1323) rfl rfl ?_)
      refine wp_of e235 c235_5 (rw_aload_n (pc' := 6) (v := .ref r0) rfl rfl rfl ?_)
      refine wp_of e235 c235_6 (xg_K (pc' := 9) lf_9_337 hW g0 sh_42 (by decide) (by decide) rfl qpp rfl ?_)
      refine wp_of e235 c235_9 (xg_I (pc' := 12) lf_9_276 hW gpp sh_54 (by decide) (by decide) ty_54_4 rfl rfl (fun b1332 b1333 => ?_))
      refine wp_of e235 c235_12 (rw_icmp_ge (p1 := 83) (p2 := 15) (by decide) rfl ⟨Int.le_trans (by decide) b1327.1, Int.le_trans b1327.2 (by decide)⟩ ⟨Int.le_trans (by decide) b1332, Int.le_trans b1333 (by decide)⟩ (fun c1334 => ?_) (fun c1334 => ?_))
      · refine wp_of e235 c235_83 (rw_iload_n (pc' := 84) (z := v1324) rfl rfl ?_)
        exact wp_ireturn e235 c235_84 rfl ⟨rfl, rfl, v1324, rfl, ⟨b1328.1, b1328.2⟩, (by rw [xqu_xpq p2 (by omega), show (d 0 4).toNat = (v1323).toNat by omega]; assumption)⟩
      · have _nn := p2 (v1323).toNat (by omega)
        refine wp_of e235 c235_15 (rw_iload_n (pc' := 16) (z := v1324) rfl rfl ?_)
        refine wp_of e235 c235_16 (rw_aload_n (pc' := 17) (v := .ref r0) rfl rfl rfl ?_)
        refine wp_of e235 c235_17 (xg_R (pc' := 20) lf_9_30 hW g0 sh_42 (by decide) (by decide) ty_42_24 rfl rfl (fun r1335 q1336 g1337 => ?_))
        refine wp_of e235 c235_20 (rw_bipush (pc' := 22) (z := 40) rfl (by decide) ?_)
        refine wp_of e235 c235_22 (rw_aload_n (pc' := 23) (v := .ref r0) rfl rfl rfl ?_)
        refine wp_of e235 c235_23 (xg_K (pc' := 26) lf_9_337 hW g0 sh_42 (by decide) (by decide) rfl qpp rfl ?_)
        refine wp_of e235 c235_26 (xg_R (pc' := 29) lf_9_282 hW gpp sh_54 (by decide) (by decide) ty_54_18 rfl rfl (fun r1338 q1339 g1340 => ?_))
        refine wp_of e235 c235_29 (rw_iload_n (pc' := 30) (z := v1323) rfl rfl ?_)
        refine wp_of e235 c235_30 (xa_I (so := 0) (pc' := 31) hW g1340 sh_64 (by decide) (ty_64 _) (b1327.1) (by omega) rfl (fun b1341 b1342 => ?_))
        have := MA_at h1177 q1339 (k := (v1323.toNat)) (by omega)
        have _s := p1 (d 10 (v1323).toNat).toNat (by omega)
        have _xp : xas d (d 10 (v1323).toNat).toNat ((xsp d (d 10 (v1323).toNat).toNat).getD (g (d 10 (v1323).toNat).toNat).toNat (0, 0)) = xsb d g (d 10 (v1323).toNat).toNat := rfl
        refine wp_of e235 c235_31 (rw_imul (pc' := 32) rfl ?_)
        refine wp_of e235 c235_32 (rw_aload_n (pc' := 33) (v := .ref r1) rfl rfl rfl ?_)
        refine wp_of e235 c235_33 (rw_aload_n (pc' := 34) (v := .ref r0) rfl rfl rfl ?_)
        refine wp_of e235 c235_34 (xg_K (pc' := 37) lf_9_337 hW g0 sh_42 (by decide) (by decide) rfl qpp rfl ?_)
        refine wp_of e235 c235_37 (xg_K (pc' := 40) lf_9_282 hW gpp sh_54 (by decide) (by decide) rfl q1339 rfl ?_)
        refine wp_of e235 c235_40 (rw_iload_n (pc' := 41) (z := v1323) rfl rfl ?_)
        refine wp_of e235 c235_41 (xa_I (so := 0) (pc' := 42) hW g1340 sh_64 (by decide) (ty_64 _) (b1327.1) (by omega) rfl (fun b1343 b1344 => ?_))
        have := MA_at h1177 q1339 (k := (v1323.toNat)) (by omega)
        refine wp_of e235 c235_42 (xa_I (so := 0) (pc' := 43) hW g1 sh_51 (by decide) (ty_51 _) (b1343) (Int.lt_of_le_of_lt b1344 (by decide)) rfl (fun b1345 b1346 => ?_))
        have := RR_at hRR_r1 (k := ((H r1338 (v1323.toNat)).toNat)) (by omega)
        refine wp_of e235 c235_43 (rw_iadd (pc' := 44) rfl ?_)
        have _ge : g ((H r1338 (v1323.toNat)).toNat) = g (d 10 (v1323).toNat).toNat := congrArg g (by omega)
        have _lx := LB_x h1179 q1336 (k := (d 10 (v1323).toNat).toNat) (i := (g (d 10 (v1323).toNat).toNat).toNat) (s := (((40 * (H r1338 (v1323.toNat))) + (H r1 ((H r1338 (v1323.toNat)).toNat))).toNat)) (by omega) (by omega) (by omega) _pk (by omega)
        refine wp_of e235 c235_44 (xa_I (so := 0) (pc' := 45) hW g1337 sh_48 (by decide) (ty_48 _) (by omega) (by omega) rfl (fun b1347 b1348 => ?_))
        refine wp_of e235 c235_45 (rw_aload_n (pc' := 46) (v := .ref r0) rfl rfl rfl ?_)
        refine wp_of e235 c235_46 (xg_K (pc' := 49) lf_9_30 hW g0 sh_42 (by decide) (by decide) rfl q1336 rfl ?_)
        refine wp_of e235 c235_49 (rw_bipush (pc' := 51) (z := 40) rfl (by decide) ?_)
        refine wp_of e235 c235_51 (rw_aload_n (pc' := 52) (v := .ref r0) rfl rfl rfl ?_)
        refine wp_of e235 c235_52 (xg_K (pc' := 55) lf_9_337 hW g0 sh_42 (by decide) (by decide) rfl qpp rfl ?_)
        refine wp_of e235 c235_55 (xg_R (pc' := 58) lf_9_285 hW gpp sh_54 (by decide) (by decide) ty_54_19 rfl rfl (fun r1349 q1350 g1351 => ?_))
        refine wp_of e235 c235_58 (rw_iload_n (pc' := 59) (z := v1323) rfl rfl ?_)
        refine wp_of e235 c235_59 (xa_I (so := 0) (pc' := 60) hW g1351 sh_65 (by decide) (ty_65 _) (b1327.1) (by omega) rfl (fun b1352 b1353 => ?_))
        have := MA_at h1178 q1350 (k := (v1323.toNat)) (by omega)
        have _s := p1 (d 11 (v1323).toNat).toNat (by omega)
        have _xp : xas d (d 11 (v1323).toNat).toNat ((xsp d (d 11 (v1323).toNat).toNat).getD (g (d 11 (v1323).toNat).toNat).toNat (0, 0)) = xsb d g (d 11 (v1323).toNat).toNat := rfl
        refine wp_of e235 c235_60 (rw_imul (pc' := 61) rfl ?_)
        refine wp_of e235 c235_61 (rw_aload_n (pc' := 62) (v := .ref r1) rfl rfl rfl ?_)
        refine wp_of e235 c235_62 (rw_aload_n (pc' := 63) (v := .ref r0) rfl rfl rfl ?_)
        refine wp_of e235 c235_63 (xg_K (pc' := 66) lf_9_337 hW g0 sh_42 (by decide) (by decide) rfl qpp rfl ?_)
        refine wp_of e235 c235_66 (xg_K (pc' := 69) lf_9_285 hW gpp sh_54 (by decide) (by decide) rfl q1350 rfl ?_)
        refine wp_of e235 c235_69 (rw_iload_n (pc' := 70) (z := v1323) rfl rfl ?_)
        refine wp_of e235 c235_70 (xa_I (so := 0) (pc' := 71) hW g1351 sh_65 (by decide) (ty_65 _) (b1327.1) (by omega) rfl (fun b1354 b1355 => ?_))
        have := MA_at h1178 q1350 (k := (v1323.toNat)) (by omega)
        refine wp_of e235 c235_71 (xa_I (so := 0) (pc' := 72) hW g1 sh_51 (by decide) (ty_51 _) (b1354) (Int.lt_of_le_of_lt b1355 (by decide)) rfl (fun b1356 b1357 => ?_))
        have := RR_at hRR_r1 (k := ((H r1349 (v1323.toNat)).toNat)) (by omega)
        refine wp_of e235 c235_72 (rw_iadd (pc' := 73) rfl ?_)
        have _ge : g ((H r1349 (v1323.toNat)).toNat) = g (d 11 (v1323).toNat).toNat := congrArg g (by omega)
        have _lx := LB_x h1179 q1336 (k := (d 11 (v1323).toNat).toNat) (i := (g (d 11 (v1323).toNat).toNat).toNat) (s := (((40 * (H r1349 (v1323.toNat))) + (H r1 ((H r1349 (v1323.toNat)).toNat))).toNat)) (by omega) (by omega) (by omega) _pk (by omega)
        refine wp_of e235 c235_73 (xa_I (so := 0) (pc' := 74) hW g1337 sh_48 (by decide) (ty_48 _) (by omega) (by omega) rfl (fun b1358 b1359 => ?_))
        refine wp_of e235 c235_74 (rw_iand (pc' := 75) rfl ?_)
        obtain ⟨v1360, e1361⟩ : ∃ x : Int, x = wq_and (H r1335 (((40 * (H r1338 (v1323.toNat))) + (H r1 ((H r1338 (v1323.toNat)).toNat))).toNat)) (H r1335 (((40 * (H r1349 (v1323.toNat))) + (H r1 ((H r1349 (v1323.toNat)).toNat))).toNat)) := ⟨_, rfl⟩
        rw [← e1361]
        have b1362 : -2147483648 ≤ v1360 ∧ v1360 ≤ 2147483647 := by
          rw [e1361]
          exact wI_and _ _
        have _an : v1360 = wq_and (xsb d g (d 10 (v1323).toNat).toNat) (xsb d g (d 11 (v1323).toNat).toNat) := xand_e e1361 (by omega) (by omega)
        have _ab := @xsb_and d g (d 10 (v1323).toNat).toNat (d 11 (v1323).toNat).toNat
        refine wp_of e235 c235_75 (rw_ior (pc' := 76) rfl ?_)
        obtain ⟨v1363, e1364⟩ : ∃ x : Int, x = wq_or v1324 v1360 := ⟨_, rfl⟩
        rw [← e1364]
        have b1365 : -2147483648 ≤ v1363 ∧ v1363 ≤ 2147483647 := by
          rw [e1364]
          exact wI_or _ _
        have _q : v1363 = xpq d g (v1323 + 1).toNat := by
          rw [show (v1323 + 1).toNat = (v1323).toNat + 1 by omega]
          exact xpq_s (y := 0) e1364 (by omega) _an
        have _qb2 := xpq_b (d := d) (g := g) (v1323 + 1).toNat
        refine wp_of e235 c235_76 (rw_istore_n (pc' := 77) (z := v1363) (L' := [(2, vI v1363), (3, vI v1323), (0, .ref r0), (1, .ref r1)]) rfl rfl rfl ?_)
        refine wp_of e235 c235_77 (rw_iinc (pc' := 80) (z := v1323) (L' := [(3, vI (v1323 + 1)), (2, vI v1363), (0, .ref r0), (1, .ref r1)]) rfl rfl rfl rfl ?_)
        refine wp_of e235 c235_80 (rw_goto (p1 := 4) (by decide) ?_)
        exact wp_lc (ks := [3, 2, 0, 1]) (wl_c rfl (wl_c rfl (wl_c rfl (wl_c rfl wl_n)))) rfl (by decide) (ih1322 _ (by omega) (v1323 + 1) v1363 ⟨by omega, by omega⟩ ⟨by omega, by omega⟩ (by omega) (_q) rfl)
  exact wp_lc (ks := [3, 2, 0, 1]) (wl_c rfl (wl_c rfl (wl_c rfl (wl_c rfl wl_n)))) rfl (by decide) (lp1320 _ 0 0 ⟨by decide, by decide⟩ ⟨by decide, by decide⟩ (by omega) (rfl) rfl)
/-! StrikeAwakeModel.barredAt([II)I l -/
abbrev uq_239_l (r0 : Nat) (r1 : Nat) (a2 : Int) (pp : Nat) (e : xD) (d : xD) (g : Nat → Int) (T : wq_T) (H : wq_H) : Option Value → wq_T → wq_H → Prop := fun r T' H' => T = T' ∧ H = H' ∧ ∃ z : Int, some (vI z) = r ∧ (0 ≤ z ∧ z ≤ 24) ∧ (((XFB (xbh a2 (xvy e d g)) (d 0 2) 24 z)))
set_option maxHeartbeats 4000000 in
theorem u_239_l {kt : Nat → Option mc_E} {T : wq_T} {H : wq_H} {r0 : Nat} {r1 : Nat} {a2 : Int} {pp : Nat} {e : xD} {d : xD} {g : Nat → Int} (hW : WT T H) (g0 : T.2.2.2 r0 = some 42) (g1 : T.2.2.2 r1 = some 51) (i2 : 0 ≤ a2 ∧ a2 ≤ 16777215) (qpp : H r0 3 = (pp : Int)) (gpp : T.2.2.2 pp = some 54) (p0 : XW d) (p1 : SL d g) (p2 : ∀ h : Nat, d 0 0 ≤ (h : Int) → h < 24 → e 13 h = 0) (p3 : ∀ h : Nat, h < 24 → 0 ≤ e 13 h ∧ e 13 h ≤ 100) (hRB_r0 : RB T H r0 e d) (hRR_r1 : RR T H r1 (d 0 3) g) : wpc kt 4 239 [.ref r0, .ref r1, vI a2] T H (uq_239_l r0 r1 a2 pp e d g T H) := by
  refine wp_enter e239 (Nat.le_of_ble_eq_true rfl) rfl ?_
  show wp _ _ 239 0 [(0, .ref r0), (1, .ref r1), (2, vI a2)] [] _ H _
  have b1394 : 0 ≤ H pp 0 ∧ H pp 0 ≤ 24 := hW.box gpp (n := 27) rfl (by decide) rfl
  have b1395 : (-2147483648) ≤ H pp 2 ∧ H pp 2 ≤ 2147483647 := hW.box gpp (n := 27) rfl (by decide) rfl
  have _xc := p0.2.1
  unfold XC at _xc
  have _n3 : H r0 3 ≠ -1 := by omega
  have _k := RP_k (RB_at hRB_r0 qpp)
  have _ar := RB_ar hRB_r0 (by omega)
  have _pk := _ar.1
  have h1396 : MN20 T H r0 24 (e 13) := _ar.2.2.1
  refine wp_of e239 c239_0 (rw_iconst (pc' := 1) rfl ?_)
  refine wp_of e239 c239_1 (rw_istore_n (pc' := 2) (z := 0) (L' := [(3, vI 0), (0, .ref r0), (1, .ref r1), (2, vI a2)]) rfl rfl rfl ?_)
  refine wp_of e239 c239_2 (rw_iconst (pc' := 3) rfl ?_)
  refine wp_of e239 c239_3 (rw_istore (pc' := 5) (z := 0) (L' := [(4, vI 0), (3, vI 0), (0, .ref r0), (1, .ref r1), (2, vI a2)]) rfl rfl rfl ?_)
  have lp1749 : ∀ (n1750 : Nat) (v1752 : Int) (v1753 : Int), (0 ≤ v1752 ∧ v1752 ≤ 24) → (0 ≤ v1753 ∧ v1753 ≤ 48) → (v1753 ≤ 2 * v1752) → (v1752 ≤ d 0 0) → (v1753 ≤ d 0 2) → (v1753 = xco (xbh a2 (xvy e d g)) (v1752).toNat) → (∀ h : Nat, (h : Int) < v1752 → xbad (xbh a2 (xvy e d g)) (d 0 2) h = false) → (24 - v1752).toNat = n1750 → wp kt 3 239 5 [(4, vI v1752), (3, vI v1753), (0, .ref r0), (1, .ref r1), (2, vI a2)] [] T H (uq_239_l r0 r1 a2 pp e d g T H) := by
    intro n1750
    induction n1750 using Nat.strongRecOn with
    | _ n1750 ih1751 =>
      intro v1752 v1753 b1756 b1757 x1759 x1760 x1761 x1762 x1763 m1758
      refine wp_of e239 c239_5 (rw_iload (pc' := 7) (z := v1752) rfl rfl ?_)
      refine wp_of e239 c239_7 (rw_aload_n (pc' := 8) (v := .ref r0) rfl rfl rfl ?_)
      refine wp_of e239 c239_8 (xg_K (pc' := 11) lf_9_337 hW g0 sh_42 (by decide) (by decide) rfl qpp rfl ?_)
      refine wp_of e239 c239_11 (xg_I (pc' := 14) lf_9_185 hW gpp sh_54 (by decide) (by decide) ty_54_0 rfl rfl (fun b1764 b1765 => ?_))
      refine wp_of e239 c239_14 (rw_icmp_ge (p1 := 79) (p2 := 17) (by decide) rfl ⟨Int.le_trans (by decide) b1756.1, Int.le_trans b1756.2 (by decide)⟩ ⟨Int.le_trans (by decide) b1764, Int.le_trans b1765 (by decide)⟩ (fun c1766 => ?_) (fun c1766 => ?_))
      · refine wp_of e239 c239_79 (rw_bipush (pc' := 81) (z := 24) rfl (by decide) ?_)
        have _z : XFB (xbh a2 (xvy e d g)) (d 0 2) 24 24 := XFB_e (xbad_all (u := (v1752).toNat) (fun h hh => ‹∀ h : Nat, (h : Int) < v1752 → xbad (xbh a2 (xvy e d g)) (d 0 2) h = false› h (by omega)) (xbad_gap (fun j a b => by
          unfold xbh
          split
          · rfl
          · exact xvy_0 (by have := p2 j (by omega) b; omega)) (by omega)))
        exact wp_ireturn e239 c239_81 rfl ⟨rfl, rfl, 24, rfl, ⟨by decide, by decide⟩, (_z)⟩
      · refine wp_of e239 c239_17 (rw_iload_n (pc' := 18) (z := a2) rfl rfl ?_)
        refine wp_of e239 c239_18 (rw_iload (pc' := 20) (z := v1752) rfl rfl ?_)
        refine wp_of e239 c239_20 (xc_S (pc' := 23) (as := [vI a2, vI v1752]) (st := []) (lm_9_346) rfl rfl (Nat.le_of_ble_eq_true rfl) rfl (by decide) (u_205  hW ⟨Int.le_trans (by decide) i2.1, Int.le_trans i2.2 (by decide)⟩ ⟨Int.le_trans (by decide) b1756.1, Int.le_trans b1756.2 (by decide)⟩) (fun R1767 T1768 H1769 p1770 => ?_))
        obtain ⟨e1771, e1773, z1774, e1772, b1775, p1776⟩ := p1770
        subst e1771
        subst e1772
        subst e1773
        rcases p1776 with ⟨a1777, a1778⟩ | ⟨a1779, a1780⟩
        · show wp _ _ 239 23 [(4, vI v1752), (3, vI v1753), (0, .ref r0), (1, .ref r1), (2, vI a2)] [vI z1774] _ H _
          have _h := hb_and (b := a2) (h := (v1752).toNat) (by omega) (by omega)
          rw [Int.toNat_of_nonneg (by omega : 0 ≤ v1752)] at _h
          have _hb := @hb_b a2 (v1752).toNat
          have _e3 := (by assumption : ∀ h : Nat, h < 24 → 0 ≤ e 13 h ∧ e 13 h ≤ 100) (v1752).toNat (by omega)
          refine wp_of e239 c239_23 (rw_if_eq (p1 := 73) (p2 := 26) (by decide) rfl ⟨Int.le_trans (by decide) b1775.1, Int.le_trans b1775.2 (by decide)⟩ (fun c1781 => ?_) (fun c1781 => ?_))
          · exfalso
            omega
          · refine wp_of e239 c239_26 (rw_aload_n (pc' := 27) (v := .ref r0) rfl rfl rfl ?_)
            refine wp_of e239 c239_27 (xg_R (pc' := 30) lf_9_17 hW g0 sh_42 (by decide) (by decide) ty_42_20 rfl rfl (fun r1782 q1783 g1784 => ?_))
            refine wp_of e239 c239_30 (rw_iload (pc' := 32) (z := v1752) rfl rfl ?_)
            refine wp_of e239 c239_32 (xa_I (so := 0) (pc' := 33) hW g1784 sh_44 (by decide) (ty_44 _) (b1756.1) (by omega) rfl (fun b1785 b1786 => ?_))
            have := DA_at h1396 q1783 (k := (v1752.toNat)) (by omega)
            refine wp_of e239 c239_33 (rw_if_ne (p1 := 39) (p2 := 36) (by decide) rfl ⟨b1785, b1786⟩ (fun c1787 => ?_) (fun c1787 => ?_))
            · refine wp_of e239 c239_39 (rw_aload_n (pc' := 40) (v := .ref r0) rfl rfl rfl ?_)
              refine wp_of e239 c239_40 (rw_aload_n (pc' := 41) (v := .ref r1) rfl rfl rfl ?_)
              refine wp_of e239 c239_41 (rw_iload (pc' := 43) (z := v1752) rfl rfl ?_)
              refine wp_of e239 c239_43 (xc_V (pc' := 46) (r := r0) (as := [.ref r1, vI v1752]) (st := []) (lm_9_390) rfl rfl (Nat.le_of_ble_eq_true rfl) hW g0 sh_42 (by decide) rfl (by decide) (u_234_l (e := e) (d := d) (g := g) hW g0 g1 ⟨b1756.1, by omega⟩ qpp gpp (by assumption) (by assumption) (by assumption) hRB_r0 hRR_r1) (fun R1788 T1789 H1790 p1791 => ?_))
              obtain ⟨e1792, e1794, z1795, e1793, b1796, p1797⟩ := p1791
              subst e1792
              subst e1793
              subst e1794
              show wp _ _ 239 46 [(4, vI v1752), (3, vI v1753), (0, .ref r0), (1, .ref r1), (2, vI a2)] [vI z1795] _ H _
              have _vb : z1795 = xvy e d g (v1752).toNat := by
                unfold xvy xvc
                rw [if_neg (by omega)]
                assumption
              refine wp_of e239 c239_46 (rw_istore (pc' := 48) (z := z1795) (L' := [(5, vI z1795), (4, vI v1752), (3, vI v1753), (0, .ref r0), (1, .ref r1), (2, vI a2)]) rfl rfl rfl ?_)
              refine wp_of e239 c239_48 (rw_iload_n (pc' := 49) (z := v1753) rfl rfl ?_)
              refine wp_of e239 c239_49 (rw_iload (pc' := 51) (z := z1795) rfl rfl ?_)
              refine wp_of e239 c239_51 (rw_iadd (pc' := 52) rfl ?_)
              refine wp_of e239 c239_52 (rw_istore_n (pc' := 53) (z := v1753 + z1795) (L' := [(3, vI (v1753 + z1795)), (5, vI z1795), (4, vI v1752), (0, .ref r0), (1, .ref r1), (2, vI a2)]) rfl rfl rfl ?_)
              refine wp_of e239 c239_53 (rw_iload (pc' := 55) (z := z1795) rfl rfl ?_)
              refine wp_of e239 c239_55 (rw_iconst (pc' := 56) rfl ?_)
              refine wp_of e239 c239_56 (rw_icmp_eq (p1 := 70) (p2 := 59) (by decide) rfl ⟨Int.le_trans (by decide) b1796.1, Int.le_trans b1796.2 (by decide)⟩ ⟨by decide, by decide⟩ (fun c1799 => ?_) (fun c1799 => ?_))
              · refine wp_of e239 c239_70 (rw_iload (pc' := 72) (z := v1752) rfl rfl ?_)
                have _z : XFB (xbh a2 (xvy e d g)) (d 0 2) 24 v1752 := XFB_y (k := (v1752).toNat) (by omega) (by omega) (xbad_t (by
                  have _xs : xco (xbh a2 (xvy e d g)) ((v1752).toNat + 1) = xco (xbh a2 (xvy e d g)) (v1752).toNat + xbh a2 (xvy e d g) (v1752).toNat := rfl
                  have _xh : xbh a2 (xvy e d g) (v1752).toNat = xvy e d g (v1752).toNat := if_neg (by omega)
                  omega)) (fun h hh => ‹∀ h : Nat, (h : Int) < v1752 → xbad (xbh a2 (xvy e d g)) (d 0 2) h = false› h (by omega))
                exact wp_ireturn e239 c239_72 rfl ⟨rfl, rfl, v1752, rfl, ⟨b1756.1, b1756.2⟩, (_z)⟩
              · refine wp_of e239 c239_59 (rw_iload_n (pc' := 60) (z := v1753 + z1795) rfl rfl ?_)
                refine wp_of e239 c239_60 (rw_aload_n (pc' := 61) (v := .ref r0) rfl rfl rfl ?_)
                refine wp_of e239 c239_61 (xg_K (pc' := 64) lf_9_337 hW g0 sh_42 (by decide) (by decide) rfl qpp rfl ?_)
                refine wp_of e239 c239_64 (xg_I (pc' := 67) lf_9_226 hW gpp sh_54 (by decide) (by decide) ty_54_2 rfl rfl (fun b1800 b1801 => ?_))
                refine wp_of e239 c239_67 (rw_icmp_le (p1 := 73) (p2 := 70) (by decide) rfl ⟨by omega, by omega⟩ ⟨b1800, b1801⟩ (fun c1802 => ?_) (fun c1802 => ?_))
                · have _xs : xco (xbh a2 (xvy e d g)) ((v1752).toNat + 1) = xco (xbh a2 (xvy e d g)) (v1752).toNat + xbh a2 (xvy e d g) (v1752).toNat := rfl
                  have _xh : (v1753 + z1795) = xco (xbh a2 (xvy e d g)) (v1752).toNat + xbh a2 (xvy e d g) (v1752).toNat ∧ xbh a2 (xvy e d g) (v1752).toNat ≠ 2 := by
                    by_cases c0 : hb a2 (v1752).toNat = 0
                    · have e0 : xbh a2 (xvy e d g) (v1752).toNat = 0 := if_pos c0
                      omega
                    · have e0 : xbh a2 (xvy e d g) (v1752).toNat = xvy e d g (v1752).toNat := if_neg c0
                      first | (have e1 := xvy_0 (e := e) (d := d) (g := g) (h := (v1752).toNat) (by omega); omega) | omega
                  have _q : (v1753 + z1795) = xco (xbh a2 (xvy e d g)) (v1752 + 1).toNat := by
                    rw [show (v1752 + 1).toNat = (v1752).toNat + 1 by omega]
                    omega
                  have _b2 : ∀ h : Nat, (h : Int) < v1752 + 1 → xbad (xbh a2 (xvy e d g)) (d 0 2) h = false := fun h hh => by
                    by_cases c0 : h = (v1752).toNat
                    · subst c0
                      exact xbad_f (by omega) (by omega)
                    · exact ‹∀ h : Nat, (h : Int) < v1752 → xbad (xbh a2 (xvy e d g)) (d 0 2) h = false› h (by omega)
                  refine wp_of e239 c239_73 (rw_iinc (pc' := 76) (z := v1752) (L' := [(4, vI (v1752 + 1)), (3, vI (v1753 + z1795)), (5, vI z1795), (0, .ref r0), (1, .ref r1), (2, vI a2)]) rfl rfl rfl rfl ?_)
                  refine wp_of e239 c239_76 (rw_goto (p1 := 5) (by decide) ?_)
                  exact wp_lc (ks := [4, 3, 5, 0, 1, 2]) (wl_c rfl (wl_c rfl (wl_c rfl (wl_c rfl (wl_c rfl wl_n))))) rfl (by decide) (ih1751 _ (by omega) (v1752 + 1) (v1753 + z1795) ⟨by omega, by omega⟩ ⟨by omega, by omega⟩ (by omega) (by omega) (by omega) (_q) (_b2) rfl)
                · refine wp_of e239 c239_70 (rw_iload (pc' := 72) (z := v1752) rfl rfl ?_)
                  have _z : XFB (xbh a2 (xvy e d g)) (d 0 2) 24 v1752 := XFB_y (k := (v1752).toNat) (by omega) (by omega) (xbad_t (by
                    have _xs : xco (xbh a2 (xvy e d g)) ((v1752).toNat + 1) = xco (xbh a2 (xvy e d g)) (v1752).toNat + xbh a2 (xvy e d g) (v1752).toNat := rfl
                    have _xh : xbh a2 (xvy e d g) (v1752).toNat = xvy e d g (v1752).toNat := if_neg (by omega)
                    omega)) (fun h hh => ‹∀ h : Nat, (h : Int) < v1752 → xbad (xbh a2 (xvy e d g)) (d 0 2) h = false› h (by omega))
                  exact wp_ireturn e239 c239_72 rfl ⟨rfl, rfl, v1752, rfl, ⟨b1756.1, b1756.2⟩, (_z)⟩
            · refine wp_of e239 c239_36 (rw_goto (p1 := 73) (by decide) ?_)
              have _xs : xco (xbh a2 (xvy e d g)) ((v1752).toNat + 1) = xco (xbh a2 (xvy e d g)) (v1752).toNat + xbh a2 (xvy e d g) (v1752).toNat := rfl
              have _xh : v1753 = xco (xbh a2 (xvy e d g)) (v1752).toNat + xbh a2 (xvy e d g) (v1752).toNat ∧ xbh a2 (xvy e d g) (v1752).toNat ≠ 2 := by
                by_cases c0 : hb a2 (v1752).toNat = 0
                · have e0 : xbh a2 (xvy e d g) (v1752).toNat = 0 := if_pos c0
                  omega
                · have e0 : xbh a2 (xvy e d g) (v1752).toNat = xvy e d g (v1752).toNat := if_neg c0
                  first | (have e1 := xvy_0 (e := e) (d := d) (g := g) (h := (v1752).toNat) (by omega); omega) | omega
              have _q : v1753 = xco (xbh a2 (xvy e d g)) (v1752 + 1).toNat := by
                rw [show (v1752 + 1).toNat = (v1752).toNat + 1 by omega]
                omega
              have _b2 : ∀ h : Nat, (h : Int) < v1752 + 1 → xbad (xbh a2 (xvy e d g)) (d 0 2) h = false := fun h hh => by
                by_cases c0 : h = (v1752).toNat
                · subst c0
                  exact xbad_f (by omega) (by omega)
                · exact ‹∀ h : Nat, (h : Int) < v1752 → xbad (xbh a2 (xvy e d g)) (d 0 2) h = false› h (by omega)
              refine wp_of e239 c239_73 (rw_iinc (pc' := 76) (z := v1752) (L' := [(4, vI (v1752 + 1)), (3, vI v1753), (0, .ref r0), (1, .ref r1), (2, vI a2)]) rfl rfl rfl rfl ?_)
              refine wp_of e239 c239_76 (rw_goto (p1 := 5) (by decide) ?_)
              exact wp_lc (ks := [4, 3, 0, 1, 2]) (wl_c rfl (wl_c rfl (wl_c rfl (wl_c rfl (wl_c rfl wl_n))))) rfl (by decide) (ih1751 _ (by omega) (v1752 + 1) v1753 ⟨by omega, by omega⟩ ⟨b1757.1, b1757.2⟩ (by omega) (by omega) (by omega) (_q) (_b2) rfl)
        · show wp _ _ 239 23 [(4, vI v1752), (3, vI v1753), (0, .ref r0), (1, .ref r1), (2, vI a2)] [vI z1774] _ H _
          have _h := hb_and (b := a2) (h := (v1752).toNat) (by omega) (by omega)
          rw [Int.toNat_of_nonneg (by omega : 0 ≤ v1752)] at _h
          have _hb := @hb_b a2 (v1752).toNat
          have _e3 := (by assumption : ∀ h : Nat, h < 24 → 0 ≤ e 13 h ∧ e 13 h ≤ 100) (v1752).toNat (by omega)
          refine wp_of e239 c239_23 (rw_if_eq (p1 := 73) (p2 := 26) (by decide) rfl ⟨Int.le_trans (by decide) b1775.1, Int.le_trans b1775.2 (by decide)⟩ (fun c1803 => ?_) (fun c1803 => ?_))
          · have _xs : xco (xbh a2 (xvy e d g)) ((v1752).toNat + 1) = xco (xbh a2 (xvy e d g)) (v1752).toNat + xbh a2 (xvy e d g) (v1752).toNat := rfl
            have _xh : v1753 = xco (xbh a2 (xvy e d g)) (v1752).toNat + xbh a2 (xvy e d g) (v1752).toNat ∧ xbh a2 (xvy e d g) (v1752).toNat ≠ 2 := by
              by_cases c0 : hb a2 (v1752).toNat = 0
              · have e0 : xbh a2 (xvy e d g) (v1752).toNat = 0 := if_pos c0
                omega
              · have e0 : xbh a2 (xvy e d g) (v1752).toNat = xvy e d g (v1752).toNat := if_neg c0
                first | (have e1 := xvy_0 (e := e) (d := d) (g := g) (h := (v1752).toNat) (by omega); omega) | omega
            have _q : v1753 = xco (xbh a2 (xvy e d g)) (v1752 + 1).toNat := by
              rw [show (v1752 + 1).toNat = (v1752).toNat + 1 by omega]
              omega
            have _b2 : ∀ h : Nat, (h : Int) < v1752 + 1 → xbad (xbh a2 (xvy e d g)) (d 0 2) h = false := fun h hh => by
              by_cases c0 : h = (v1752).toNat
              · subst c0
                exact xbad_f (by omega) (by omega)
              · exact ‹∀ h : Nat, (h : Int) < v1752 → xbad (xbh a2 (xvy e d g)) (d 0 2) h = false› h (by omega)
            refine wp_of e239 c239_73 (rw_iinc (pc' := 76) (z := v1752) (L' := [(4, vI (v1752 + 1)), (3, vI v1753), (0, .ref r0), (1, .ref r1), (2, vI a2)]) rfl rfl rfl rfl ?_)
            refine wp_of e239 c239_76 (rw_goto (p1 := 5) (by decide) ?_)
            exact wp_lc (ks := [4, 3, 0, 1, 2]) (wl_c rfl (wl_c rfl (wl_c rfl (wl_c rfl (wl_c rfl wl_n))))) rfl (by decide) (ih1751 _ (by omega) (v1752 + 1) v1753 ⟨by omega, by omega⟩ ⟨b1757.1, b1757.2⟩ (by omega) (by omega) (by omega) (_q) (_b2) rfl)
          · exfalso
            omega
  exact wp_lc (ks := [4, 3, 0, 1, 2]) (wl_c rfl (wl_c rfl (wl_c rfl (wl_c rfl (wl_c rfl wl_n))))) rfl (by decide) (lp1749 _ 0 0 ⟨by decide, by decide⟩ ⟨by decide, by decide⟩ (by omega) (by omega) (by omega) (rfl) (fun h hh => by omega) rfl)
/-! StrikeAwakeModel.isWorld([I)Z l -/
abbrev uq_238_l (r0 : Nat) (r1 : Nat) (pp : Nat) (e : xD) (d : xD) (g : Nat → Int) (T : wq_T) (H : wq_H) : Option Value → wq_T → wq_H → Prop := fun r T' H' => T = T' ∧ H = H' ∧ ∃ z : Int, some (vI z) = r ∧ (0 ≤ z ∧ z ≤ 1) ∧ (((z = xwo e d g)))
set_option maxHeartbeats 4000000 in
theorem u_238_l {kt : Nat → Option mc_E} {T : wq_T} {H : wq_H} {r0 : Nat} {r1 : Nat} {pp : Nat} {e : xD} {d : xD} {g : Nat → Int} (hW : WT T H) (g0 : T.2.2.2 r0 = some 42) (g1 : T.2.2.2 r1 = some 51) (qpp : H r0 3 = (pp : Int)) (gpp : T.2.2.2 pp = some 54) (p0 : XW d) (p1 : SL d g) (p2 : ∀ h : Nat, d 0 0 ≤ (h : Int) → h < 24 → e 13 h = 0) (p3 : XN d) (p4 : ∀ h : Nat, h < 24 → 0 ≤ e 13 h ∧ e 13 h ≤ 100) (hRB_r0 : RB T H r0 e d) (hRR_r1 : RR T H r1 (d 0 3) g) : wpc kt 5 238 [.ref r0, .ref r1] T H (uq_238_l r0 r1 pp e d g T H) := by
  refine wp_enter e238 (Nat.le_of_ble_eq_true rfl) rfl ?_
  show wp _ _ 238 0 [(0, .ref r0), (1, .ref r1)] [] _ H _
  have b1027 : (-2147483648) ≤ H r0 19 ∧ H r0 19 ≤ 2147483647 := hW.box g0 (n := 33) rfl (by decide) rfl
  have _xc := p0.2.1
  unfold XC at _xc
  have _n3 : H r0 3 ≠ -1 := by omega
  have _k := RP_k (RB_at hRB_r0 qpp)
  have _alb := @xal_b d
  refine wp_of e238 c238_0 (rw_aload_n (pc' := 1) (v := .ref r0) rfl rfl rfl ?_)
  refine wp_of e238 c238_1 (rw_aload_n (pc' := 2) (v := .ref r1) rfl rfl rfl ?_)
  refine wp_of e238 c238_2 (xc_V (pc' := 5) (r := r0) (as := [.ref r1]) (st := []) (lm_9_393) rfl rfl (Nat.le_of_ble_eq_true rfl) hW g0 sh_42 (by decide) rfl (by decide) (u_235_l (e := e) (d := d) (g := g) hW g0 g1 qpp gpp (by assumption) (by assumption) (by assumption) hRB_r0 hRR_r1) (fun R1028 T1029 H1030 p1031 => ?_))
  obtain ⟨e1032, e1034, z1035, e1033, b1036, p1037⟩ := p1031
  subst e1032
  subst e1033
  subst e1034
  show wp _ _ 238 5 [(0, .ref r0), (1, .ref r1)] [vI z1035] _ H _
  refine wp_of e238 c238_5 (rw_if_ne (p1 := 26) (p2 := 8) (by decide) rfl ⟨Int.le_trans (by decide) b1036.1, Int.le_trans b1036.2 (by decide)⟩ (fun c1039 => ?_) (fun c1039 => ?_))
  · refine wp_of e238 c238_26 (rw_iconst (pc' := 27) rfl ?_)
    have _z : (0 : Int) = xwo e d g := by first | omega | exact (xwo_q (by omega)).symm
    exact wp_zreturn e238 c238_27 rfl (by omega) ⟨rfl, rfl, 0, rfl, ⟨by decide, by decide⟩, (_z)⟩
  · refine wp_of e238 c238_8 (rw_aload_n (pc' := 9) (v := .ref r0) rfl rfl rfl ?_)
    refine wp_of e238 c238_9 (rw_aload_n (pc' := 10) (v := .ref r1) rfl rfl rfl ?_)
    refine wp_of e238 c238_10 (rw_aload_n (pc' := 11) (v := .ref r0) rfl rfl rfl ?_)
    refine wp_of e238 c238_11 (xg_I (pc' := 14) lf_9_343 hW g0 sh_42 (by decide) (by decide) ty_42_19 rfl rfl (fun b1040 b1041 => ?_))
    refine wp_of e238 c238_14 (xc_V (pc' := 17) (r := r0) (as := [.ref r1, vI (H r0 19)]) (st := []) (lm_9_397) rfl rfl (Nat.le_of_ble_eq_true rfl) hW g0 sh_42 (by decide) rfl (by decide) (u_239_l (e := e) (d := d) (g := g) hW g0 g1 ⟨by omega, by omega⟩ qpp gpp (by assumption) (by assumption) (by assumption) (by assumption) hRB_r0 hRR_r1) (fun R1042 T1043 H1044 p1045 => ?_))
    obtain ⟨e1046, e1048, z1049, e1047, b1050, p1051⟩ := p1045
    subst e1046
    subst e1047
    subst e1048
    show wp _ _ 238 17 [(0, .ref r0), (1, .ref r1)] [vI z1049] _ H _
    have _fb : XFB (xvy e d g) (d 0 2) 24 z1049 := XFB_cg (xbh_al ⟨by omega, by omega⟩ p2) (by rw [← show H r0 19 = xal d by omega]; assumption)
    have _w := xwo_f (e := e) (d := d) (g := g) (by omega) _fb
    refine wp_of e238 c238_17 (rw_bipush (pc' := 19) (z := 24) rfl (by decide) ?_)
    refine wp_of e238 c238_19 (rw_icmp_ne (p1 := 26) (p2 := 22) (by decide) rfl ⟨Int.le_trans (by decide) b1050.1, Int.le_trans b1050.2 (by decide)⟩ ⟨by decide, by decide⟩ (fun c1053 => ?_) (fun c1053 => ?_))
    · refine wp_of e238 c238_26 (rw_iconst (pc' := 27) rfl ?_)
      have _z : (0 : Int) = xwo e d g := by first | omega | exact (xwo_q (by omega)).symm
      exact wp_zreturn e238 c238_27 rfl (by omega) ⟨rfl, rfl, 0, rfl, ⟨by decide, by decide⟩, (_z)⟩
    · refine wp_of e238 c238_22 (rw_iconst (pc' := 23) rfl ?_)
      refine wp_of e238 c238_23 (rw_goto (p1 := 27) (by decide) ?_)
      have _z : (1 : Int) = xwo e d g := by first | omega | exact (xwo_q (by omega)).symm
      exact wp_zreturn e238 c238_27 rfl (by omega) ⟨rfl, rfl, 1, rfl, ⟨by decide, by decide⟩, (_z)⟩
/-! StrikeAwakeModel.knows()V  -/
abbrev uq_242 (r0 : Nat) (pp : Nat) (e : xD) (d : xD) (T : wq_T) (H : wq_H) : Option Value → wq_T → wq_H → Prop := fun r T' H' => T = T' ∧ WT T H' ∧ wfr [(42, 28), (42, 29), (51, 999), (52, 999)] T H H' ∧ none = r ∧ (((wKI H' r0 = 1) ∧ (H' r0 29 = 0 ∨ 0 < wLM H' r0) ∧ (wLM H' r0 = wLM H r0) ∧ (H' r0 28 ≠ 0) ∧ KNB T H' r0 e d (xlots d).toNat))
set_option maxHeartbeats 4000000 in
theorem u_242 {kt : Nat → Option mc_E} {T : wq_T} {H : wq_H} {r0 : Nat} {pp : Nat} {e : xD} {d : xD} (hW : WT T H) (g0 : T.2.2.2 r0 = some 42) (qpp : H r0 3 = (pp : Int)) (gpp : T.2.2.2 pp = some 54) (p0 : wKI H r0 = 1) (p1 : wLM H r0 ≤ 20000) (p2 : XW d) (p3 : ∀ h : Nat, d 0 0 ≤ (h : Int) → h < 24 → e 13 h = 0) (p4 : XN d) (p5 : ∀ h : Nat, h < 24 → 0 ≤ e 13 h ∧ e 13 h ≤ 100) (hRB_r0 : RB T H r0 e d) (hKNN_r0 : KNN T H r0 e d) : wpc kt 6 242 [.ref r0] T H (uq_242 r0 pp e d T H) := by
  refine wp_enter e242 (Nat.le_of_ble_eq_true rfl) rfl ?_
  have f0 : wfr [(42, 28), (42, 29), (51, 999), (52, 999)] T H H := wfr.rf
  show wp _ _ 242 0 [(0, .ref r0)] [] _ H _
  have b1556 : 0 ≤ H r0 29 ∧ H r0 29 ≤ 20000 := hW.box g0 (n := 33) rfl (by decide) rfl
  have hk := wKI_1.mp p0
  have _lm := RB_lm hRB_r0
  have _xw := (by assumption : XW d)
  have _x0 : 0 ≤ xlots d := (xpr_b _xw.1 _ _).1
  have _n3 : H r0 3 ≠ -1 := by omega
  refine wp_of e242 c242_0 (rw_aload_n (pc' := 1) (v := .ref r0) rfl rfl rfl ?_)
  refine wp_of e242 c242_1 (xg_I (pc' := 4) lf_9_353 hW g0 sh_42 (by decide) (by decide) ty_42_28 rfl rfl (fun b1557 b1558 => ?_))
  refine wp_of e242 c242_4 (rw_if_eq (p1 := 8) (p2 := 7) (by decide) rfl ⟨Int.le_trans (by decide) b1557, Int.le_trans b1558 (by decide)⟩ (fun c1559 => ?_) (fun c1559 => ?_))
  · refine wp_of e242 c242_8 (rw_aload_n (pc' := 9) (v := .ref r0) rfl rfl rfl ?_)
    refine wp_of e242 c242_9 (rw_iconst (pc' := 10) rfl ?_)
    refine wp_of e242 c242_10 (xp_I (pc' := 13) lf_9_422 hW g0 sh_42 (by decide) (by decide) ty_42_29 rfl rfl (by decide) (by decide) ⟨by decide, by decide⟩ rfl (fun H1560 e1561 w1562 => ?_))
    have f1563 := f0.put' e1561 g0 rfl
    have k1564 : H1560 r0 29 = 0 := wq_u_s e1561
    have h1565 : KL T H1560 r0 (xwf e d) ((0 : Int)).toNat := KL_0 w1562 g0
    refine wp_of e242 c242_13 (rw_iconst (pc' := 14) rfl ?_)
    refine wp_of e242 c242_14 (rw_istore_n (pc' := 15) (z := 0) (L' := [(1, vI 0), (0, .ref r0)]) rfl rfl rfl ?_)
    have k2052 : wLM H1560 r0 = wLM H r0 := (wLM_fr hW g0 ((wfr.rf (l := [(42, 29)])).put' e1561 g0 rfl) rfl)
    have lp2047 : ∀ (n2048 : Nat) (v2050 : Int) (H2051 : wq_H), WT T H2051 → wfr [(42, 29), (51, 999), (52, 999)] T H1560 H2051 → (0 ≤ v2050 ∧ v2050 ≤ 20000) → (H2051 r0 29 ≤ v2050) → (H2051 r0 29 = 0 ∨ 0 < wLM H2051 r0) → KL T H2051 r0 (xwf e d) (v2050).toNat → (v2050 ≤ xlots d) → (H2051 r0 29 = xcn (xwf e d) (v2050).toNat) → (20000 - v2050).toNat = n2048 → wp kt 5 242 15 [(1, vI v2050), (0, .ref r0)] [] T H2051 (uq_242 r0 pp e d T H) := by
      intro n2048
      induction n2048 using Nat.strongRecOn with
      | _ n2048 ih2049 =>
        intro v2050 H2051 w2053 f2054 b2055 x2056 x2057 h2059 x2060 x2061 m2058
        have f2062 := f1563.tr f2054 rfl
        have k2063 : wLM H2051 r0 = wLM H1560 r0 := (wLM_fr w1562 g0 f2054 rfl)
        refine wp_of e242 c242_15 (rw_iload_n (pc' := 16) (z := v2050) rfl rfl ?_)
        refine wp_of e242 c242_16 (rw_i2l (pc' := 17) rfl ⟨Int.le_trans (by decide) b2055.1, Int.le_trans b2055.2 (by decide)⟩ ?_)
        refine wp_of e242 c242_17 (rw_aload_n (pc' := 18) (v := .ref r0) rfl rfl rfl ?_)
        have k2064 : H2051 r0 3 = H r0 3 := ((f2054 r0 3 _ g0 rfl).trans (wq_u_j e1561 rfl))
        have q2065 : H2051 r0 3 = (pp : Int) := k2064.trans qpp
        refine wp_of e242 c242_18 (xc_V (pc' := 21) (r := r0) (as := []) (st := [vL v2050]) (lm_9_376) rfl rfl (Nat.le_of_ble_eq_true rfl) w2053 g0 sh_42 (by decide) rfl (by decide) (s_220 w2053 g0 q2065 gpp) (fun R2066 T2067 H2068 p2069 => ?_))
        obtain ⟨e2070, e2072, z2074, e2071, b2075, p2073⟩ := p2069
        subst e2070
        subst e2071
        subst e2072
        show wp _ _ 242 21 [(1, vI v2050), (0, .ref r0)] [vL z2074, vL v2050] _ H2051 _
        refine wp_of e242 c242_21 (rw_lcmp (pc' := 22) rfl ⟨Int.le_trans (by decide) b2055.1, Int.le_trans b2055.2 (by decide)⟩ ⟨Int.le_trans (by decide) b2075.1, Int.le_trans b2075.2 (by decide)⟩ ?_)
        have b2076 := wq_cmp_b v2050 z2074
        refine wp_of e242 c242_22 (rw_if_ge (p1 := 70) (p2 := 25) (by decide) rfl ⟨by omega, by omega⟩ (fun c2077 => ?_) (fun c2077 => ?_))
        · have h2078 : KNB T H2051 r0 e d (xlots d).toNat := by rw [show (xlots d).toNat = (v2050).toNat by omega]; exact ⟨by omega, h2059⟩
          refine wp_of e242 c242_70 (rw_aload_n (pc' := 71) (v := .ref r0) rfl rfl rfl ?_)
          refine wp_of e242 c242_71 (rw_iconst (pc' := 72) rfl ?_)
          refine wp_of e242 c242_72 (xp_Z (pc' := 75) lf_9_353 w2053 g0 sh_42 (by decide) (by decide) ty_42_28 rfl rfl (by decide) (by decide) rfl (fun H2079 e2080 w2081 => ?_))
          have f2082 := f2062.put' e2080 g0 rfl
          have k2083 : H2079 r0 28 = 1 := wq_u_s e2080
          have k2084 : H2079 r0 29 = H2051 r0 29 := (wq_u_j e2080 rfl)
          have k2085 : wLM H2079 r0 = wLM H2051 r0 := (wLM_fr w2053 g0 ((wfr.rf (l := [(42, 28)])).put' e2080 g0 rfl) rfl)
          have k2086 : wKI H2079 r0 = 1 := wKI_1.mpr (by omega)
          have h2087 : KNB T H2079 r0 e d (xlots d).toNat := (KNB_fr w2053 g0 ((wfr.rf (l := [(42, 28)])).put' e2080 g0 rfl) rfl h2078)
          exact wp_return e242 c242_75 rfl ⟨rfl, w2081, f2082, rfl, ⟨by omega, by omega, by omega, by omega, h2087⟩⟩
        · refine wp_of e242 c242_25 (rw_aload_n (pc' := 26) (v := .ref r0) rfl rfl rfl ?_)
          refine wp_of e242 c242_26 (rw_iload_n (pc' := 27) (z := v2050) rfl rfl ?_)
          have h2088 : RB T H2051 r0 e d := (RB_fr w1562 g0 f2054 rfl (RB_fr hW g0 ((wfr.rf (l := [(42, 29)])).put' e1561 g0 rfl) rfl hRB_r0))
          refine wp_of e242 c242_27 (xc_V (pc' := 30) (r := r0) (as := [vI v2050]) (st := []) (lm_9_425) rfl rfl (Nat.le_of_ble_eq_true rfl) w2053 g0 sh_42 (by decide) rfl (by decide) (u_243 (e := e) (d := d) w2053 g0 ⟨b2055.1, Int.le_trans b2055.2 (by decide)⟩ q2065 gpp (by omega) h2088) (fun R2089 T2090 H2091 p2092 => ?_))
          obtain ⟨e2093, w2095, f2096, e2094, p2097⟩ := p2092
          subst e2093
          subst e2094
          have f2099 := f2062.tr f2096 rfl
          have f2100 := f2054.tr f2096 rfl
          show wp _ _ 242 30 [(1, vI v2050), (0, .ref r0)] [] _ H2091 _
          have _sl : SL d (xlot d v2050) := SL_lot _xw.1 (by omega) (by omega)
          refine wp_of e242 c242_30 (rw_aload_n (pc' := 31) (v := .ref r0) rfl rfl rfl ?_)
          refine wp_of e242 c242_31 (rw_aload_n (pc' := 32) (v := .ref r0) rfl rfl rfl ?_)
          refine wp_of e242 c242_32 (xg_R (pc' := 35) lf_9_39 w2095 g0 sh_42 (by decide) (by decide) ty_42_27 rfl rfl (fun r2101 q2102 g2103 => ?_))
          have h2104 : RR T H2091 r2101 (d 0 3) (xlot d v2050) := RR_27 p2097 q2102 g2103 (by omega)
          have k2105 : H2091 r0 3 = H2051 r0 3 := (f2096 r0 3 _ g0 rfl)
          have q2106 : H2091 r0 3 = (pp : Int) := k2105.trans q2065
          have h2107 : RB T H2091 r0 e d := (RB_fr w2053 g0 f2096 rfl h2088)
          refine wp_of e242 c242_35 (xc_V (pc' := 38) (r := r0) (as := [.ref r2101]) (st := []) (lm_9_418) rfl rfl (Nat.le_of_ble_eq_true rfl) w2095 g0 sh_42 (by decide) rfl (by decide) (u_238_l (e := e) (d := d) (g := ((xlot d v2050))) w2095 g0 g2103 q2106 gpp (by assumption) (by assumption) (by assumption) (by assumption) (by assumption) h2107 h2104) (fun R2108 T2109 H2110 p2111 => ?_))
          obtain ⟨e2112, e2114, z2115, e2113, b2116, p2117⟩ := p2111
          subst e2112
          subst e2113
          subst e2114
          show wp _ _ 242 38 [(1, vI v2050), (0, .ref r0)] [vI z2115] _ H2091 _
          refine wp_of e242 c242_38 (rw_if_ne (p1 := 44) (p2 := 41) (by decide) rfl ⟨Int.le_trans (by decide) b2116.1, Int.le_trans b2116.2 (by decide)⟩ (fun c2119 => ?_) (fun c2119 => ?_))
          · have _fp : xwf e d (v2050).toNat > 0 := by
              rw [xwf_v (by omega)]
              omega
            have _xs := xcw_s (e := e) (d := d) (v := v2050) (by omega)
            refine wp_of e242 c242_44 (rw_aload_n (pc' := 45) (v := .ref r0) rfl rfl rfl ?_)
            refine wp_of e242 c242_45 (xg_R (pc' := 48) lf_9_42 w2095 g0 sh_42 (by decide) (by decide) ty_42_30 rfl rfl (fun r2120 q2121 g2122 => ?_))
            refine wp_of e242 c242_48 (rw_aload_n (pc' := 49) (v := .ref r0) rfl rfl rfl ?_)
            have k2123 : H2091 r0 29 = H2051 r0 29 := (f2096 r0 29 _ g0 rfl)
            refine wp_of e242 c242_49 (xg_I (pc' := 52) lf_9_422 w2095 g0 sh_42 (by decide) (by decide) ty_42_29 rfl rfl (fun b2124 b2125 => ?_))
            refine wp_of e242 c242_52 (rw_iload_n (pc' := 53) (z := v2050) rfl rfl ?_)
            have h2126 : KL T H2091 r0 (xwf e d) (v2050).toNat := (KL_fr w2053 g0 f2096 rfl h2059)
            refine wp_of e242 c242_53 (xs_I (pc' := 54) w2095 g2122 (by decide) sh_52 (by decide) (ty_52 _) (b2055.1) (by omega) ⟨Int.le_trans (by decide) b2055.1, Int.le_trans b2055.2 (by decide)⟩ (b2124) (by omega) rfl (fun H2127 e2128 w2129 => ?_))
            have f2130 := f2099.put' e2128 g2122 rfl
            have f2131 := f2100.put' e2128 g2122 rfl
            have h2132 : KL T H2127 r0 (xwf e d) (v2050 + 1).toNat := by
              rw [show (v2050 + 1).toNat = (v2050).toNat + 1 by omega]
              exact KL_put h2126 q2121 g0 g2122 e2128 (by omega) (by omega) _fp
            refine wp_of e242 c242_54 (rw_aload_n (pc' := 55) (v := .ref r0) rfl rfl rfl ?_)
            refine wp_of e242 c242_55 (rw_dup (pc' := 56) rfl rfl ?_)
            have k2133 : H2127 r0 29 = H2091 r0 29 := (wq_u_t e2128 g2122 g0 rfl 29)
            refine wp_of e242 c242_56 (xg_I (pc' := 59) lf_9_422 w2129 g0 sh_42 (by decide) (by decide) ty_42_29 rfl rfl (fun b2134 b2135 => ?_))
            refine wp_of e242 c242_59 (rw_iconst (pc' := 60) rfl ?_)
            refine wp_of e242 c242_60 (rw_iadd (pc' := 61) rfl ?_)
            refine wp_of e242 c242_61 (xp_I (pc' := 64) lf_9_422 w2129 g0 sh_42 (by decide) (by decide) ty_42_29 rfl rfl (by omega) (by omega) ⟨by omega, by omega⟩ rfl (fun H2136 e2137 w2138 => ?_))
            have f2139 := f2130.put' e2137 g0 rfl
            have f2140 := f2131.put' e2137 g0 rfl
            have k2141 : H2136 r0 29 = (H2127 r0 29) + 1 := wq_u_s e2137
            have _xs2 := xcw_s (e := e) (d := d) (v := v2050) (by omega)
            refine wp_of e242 c242_64 (rw_iinc (pc' := 67) (z := v2050) (L' := [(1, vI (v2050 + 1)), (0, .ref r0)]) rfl rfl rfl rfl ?_)
            refine wp_of e242 c242_67 (rw_goto (p1 := 15) (by decide) ?_)
            have k2142 : wLM H2136 r0 = wLM H2051 r0 := ((wLM_fr w2129 g0 ((wfr.rf (l := [(42, 29)])).put' e2137 g0 rfl) rfl).trans ((wLM_fr w2095 g0 ((wfr.rf (l := [(52, 999)])).put' e2128 g2122 rfl) rfl).trans (wLM_fr w2053 g0 f2096 rfl)))
            have h2143 : KL T H2136 r0 (xwf e d) (v2050 + 1).toNat := (KL_fr w2129 g0 ((wfr.rf (l := [(42, 29)])).put' e2137 g0 rfl) rfl h2132)
            exact wp_lc (ks := [1, 0]) (wl_c rfl (wl_c rfl wl_n)) rfl (by decide) (ih2049 _ (by omega) (v2050 + 1) H2136 w2138 f2140 ⟨by omega, by omega⟩ (by omega) (by omega) h2143 (by omega) (by omega) rfl)
          · refine wp_of e242 c242_41 (rw_goto (p1 := 64) (by decide) ?_)
            have _xs2 := xcw_s (e := e) (d := d) (v := v2050) (by omega)
            have h2144 : KL T H2091 r0 (xwf e d) (v2050).toNat := (KL_fr w2053 g0 f2096 rfl h2059)
            have h2145 : KL T H2091 r0 (xwf e d) (v2050 + 1).toNat := by
              rw [show (v2050 + 1).toNat = (v2050).toNat + 1 by omega]
              exact KL_n (by rw [xwf_v (by omega)]; omega) h2144
            refine wp_of e242 c242_64 (rw_iinc (pc' := 67) (z := v2050) (L' := [(1, vI (v2050 + 1)), (0, .ref r0)]) rfl rfl rfl rfl ?_)
            refine wp_of e242 c242_67 (rw_goto (p1 := 15) (by decide) ?_)
            have k2146 : H2091 r0 29 = H2051 r0 29 := (f2096 r0 29 _ g0 rfl)
            have k2147 : wLM H2091 r0 = wLM H2051 r0 := (wLM_fr w2053 g0 f2096 rfl)
            exact wp_lc (ks := [1, 0]) (wl_c rfl (wl_c rfl wl_n)) rfl (by decide) (ih2049 _ (by omega) (v2050 + 1) H2091 w2095 f2100 ⟨by omega, by omega⟩ (by omega) (by omega) h2145 (by omega) (by omega) rfl)
    exact wp_lc (ks := [1, 0]) (wl_c rfl (wl_c rfl wl_n)) rfl (by decide) (lp2047 _ 0 H1560 w1562 wfr.rf ⟨by decide, by decide⟩ (by omega) (by omega) h1565 (by omega) (by show H1560 r0 29 = (0 : Int); omega) rfl)
  · have h2148 : KNB T H r0 e d (xlots d).toNat := (KNN_28 hKNN_r0 (by omega)).2
    exact wp_return e242 c242_7 rfl ⟨rfl, hW, f0, rfl, ⟨by omega, by omega, by omega, by omega, h2148⟩⟩
/-! StrikeAwakeModel.refusesWorlds(Z)I  -/
abbrev uq_241 (r0 : Nat) (a1 : Int) (e : xD) (d : xD) (T : wq_T) (H : wq_H) : Option Value → wq_T → wq_H → Prop := fun r T' H' => T = T' ∧ WT T H' ∧ wfr [(42, 28), (42, 29), (51, 999), (52, 999)] T H H' ∧ ∃ z : Int, some (vI z) = r ∧ (0 ≤ z ∧ z ≤ 6) ∧ (((z = 0) ∧ (z ≠ 0 ∨ a1 = 1) ∧ (z ≠ 0 ∨ wLM H' r0 ≤ 20000) ∧ (wKI H' r0 = 1) ∧ (z ≠ 0 ∨ H' r0 29 = 0 ∨ 0 < wLM H' r0) ∧ (a1 = 1) ∧ (xlots d ≤ 20000) ∧ KNN T H' r0 e d ∧ KNB T H' r0 e d (xlots d).toNat) ∨ ((1 ≤ z ∧ z ≤ 6) ∧ (z ≠ 0 ∨ a1 = 1) ∧ (z ≠ 0 ∨ wLM H' r0 ≤ 20000) ∧ (wKI H' r0 = 1) ∧ (z ≠ 0 ∨ H' r0 29 = 0 ∨ 0 < wLM H' r0) ∧ (a1 = 0 ∨ 20000 < xlots d) ∧ KNN T H' r0 e d))
set_option maxHeartbeats 4000000 in
theorem u_241 {kt : Nat → Option mc_E} {T : wq_T} {H : wq_H} {r0 : Nat} {a1 : Int} {e : xD} {d : xD} (hW : WT T H) (g0 : T.2.2.2 r0 = some 42) (i1 : 0 ≤ a1 ∧ a1 ≤ 1) (p0 : a1 = 0 ∨ H r0 3 ≠ -1) (p1 : wKI H r0 = 1) (p2 : XW d) (p3 : ∀ h : Nat, d 0 0 ≤ (h : Int) → h < 24 → e 13 h = 0) (p4 : XN d) (p5 : ∀ h : Nat, h < 24 → 0 ≤ e 13 h ∧ e 13 h ≤ 100) (hRB_r0 : RB T H r0 e d) (hKNN_r0 : KNN T H r0 e d) : wpc kt 7 241 [.ref r0, vI a1] T H (uq_241 r0 a1 e d T H) := by
  refine wp_enter e241 (Nat.le_of_ble_eq_true rfl) rfl ?_
  have f0 : wfr [(42, 28), (42, 29), (51, 999), (52, 999)] T H H := wfr.rf
  show wp _ _ 241 0 [(0, .ref r0), (1, vI a1)] [] _ H _
  have _lm := RB_lm hRB_r0
  refine wp_of e241 c241_0 (rw_iload_n (pc' := 1) (z := a1) rfl rfl ?_)
  refine wp_of e241 c241_1 (rw_if_ne (p1 := 6) (p2 := 4) (by decide) rfl ⟨Int.le_trans (by decide) i1.1, Int.le_trans i1.2 (by decide)⟩ (fun c1032 => ?_) (fun c1032 => ?_))
  · refine wp_of e241 c241_6 (rw_aload_n (pc' := 7) (v := .ref r0) rfl rfl rfl ?_)
    obtain ⟨r1033, q1034, g1035⟩ := (hW.opt g0 (t' := 54) (n := 33) (j := 3) (p := 0) (q := 0) rfl (by decide) rfl).resolve_left (by omega)
    refine wp_of e241 c241_7 (xc_V (pc' := 10) (r := r0) (as := []) (st := []) (lm_9_376) rfl rfl (Nat.le_of_ble_eq_true rfl) hW g0 sh_42 (by decide) rfl (by decide) (s_220 hW g0 q1034 g1035) (fun R1036 T1037 H1038 p1039 => ?_))
    obtain ⟨e1040, e1042, z1044, e1041, b1045, p1043⟩ := p1039
    subst e1040
    subst e1041
    subst e1042
    show wp _ _ 241 10 [(0, .ref r0), (1, vI a1)] [vL z1044] _ H _
    refine wp_of e241 c241_10 (rw_ldc2 (pc' := 13) (z := 20000) rfl rfl rfl ?_)
    refine wp_of e241 c241_13 (rw_lcmp (pc' := 14) rfl ⟨Int.le_trans (by decide) b1045.1, Int.le_trans b1045.2 (by decide)⟩ ⟨by decide, by decide⟩ ?_)
    have b1046 := wq_cmp_b z1044 20000
    refine wp_of e241 c241_14 (rw_if_le (p1 := 19) (p2 := 17) (by decide) rfl ⟨by omega, by omega⟩ (fun c1047 => ?_) (fun c1047 => ?_))
    · refine wp_of e241 c241_19 (rw_aload_n (pc' := 20) (v := .ref r0) rfl rfl rfl ?_)
      refine wp_of e241 c241_20 (xc_V (pc' := 23) (r := r0) (as := []) (st := []) (lm_9_430) rfl rfl (Nat.le_of_ble_eq_true rfl) hW g0 sh_42 (by decide) rfl (by decide) (u_242 (e := e) (d := d) hW g0 q1034 g1035 (by omega) (by omega) (by assumption) (by assumption) (by assumption) (by assumption) hRB_r0 hKNN_r0) (fun R1048 T1049 H1050 p1051 => ?_))
      obtain ⟨e1052, w1054, f1055, e1053, p1056⟩ := p1051
      subst e1052
      subst e1053
      obtain ⟨a1057, a1058, a1059, a1060, a1061⟩ := p1056
      have f1062 := f0.tr f1055 rfl
      show wp _ _ 241 23 [(0, .ref r0), (1, vI a1)] [] _ H1050 _
      refine wp_of e241 c241_23 (rw_iconst (pc' := 24) rfl ?_)
      have h1063 : KNN T H1050 r0 e d := Or.inr ⟨by omega, a1061⟩
      have k1064 : wLM H1050 r0 = wLM H r0 := (wLM_fr hW g0 f1055 rfl)
      exact wp_ireturn e241 c241_24 rfl ⟨rfl, w1054, f1062, 0, rfl, ⟨by decide, by decide⟩, (Or.inl ⟨by omega, by omega, by omega, by omega, by omega, by omega, by omega, h1063, a1061⟩)⟩
    · refine wp_of e241 c241_17 (rw_iconst (pc' := 18) rfl ?_)
      exact wp_ireturn e241 c241_18 rfl ⟨rfl, hW, f0, 3, rfl, ⟨by decide, by decide⟩, (Or.inr ⟨by omega, by omega, by omega, by omega, by omega, by omega, hKNN_r0⟩)⟩
  · refine wp_of e241 c241_4 (rw_iconst (pc' := 5) rfl ?_)
    exact wp_ireturn e241 c241_5 rfl ⟨rfl, hW, f0, 1, rfl, ⟨by decide, by decide⟩, (Or.inr ⟨by omega, by omega, by omega, by omega, by omega, by omega, hKNN_r0⟩)⟩
/-! StrikeAwakeModel.refusesSome(Z)I  -/
abbrev uq_253 (r0 : Nat) (a1 : Int) (e : xD) (d : xD) (T : wq_T) (H : wq_H) : Option Value → wq_T → wq_H → Prop := fun r T' H' => T = T' ∧ WT T H' ∧ wfr [(42, 28), (42, 29), (51, 999), (52, 999)] T H H' ∧ ∃ z : Int, some (vI z) = r ∧ (0 ≤ z ∧ z ≤ 6) ∧ (((z = 0) ∧ (z ≠ 0 ∨ a1 = 1) ∧ (z ≠ 0 ∨ wLM H' r0 ≤ 20000) ∧ (wKI H' r0 = 1) ∧ (z ≠ 0 ∨ (0 < H' r0 29 ∧ 0 < wLM H' r0)) ∧ (a1 = 1) ∧ (xlots d ≤ 20000) ∧ (0 < xcn (xwf e d) (xlots d).toNat) ∧ KNN T H' r0 e d ∧ KNB T H' r0 e d (xlots d).toNat) ∨ ((1 ≤ z ∧ z ≤ 6) ∧ (z ≠ 0 ∨ a1 = 1) ∧ (z ≠ 0 ∨ wLM H' r0 ≤ 20000) ∧ (wKI H' r0 = 1) ∧ (z ≠ 0 ∨ (0 < H' r0 29 ∧ 0 < wLM H' r0)) ∧ (a1 = 0 ∨ 20000 < xlots d ∨ xcn (xwf e d) (xlots d).toNat ≤ 0) ∧ KNN T H' r0 e d))
set_option maxHeartbeats 4000000 in
theorem u_253 {kt : Nat → Option mc_E} {T : wq_T} {H : wq_H} {r0 : Nat} {a1 : Int} {e : xD} {d : xD} (hW : WT T H) (g0 : T.2.2.2 r0 = some 42) (i1 : 0 ≤ a1 ∧ a1 ≤ 1) (p0 : a1 = 0 ∨ H r0 3 ≠ -1) (p1 : wKI H r0 = 1) (p2 : XW d) (p3 : ∀ h : Nat, d 0 0 ≤ (h : Int) → h < 24 → e 13 h = 0) (p4 : XN d) (p5 : ∀ h : Nat, h < 24 → 0 ≤ e 13 h ∧ e 13 h ≤ 100) (hRB_r0 : RB T H r0 e d) (hKNN_r0 : KNN T H r0 e d) : wpc kt 8 253 [.ref r0, vI a1] T H (uq_253 r0 a1 e d T H) := by
  refine wp_enter e253 (Nat.le_of_ble_eq_true rfl) rfl ?_
  have f0 : wfr [(42, 28), (42, 29), (51, 999), (52, 999)] T H H := wfr.rf
  show wp _ _ 253 0 [(0, .ref r0), (1, vI a1)] [] _ H _
  have _lm := RB_lm hRB_r0
  refine wp_of e253 c253_0 (rw_aload_n (pc' := 1) (v := .ref r0) rfl rfl rfl ?_)
  refine wp_of e253 c253_1 (rw_iload_n (pc' := 2) (z := a1) rfl rfl ?_)
  refine wp_of e253 c253_2 (xc_V (pc' := 5) (r := r0) (as := [vI a1]) (st := []) (lm_9_433) rfl rfl (Nat.le_of_ble_eq_true rfl) hW g0 sh_42 (by decide) rfl (by decide) (u_241 (e := e) (d := d) hW g0 ⟨i1.1, i1.2⟩ (by omega) (by omega) (by assumption) (by assumption) (by assumption) (by assumption) hRB_r0 hKNN_r0) (fun R1035 T1036 H1037 p1038 => ?_))
  obtain ⟨e1039, w1041, f1042, z1043, e1040, b1044, p1045⟩ := p1038
  subst e1039
  subst e1040
  rcases p1045 with ⟨a1046, a1047, a1048, a1049, a1050, a1051, a1052, a1053, a1054⟩ | ⟨a1055, a1056, a1057, a1058, a1059, a1060, a1061⟩
  · have f1062 := f0.tr f1042 rfl
    show wp _ _ 253 5 [(0, .ref r0), (1, vI a1)] [vI z1043] _ H1037 _
    refine wp_of e253 c253_5 (rw_istore_n (pc' := 6) (z := z1043) (L' := [(2, vI z1043), (0, .ref r0), (1, vI a1)]) rfl rfl rfl ?_)
    have _kb := (a1054).1
    refine wp_of e253 c253_6 (rw_iload_n (pc' := 7) (z := z1043) rfl rfl ?_)
    refine wp_of e253 c253_7 (rw_if_ne (p1 := 22) (p2 := 10) (by decide) rfl ⟨Int.le_trans (by decide) b1044.1, Int.le_trans b1044.2 (by decide)⟩ (fun c1063 => ?_) (fun c1063 => ?_))
    · exfalso
      omega
    · refine wp_of e253 c253_10 (rw_aload_n (pc' := 11) (v := .ref r0) rfl rfl rfl ?_)
      refine wp_of e253 c253_11 (xg_I (pc' := 14) lf_9_422 w1041 g0 sh_42 (by decide) (by decide) ty_42_29 rfl rfl (fun b1064 b1065 => ?_))
      refine wp_of e253 c253_14 (rw_if_ne (p1 := 22) (p2 := 17) (by decide) rfl ⟨Int.le_trans (by decide) b1064, Int.le_trans b1065 (by decide)⟩ (fun c1066 => ?_) (fun c1066 => ?_))
      · refine wp_of e253 c253_22 (rw_iload_n (pc' := 23) (z := z1043) rfl rfl ?_)
        have k1067 : wLM H1037 r0 = wLM H r0 := (wLM_fr hW g0 f1042 rfl)
        exact wp_ireturn e253 c253_23 rfl ⟨rfl, w1041, f1062, z1043, rfl, ⟨b1044.1, b1044.2⟩, (Or.inl ⟨by omega, by omega, by omega, by omega, by omega, by omega, by omega, by omega, a1053, a1054⟩)⟩
      · refine wp_of e253 c253_17 (rw_bipush (pc' := 19) (z := 6) rfl (by decide) ?_)
        refine wp_of e253 c253_19 (rw_goto (p1 := 23) (by decide) ?_)
        have k1068 : wLM H1037 r0 = wLM H r0 := (wLM_fr hW g0 f1042 rfl)
        exact wp_ireturn e253 c253_23 rfl ⟨rfl, w1041, f1062, 6, rfl, ⟨by decide, by decide⟩, (Or.inr ⟨by omega, by omega, by omega, by omega, by omega, by omega, a1053⟩)⟩
  · have f1069 := f0.tr f1042 rfl
    show wp _ _ 253 5 [(0, .ref r0), (1, vI a1)] [vI z1043] _ H1037 _
    refine wp_of e253 c253_5 (rw_istore_n (pc' := 6) (z := z1043) (L' := [(2, vI z1043), (0, .ref r0), (1, vI a1)]) rfl rfl rfl ?_)
    refine wp_of e253 c253_6 (rw_iload_n (pc' := 7) (z := z1043) rfl rfl ?_)
    refine wp_of e253 c253_7 (rw_if_ne (p1 := 22) (p2 := 10) (by decide) rfl ⟨Int.le_trans (by decide) b1044.1, Int.le_trans b1044.2 (by decide)⟩ (fun c1070 => ?_) (fun c1070 => ?_))
    · refine wp_of e253 c253_22 (rw_iload_n (pc' := 23) (z := z1043) rfl rfl ?_)
      have k1071 : wLM H1037 r0 = wLM H r0 := (wLM_fr hW g0 f1042 rfl)
      exact wp_ireturn e253 c253_23 rfl ⟨rfl, w1041, f1069, z1043, rfl, ⟨b1044.1, b1044.2⟩, (Or.inr ⟨by omega, by omega, by omega, by omega, by omega, by omega, a1061⟩)⟩
    · exfalso
      omega
/-! StrikeAwakeModel.refusesAsking(Z)I  -/
abbrev uq_267 (r0 : Nat) (a1 : Int) (e : xD) (d : xD) (T : wq_T) (H : wq_H) : Option Value → wq_T → wq_H → Prop := fun r T' H' => T = T' ∧ WT T H' ∧ wfr [(42, 28), (42, 29), (51, 999), (52, 999)] T H H' ∧ ∃ z : Int, some (vI z) = r ∧ (0 ≤ z ∧ z ≤ 6) ∧ (((z ≠ 0 ∨ a1 = 1) ∧ (z ≠ 0 ∨ wLM H' r0 ≤ 20000) ∧ (wKI H' r0 = 1) ∧ (z ≠ 0 ∨ (0 < H' r0 29 ∧ 0 < wLM H' r0)) ∧ KNN T H' r0 e d))
set_option maxHeartbeats 4000000 in
theorem u_267 {kt : Nat → Option mc_E} {T : wq_T} {H : wq_H} {r0 : Nat} {a1 : Int} {e : xD} {d : xD} (hW : WT T H) (g0 : T.2.2.2 r0 = some 42) (i1 : 0 ≤ a1 ∧ a1 ≤ 1) (p0 : a1 = 0 ∨ H r0 3 ≠ -1) (p1 : wKI H r0 = 1) (p2 : XW d) (p3 : ∀ h : Nat, d 0 0 ≤ (h : Int) → h < 24 → e 13 h = 0) (p4 : XN d) (p5 : ∀ h : Nat, h < 24 → 0 ≤ e 13 h ∧ e 13 h ≤ 100) (hRB_r0 : RB T H r0 e d) (hKNN_r0 : KNN T H r0 e d) : wpc kt 9 267 [.ref r0, vI a1] T H (uq_267 r0 a1 e d T H) := by
  refine wp_enter e267 (Nat.le_of_ble_eq_true rfl) rfl ?_
  have f0 : wfr [(42, 28), (42, 29), (51, 999), (52, 999)] T H H := wfr.rf
  show wp _ _ 267 0 [(0, .ref r0), (1, vI a1)] [] _ H _
  refine wp_of e267 c267_0 (rw_aload_n (pc' := 1) (v := .ref r0) rfl rfl rfl ?_)
  refine wp_of e267 c267_1 (rw_iload_n (pc' := 2) (z := a1) rfl rfl ?_)
  refine wp_of e267 c267_2 (xc_V (pc' := 5) (r := r0) (as := [vI a1]) (st := []) (lm_9_447) rfl rfl (Nat.le_of_ble_eq_true rfl) hW g0 sh_42 (by decide) rfl (by decide) (u_253 (e := e) (d := d) hW g0 ⟨i1.1, i1.2⟩ (by omega) (by omega) (by assumption) (by assumption) (by assumption) (by assumption) hRB_r0 hKNN_r0) (fun R1036 T1037 H1038 p1039 => ?_))
  obtain ⟨e1040, w1042, f1043, z1044, e1041, b1045, p1046⟩ := p1039
  subst e1040
  subst e1041
  rcases p1046 with ⟨a1047, a1048, a1049, a1050, a1051, a1052, a1053, a1054, a1055, a1056⟩ | ⟨a1057, a1058, a1059, a1060, a1061, a1062, a1063⟩
  · have f1064 := f0.tr f1043 rfl
    show wp _ _ 267 5 [(0, .ref r0), (1, vI a1)] [vI z1044] _ H1038 _
    refine wp_of e267 c267_5 (rw_istore_n (pc' := 6) (z := z1044) (L' := [(2, vI z1044), (0, .ref r0), (1, vI a1)]) rfl rfl rfl ?_)
    refine wp_of e267 c267_6 (rw_iload_n (pc' := 7) (z := z1044) rfl rfl ?_)
    refine wp_of e267 c267_7 (rw_if_ne (p1 := 24) (p2 := 10) (by decide) rfl ⟨Int.le_trans (by decide) b1045.1, Int.le_trans b1045.2 (by decide)⟩ (fun c1065 => ?_) (fun c1065 => ?_))
    · exfalso
      omega
    · refine wp_of e267 c267_10 (rw_aload_n (pc' := 11) (v := .ref r0) rfl rfl rfl ?_)
      refine wp_of e267 c267_11 (xg_I (pc' := 14) lf_9_422 w1042 g0 sh_42 (by decide) (by decide) ty_42_29 rfl rfl (fun b1066 b1067 => ?_))
      refine wp_of e267 c267_14 (rw_sipush (pc' := 17) (z := 400) rfl (by decide) ?_)
      refine wp_of e267 c267_17 (rw_icmp_le (p1 := 24) (p2 := 20) (by decide) rfl ⟨Int.le_trans (by decide) b1066, Int.le_trans b1067 (by decide)⟩ ⟨by decide, by decide⟩ (fun c1068 => ?_) (fun c1068 => ?_))
      · refine wp_of e267 c267_24 (rw_iload_n (pc' := 25) (z := z1044) rfl rfl ?_)
        have k1069 : wLM H1038 r0 = wLM H r0 := (wLM_fr hW g0 f1043 rfl)
        exact wp_ireturn e267 c267_25 rfl ⟨rfl, w1042, f1064, z1044, rfl, ⟨b1045.1, b1045.2⟩, ⟨by omega, by omega, by omega, by omega, a1055⟩⟩
      · refine wp_of e267 c267_20 (rw_iconst (pc' := 21) rfl ?_)
        refine wp_of e267 c267_21 (rw_goto (p1 := 25) (by decide) ?_)
        have k1070 : wLM H1038 r0 = wLM H r0 := (wLM_fr hW g0 f1043 rfl)
        exact wp_ireturn e267 c267_25 rfl ⟨rfl, w1042, f1064, 3, rfl, ⟨by decide, by decide⟩, ⟨by omega, by omega, by omega, by omega, a1055⟩⟩
  · have f1071 := f0.tr f1043 rfl
    show wp _ _ 267 5 [(0, .ref r0), (1, vI a1)] [vI z1044] _ H1038 _
    refine wp_of e267 c267_5 (rw_istore_n (pc' := 6) (z := z1044) (L' := [(2, vI z1044), (0, .ref r0), (1, vI a1)]) rfl rfl rfl ?_)
    refine wp_of e267 c267_6 (rw_iload_n (pc' := 7) (z := z1044) rfl rfl ?_)
    refine wp_of e267 c267_7 (rw_if_ne (p1 := 24) (p2 := 10) (by decide) rfl ⟨Int.le_trans (by decide) b1045.1, Int.le_trans b1045.2 (by decide)⟩ (fun c1072 => ?_) (fun c1072 => ?_))
    · refine wp_of e267 c267_24 (rw_iload_n (pc' := 25) (z := z1044) rfl rfl ?_)
      have k1073 : wLM H1038 r0 = wLM H r0 := (wLM_fr hW g0 f1043 rfl)
      exact wp_ireturn e267 c267_25 rfl ⟨rfl, w1042, f1071, z1044, rfl, ⟨b1045.1, b1045.2⟩, ⟨by omega, by omega, by omega, by omega, a1063⟩⟩
    · exfalso
      omega
end
