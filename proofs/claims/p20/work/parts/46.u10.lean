/-! what methods do (own work, written by wip/gen3/sx3.py) -/
/-! StrikeAwakeModel.refusesSome(Z)I  -/
abbrev uq_253 (r0 : Nat) (a1 : Int) (e : xD) (d : xD) (T : wq_T) (H : wq_H) : Option Value → wq_T → wq_H → Prop := fun r T' H' => T = T' ∧ WT T H' ∧ wfr [(42, 28), (42, 29), (51, 999), (52, 999)] T H H' ∧ ∃ z : Int, some (vI z) = r ∧ (0 ≤ z ∧ z ≤ 6) ∧ (((z = 0) ∧ (z ≠ 0 ∨ a1 = 1) ∧ (z ≠ 0 ∨ wLM H' r0 ≤ 20000) ∧ (wKI H' r0 = 1) ∧ (z ≠ 0 ∨ (0 < H' r0 29 ∧ 0 < wLM H' r0)) ∧ (a1 = 1) ∧ (xlots d ≤ 20000) ∧ (0 < xcn (xwf e d) (xlots d).toNat) ∧ KNN T H' r0 e d ∧ KNB T H' r0 e d (xlots d).toNat) ∨ ((1 ≤ z ∧ z ≤ 6) ∧ (z ≠ 0 ∨ a1 = 1) ∧ (z ≠ 0 ∨ wLM H' r0 ≤ 20000) ∧ (wKI H' r0 = 1) ∧ (z ≠ 0 ∨ (0 < H' r0 29 ∧ 0 < wLM H' r0)) ∧ (a1 = 0 ∨ 20000 < xlots d ∨ xcn (xwf e d) (xlots d).toNat ≤ 0) ∧ KNN T H' r0 e d))
set_option maxHeartbeats 4000000 in
theorem u_253 {kt : Nat → Option mc_E} {T : wq_T} {H : wq_H} {r0 : Nat} {a1 : Int} {e : xD} {d : xD} (hW : WT T H) (g0 : T.2.2.2 r0 = some 42) (i1 : 0 ≤ a1 ∧ a1 ≤ 1) (p0 : a1 = 0 ∨ H r0 3 ≠ -1) (p1 : wKI H r0 = 1) (p2 : XW d) (p3 : ∀ h : Nat, d 0 0 ≤ (h : Int) → h < 24 → e 13 h = 0) (p4 : XN d) (p5 : ∀ h : Nat, h < 24 → 0 ≤ e 13 h ∧ e 13 h ≤ 100) (hRB_r0 : RB T H r0 e d) (hKNN_r0 : KNN T H r0 e d) : wpc kt 8 253 [.ref r0, vI a1] T H (uq_253 r0 a1 e d T H) := by
  refine wp_enter e253 (Nat.le_of_ble_eq_true rfl) rfl ?_
  have f0 : wfr [(42, 28), (42, 29), (51, 999), (52, 999)] T H H := wfr.rf
  show wp _ _ 253 0 [(0, .ref r0), (1, vI a1)] [] _ H _
  have _lm := RB_lm hRB_r0
  refine wp_of e253 c253_0 (rw_aload_n (pc' := 1) (v := .ref r0) rfl rfl rfl ?_)
  refine wp_of e253 c253_1 (rw_iload_n (pc' := 2) (z := a1) rfl rfl ?_)
  refine wp_of e253 c253_2 (xc_V (pc' := 5) (r := r0) (as := [vI a1]) (st := []) (lm_9_433) rfl rfl (Nat.le_of_ble_eq_true rfl) hW g0 sh_42 (by decide) rfl (by decide) (u_241 (e := e) (d := d) hW g0 ⟨i1.1, i1.2⟩ (by omega) (by omega) (by assumption) (by assumption) (by assumption) (by assumption) hRB_r0 hKNN_r0) (fun R1035 T1036 H1037 p1038 => ?_))
  obtain ⟨e1039, w1041, f1042, z1043, e1040, b1044, p1045⟩ := p1038
  subst e1039
  subst e1040
  rcases p1045 with ⟨a1046, a1047, a1048, a1049, a1050, a1051, a1052, a1053, a1054⟩ | ⟨a1055, a1056, a1057, a1058, a1059, a1060, a1061⟩
  · have f1062 := f0.tr f1042 rfl
    show wp _ _ 253 5 [(0, .ref r0), (1, vI a1)] [vI z1043] _ H1037 _
    refine wp_of e253 c253_5 (rw_istore_n (pc' := 6) (z := z1043) (L' := [(2, vI z1043), (0, .ref r0), (1, vI a1)]) rfl rfl rfl ?_)
    have _kb := (a1054).1
    refine wp_of e253 c253_6 (rw_iload_n (pc' := 7) (z := z1043) rfl rfl ?_)
    refine wp_of e253 c253_7 (rw_if_ne (p1 := 22) (p2 := 10) (by decide) rfl ⟨Int.le_trans (by decide) b1044.1, Int.le_trans b1044.2 (by decide)⟩ (fun c1063 => ?_) (fun c1063 => ?_))
    · exfalso
      omega
    · refine wp_of e253 c253_10 (rw_aload_n (pc' := 11) (v := .ref r0) rfl rfl rfl ?_)
      refine wp_of e253 c253_11 (xg_I (pc' := 14) lf_9_422 w1041 g0 sh_42 (by decide) (by decide) ty_42_29 rfl rfl (fun b1064 b1065 => ?_))
      refine wp_of e253 c253_14 (rw_if_ne (p1 := 22) (p2 := 17) (by decide) rfl ⟨Int.le_trans (by decide) b1064, Int.le_trans b1065 (by decide)⟩ (fun c1066 => ?_) (fun c1066 => ?_))
      · refine wp_of e253 c253_22 (rw_iload_n (pc' := 23) (z := z1043) rfl rfl ?_)
        have k1067 : wLM H1037 r0 = wLM H r0 := (wLM_fr hW g0 f1042 rfl)
        exact wp_ireturn e253 c253_23 rfl ⟨rfl, w1041, f1062, z1043, rfl, ⟨b1044.1, b1044.2⟩, (Or.inl ⟨by omega, by omega, by omega, by omega, by omega, by omega, by omega, by omega, a1053, a1054⟩)⟩
      · refine wp_of e253 c253_17 (rw_bipush (pc' := 19) (z := 6) rfl (by decide) ?_)
        refine wp_of e253 c253_19 (rw_goto (p1 := 23) (by decide) ?_)
        have k1068 : wLM H1037 r0 = wLM H r0 := (wLM_fr hW g0 f1042 rfl)
        exact wp_ireturn e253 c253_23 rfl ⟨rfl, w1041, f1062, 6, rfl, ⟨by decide, by decide⟩, (Or.inr ⟨by omega, by omega, by omega, by omega, by omega, by omega, a1053⟩)⟩
  · have f1069 := f0.tr f1042 rfl
    show wp _ _ 253 5 [(0, .ref r0), (1, vI a1)] [vI z1043] _ H1037 _
    refine wp_of e253 c253_5 (rw_istore_n (pc' := 6) (z := z1043) (L' := [(2, vI z1043), (0, .ref r0), (1, vI a1)]) rfl rfl rfl ?_)
    refine wp_of e253 c253_6 (rw_iload_n (pc' := 7) (z := z1043) rfl rfl ?_)
    refine wp_of e253 c253_7 (rw_if_ne (p1 := 22) (p2 := 10) (by decide) rfl ⟨Int.le_trans (by decide) b1044.1, Int.le_trans b1044.2 (by decide)⟩ (fun c1070 => ?_) (fun c1070 => ?_))
    · refine wp_of e253 c253_22 (rw_iload_n (pc' := 23) (z := z1043) rfl rfl ?_)
      have k1071 : wLM H1037 r0 = wLM H r0 := (wLM_fr hW g0 f1042 rfl)
      exact wp_ireturn e253 c253_23 rfl ⟨rfl, w1041, f1069, z1043, rfl, ⟨b1044.1, b1044.2⟩, (Or.inr ⟨by omega, by omega, by omega, by omega, by omega, by omega, a1061⟩)⟩
    · exfalso
      omega
/-! StrikeAwakeModel.refusesAsking(Z)I  -/
abbrev uq_267 (r0 : Nat) (a1 : Int) (e : xD) (d : xD) (T : wq_T) (H : wq_H) : Option Value → wq_T → wq_H → Prop := fun r T' H' => T = T' ∧ WT T H' ∧ wfr [(42, 28), (42, 29), (51, 999), (52, 999)] T H H' ∧ ∃ z : Int, some (vI z) = r ∧ (0 ≤ z ∧ z ≤ 6) ∧ (((z ≠ 0 ∨ a1 = 1) ∧ (z ≠ 0 ∨ wLM H' r0 ≤ 20000) ∧ (wKI H' r0 = 1) ∧ (z ≠ 0 ∨ (0 < H' r0 29 ∧ 0 < wLM H' r0)) ∧ KNN T H' r0 e d))
set_option maxHeartbeats 4000000 in
theorem u_267 {kt : Nat → Option mc_E} {T : wq_T} {H : wq_H} {r0 : Nat} {a1 : Int} {e : xD} {d : xD} (hW : WT T H) (g0 : T.2.2.2 r0 = some 42) (i1 : 0 ≤ a1 ∧ a1 ≤ 1) (p0 : a1 = 0 ∨ H r0 3 ≠ -1) (p1 : wKI H r0 = 1) (p2 : XW d) (p3 : ∀ h : Nat, d 0 0 ≤ (h : Int) → h < 24 → e 13 h = 0) (p4 : XN d) (p5 : ∀ h : Nat, h < 24 → 0 ≤ e 13 h ∧ e 13 h ≤ 100) (hRB_r0 : RB T H r0 e d) (hKNN_r0 : KNN T H r0 e d) : wpc kt 9 267 [.ref r0, vI a1] T H (uq_267 r0 a1 e d T H) := by
  refine wp_enter e267 (Nat.le_of_ble_eq_true rfl) rfl ?_
  have f0 : wfr [(42, 28), (42, 29), (51, 999), (52, 999)] T H H := wfr.rf
  show wp _ _ 267 0 [(0, .ref r0), (1, vI a1)] [] _ H _
  refine wp_of e267 c267_0 (rw_aload_n (pc' := 1) (v := .ref r0) rfl rfl rfl ?_)
  refine wp_of e267 c267_1 (rw_iload_n (pc' := 2) (z := a1) rfl rfl ?_)
  refine wp_of e267 c267_2 (xc_V (pc' := 5) (r := r0) (as := [vI a1]) (st := []) (lm_9_447) rfl rfl (Nat.le_of_ble_eq_true rfl) hW g0 sh_42 (by decide) rfl (by decide) (u_253 (e := e) (d := d) hW g0 ⟨i1.1, i1.2⟩ (by omega) (by omega) (by assumption) (by assumption) (by assumption) (by assumption) hRB_r0 hKNN_r0) (fun R1036 T1037 H1038 p1039 => ?_))
  obtain ⟨e1040, w1042, f1043, z1044, e1041, b1045, p1046⟩ := p1039
  subst e1040
  subst e1041
  rcases p1046 with ⟨a1047, a1048, a1049, a1050, a1051, a1052, a1053, a1054, a1055, a1056⟩ | ⟨a1057, a1058, a1059, a1060, a1061, a1062, a1063⟩
  · have f1064 := f0.tr f1043 rfl
    show wp _ _ 267 5 [(0, .ref r0), (1, vI a1)] [vI z1044] _ H1038 _
    refine wp_of e267 c267_5 (rw_istore_n (pc' := 6) (z := z1044) (L' := [(2, vI z1044), (0, .ref r0), (1, vI a1)]) rfl rfl rfl ?_)
    refine wp_of e267 c267_6 (rw_iload_n (pc' := 7) (z := z1044) rfl rfl ?_)
    refine wp_of e267 c267_7 (rw_if_ne (p1 := 24) (p2 := 10) (by decide) rfl ⟨Int.le_trans (by decide) b1045.1, Int.le_trans b1045.2 (by decide)⟩ (fun c1065 => ?_) (fun c1065 => ?_))
    · exfalso
      omega
    · refine wp_of e267 c267_10 (rw_aload_n (pc' := 11) (v := .ref r0) rfl rfl rfl ?_)
      refine wp_of e267 c267_11 (xg_I (pc' := 14) lf_9_422 w1042 g0 sh_42 (by decide) (by decide) ty_42_29 rfl rfl (fun b1066 b1067 => ?_))
      refine wp_of e267 c267_14 (rw_sipush (pc' := 17) (z := 400) rfl (by decide) ?_)
      refine wp_of e267 c267_17 (rw_icmp_le (p1 := 24) (p2 := 20) (by decide) rfl ⟨Int.le_trans (by decide) b1066, Int.le_trans b1067 (by decide)⟩ ⟨by decide, by decide⟩ (fun c1068 => ?_) (fun c1068 => ?_))
      · refine wp_of e267 c267_24 (rw_iload_n (pc' := 25) (z := z1044) rfl rfl ?_)
        have k1069 : wLM H1038 r0 = wLM H r0 := (wLM_fr hW g0 f1043 rfl)
        exact wp_ireturn e267 c267_25 rfl ⟨rfl, w1042, f1064, z1044, rfl, ⟨b1045.1, b1045.2⟩, ⟨by omega, by omega, by omega, by omega, a1055⟩⟩
      · refine wp_of e267 c267_20 (rw_iconst (pc' := 21) rfl ?_)
        refine wp_of e267 c267_21 (rw_goto (p1 := 25) (by decide) ?_)
        have k1070 : wLM H1038 r0 = wLM H r0 := (wLM_fr hW g0 f1043 rfl)
        exact wp_ireturn e267 c267_25 rfl ⟨rfl, w1042, f1064, 3, rfl, ⟨by decide, by decide⟩, ⟨by omega, by omega, by omega, by omega, a1055⟩⟩
  · have f1071 := f0.tr f1043 rfl
    show wp _ _ 267 5 [(0, .ref r0), (1, vI a1)] [vI z1044] _ H1038 _
    refine wp_of e267 c267_5 (rw_istore_n (pc' := 6) (z := z1044) (L' := [(2, vI z1044), (0, .ref r0), (1, vI a1)]) rfl rfl rfl ?_)
    refine wp_of e267 c267_6 (rw_iload_n (pc' := 7) (z := z1044) rfl rfl ?_)
    refine wp_of e267 c267_7 (rw_if_ne (p1 := 24) (p2 := 10) (by decide) rfl ⟨Int.le_trans (by decide) b1045.1, Int.le_trans b1045.2 (by decide)⟩ (fun c1072 => ?_) (fun c1072 => ?_))
    · refine wp_of e267 c267_24 (rw_iload_n (pc' := 25) (z := z1044) rfl rfl ?_)
      have k1073 : wLM H1038 r0 = wLM H r0 := (wLM_fr hW g0 f1043 rfl)
      exact wp_ireturn e267 c267_25 rfl ⟨rfl, w1042, f1071, z1044, rfl, ⟨b1045.1, b1045.2⟩, ⟨by omega, by omega, by omega, by omega, a1063⟩⟩
    · exfalso
      omega
/-! StrikeAwakeModel.worlds()I  -/
abbrev uq_240 (r0 : Nat) (e : xD) (d : xD) (T : wq_T) (H : wq_H) : Option Value → wq_T → wq_H → Prop := fun r T' H' => T = T' ∧ WT T H' ∧ wfr [(42, 0), (42, 1), (42, 2), (42, 28), (42, 29), (51, 999), (52, 999)] T H H' ∧ ∃ z : Int, some (vI z) = r ∧ ((-2147483648) ≤ z ∧ z ≤ 2147483647) ∧ (((z = -1) ∧ (wKI H' r0 = 1) ∧ (H r0 3 = -1 ∨ 20000 < xlots d) ∧ KNN T H' r0 e d) ∨ ((wKI H' r0 = 1) ∧ (H r0 3 ≠ -1 ∧ xlots d ≤ 20000) ∧ (z = xcn (xwf e d) (xlots d).toNat) ∧ KNN T H' r0 e d))
set_option maxHeartbeats 4000000 in
theorem u_240 {kt : Nat → Option mc_E} {T : wq_T} {H : wq_H} {r0 : Nat} {e : xD} {d : xD} (hW : WT T H) (g0 : T.2.2.2 r0 = some 42) (p0 : wKI H r0 = 1) (p1 : XW d) (p2 : ∀ h : Nat, d 0 0 ≤ (h : Int) → h < 24 → e 13 h = 0) (p3 : XN d) (p4 : ∀ h : Nat, h < 24 → 0 ≤ e 13 h ∧ e 13 h ≤ 100) (hRB_r0 : RB T H r0 e d) (hKNN_r0 : KNN T H r0 e d) : wpc kt 8 240 [.ref r0] T H (uq_240 r0 e d T H) := by
  refine wp_enter e240 (Nat.le_of_ble_eq_true rfl) rfl ?_
  have f0 : wfr [(42, 0), (42, 1), (42, 2), (42, 28), (42, 29), (51, 999), (52, 999)] T H H := wfr.rf
  show wp _ _ 240 0 [(0, .ref r0)] [] _ H _
  have _b := RB_b hW hRB_r0
  have _nu := RB_n3 hRB_r0
  have _lm := RB_lm hRB_r0
  refine wp_of e240 c240_0 (rw_aload_n (pc' := 1) (v := .ref r0) rfl rfl rfl ?_)
  refine wp_of e240 c240_1 (rw_iconst (pc' := 2) rfl ?_)
  refine wp_of e240 c240_2 (xp_I (pc' := 5) lf_9_48 hW g0 sh_42 (by decide) (by decide) ty_42_0 rfl rfl (by decide) (by decide) ⟨by decide, by decide⟩ rfl (fun H1138 e1139 w1140 => ?_))
  have f1141 := f0.put' e1139 g0 rfl
  have k1142 : H1138 r0 0 = 0 := wq_u_s e1139
  refine wp_of e240 c240_5 (rw_aload_n (pc' := 6) (v := .ref r0) rfl rfl rfl ?_)
  refine wp_of e240 c240_6 (rw_aload_n (pc' := 7) (v := .ref r0) rfl rfl rfl ?_)
  have k1143 : H1138 r0 3 = H r0 3 := (wq_u_j e1139 rfl)
  refine wp_of e240 c240_7 (xg_O (pc' := 10) lf_9_337 w1140 g0 sh_42 (by decide) (by decide) ty_42_3 rfl rfl (fun q1145 => ?_) (fun r1144 q1145 g1146 => ?_))
  · refine wp_of e240 c240_10 (rw_ifnull_n (p1 := 17) (p2 := 13) (by decide) rfl ?_)
    refine wp_of e240 c240_17 (rw_iconst (pc' := 18) rfl ?_)
    have k1147 : wKI H1138 r0 = wKI H r0 := (wKI_fr hW g0 ((wfr.rf (l := [(42, 0)])).put' e1139 g0 rfl) rfl)
    have h1148 : RB T H1138 r0 e d := (RB_fr hW g0 ((wfr.rf (l := [(42, 0)])).put' e1139 g0 rfl) rfl hRB_r0)
    have h1149 : KNN T H1138 r0 e d := (KNN_fr hW g0 ((wfr.rf (l := [(42, 0)])).put' e1139 g0 rfl) rfl hKNN_r0)
    refine wp_of e240 c240_18 (xc_V (pc' := 21) (r := r0) (as := [vI 0]) (st := []) (lm_9_433) rfl rfl (Nat.le_of_ble_eq_true rfl) w1140 g0 sh_42 (by decide) rfl (by decide) (u_241 (e := e) (d := d) w1140 g0 ⟨by decide, by decide⟩ (by omega) (by omega) (by assumption) (by assumption) (by assumption) (by assumption) h1148 h1149) (fun R1150 T1151 H1152 p1153 => ?_))
    obtain ⟨e1154, w1156, f1157, z1158, e1155, b1159, p1160⟩ := p1153
    subst e1154
    subst e1155
    rcases p1160 with ⟨a1161, a1162, a1163, a1164, a1165, a1166, a1167, a1168, a1169⟩ | ⟨a1170, a1171, a1172, a1173, a1174, a1175, a1176⟩
    · have f1177 := f1141.tr f1157 rfl
      show wp _ _ 240 21 [(0, .ref r0)] [vI z1158] _ H1152 _
      refine wp_of e240 c240_21 (rw_istore_n (pc' := 22) (z := z1158) (L' := [(1, vI z1158), (0, .ref r0)]) rfl rfl rfl ?_)
      refine wp_of e240 c240_22 (rw_iload_n (pc' := 23) (z := z1158) rfl rfl ?_)
      refine wp_of e240 c240_23 (rw_if_le (p1 := 34) (p2 := 26) (by decide) rfl ⟨Int.le_trans (by decide) b1159.1, Int.le_trans b1159.2 (by decide)⟩ (fun c1178 => ?_) (fun c1178 => ?_))
      · have _kb := (a1169).1
        refine wp_of e240 c240_34 (rw_aload_n (pc' := 35) (v := .ref r0) rfl rfl rfl ?_)
        refine wp_of e240 c240_35 (rw_aload_n (pc' := 36) (v := .ref r0) rfl rfl rfl ?_)
        refine wp_of e240 c240_36 (xg_I (pc' := 39) lf_9_422 w1156 g0 sh_42 (by decide) (by decide) ty_42_29 rfl rfl (fun b1179 b1180 => ?_))
        refine wp_of e240 c240_39 (xc_V (pc' := 42) (r := r0) (as := [vI (H1152 r0 29)]) (st := []) (lm_9_58) rfl rfl (Nat.le_of_ble_eq_true rfl) w1156 g0 sh_42 (by decide) rfl (by decide) (u_209  w1156 g0 ⟨Int.le_trans (by decide) b1179, Int.le_trans b1180 (by decide)⟩) (fun R1181 T1182 H1183 p1184 => ?_))
        obtain ⟨e1185, w1187, f1188, z1189, e1186, b1190, p1191⟩ := p1184
        subst e1185
        subst e1186
        obtain ⟨a1192, a1193, a1194⟩ := p1191
        have f1195 := f1177.tr f1188 rfl
        show wp _ _ 240 42 [(1, vI z1158), (0, .ref r0)] [vI z1189] _ H1183 _
        have k1196 : wKI H1183 r0 = wKI H1152 r0 := (wKI_fr w1156 g0 f1188 rfl)
        have h1197 : KNN T H1183 r0 e d := (KNN_fr w1156 g0 f1188 rfl a1168)
        exact wp_ireturn e240 c240_42 rfl ⟨rfl, w1187, f1195, z1189, rfl, ⟨b1190.1, b1190.2⟩, (Or.inr ⟨by omega, by omega, by omega, h1197⟩)⟩
      · exfalso
        omega
    · have f1198 := f1141.tr f1157 rfl
      show wp _ _ 240 21 [(0, .ref r0)] [vI z1158] _ H1152 _
      refine wp_of e240 c240_21 (rw_istore_n (pc' := 22) (z := z1158) (L' := [(1, vI z1158), (0, .ref r0)]) rfl rfl rfl ?_)
      refine wp_of e240 c240_22 (rw_iload_n (pc' := 23) (z := z1158) rfl rfl ?_)
      refine wp_of e240 c240_23 (rw_if_le (p1 := 34) (p2 := 26) (by decide) rfl ⟨Int.le_trans (by decide) b1159.1, Int.le_trans b1159.2 (by decide)⟩ (fun c1199 => ?_) (fun c1199 => ?_))
      · exfalso
        omega
      · refine wp_of e240 c240_26 (rw_aload_n (pc' := 27) (v := .ref r0) rfl rfl rfl ?_)
        refine wp_of e240 c240_27 (rw_iload_n (pc' := 28) (z := z1158) rfl rfl ?_)
        refine wp_of e240 c240_28 (xc_V (pc' := 31) (r := r0) (as := [vI z1158]) (st := []) (lm_9_54) rfl rfl (Nat.le_of_ble_eq_true rfl) w1156 g0 sh_42 (by decide) rfl (by decide) (u_170  w1156 g0 ⟨Int.le_trans (by decide) b1159.1, Int.le_trans b1159.2 (by decide)⟩) (fun R1200 T1201 H1202 p1203 => ?_))
        obtain ⟨e1204, w1206, f1207, z1208, e1205, b1209, p1210⟩ := p1203
        subst e1204
        subst e1205
        obtain ⟨a1211, a1212, a1213⟩ := p1210
        have f1214 := f1198.tr f1207 rfl
        show wp _ _ 240 31 [(1, vI z1158), (0, .ref r0)] [vI z1208] _ H1202 _
        refine wp_of e240 c240_31 (rw_goto (p1 := 42) (by decide) ?_)
        have k1215 : wKI H1202 r0 = wKI H1152 r0 := (wKI_fr w1156 g0 f1207 rfl)
        have h1216 : KNN T H1202 r0 e d := (KNN_fr w1156 g0 f1207 rfl a1176)
        exact wp_ireturn e240 c240_42 rfl ⟨rfl, w1206, f1214, z1208, rfl, ⟨b1209.1, b1209.2⟩, (Or.inl ⟨by omega, by omega, by omega, h1216⟩)⟩
  · refine wp_of e240 c240_10 (rw_ifnull_r (p1 := 17) (p2 := 13) (by decide) rfl ?_)
    refine wp_of e240 c240_13 (rw_iconst (pc' := 14) rfl ?_)
    refine wp_of e240 c240_14 (rw_goto (p1 := 18) (by decide) ?_)
    have k1217 : wKI H1138 r0 = wKI H r0 := (wKI_fr hW g0 ((wfr.rf (l := [(42, 0)])).put' e1139 g0 rfl) rfl)
    have h1218 : RB T H1138 r0 e d := (RB_fr hW g0 ((wfr.rf (l := [(42, 0)])).put' e1139 g0 rfl) rfl hRB_r0)
    have h1219 : KNN T H1138 r0 e d := (KNN_fr hW g0 ((wfr.rf (l := [(42, 0)])).put' e1139 g0 rfl) rfl hKNN_r0)
    refine wp_of e240 c240_18 (xc_V (pc' := 21) (r := r0) (as := [vI 1]) (st := []) (lm_9_433) rfl rfl (Nat.le_of_ble_eq_true rfl) w1140 g0 sh_42 (by decide) rfl (by decide) (u_241 (e := e) (d := d) w1140 g0 ⟨by decide, by decide⟩ (by omega) (by omega) (by assumption) (by assumption) (by assumption) (by assumption) h1218 h1219) (fun R1220 T1221 H1222 p1223 => ?_))
    obtain ⟨e1224, w1226, f1227, z1228, e1225, b1229, p1230⟩ := p1223
    subst e1224
    subst e1225
    rcases p1230 with ⟨a1231, a1232, a1233, a1234, a1235, a1236, a1237, a1238, a1239⟩ | ⟨a1240, a1241, a1242, a1243, a1244, a1245, a1246⟩
    · have f1247 := f1141.tr f1227 rfl
      show wp _ _ 240 21 [(0, .ref r0)] [vI z1228] _ H1222 _
      refine wp_of e240 c240_21 (rw_istore_n (pc' := 22) (z := z1228) (L' := [(1, vI z1228), (0, .ref r0)]) rfl rfl rfl ?_)
      refine wp_of e240 c240_22 (rw_iload_n (pc' := 23) (z := z1228) rfl rfl ?_)
      refine wp_of e240 c240_23 (rw_if_le (p1 := 34) (p2 := 26) (by decide) rfl ⟨Int.le_trans (by decide) b1229.1, Int.le_trans b1229.2 (by decide)⟩ (fun c1248 => ?_) (fun c1248 => ?_))
      · have _kb := (a1239).1
        refine wp_of e240 c240_34 (rw_aload_n (pc' := 35) (v := .ref r0) rfl rfl rfl ?_)
        refine wp_of e240 c240_35 (rw_aload_n (pc' := 36) (v := .ref r0) rfl rfl rfl ?_)
        refine wp_of e240 c240_36 (xg_I (pc' := 39) lf_9_422 w1226 g0 sh_42 (by decide) (by decide) ty_42_29 rfl rfl (fun b1249 b1250 => ?_))
        refine wp_of e240 c240_39 (xc_V (pc' := 42) (r := r0) (as := [vI (H1222 r0 29)]) (st := []) (lm_9_58) rfl rfl (Nat.le_of_ble_eq_true rfl) w1226 g0 sh_42 (by decide) rfl (by decide) (u_209  w1226 g0 ⟨Int.le_trans (by decide) b1249, Int.le_trans b1250 (by decide)⟩) (fun R1251 T1252 H1253 p1254 => ?_))
        obtain ⟨e1255, w1257, f1258, z1259, e1256, b1260, p1261⟩ := p1254
        subst e1255
        subst e1256
        obtain ⟨a1262, a1263, a1264⟩ := p1261
        have f1265 := f1247.tr f1258 rfl
        show wp _ _ 240 42 [(1, vI z1228), (0, .ref r0)] [vI z1259] _ H1253 _
        have k1266 : wKI H1253 r0 = wKI H1222 r0 := (wKI_fr w1226 g0 f1258 rfl)
        have h1267 : KNN T H1253 r0 e d := (KNN_fr w1226 g0 f1258 rfl a1238)
        exact wp_ireturn e240 c240_42 rfl ⟨rfl, w1257, f1265, z1259, rfl, ⟨b1260.1, b1260.2⟩, (Or.inr ⟨by omega, by omega, by omega, h1267⟩)⟩
      · exfalso
        omega
    · have f1268 := f1141.tr f1227 rfl
      show wp _ _ 240 21 [(0, .ref r0)] [vI z1228] _ H1222 _
      refine wp_of e240 c240_21 (rw_istore_n (pc' := 22) (z := z1228) (L' := [(1, vI z1228), (0, .ref r0)]) rfl rfl rfl ?_)
      refine wp_of e240 c240_22 (rw_iload_n (pc' := 23) (z := z1228) rfl rfl ?_)
      refine wp_of e240 c240_23 (rw_if_le (p1 := 34) (p2 := 26) (by decide) rfl ⟨Int.le_trans (by decide) b1229.1, Int.le_trans b1229.2 (by decide)⟩ (fun c1269 => ?_) (fun c1269 => ?_))
      · exfalso
        omega
      · refine wp_of e240 c240_26 (rw_aload_n (pc' := 27) (v := .ref r0) rfl rfl rfl ?_)
        refine wp_of e240 c240_27 (rw_iload_n (pc' := 28) (z := z1228) rfl rfl ?_)
        refine wp_of e240 c240_28 (xc_V (pc' := 31) (r := r0) (as := [vI z1228]) (st := []) (lm_9_54) rfl rfl (Nat.le_of_ble_eq_true rfl) w1226 g0 sh_42 (by decide) rfl (by decide) (u_170  w1226 g0 ⟨Int.le_trans (by decide) b1229.1, Int.le_trans b1229.2 (by decide)⟩) (fun R1270 T1271 H1272 p1273 => ?_))
        obtain ⟨e1274, w1276, f1277, z1278, e1275, b1279, p1280⟩ := p1273
        subst e1274
        subst e1275
        obtain ⟨a1281, a1282, a1283⟩ := p1280
        have f1284 := f1268.tr f1277 rfl
        show wp _ _ 240 31 [(1, vI z1228), (0, .ref r0)] [vI z1278] _ H1272 _
        refine wp_of e240 c240_31 (rw_goto (p1 := 42) (by decide) ?_)
        have k1285 : wKI H1272 r0 = wKI H1222 r0 := (wKI_fr w1226 g0 f1277 rfl)
        have h1286 : KNN T H1272 r0 e d := (KNN_fr w1226 g0 f1277 rfl a1246)
        exact wp_ireturn e240 c240_42 rfl ⟨rfl, w1276, f1284, z1278, rfl, ⟨b1279.1, b1279.2⟩, (Or.inl ⟨by omega, by omega, by omega, h1286⟩)⟩
/-! StrikeAwakeModel.can()I  -/
abbrev uq_244 (r0 : Nat) (e : xD) (d : xD) (T : wq_T) (H : wq_H) : Option Value → wq_T → wq_H → Prop := fun r T' H' => T = T' ∧ WT T H' ∧ wfr [(42, 0), (42, 1), (42, 2), (42, 28), (42, 29), (51, 999), (52, 999)] T H H' ∧ ∃ z : Int, some (vI z) = r ∧ ((-2147483648) ≤ z ∧ z ≤ 2147483647) ∧ (((z = -1) ∧ (wKI H' r0 = 1) ∧ (H r0 3 = -1 ∨ 20000 < xlots d) ∧ KNN T H' r0 e d) ∨ ((0 ≤ z ∧ z ≤ 1) ∧ (wKI H' r0 = 1) ∧ (H r0 3 ≠ -1 ∧ xlots d ≤ 20000) ∧ ((z = 1 ∧ 0 < xcn (xwf e d) (xlots d).toNat) ∨ (z = 0 ∧ xcn (xwf e d) (xlots d).toNat ≤ 0)) ∧ KNN T H' r0 e d))
set_option maxHeartbeats 4000000 in
theorem u_244 {kt : Nat → Option mc_E} {T : wq_T} {H : wq_H} {r0 : Nat} {e : xD} {d : xD} (hW : WT T H) (g0 : T.2.2.2 r0 = some 42) (p0 : wKI H r0 = 1) (p1 : XW d) (p2 : ∀ h : Nat, d 0 0 ≤ (h : Int) → h < 24 → e 13 h = 0) (p3 : XN d) (p4 : ∀ h : Nat, h < 24 → 0 ≤ e 13 h ∧ e 13 h ≤ 100) (hRB_r0 : RB T H r0 e d) (hKNN_r0 : KNN T H r0 e d) : wpc kt 8 244 [.ref r0] T H (uq_244 r0 e d T H) := by
  refine wp_enter e244 (Nat.le_of_ble_eq_true rfl) rfl ?_
  have f0 : wfr [(42, 0), (42, 1), (42, 2), (42, 28), (42, 29), (51, 999), (52, 999)] T H H := wfr.rf
  show wp _ _ 244 0 [(0, .ref r0)] [] _ H _
  have _b := RB_b hW hRB_r0
  have _nu := RB_n3 hRB_r0
  have _lm := RB_lm hRB_r0
  refine wp_of e244 c244_0 (rw_aload_n (pc' := 1) (v := .ref r0) rfl rfl rfl ?_)
  refine wp_of e244 c244_1 (rw_iconst (pc' := 2) rfl ?_)
  refine wp_of e244 c244_2 (xp_I (pc' := 5) lf_9_48 hW g0 sh_42 (by decide) (by decide) ty_42_0 rfl rfl (by decide) (by decide) ⟨by decide, by decide⟩ rfl (fun H1170 e1171 w1172 => ?_))
  have f1173 := f0.put' e1171 g0 rfl
  have k1174 : H1170 r0 0 = 0 := wq_u_s e1171
  refine wp_of e244 c244_5 (rw_aload_n (pc' := 6) (v := .ref r0) rfl rfl rfl ?_)
  refine wp_of e244 c244_6 (rw_aload_n (pc' := 7) (v := .ref r0) rfl rfl rfl ?_)
  have k1175 : H1170 r0 3 = H r0 3 := (wq_u_j e1171 rfl)
  refine wp_of e244 c244_7 (xg_O (pc' := 10) lf_9_337 w1172 g0 sh_42 (by decide) (by decide) ty_42_3 rfl rfl (fun q1177 => ?_) (fun r1176 q1177 g1178 => ?_))
  · refine wp_of e244 c244_10 (rw_ifnull_n (p1 := 17) (p2 := 13) (by decide) rfl ?_)
    refine wp_of e244 c244_17 (rw_iconst (pc' := 18) rfl ?_)
    have k1179 : wKI H1170 r0 = wKI H r0 := (wKI_fr hW g0 ((wfr.rf (l := [(42, 0)])).put' e1171 g0 rfl) rfl)
    have h1180 : RB T H1170 r0 e d := (RB_fr hW g0 ((wfr.rf (l := [(42, 0)])).put' e1171 g0 rfl) rfl hRB_r0)
    have h1181 : KNN T H1170 r0 e d := (KNN_fr hW g0 ((wfr.rf (l := [(42, 0)])).put' e1171 g0 rfl) rfl hKNN_r0)
    refine wp_of e244 c244_18 (xc_V (pc' := 21) (r := r0) (as := [vI 0]) (st := []) (lm_9_433) rfl rfl (Nat.le_of_ble_eq_true rfl) w1172 g0 sh_42 (by decide) rfl (by decide) (u_241 (e := e) (d := d) w1172 g0 ⟨by decide, by decide⟩ (by omega) (by omega) (by assumption) (by assumption) (by assumption) (by assumption) h1180 h1181) (fun R1182 T1183 H1184 p1185 => ?_))
    obtain ⟨e1186, w1188, f1189, z1190, e1187, b1191, p1192⟩ := p1185
    subst e1186
    subst e1187
    rcases p1192 with ⟨a1193, a1194, a1195, a1196, a1197, a1198, a1199, a1200, a1201⟩ | ⟨a1202, a1203, a1204, a1205, a1206, a1207, a1208⟩
    · have f1209 := f1173.tr f1189 rfl
      show wp _ _ 244 21 [(0, .ref r0)] [vI z1190] _ H1184 _
      refine wp_of e244 c244_21 (rw_istore_n (pc' := 22) (z := z1190) (L' := [(1, vI z1190), (0, .ref r0)]) rfl rfl rfl ?_)
      refine wp_of e244 c244_22 (rw_iload_n (pc' := 23) (z := z1190) rfl rfl ?_)
      refine wp_of e244 c244_23 (rw_if_le (p1 := 34) (p2 := 26) (by decide) rfl ⟨Int.le_trans (by decide) b1191.1, Int.le_trans b1191.2 (by decide)⟩ (fun c1210 => ?_) (fun c1210 => ?_))
      · have _kb := (a1201).1
        refine wp_of e244 c244_34 (rw_aload_n (pc' := 35) (v := .ref r0) rfl rfl rfl ?_)
        refine wp_of e244 c244_35 (rw_aload_n (pc' := 36) (v := .ref r0) rfl rfl rfl ?_)
        refine wp_of e244 c244_36 (xg_I (pc' := 39) lf_9_422 w1188 g0 sh_42 (by decide) (by decide) ty_42_29 rfl rfl (fun b1211 b1212 => ?_))
        refine wp_of e244 c244_39 (rw_if_le (p1 := 46) (p2 := 42) (by decide) rfl ⟨Int.le_trans (by decide) b1211, Int.le_trans b1212 (by decide)⟩ (fun c1213 => ?_) (fun c1213 => ?_))
        · refine wp_of e244 c244_46 (rw_iconst (pc' := 47) rfl ?_)
          refine wp_of e244 c244_47 (xc_V (pc' := 50) (r := r0) (as := [vI 0]) (st := []) (lm_9_58) rfl rfl (Nat.le_of_ble_eq_true rfl) w1188 g0 sh_42 (by decide) rfl (by decide) (u_209  w1188 g0 ⟨by decide, by decide⟩) (fun R1214 T1215 H1216 p1217 => ?_))
          obtain ⟨e1218, w1220, f1221, z1222, e1219, b1223, p1224⟩ := p1217
          subst e1218
          subst e1219
          obtain ⟨a1225, a1226, a1227⟩ := p1224
          have f1228 := f1209.tr f1221 rfl
          show wp _ _ 244 50 [(1, vI z1190), (0, .ref r0)] [vI z1222] _ H1216 _
          have k1229 : wKI H1216 r0 = wKI H1184 r0 := (wKI_fr w1188 g0 f1221 rfl)
          have h1230 : KNN T H1216 r0 e d := (KNN_fr w1188 g0 f1221 rfl a1200)
          exact wp_ireturn e244 c244_50 rfl ⟨rfl, w1220, f1228, z1222, rfl, ⟨b1223.1, b1223.2⟩, (Or.inr ⟨by omega, by omega, by omega, by omega, h1230⟩)⟩
        · refine wp_of e244 c244_42 (rw_iconst (pc' := 43) rfl ?_)
          refine wp_of e244 c244_43 (rw_goto (p1 := 47) (by decide) ?_)
          refine wp_of e244 c244_47 (xc_V (pc' := 50) (r := r0) (as := [vI 1]) (st := []) (lm_9_58) rfl rfl (Nat.le_of_ble_eq_true rfl) w1188 g0 sh_42 (by decide) rfl (by decide) (u_209  w1188 g0 ⟨by decide, by decide⟩) (fun R1231 T1232 H1233 p1234 => ?_))
          obtain ⟨e1235, w1237, f1238, z1239, e1236, b1240, p1241⟩ := p1234
          subst e1235
          subst e1236
          obtain ⟨a1242, a1243, a1244⟩ := p1241
          have f1245 := f1209.tr f1238 rfl
          show wp _ _ 244 50 [(1, vI z1190), (0, .ref r0)] [vI z1239] _ H1233 _
          have k1246 : wKI H1233 r0 = wKI H1184 r0 := (wKI_fr w1188 g0 f1238 rfl)
          have h1247 : KNN T H1233 r0 e d := (KNN_fr w1188 g0 f1238 rfl a1200)
          exact wp_ireturn e244 c244_50 rfl ⟨rfl, w1237, f1245, z1239, rfl, ⟨b1240.1, b1240.2⟩, (Or.inr ⟨by omega, by omega, by omega, by omega, h1247⟩)⟩
      · exfalso
        omega
    · have f1248 := f1173.tr f1189 rfl
      show wp _ _ 244 21 [(0, .ref r0)] [vI z1190] _ H1184 _
      refine wp_of e244 c244_21 (rw_istore_n (pc' := 22) (z := z1190) (L' := [(1, vI z1190), (0, .ref r0)]) rfl rfl rfl ?_)
      refine wp_of e244 c244_22 (rw_iload_n (pc' := 23) (z := z1190) rfl rfl ?_)
      refine wp_of e244 c244_23 (rw_if_le (p1 := 34) (p2 := 26) (by decide) rfl ⟨Int.le_trans (by decide) b1191.1, Int.le_trans b1191.2 (by decide)⟩ (fun c1249 => ?_) (fun c1249 => ?_))
      · exfalso
        omega
      · refine wp_of e244 c244_26 (rw_aload_n (pc' := 27) (v := .ref r0) rfl rfl rfl ?_)
        refine wp_of e244 c244_27 (rw_iload_n (pc' := 28) (z := z1190) rfl rfl ?_)
        refine wp_of e244 c244_28 (xc_V (pc' := 31) (r := r0) (as := [vI z1190]) (st := []) (lm_9_54) rfl rfl (Nat.le_of_ble_eq_true rfl) w1188 g0 sh_42 (by decide) rfl (by decide) (u_170  w1188 g0 ⟨Int.le_trans (by decide) b1191.1, Int.le_trans b1191.2 (by decide)⟩) (fun R1250 T1251 H1252 p1253 => ?_))
        obtain ⟨e1254, w1256, f1257, z1258, e1255, b1259, p1260⟩ := p1253
        subst e1254
        subst e1255
        obtain ⟨a1261, a1262, a1263⟩ := p1260
        have f1264 := f1248.tr f1257 rfl
        show wp _ _ 244 31 [(1, vI z1190), (0, .ref r0)] [vI z1258] _ H1252 _
        refine wp_of e244 c244_31 (rw_goto (p1 := 50) (by decide) ?_)
        have k1265 : wKI H1252 r0 = wKI H1184 r0 := (wKI_fr w1188 g0 f1257 rfl)
        have h1266 : KNN T H1252 r0 e d := (KNN_fr w1188 g0 f1257 rfl a1208)
        exact wp_ireturn e244 c244_50 rfl ⟨rfl, w1256, f1264, z1258, rfl, ⟨b1259.1, b1259.2⟩, (Or.inl ⟨by omega, by omega, by omega, h1266⟩)⟩
  · refine wp_of e244 c244_10 (rw_ifnull_r (p1 := 17) (p2 := 13) (by decide) rfl ?_)
    refine wp_of e244 c244_13 (rw_iconst (pc' := 14) rfl ?_)
    refine wp_of e244 c244_14 (rw_goto (p1 := 18) (by decide) ?_)
    have k1267 : wKI H1170 r0 = wKI H r0 := (wKI_fr hW g0 ((wfr.rf (l := [(42, 0)])).put' e1171 g0 rfl) rfl)
    have h1268 : RB T H1170 r0 e d := (RB_fr hW g0 ((wfr.rf (l := [(42, 0)])).put' e1171 g0 rfl) rfl hRB_r0)
    have h1269 : KNN T H1170 r0 e d := (KNN_fr hW g0 ((wfr.rf (l := [(42, 0)])).put' e1171 g0 rfl) rfl hKNN_r0)
    refine wp_of e244 c244_18 (xc_V (pc' := 21) (r := r0) (as := [vI 1]) (st := []) (lm_9_433) rfl rfl (Nat.le_of_ble_eq_true rfl) w1172 g0 sh_42 (by decide) rfl (by decide) (u_241 (e := e) (d := d) w1172 g0 ⟨by decide, by decide⟩ (by omega) (by omega) (by assumption) (by assumption) (by assumption) (by assumption) h1268 h1269) (fun R1270 T1271 H1272 p1273 => ?_))
    obtain ⟨e1274, w1276, f1277, z1278, e1275, b1279, p1280⟩ := p1273
    subst e1274
    subst e1275
    rcases p1280 with ⟨a1281, a1282, a1283, a1284, a1285, a1286, a1287, a1288, a1289⟩ | ⟨a1290, a1291, a1292, a1293, a1294, a1295, a1296⟩
    · have f1297 := f1173.tr f1277 rfl
      show wp _ _ 244 21 [(0, .ref r0)] [vI z1278] _ H1272 _
      refine wp_of e244 c244_21 (rw_istore_n (pc' := 22) (z := z1278) (L' := [(1, vI z1278), (0, .ref r0)]) rfl rfl rfl ?_)
      refine wp_of e244 c244_22 (rw_iload_n (pc' := 23) (z := z1278) rfl rfl ?_)
      refine wp_of e244 c244_23 (rw_if_le (p1 := 34) (p2 := 26) (by decide) rfl ⟨Int.le_trans (by decide) b1279.1, Int.le_trans b1279.2 (by decide)⟩ (fun c1298 => ?_) (fun c1298 => ?_))
      · have _kb := (a1289).1
        refine wp_of e244 c244_34 (rw_aload_n (pc' := 35) (v := .ref r0) rfl rfl rfl ?_)
        refine wp_of e244 c244_35 (rw_aload_n (pc' := 36) (v := .ref r0) rfl rfl rfl ?_)
        refine wp_of e244 c244_36 (xg_I (pc' := 39) lf_9_422 w1276 g0 sh_42 (by decide) (by decide) ty_42_29 rfl rfl (fun b1299 b1300 => ?_))
        refine wp_of e244 c244_39 (rw_if_le (p1 := 46) (p2 := 42) (by decide) rfl ⟨Int.le_trans (by decide) b1299, Int.le_trans b1300 (by decide)⟩ (fun c1301 => ?_) (fun c1301 => ?_))
        · refine wp_of e244 c244_46 (rw_iconst (pc' := 47) rfl ?_)
          refine wp_of e244 c244_47 (xc_V (pc' := 50) (r := r0) (as := [vI 0]) (st := []) (lm_9_58) rfl rfl (Nat.le_of_ble_eq_true rfl) w1276 g0 sh_42 (by decide) rfl (by decide) (u_209  w1276 g0 ⟨by decide, by decide⟩) (fun R1302 T1303 H1304 p1305 => ?_))
          obtain ⟨e1306, w1308, f1309, z1310, e1307, b1311, p1312⟩ := p1305
          subst e1306
          subst e1307
          obtain ⟨a1313, a1314, a1315⟩ := p1312
          have f1316 := f1297.tr f1309 rfl
          show wp _ _ 244 50 [(1, vI z1278), (0, .ref r0)] [vI z1310] _ H1304 _
          have k1317 : wKI H1304 r0 = wKI H1272 r0 := (wKI_fr w1276 g0 f1309 rfl)
          have h1318 : KNN T H1304 r0 e d := (KNN_fr w1276 g0 f1309 rfl a1288)
          exact wp_ireturn e244 c244_50 rfl ⟨rfl, w1308, f1316, z1310, rfl, ⟨b1311.1, b1311.2⟩, (Or.inr ⟨by omega, by omega, by omega, by omega, h1318⟩)⟩
        · refine wp_of e244 c244_42 (rw_iconst (pc' := 43) rfl ?_)
          refine wp_of e244 c244_43 (rw_goto (p1 := 47) (by decide) ?_)
          refine wp_of e244 c244_47 (xc_V (pc' := 50) (r := r0) (as := [vI 1]) (st := []) (lm_9_58) rfl rfl (Nat.le_of_ble_eq_true rfl) w1276 g0 sh_42 (by decide) rfl (by decide) (u_209  w1276 g0 ⟨by decide, by decide⟩) (fun R1319 T1320 H1321 p1322 => ?_))
          obtain ⟨e1323, w1325, f1326, z1327, e1324, b1328, p1329⟩ := p1322
          subst e1323
          subst e1324
          obtain ⟨a1330, a1331, a1332⟩ := p1329
          have f1333 := f1297.tr f1326 rfl
          show wp _ _ 244 50 [(1, vI z1278), (0, .ref r0)] [vI z1327] _ H1321 _
          have k1334 : wKI H1321 r0 = wKI H1272 r0 := (wKI_fr w1276 g0 f1326 rfl)
          have h1335 : KNN T H1321 r0 e d := (KNN_fr w1276 g0 f1326 rfl a1288)
          exact wp_ireturn e244 c244_50 rfl ⟨rfl, w1325, f1333, z1327, rfl, ⟨b1328.1, b1328.2⟩, (Or.inr ⟨by omega, by omega, by omega, by omega, h1335⟩)⟩
      · exfalso
        omega
    · have f1336 := f1173.tr f1277 rfl
      show wp _ _ 244 21 [(0, .ref r0)] [vI z1278] _ H1272 _
      refine wp_of e244 c244_21 (rw_istore_n (pc' := 22) (z := z1278) (L' := [(1, vI z1278), (0, .ref r0)]) rfl rfl rfl ?_)
      refine wp_of e244 c244_22 (rw_iload_n (pc' := 23) (z := z1278) rfl rfl ?_)
      refine wp_of e244 c244_23 (rw_if_le (p1 := 34) (p2 := 26) (by decide) rfl ⟨Int.le_trans (by decide) b1279.1, Int.le_trans b1279.2 (by decide)⟩ (fun c1337 => ?_) (fun c1337 => ?_))
      · exfalso
        omega
      · refine wp_of e244 c244_26 (rw_aload_n (pc' := 27) (v := .ref r0) rfl rfl rfl ?_)
        refine wp_of e244 c244_27 (rw_iload_n (pc' := 28) (z := z1278) rfl rfl ?_)
        refine wp_of e244 c244_28 (xc_V (pc' := 31) (r := r0) (as := [vI z1278]) (st := []) (lm_9_54) rfl rfl (Nat.le_of_ble_eq_true rfl) w1276 g0 sh_42 (by decide) rfl (by decide) (u_170  w1276 g0 ⟨Int.le_trans (by decide) b1279.1, Int.le_trans b1279.2 (by decide)⟩) (fun R1338 T1339 H1340 p1341 => ?_))
        obtain ⟨e1342, w1344, f1345, z1346, e1343, b1347, p1348⟩ := p1341
        subst e1342
        subst e1343
        obtain ⟨a1349, a1350, a1351⟩ := p1348
        have f1352 := f1336.tr f1345 rfl
        show wp _ _ 244 31 [(1, vI z1278), (0, .ref r0)] [vI z1346] _ H1340 _
        refine wp_of e244 c244_31 (rw_goto (p1 := 50) (by decide) ?_)
        have k1353 : wKI H1340 r0 = wKI H1272 r0 := (wKI_fr w1276 g0 f1345 rfl)
        have h1354 : KNN T H1340 r0 e d := (KNN_fr w1276 g0 f1345 rfl a1296)
        exact wp_ireturn e244 c244_50 rfl ⟨rfl, w1344, f1352, z1346, rfl, ⟨b1347.1, b1347.2⟩, (Or.inl ⟨by omega, by omega, by omega, h1354⟩)⟩
