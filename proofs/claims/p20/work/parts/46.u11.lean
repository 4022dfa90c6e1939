/-! what methods do (own work, written by wip/gen3/sx3.py) -/
/-! StrikeAwakeModel.likeliest(I)I  -/
abbrev uq_256 (r0 : Nat) (a1 : Int) (e : xD) (d : xD) (T : wq_T) (H : wq_H) : Option Value → wq_T → wq_H → Prop := fun r T' H' => T = T' ∧ WT T H' ∧ wfr [(42, 0), (42, 1), (42, 2), (42, 28), (42, 29), (51, 999), (52, 999)] T H H' ∧ ∃ z : Int, some (vI z) = r ∧ ((-2147483648) ≤ z ∧ z ≤ 2147483647) ∧ (((wKI H' r0 = 1) ∧ KNN T H' r0 e d))
set_option maxHeartbeats 4000000 in
theorem u_256 {kt : Nat → Option mc_E} {T : wq_T} {H : wq_H} {r0 : Nat} {a1 : Int} {e : xD} {d : xD} (hW : WT T H) (g0 : T.2.2.2 r0 = some 42) (i1 : (-2147483648) ≤ a1 ∧ a1 ≤ 2147483647) (p0 : wKI H r0 = 1) (p1 : XW d) (p2 : ∀ h : Nat, d 0 0 ≤ (h : Int) → h < 24 → e 13 h = 0) (p3 : XN d) (p4 : ∀ h : Nat, h < 24 → 0 ≤ e 13 h ∧ e 13 h ≤ 100) (hRB_r0 : RB T H r0 e d) (hKNN_r0 : KNN T H r0 e d) : wpc kt 9 256 [.ref r0, vI a1] T H (uq_256 r0 a1 e d T H) := by
  refine wp_enter e256 (Nat.le_of_ble_eq_true rfl) rfl ?_
  have f0 : wfr [(42, 0), (42, 1), (42, 2), (42, 28), (42, 29), (51, 999), (52, 999)] T H H := wfr.rf
  show wp _ _ 256 0 [(0, .ref r0), (1, vI a1)] [] _ H _
  have _b := RB_b hW hRB_r0
  have _nu := RB_n3 hRB_r0
  have _lm := RB_lm hRB_r0
  refine wp_of e256 c256_0 (rw_aload_n (pc' := 1) (v := .ref r0) rfl rfl rfl ?_)
  refine wp_of e256 c256_1 (rw_iconst (pc' := 2) rfl ?_)
  refine wp_of e256 c256_2 (xp_I (pc' := 5) lf_9_48 hW g0 sh_42 (by decide) (by decide) ty_42_0 rfl rfl (by omega) (by omega) ⟨by omega, by omega⟩ rfl (fun H1092 e1093 w1094 => ?_))
  have f1095 := f0.put' e1093 g0 rfl
  have k1096 : H1092 r0 0 = 0 := wq_u_s e1093
  refine wp_of e256 c256_5 (rw_aload_n (pc' := 6) (v := .ref r0) rfl rfl rfl ?_)
  refine wp_of e256 c256_6 (rw_aload_n (pc' := 7) (v := .ref r0) rfl rfl rfl ?_)
  refine wp_of e256 c256_7 (rw_iload_n (pc' := 8) (z := a1) rfl rfl ?_)
  refine wp_of e256 c256_8 (xc_V (pc' := 11) (r := r0) (as := [vI a1]) (st := [.ref r0]) (lm_9_364) rfl rfl (Nat.le_of_ble_eq_true rfl) w1094 g0 sh_42 (by decide) rfl (by decide) (s_213 w1094 g0 ⟨by omega, by omega⟩) (fun R1097 T1098 H1099 p1100 => ?_))
  obtain ⟨e1101, e1103, z1105, e1102, b1106, p1104⟩ := p1100
  subst e1101
  subst e1102
  subst e1103
  show wp _ _ 256 11 [(0, .ref r0), (1, vI a1)] [vI z1105, .ref r0] _ H1092 _
  have k1107 : H1092 r0 3 = H r0 3 := (wq_u_j e1093 rfl)
  have k1108 : wKI H1092 r0 = wKI H r0 := (wKI_fr hW g0 ((wfr.rf (l := [(42, 0)])).put' e1093 g0 rfl) rfl)
  have h1109 : RB T H1092 r0 e d := (RB_fr hW g0 ((wfr.rf (l := [(42, 0)])).put' e1093 g0 rfl) rfl hRB_r0)
  have h1110 : KNN T H1092 r0 e d := (KNN_fr hW g0 ((wfr.rf (l := [(42, 0)])).put' e1093 g0 rfl) rfl hKNN_r0)
  refine wp_of e256 c256_11 (xc_V (pc' := 14) (r := r0) (as := [vI z1105]) (st := []) (lm_9_447) rfl rfl (Nat.le_of_ble_eq_true rfl) w1094 g0 sh_42 (by decide) rfl (by decide) (u_253 (e := e) (d := d) w1094 g0 ⟨by omega, by omega⟩ (by omega) (by omega) (by assumption) (by assumption) (by assumption) (by assumption) h1109 h1110) (fun R1111 T1112 H1113 p1114 => ?_))
  obtain ⟨e1115, w1117, f1118, z1119, e1116, b1120, p1121⟩ := p1114
  subst e1115
  subst e1116
  rcases p1121 with ⟨a1122, a1123, a1124, a1125, a1126, a1127, a1128, a1129, a1130, a1131⟩ | ⟨a1132, a1133, a1134, a1135, a1136, a1137, a1138⟩
  · have f1139 := f1095.tr f1118 rfl
    show wp _ _ 256 14 [(0, .ref r0), (1, vI a1)] [vI z1119] _ H1113 _
    refine wp_of e256 c256_14 (rw_istore_n (pc' := 15) (z := z1119) (L' := [(2, vI z1119), (0, .ref r0), (1, vI a1)]) rfl rfl rfl ?_)
    refine wp_of e256 c256_15 (rw_iload_n (pc' := 16) (z := z1119) rfl rfl ?_)
    refine wp_of e256 c256_16 (rw_if_le (p1 := 25) (p2 := 19) (by decide) rfl ⟨by omega, by omega⟩ (fun c1140 => ?_) (fun c1140 => ?_))
    · refine wp_of e256 c256_25 (rw_aload_n (pc' := 26) (v := .ref r0) rfl rfl rfl ?_)
      have k1141 : H1113 r0 3 = H1092 r0 3 := (f1118 r0 3 _ g0 rfl)
      obtain ⟨r1142, q1143, g1144⟩ := (w1117.opt g0 (t' := 54) (n := 33) (j := 3) (p := 0) (q := 0) rfl (by decide) rfl).resolve_left (by omega)
      refine wp_of e256 c256_26 (xc_V (pc' := 29) (r := r0) (as := []) (st := []) (lm_9_452) rfl rfl (Nat.le_of_ble_eq_true rfl) w1117 g0 sh_42 (by decide) rfl (by decide) (s_257 w1117 g0 q1143 g1144 (by omega) (by omega)) (fun R1145 T1146 H1147 p1148 => ?_))
      obtain ⟨e1149, w1151, f1152, z1153, e1150, b1154⟩ := p1148
      subst e1149
      subst e1150
      have f1155 := f1139.tr f1152 rfl
      show wp _ _ 256 29 [(2, vI z1119), (0, .ref r0), (1, vI a1)] [vL z1153] _ H1147 _
      refine wp_of e256 c256_29 (rw_pop2 (pc' := 30) rfl rfl ?_)
      refine wp_of e256 c256_30 (rw_aload_n (pc' := 31) (v := .ref r0) rfl rfl rfl ?_)
      refine wp_of e256 c256_31 (rw_aload_n (pc' := 32) (v := .ref r0) rfl rfl rfl ?_)
      refine wp_of e256 c256_32 (xg_R (pc' := 35) lf_9_39 w1151 g0 sh_42 (by decide) (by decide) ty_42_27 rfl rfl (fun r1156 q1157 g1158 => ?_))
      refine wp_of e256 c256_35 (rw_iload_n (pc' := 36) (z := a1) rfl rfl ?_)
      refine wp_of e256 c256_36 (xa_I (so := 0) (pc' := 37) w1151 g1158 sh_51 (by decide) (ty_51 _) (by omega) (by omega) rfl (fun b1159 b1160 => ?_))
      refine wp_of e256 c256_37 (xc_V (pc' := 40) (r := r0) (as := [vI (H1147 r1156 (a1.toNat))]) (st := []) (lm_9_58) rfl rfl (Nat.le_of_ble_eq_true rfl) w1151 g0 sh_42 (by decide) rfl (by decide) (s_209 w1151 g0 ⟨by omega, by omega⟩) (fun R1161 T1162 H1163 p1164 => ?_))
      obtain ⟨e1165, w1167, f1168, z1169, e1166, b1170⟩ := p1164
      subst e1165
      subst e1166
      have f1171 := f1155.tr f1168 rfl
      show wp _ _ 256 40 [(2, vI z1119), (0, .ref r0), (1, vI a1)] [vI z1169] _ H1163 _
      have k1172 : wKI H1163 r0 = wKI H1113 r0 := ((wKI_fr w1151 g0 f1168 rfl).trans (wKI_fr w1117 g0 f1152 rfl))
      have h1173 : KNN T H1163 r0 e d := (KNN_fr w1151 g0 f1168 rfl (KNN_fr w1117 g0 f1152 rfl a1130))
      exact wp_ireturn e256 c256_40 rfl ⟨rfl, w1167, f1171, z1169, rfl, ⟨by omega, by omega⟩, ⟨by omega, h1173⟩⟩
    · exfalso
      omega
  · have f1174 := f1095.tr f1118 rfl
    show wp _ _ 256 14 [(0, .ref r0), (1, vI a1)] [vI z1119] _ H1113 _
    refine wp_of e256 c256_14 (rw_istore_n (pc' := 15) (z := z1119) (L' := [(2, vI z1119), (0, .ref r0), (1, vI a1)]) rfl rfl rfl ?_)
    refine wp_of e256 c256_15 (rw_iload_n (pc' := 16) (z := z1119) rfl rfl ?_)
    refine wp_of e256 c256_16 (rw_if_le (p1 := 25) (p2 := 19) (by decide) rfl ⟨by omega, by omega⟩ (fun c1175 => ?_) (fun c1175 => ?_))
    · exfalso
      omega
    · refine wp_of e256 c256_19 (rw_aload_n (pc' := 20) (v := .ref r0) rfl rfl rfl ?_)
      refine wp_of e256 c256_20 (rw_iload_n (pc' := 21) (z := z1119) rfl rfl ?_)
      refine wp_of e256 c256_21 (xc_V (pc' := 24) (r := r0) (as := [vI z1119]) (st := []) (lm_9_54) rfl rfl (Nat.le_of_ble_eq_true rfl) w1117 g0 sh_42 (by decide) rfl (by decide) (s_170 w1117 g0 ⟨by omega, by omega⟩) (fun R1176 T1177 H1178 p1179 => ?_))
      obtain ⟨e1180, w1182, f1183, z1184, e1181, b1185⟩ := p1179
      subst e1180
      subst e1181
      have f1186 := f1174.tr f1183 rfl
      show wp _ _ 256 24 [(2, vI z1119), (0, .ref r0), (1, vI a1)] [vI z1184] _ H1178 _
      have k1187 : wKI H1178 r0 = wKI H1113 r0 := (wKI_fr w1117 g0 f1183 rfl)
      have h1188 : KNN T H1178 r0 e d := (KNN_fr w1117 g0 f1183 rfl a1138)
      exact wp_ireturn e256 c256_24 rfl ⟨rfl, w1182, f1186, z1184, rfl, ⟨by omega, by omega⟩, ⟨by omega, h1188⟩⟩
/-! StrikeAwakeModel.greatest()J  -/
abbrev uq_258 (r0 : Nat) (e : xD) (d : xD) (T : wq_T) (H : wq_H) : Option Value → wq_T → wq_H → Prop := fun r T' H' => T = T' ∧ WT T H' ∧ wfr [(42, 0), (42, 1), (42, 2), (42, 28), (42, 29), (51, 999), (52, 999)] T H H' ∧ ∃ z : Int, some (vL z) = r ∧ ((-9223372036854775808) ≤ z ∧ z ≤ 9223372036854775807) ∧ (((wKI H' r0 = 1) ∧ KNN T H' r0 e d))
set_option maxHeartbeats 4000000 in
theorem u_258 {kt : Nat → Option mc_E} {T : wq_T} {H : wq_H} {r0 : Nat} {e : xD} {d : xD} (hW : WT T H) (g0 : T.2.2.2 r0 = some 42) (p0 : wKI H r0 = 1) (p1 : XW d) (p2 : ∀ h : Nat, d 0 0 ≤ (h : Int) → h < 24 → e 13 h = 0) (p3 : XN d) (p4 : ∀ h : Nat, h < 24 → 0 ≤ e 13 h ∧ e 13 h ≤ 100) (hRB_r0 : RB T H r0 e d) (hKNN_r0 : KNN T H r0 e d) : wpc kt 9 258 [.ref r0] T H (uq_258 r0 e d T H) := by
  refine wp_enter e258 (Nat.le_of_ble_eq_true rfl) rfl ?_
  have f0 : wfr [(42, 0), (42, 1), (42, 2), (42, 28), (42, 29), (51, 999), (52, 999)] T H H := wfr.rf
  show wp _ _ 258 0 [(0, .ref r0)] [] _ H _
  have _b := RB_b hW hRB_r0
  have _nu := RB_n3 hRB_r0
  have _lm := RB_lm hRB_r0
  refine wp_of e258 c258_0 (rw_aload_n (pc' := 1) (v := .ref r0) rfl rfl rfl ?_)
  refine wp_of e258 c258_1 (rw_iconst (pc' := 2) rfl ?_)
  refine wp_of e258 c258_2 (xp_I (pc' := 5) lf_9_48 hW g0 sh_42 (by decide) (by decide) ty_42_0 rfl rfl (by omega) (by omega) ⟨by omega, by omega⟩ rfl (fun H1149 e1150 w1151 => ?_))
  have f1152 := f0.put' e1150 g0 rfl
  have k1153 : H1149 r0 0 = 0 := wq_u_s e1150
  refine wp_of e258 c258_5 (rw_aload_n (pc' := 6) (v := .ref r0) rfl rfl rfl ?_)
  refine wp_of e258 c258_6 (rw_aload_n (pc' := 7) (v := .ref r0) rfl rfl rfl ?_)
  have k1154 : H1149 r0 3 = H r0 3 := (wq_u_j e1150 rfl)
  refine wp_of e258 c258_7 (xg_O (pc' := 10) lf_9_337 w1151 g0 sh_42 (by decide) (by decide) ty_42_3 rfl rfl (fun q1156 => ?_) (fun r1155 q1156 g1157 => ?_))
  · refine wp_of e258 c258_10 (rw_ifnull_n (p1 := 17) (p2 := 13) (by decide) rfl ?_)
    refine wp_of e258 c258_17 (rw_iconst (pc' := 18) rfl ?_)
    have k1158 : wKI H1149 r0 = wKI H r0 := (wKI_fr hW g0 ((wfr.rf (l := [(42, 0)])).put' e1150 g0 rfl) rfl)
    have h1159 : RB T H1149 r0 e d := (RB_fr hW g0 ((wfr.rf (l := [(42, 0)])).put' e1150 g0 rfl) rfl hRB_r0)
    have h1160 : KNN T H1149 r0 e d := (KNN_fr hW g0 ((wfr.rf (l := [(42, 0)])).put' e1150 g0 rfl) rfl hKNN_r0)
    refine wp_of e258 c258_18 (xc_V (pc' := 21) (r := r0) (as := [vI 0]) (st := []) (lm_9_447) rfl rfl (Nat.le_of_ble_eq_true rfl) w1151 g0 sh_42 (by decide) rfl (by decide) (u_253 (e := e) (d := d) w1151 g0 ⟨by omega, by omega⟩ (by omega) (by omega) (by assumption) (by assumption) (by assumption) (by assumption) h1159 h1160) (fun R1161 T1162 H1163 p1164 => ?_))
    obtain ⟨e1165, w1167, f1168, z1169, e1166, b1170, p1171⟩ := p1164
    subst e1165
    subst e1166
    rcases p1171 with ⟨a1172, a1173, a1174, a1175, a1176, a1177, a1178, a1179, a1180, a1181⟩ | ⟨a1182, a1183, a1184, a1185, a1186, a1187, a1188⟩
    · have f1189 := f1152.tr f1168 rfl
      show wp _ _ 258 21 [(0, .ref r0)] [vI z1169] _ H1163 _
      refine wp_of e258 c258_21 (rw_istore_n (pc' := 22) (z := z1169) (L' := [(1, vI z1169), (0, .ref r0)]) rfl rfl rfl ?_)
      refine wp_of e258 c258_22 (rw_iload_n (pc' := 23) (z := z1169) rfl rfl ?_)
      refine wp_of e258 c258_23 (rw_if_le (p1 := 35) (p2 := 26) (by decide) rfl ⟨by omega, by omega⟩ (fun c1190 => ?_) (fun c1190 => ?_))
      · refine wp_of e258 c258_35 (rw_aload_n (pc' := 36) (v := .ref r0) rfl rfl rfl ?_)
        refine wp_of e258 c258_36 (rw_aload_n (pc' := 37) (v := .ref r0) rfl rfl rfl ?_)
        have k1191 : H1163 r0 3 = H1149 r0 3 := (f1168 r0 3 _ g0 rfl)
        have q1192 : H1163 r0 3 = -1 := k1191.trans q1156
        obtain ⟨r1193, q1194, g1195⟩ := (w1167.opt g0 (t' := 54) (n := 33) (j := 3) (p := 0) (q := 0) rfl (by decide) rfl).resolve_left (by omega)
        refine wp_of e258 c258_37 (xc_V (pc' := 40) (r := r0) (as := []) (st := [.ref r0]) (lm_9_452) rfl rfl (Nat.le_of_ble_eq_true rfl) w1167 g0 sh_42 (by decide) rfl (by decide) (s_257 w1167 g0 q1194 g1195 (by omega) (by omega)) (fun R1196 T1197 H1198 p1199 => ?_))
        obtain ⟨e1200, w1202, f1203, z1204, e1201, b1205⟩ := p1199
        subst e1200
        subst e1201
        have f1206 := f1189.tr f1203 rfl
        show wp _ _ 258 40 [(1, vI z1169), (0, .ref r0)] [vL z1204, .ref r0] _ H1198 _
        refine wp_of e258 c258_40 (xc_V (pc' := 43) (r := r0) (as := [vL z1204]) (st := []) (lm_9_380) rfl rfl (Nat.le_of_ble_eq_true rfl) w1202 g0 sh_42 (by decide) rfl (by decide) (s_221 w1202 g0 ⟨by omega, by omega⟩) (fun R1207 T1208 H1209 p1210 => ?_))
        obtain ⟨e1211, w1213, f1214, z1215, e1212, b1216⟩ := p1210
        subst e1211
        subst e1212
        have f1217 := f1206.tr f1214 rfl
        show wp _ _ 258 43 [(1, vI z1169), (0, .ref r0)] [vL z1215] _ H1209 _
        have k1218 : wKI H1209 r0 = wKI H1163 r0 := ((wKI_fr w1202 g0 f1214 rfl).trans (wKI_fr w1167 g0 f1203 rfl))
        have h1219 : KNN T H1209 r0 e d := (KNN_fr w1202 g0 f1214 rfl (KNN_fr w1167 g0 f1203 rfl a1180))
        exact wp_lreturn e258 c258_43 rfl ⟨rfl, w1213, f1217, z1215, rfl, ⟨by omega, by omega⟩, ⟨by omega, h1219⟩⟩
      · exfalso
        omega
    · have f1220 := f1152.tr f1168 rfl
      show wp _ _ 258 21 [(0, .ref r0)] [vI z1169] _ H1163 _
      refine wp_of e258 c258_21 (rw_istore_n (pc' := 22) (z := z1169) (L' := [(1, vI z1169), (0, .ref r0)]) rfl rfl rfl ?_)
      refine wp_of e258 c258_22 (rw_iload_n (pc' := 23) (z := z1169) rfl rfl ?_)
      refine wp_of e258 c258_23 (rw_if_le (p1 := 35) (p2 := 26) (by decide) rfl ⟨by omega, by omega⟩ (fun c1221 => ?_) (fun c1221 => ?_))
      · exfalso
        omega
      · refine wp_of e258 c258_26 (rw_aload_n (pc' := 27) (v := .ref r0) rfl rfl rfl ?_)
        refine wp_of e258 c258_27 (rw_iload_n (pc' := 28) (z := z1169) rfl rfl ?_)
        refine wp_of e258 c258_28 (xc_V (pc' := 31) (r := r0) (as := [vI z1169]) (st := []) (lm_9_54) rfl rfl (Nat.le_of_ble_eq_true rfl) w1167 g0 sh_42 (by decide) rfl (by decide) (s_170 w1167 g0 ⟨by omega, by omega⟩) (fun R1222 T1223 H1224 p1225 => ?_))
        obtain ⟨e1226, w1228, f1229, z1230, e1227, b1231⟩ := p1225
        subst e1226
        subst e1227
        have f1232 := f1220.tr f1229 rfl
        show wp _ _ 258 31 [(1, vI z1169), (0, .ref r0)] [vI z1230] _ H1224 _
        refine wp_of e258 c258_31 (rw_i2l (pc' := 32) rfl ⟨by omega, by omega⟩ ?_)
        refine wp_of e258 c258_32 (rw_goto (p1 := 43) (by decide) ?_)
        have k1233 : wKI H1224 r0 = wKI H1163 r0 := (wKI_fr w1167 g0 f1229 rfl)
        have h1234 : KNN T H1224 r0 e d := (KNN_fr w1167 g0 f1229 rfl a1188)
        exact wp_lreturn e258 c258_43 rfl ⟨rfl, w1228, f1232, z1230, rfl, ⟨by omega, by omega⟩, ⟨by omega, h1234⟩⟩
  · refine wp_of e258 c258_10 (rw_ifnull_r (p1 := 17) (p2 := 13) (by decide) rfl ?_)
    refine wp_of e258 c258_13 (rw_iconst (pc' := 14) rfl ?_)
    refine wp_of e258 c258_14 (rw_goto (p1 := 18) (by decide) ?_)
    have k1235 : wKI H1149 r0 = wKI H r0 := (wKI_fr hW g0 ((wfr.rf (l := [(42, 0)])).put' e1150 g0 rfl) rfl)
    have h1236 : RB T H1149 r0 e d := (RB_fr hW g0 ((wfr.rf (l := [(42, 0)])).put' e1150 g0 rfl) rfl hRB_r0)
    have h1237 : KNN T H1149 r0 e d := (KNN_fr hW g0 ((wfr.rf (l := [(42, 0)])).put' e1150 g0 rfl) rfl hKNN_r0)
    refine wp_of e258 c258_18 (xc_V (pc' := 21) (r := r0) (as := [vI 1]) (st := []) (lm_9_447) rfl rfl (Nat.le_of_ble_eq_true rfl) w1151 g0 sh_42 (by decide) rfl (by decide) (u_253 (e := e) (d := d) w1151 g0 ⟨by omega, by omega⟩ (by omega) (by omega) (by assumption) (by assumption) (by assumption) (by assumption) h1236 h1237) (fun R1238 T1239 H1240 p1241 => ?_))
    obtain ⟨e1242, w1244, f1245, z1246, e1243, b1247, p1248⟩ := p1241
    subst e1242
    subst e1243
    rcases p1248 with ⟨a1249, a1250, a1251, a1252, a1253, a1254, a1255, a1256, a1257, a1258⟩ | ⟨a1259, a1260, a1261, a1262, a1263, a1264, a1265⟩
    · have f1266 := f1152.tr f1245 rfl
      show wp _ _ 258 21 [(0, .ref r0)] [vI z1246] _ H1240 _
      refine wp_of e258 c258_21 (rw_istore_n (pc' := 22) (z := z1246) (L' := [(1, vI z1246), (0, .ref r0)]) rfl rfl rfl ?_)
      refine wp_of e258 c258_22 (rw_iload_n (pc' := 23) (z := z1246) rfl rfl ?_)
      refine wp_of e258 c258_23 (rw_if_le (p1 := 35) (p2 := 26) (by decide) rfl ⟨by omega, by omega⟩ (fun c1267 => ?_) (fun c1267 => ?_))
      · refine wp_of e258 c258_35 (rw_aload_n (pc' := 36) (v := .ref r0) rfl rfl rfl ?_)
        refine wp_of e258 c258_36 (rw_aload_n (pc' := 37) (v := .ref r0) rfl rfl rfl ?_)
        have k1268 : H1240 r0 3 = H1149 r0 3 := (f1245 r0 3 _ g0 rfl)
        have q1269 : H1240 r0 3 = (r1155 : Int) := k1268.trans q1156
        refine wp_of e258 c258_37 (xc_V (pc' := 40) (r := r0) (as := []) (st := [.ref r0]) (lm_9_452) rfl rfl (Nat.le_of_ble_eq_true rfl) w1244 g0 sh_42 (by decide) rfl (by decide) (s_257 w1244 g0 q1269 g1157 (by omega) (by omega)) (fun R1270 T1271 H1272 p1273 => ?_))
        obtain ⟨e1274, w1276, f1277, z1278, e1275, b1279⟩ := p1273
        subst e1274
        subst e1275
        have f1280 := f1266.tr f1277 rfl
        show wp _ _ 258 40 [(1, vI z1246), (0, .ref r0)] [vL z1278, .ref r0] _ H1272 _
        refine wp_of e258 c258_40 (xc_V (pc' := 43) (r := r0) (as := [vL z1278]) (st := []) (lm_9_380) rfl rfl (Nat.le_of_ble_eq_true rfl) w1276 g0 sh_42 (by decide) rfl (by decide) (s_221 w1276 g0 ⟨by omega, by omega⟩) (fun R1281 T1282 H1283 p1284 => ?_))
        obtain ⟨e1285, w1287, f1288, z1289, e1286, b1290⟩ := p1284
        subst e1285
        subst e1286
        have f1291 := f1280.tr f1288 rfl
        show wp _ _ 258 43 [(1, vI z1246), (0, .ref r0)] [vL z1289] _ H1283 _
        have k1292 : wKI H1283 r0 = wKI H1240 r0 := ((wKI_fr w1276 g0 f1288 rfl).trans (wKI_fr w1244 g0 f1277 rfl))
        have h1293 : KNN T H1283 r0 e d := (KNN_fr w1276 g0 f1288 rfl (KNN_fr w1244 g0 f1277 rfl a1257))
        exact wp_lreturn e258 c258_43 rfl ⟨rfl, w1287, f1291, z1289, rfl, ⟨by omega, by omega⟩, ⟨by omega, h1293⟩⟩
      · exfalso
        omega
    · have f1294 := f1152.tr f1245 rfl
      show wp _ _ 258 21 [(0, .ref r0)] [vI z1246] _ H1240 _
      refine wp_of e258 c258_21 (rw_istore_n (pc' := 22) (z := z1246) (L' := [(1, vI z1246), (0, .ref r0)]) rfl rfl rfl ?_)
      refine wp_of e258 c258_22 (rw_iload_n (pc' := 23) (z := z1246) rfl rfl ?_)
      refine wp_of e258 c258_23 (rw_if_le (p1 := 35) (p2 := 26) (by decide) rfl ⟨by omega, by omega⟩ (fun c1295 => ?_) (fun c1295 => ?_))
      · exfalso
        omega
      · refine wp_of e258 c258_26 (rw_aload_n (pc' := 27) (v := .ref r0) rfl rfl rfl ?_)
        refine wp_of e258 c258_27 (rw_iload_n (pc' := 28) (z := z1246) rfl rfl ?_)
        refine wp_of e258 c258_28 (xc_V (pc' := 31) (r := r0) (as := [vI z1246]) (st := []) (lm_9_54) rfl rfl (Nat.le_of_ble_eq_true rfl) w1244 g0 sh_42 (by decide) rfl (by decide) (s_170 w1244 g0 ⟨by omega, by omega⟩) (fun R1296 T1297 H1298 p1299 => ?_))
        obtain ⟨e1300, w1302, f1303, z1304, e1301, b1305⟩ := p1299
        subst e1300
        subst e1301
        have f1306 := f1294.tr f1303 rfl
        show wp _ _ 258 31 [(1, vI z1246), (0, .ref r0)] [vI z1304] _ H1298 _
        refine wp_of e258 c258_31 (rw_i2l (pc' := 32) rfl ⟨by omega, by omega⟩ ?_)
        refine wp_of e258 c258_32 (rw_goto (p1 := 43) (by decide) ?_)
        have k1307 : wKI H1298 r0 = wKI H1240 r0 := (wKI_fr w1244 g0 f1303 rfl)
        have h1308 : KNN T H1298 r0 e d := (KNN_fr w1244 g0 f1303 rfl a1265)
        exact wp_lreturn e258 c258_43 rfl ⟨rfl, w1302, f1306, z1304, rfl, ⟨by omega, by omega⟩, ⟨by omega, h1308⟩⟩
/-! StrikeAwakeModel.together(II)I  -/
abbrev uq_259 (r0 : Nat) (a1 : Int) (a2 : Int) (e : xD) (d : xD) (T : wq_T) (H : wq_H) : Option Value → wq_T → wq_H → Prop := fun r T' H' => T = T' ∧ WT T H' ∧ wfr [(42, 0), (42, 1), (42, 2), (42, 28), (42, 29), (51, 999), (52, 999)] T H H' ∧ ∃ z : Int, some (vI z) = r ∧ ((-2147483648) ≤ z ∧ z ≤ 2147483647) ∧ (((z = -1) ∧ (wKI H' r0 = 1) ∧ (((a1 < 0 ∨ d 0 3 ≤ a1) ∨ (a2 < 0 ∨ d 0 3 ≤ a2) ∨ a1 = a2) ∨ 20000 < xlots d) ∧ KNN T H' r0 e d) ∨ ((wKI H' r0 = 1) ∧ (((0 ≤ a1 ∧ a1 < d 0 3) ∧ (0 ≤ a2 ∧ a2 < d 0 3) ∧ a1 ≠ a2) ∧ xlots d ≤ 20000) ∧ (z = wfd (xwf e d) (fun n x => wq_or x (wq_and (xwb d (xlot d ((n : Nat) : Int)) (a1).toNat) (xwb d (xlot d ((n : Nat) : Int)) (a2).toNat))) 0 (xlots d).toNat) ∧ KNN T H' r0 e d))
set_option maxHeartbeats 4000000 in
theorem u_259 {kt : Nat → Option mc_E} {T : wq_T} {H : wq_H} {r0 : Nat} {a1 : Int} {a2 : Int} {e : xD} {d : xD} (hW : WT T H) (g0 : T.2.2.2 r0 = some 42) (i1 : (-2147483648) ≤ a1 ∧ a1 ≤ 2147483647) (i2 : (-2147483648) ≤ a2 ∧ a2 ≤ 2147483647) (p0 : wKI H r0 = 1) (p1 : XW d) (p2 : ∀ h : Nat, d 0 0 ≤ (h : Int) → h < 24 → e 13 h = 0) (p3 : XN d) (p4 : ∀ h : Nat, h < 24 → 0 ≤ e 13 h ∧ e 13 h ≤ 100) (hRB_r0 : RB T H r0 e d) (hKNN_r0 : KNN T H r0 e d) : wpc kt 8 259 [.ref r0, vI a1, vI a2] T H (uq_259 r0 a1 a2 e d T H) := by
  refine wp_enter e259 (Nat.le_of_ble_eq_true rfl) rfl ?_
  have f0 : wfr [(42, 0), (42, 1), (42, 2), (42, 28), (42, 29), (51, 999), (52, 999)] T H H := wfr.rf
  show wp _ _ 259 0 [(0, .ref r0), (1, vI a1), (2, vI a2)] [] _ H _
  have _b := RB_b hW hRB_r0
  have _nu := RB_n3 hRB_r0
  have _lm := RB_lm hRB_r0
  have _xw := (by assumption : XW d)
  refine wp_of e259 c259_0 (rw_aload_n (pc' := 1) (v := .ref r0) rfl rfl rfl ?_)
  refine wp_of e259 c259_1 (rw_iconst (pc' := 2) rfl ?_)
  refine wp_of e259 c259_2 (xp_I (pc' := 5) lf_9_48 hW g0 sh_42 (by decide) (by decide) ty_42_0 rfl rfl (by omega) (by omega) ⟨by omega, by omega⟩ rfl (fun H2711 e2712 w2713 => ?_))
  have f2714 := f0.put' e2712 g0 rfl
  have k2715 : H2711 r0 0 = 0 := wq_u_s e2712
  refine wp_of e259 c259_5 (rw_aload_n (pc' := 6) (v := .ref r0) rfl rfl rfl ?_)
  refine wp_of e259 c259_6 (rw_aload_n (pc' := 7) (v := .ref r0) rfl rfl rfl ?_)
  refine wp_of e259 c259_7 (rw_iload_n (pc' := 8) (z := a1) rfl rfl ?_)
  have h2716 : RB T H2711 r0 e d := (RB_fr hW g0 ((wfr.rf (l := [(42, 0)])).put' e2712 g0 rfl) rfl hRB_r0)
  refine wp_of e259 c259_8 (xc_V (pc' := 11) (r := r0) (as := [vI a1]) (st := [.ref r0]) (lm_9_364) rfl rfl (Nat.le_of_ble_eq_true rfl) w2713 g0 sh_42 (by decide) rfl (by decide) (u_213 (e := e) (d := d) w2713 g0 ⟨by omega, by omega⟩ h2716) (fun R2717 T2718 H2719 p2720 => ?_))
  obtain ⟨e2721, e2723, z2724, e2722, b2725, p2726⟩ := p2720
  subst e2721
  subst e2722
  subst e2723
  rcases p2726 with ⟨a2727, a2728⟩ | ⟨a2729, a2730⟩
  · show wp _ _ 259 11 [(0, .ref r0), (1, vI a1), (2, vI a2)] [vI z2724, .ref r0] _ H2711 _
    refine wp_of e259 c259_11 (rw_if_eq (p1 := 31) (p2 := 14) (by decide) rfl ⟨by omega, by omega⟩ (fun c2731 => ?_) (fun c2731 => ?_))
    · exfalso
      omega
    · refine wp_of e259 c259_14 (rw_aload_n (pc' := 15) (v := .ref r0) rfl rfl rfl ?_)
      refine wp_of e259 c259_15 (rw_iload_n (pc' := 16) (z := a2) rfl rfl ?_)
      refine wp_of e259 c259_16 (xc_V (pc' := 19) (r := r0) (as := [vI a2]) (st := [.ref r0]) (lm_9_364) rfl rfl (Nat.le_of_ble_eq_true rfl) w2713 g0 sh_42 (by decide) rfl (by decide) (u_213 (e := e) (d := d) w2713 g0 ⟨by omega, by omega⟩ h2716) (fun R2732 T2733 H2734 p2735 => ?_))
      obtain ⟨e2736, e2738, z2739, e2737, b2740, p2741⟩ := p2735
      subst e2736
      subst e2737
      subst e2738
      rcases p2741 with ⟨a2742, a2743⟩ | ⟨a2744, a2745⟩
      · show wp _ _ 259 19 [(0, .ref r0), (1, vI a1), (2, vI a2)] [vI z2739, .ref r0] _ H2711 _
        refine wp_of e259 c259_19 (rw_if_eq (p1 := 31) (p2 := 22) (by decide) rfl ⟨by omega, by omega⟩ (fun c2746 => ?_) (fun c2746 => ?_))
        · exfalso
          omega
        · refine wp_of e259 c259_22 (rw_iload_n (pc' := 23) (z := a1) rfl rfl ?_)
          refine wp_of e259 c259_23 (rw_iload_n (pc' := 24) (z := a2) rfl rfl ?_)
          refine wp_of e259 c259_24 (rw_icmp_eq (p1 := 31) (p2 := 27) (by decide) rfl ⟨by omega, by omega⟩ ⟨by omega, by omega⟩ (fun c2747 => ?_) (fun c2747 => ?_))
          · refine wp_of e259 c259_31 (rw_iconst (pc' := 32) rfl ?_)
            have k2748 : H2711 r0 3 = H r0 3 := (wq_u_j e2712 rfl)
            have k2749 : wKI H2711 r0 = wKI H r0 := (wKI_fr hW g0 ((wfr.rf (l := [(42, 0)])).put' e2712 g0 rfl) rfl)
            have h2750 : KNN T H2711 r0 e d := (KNN_fr hW g0 ((wfr.rf (l := [(42, 0)])).put' e2712 g0 rfl) rfl hKNN_r0)
            refine wp_of e259 c259_32 (xc_V (pc' := 35) (r := r0) (as := [vI 0]) (st := []) (lm_9_433) rfl rfl (Nat.le_of_ble_eq_true rfl) w2713 g0 sh_42 (by decide) rfl (by decide) (u_241 (e := e) (d := d) w2713 g0 ⟨by omega, by omega⟩ (by omega) (by omega) (by assumption) (by assumption) (by assumption) (by assumption) h2716 h2750) (fun R2751 T2752 H2753 p2754 => ?_))
            obtain ⟨e2755, w2757, f2758, z2759, e2756, b2760, p2761⟩ := p2754
            subst e2755
            subst e2756
            rcases p2761 with ⟨a2762, a2763, a2764, a2765, a2766, a2767, a2768, a2769, a2770⟩ | ⟨a2771, a2772, a2773, a2774, a2775, a2776, a2777⟩
            · have f2778 := f2714.tr f2758 rfl
              show wp _ _ 259 35 [(0, .ref r0), (1, vI a1), (2, vI a2)] [vI z2759] _ H2753 _
              refine wp_of e259 c259_35 (rw_istore_n (pc' := 36) (z := z2759) (L' := [(3, vI z2759), (0, .ref r0), (1, vI a1), (2, vI a2)]) rfl rfl rfl ?_)
              refine wp_of e259 c259_36 (rw_iload_n (pc' := 37) (z := z2759) rfl rfl ?_)
              obtain ⟨r2779, q2780, g2781⟩ := (w2757.opt g0 (t' := 54) (n := 33) (j := 3) (p := 0) (q := 0) rfl (by decide) rfl).resolve_left (by omega)
              have h2782 : RB T H2753 r0 e d := (RB_fr w2713 g0 f2758 rfl h2716)
              have _kbb := a2770
              have _kb := _kbb.1
              have _n3 : H2753 r0 3 ≠ -1 := by omega
              have _rp := RB_at h2782 q2780
              have _k := RP_k _rp
              have _nb := xcn_b (f := xwf e d) (xlots d).toNat
              have h2783 : KL T H2753 r0 (xwf e d) (xlots d).toNat := _kbb.2
              have _ar := RB_ar h2782 (by omega)
              have _pk := _ar.1
              have h2784 : LB25 T H2753 r0 (xwk d) (xsq d) := _ar.2.2.2.2.2.2.2
              refine wp_of e259 c259_37 (rw_if_le (p1 := 46) (p2 := 40) (by decide) rfl ⟨by omega, by omega⟩ (fun c2785 => ?_) (fun c2785 => ?_))
              · refine wp_of e259 c259_46 (rw_iconst (pc' := 47) rfl ?_)
                refine wp_of e259 c259_47 (rw_istore (pc' := 49) (z := 0) (L' := [(4, vI 0), (3, vI z2759), (0, .ref r0), (1, vI a1), (2, vI a2)]) rfl rfl rfl ?_)
                refine wp_of e259 c259_49 (rw_iconst (pc' := 50) rfl ?_)
                refine wp_of e259 c259_50 (rw_istore (pc' := 52) (z := 0) (L' := [(5, vI 0), (4, vI 0), (3, vI z2759), (0, .ref r0), (1, vI a1), (2, vI a2)]) rfl rfl rfl ?_)
                have b3105 : 0 ≤ H2753 r0 29 ∧ H2753 r0 29 ≤ 20000 := w2757.box g0 (n := 33) rfl (by decide) rfl
                have lp3098 : ∀ (n3099 : Nat) (v3101 : Int) (v3102 : Int) (H3103 : wq_H) (u3104 : Nat), WT T H3103 → wfr [(51, 999)] T H2753 H3103 → (0 ≤ v3101 ∧ v3101 ≤ 20000) → (0 ≤ v3102 ∧ v3102 ≤ 16777215) → KL T H3103 r0 (xwf e d) (xlots d).toNat → (v3101 ≤ H3103 r0 29) → (u3104 ≤ (xlots d).toNat) → (xcn (xwf e d) u3104 = v3101) → (v3102 = wfd (xwf e d) (fun n x => wq_or x (wq_and (xwb d (xlot d ((n : Nat) : Int)) (a1).toNat) (xwb d (xlot d ((n : Nat) : Int)) (a2).toNat))) 0 u3104) → (20000 - v3101).toNat = n3099 → wp kt 7 259 52 [(5, vI v3101), (4, vI v3102), (0, .ref r0), (1, vI a1), (2, vI a2)] [] T H3103 (uq_259 r0 a1 a2 e d T H) := by
                  intro n3099
                  induction n3099 using Nat.strongRecOn with
                  | _ n3099 ih3100 =>
                    intro v3101 v3102 H3103 u3104 w3106 f3107 b3108 b3109 h3111 x3112 x3113 x3114 x3115 m3110
                    have f3116 := f2778.tr f3107 rfl
                    have k3117 : H3103 r0 29 = H2753 r0 29 := (f3107 r0 29 _ g0 rfl)
                    refine wp_of e259 c259_52 (rw_iload (pc' := 54) (z := v3101) rfl rfl ?_)
                    refine wp_of e259 c259_54 (rw_aload_n (pc' := 55) (v := .ref r0) rfl rfl rfl ?_)
                    refine wp_of e259 c259_55 (xg_I (pc' := 58) lf_9_422 w3106 g0 sh_42 (by decide) (by decide) ty_42_29 rfl rfl (fun b3118 b3119 => ?_))
                    refine wp_of e259 c259_58 (rw_icmp_ge (p1 := 116) (p2 := 61) (by decide) rfl ⟨by omega, by omega⟩ ⟨by omega, by omega⟩ (fun c3120 => ?_) (fun c3120 => ?_))
                    · refine wp_of e259 c259_116 (rw_aload_n (pc' := 117) (v := .ref r0) rfl rfl rfl ?_)
                      refine wp_of e259 c259_117 (rw_iload (pc' := 119) (z := v3102) rfl rfl ?_)
                      refine wp_of e259 c259_119 (xc_V (pc' := 122) (r := r0) (as := [vI v3102]) (st := []) (lm_9_58) rfl rfl (Nat.le_of_ble_eq_true rfl) w3106 g0 sh_42 (by decide) rfl (by decide) (u_209  w3106 g0 ⟨by omega, by omega⟩) (fun R3121 T3122 H3123 p3124 => ?_))
                      obtain ⟨e3125, w3127, f3128, z3129, e3126, b3130, p3131⟩ := p3124
                      subst e3125
                      subst e3126
                      obtain ⟨a3132, a3133, a3134⟩ := p3131
                      have f3135 := f3116.tr f3128 rfl
                      show wp _ _ 259 122 [(5, vI v3101), (4, vI v3102), (0, .ref r0), (1, vI a1), (2, vI a2)] [vI z3129] _ H3123 _
                      have k3136 : wKI H3123 r0 = wKI H2753 r0 := ((wKI_fr w3106 g0 f3128 rfl).trans (wKI_fr w2757 g0 f3107 rfl))
                      have h3137 : KNN T H3123 r0 e d := (KNN_fr w3106 g0 f3128 rfl (KNN_fr w2757 g0 f3107 rfl a2769))
                      exact wp_ireturn e259 c259_122 rfl ⟨rfl, w3127, f3135, z3129, rfl, ⟨by omega, by omega⟩, (Or.inr ⟨by omega, by omega, by
                        show _ = wfd (xwf e d) (fun n x => wq_or x (wq_and (xwb d (xlot d ((n : Nat) : Int)) (a1).toNat) (xwb d (xlot d ((n : Nat) : Int)) (a2).toNat))) 0 (xlots d).toNat
                        rw [wfd_end (u := u3104) (by omega) (by omega)]
                        assumption, h3137⟩)⟩
                    · obtain ⟨h9, _a, _b, _c, _e, _f⟩ := xcn_nx (f := xwf e d) (u := u3104) (xlots d).toNat (by omega) (by omega)
                      have _n9 : xcn (xwf e d) (h9 + 1) = xcn (xwf e d) h9 + 1 := by
                        show xcn (xwf e d) h9 + (if xwf e d h9 > 0 then 1 else 0) = _
                        rw [if_pos _c]
                      refine wp_of e259 c259_61 (rw_aload_n (pc' := 62) (v := .ref r0) rfl rfl rfl ?_)
                      refine wp_of e259 c259_62 (rw_aload_n (pc' := 63) (v := .ref r0) rfl rfl rfl ?_)
                      refine wp_of e259 c259_63 (xg_R (pc' := 66) lf_9_42 w3106 g0 sh_42 (by decide) (by decide) ty_42_30 rfl rfl (fun r3138 q3139 g3140 => ?_))
                      refine wp_of e259 c259_66 (rw_iload (pc' := 68) (z := v3101) rfl rfl ?_)
                      refine wp_of e259 c259_68 (xa_I (so := 0) (pc' := 69) w3106 g3140 sh_52 (by decide) (ty_52 _) (by omega) (by omega) rfl (fun b3141 b3142 => ?_))
                      have _kl := KL_at h3111 q3139 (n := h9) (s := (v3101).toNat) (by omega) _c (by omega)
                      have _t9 : H3103 r3138 (v3101.toNat) = ((h9 : Nat) : Int) := by omega
                      have _slw : SL d (xlot d ((h9 : Nat) : Int)) := SL_lot _xw.1 (by omega) (by omega)
                      have k3143 : H3103 r0 3 = H2753 r0 3 := (f3107 r0 3 _ g0 rfl)
                      have q3144 : H3103 r0 3 = (r2779 : Int) := k3143.trans q2780
                      have h3145 : RB T H3103 r0 e d := (RB_fr w2757 g0 f3107 rfl h2782)
                      refine wp_of e259 c259_69 (xc_V (pc' := 72) (r := r0) (as := [vI (H3103 r3138 (v3101.toNat))]) (st := []) (lm_9_425) rfl rfl (Nat.le_of_ble_eq_true rfl) w3106 g0 sh_42 (by decide) rfl (by decide) (u_243 (e := e) (d := d) w3106 g0 ⟨by omega, by omega⟩ q3144 g2781 (by omega) h3145) (fun R3146 T3147 H3148 p3149 => ?_))
                      obtain ⟨e3150, w3152, f3153, e3151, p3154⟩ := p3149
                      subst e3150
                      subst e3151
                      have f3156 := f3116.tr f3153 rfl
                      have f3157 := f3107.tr f3153 rfl
                      show wp _ _ 259 72 [(5, vI v3101), (4, vI v3102), (0, .ref r0), (1, vI a1), (2, vI a2)] [] _ H3148 _
                      have h3158 : LQ27 T H3148 r0 0 (d 0 3) (xlot d ((h9 : Nat) : Int)) := by rw [← _t9]; exact p3154
                      refine wp_of e259 c259_72 (rw_iload (pc' := 74) (z := v3102) rfl rfl ?_)
                      refine wp_of e259 c259_74 (rw_aload_n (pc' := 75) (v := .ref r0) rfl rfl rfl ?_)
                      refine wp_of e259 c259_75 (xg_R (pc' := 78) lf_9_33 w3152 g0 sh_42 (by decide) (by decide) ty_42_25 rfl rfl (fun r3159 q3160 g3161 => ?_))
                      refine wp_of e259 c259_78 (rw_bipush (pc' := 80) (z := 40) rfl (by decide) ?_)
                      refine wp_of e259 c259_80 (rw_iload_n (pc' := 81) (z := a1) rfl rfl ?_)
                      have _sxa1 := _slw (a1).toNat (by omega)
                      refine wp_of e259 c259_81 (rw_imul (pc' := 82) rfl ?_)
                      refine wp_of e259 c259_82 (rw_aload_n (pc' := 83) (v := .ref r0) rfl rfl rfl ?_)
                      refine wp_of e259 c259_83 (xg_R (pc' := 86) lf_9_39 w3152 g0 sh_42 (by decide) (by decide) ty_42_27 rfl rfl (fun r3162 q3163 g3164 => ?_))
                      refine wp_of e259 c259_86 (rw_iload_n (pc' := 87) (z := a1) rfl rfl ?_)
                      refine wp_of e259 c259_87 (xa_I (so := 0) (pc' := 88) w3152 g3164 sh_51 (by decide) (ty_51 _) (by omega) (by omega) rfl (fun b3165 b3166 => ?_))
                      have := LR_at h3158 q3163 (k := (a1.toNat)) (by omega) (by omega)
                      refine wp_of e259 c259_88 (rw_iadd (pc' := 89) rfl ?_)
                      have h3167 : LB25 T H3148 r0 (xwk d) (xsq d) := (LB25_fr w3106 g0 f3153 rfl (LB25_fr w2757 g0 f3107 rfl h2784))
                      have _sx := _slw (a1).toNat (by omega)
                      have _lx := LB_x h3167 q3160 (k := (a1).toNat) (i := (xlot d ((h9 : Nat) : Int) (a1).toNat).toNat) (s := ((40 * a1) + (H3148 r3162 (a1.toNat))).toNat) (by omega) (by omega) (by omega) _pk (by omega)
                      have _x : xwk d (a1).toNat ((xsp d (a1).toNat).getD (xlot d ((h9 : Nat) : Int) (a1).toNat).toNat (0, 0)) = xwb d (xlot d ((h9 : Nat) : Int)) (a1).toNat := rfl
                      refine wp_of e259 c259_89 (xa_I (so := 0) (pc' := 90) w3152 g3161 sh_49 (by decide) (ty_49 _) (by omega) (by omega) rfl (fun b3168 b3169 => ?_))
                      refine wp_of e259 c259_90 (rw_aload_n (pc' := 91) (v := .ref r0) rfl rfl rfl ?_)
                      refine wp_of e259 c259_91 (xg_K (pc' := 94) lf_9_33 w3152 g0 sh_42 (by decide) (by decide) rfl q3160 rfl ?_)
                      refine wp_of e259 c259_94 (rw_bipush (pc' := 96) (z := 40) rfl (by decide) ?_)
                      refine wp_of e259 c259_96 (rw_iload_n (pc' := 97) (z := a2) rfl rfl ?_)
                      have _sxa2 := _slw (a2).toNat (by omega)
                      refine wp_of e259 c259_97 (rw_imul (pc' := 98) rfl ?_)
                      refine wp_of e259 c259_98 (rw_aload_n (pc' := 99) (v := .ref r0) rfl rfl rfl ?_)
                      refine wp_of e259 c259_99 (xg_K (pc' := 102) lf_9_39 w3152 g0 sh_42 (by decide) (by decide) rfl q3163 rfl ?_)
                      refine wp_of e259 c259_102 (rw_iload_n (pc' := 103) (z := a2) rfl rfl ?_)
                      refine wp_of e259 c259_103 (xa_I (so := 0) (pc' := 104) w3152 g3164 sh_51 (by decide) (ty_51 _) (by omega) (by omega) rfl (fun b3170 b3171 => ?_))
                      have := LR_at h3158 q3163 (k := (a2.toNat)) (by omega) (by omega)
                      refine wp_of e259 c259_104 (rw_iadd (pc' := 105) rfl ?_)
                      have _sx := _slw (a2).toNat (by omega)
                      have _lx := LB_x h3167 q3160 (k := (a2).toNat) (i := (xlot d ((h9 : Nat) : Int) (a2).toNat).toNat) (s := ((40 * a2) + (H3148 r3162 (a2.toNat))).toNat) (by omega) (by omega) (by omega) _pk (by omega)
                      have _x : xwk d (a2).toNat ((xsp d (a2).toNat).getD (xlot d ((h9 : Nat) : Int) (a2).toNat).toNat (0, 0)) = xwb d (xlot d ((h9 : Nat) : Int)) (a2).toNat := rfl
                      refine wp_of e259 c259_105 (xa_I (so := 0) (pc' := 106) w3152 g3161 sh_49 (by decide) (ty_49 _) (by omega) (by omega) rfl (fun b3172 b3173 => ?_))
                      refine wp_of e259 c259_106 (rw_iand (pc' := 107) rfl ?_)
                      obtain ⟨v3174, e3175⟩ : ∃ x : Int, x = wq_and (H3148 r3159 (((40 * a1) + (H3148 r3162 (a1.toNat))).toNat)) (H3148 r3159 (((40 * a2) + (H3148 r3162 (a2.toNat))).toNat)) := ⟨_, rfl⟩
                      rw [← e3175]
                      have b3176 : -2147483648 ≤ v3174 ∧ v3174 ≤ 2147483647 := by
                        rw [e3175]
                        exact wI_and _ _
                      refine wp_of e259 c259_107 (rw_ior (pc' := 108) rfl ?_)
                      obtain ⟨v3177, e3178⟩ : ∃ x : Int, x = wq_or v3102 v3174 := ⟨_, rfl⟩
                      rw [← e3178]
                      have b3179 : -2147483648 ≤ v3177 ∧ v3177 ≤ 2147483647 := by
                        rw [e3178]
                        exact wI_or _ _
                      refine wp_of e259 c259_108 (rw_istore (pc' := 110) (z := v3177) (L' := [(4, vI v3177), (5, vI v3101), (0, .ref r0), (1, vI a1), (2, vI a2)]) rfl rfl rfl ?_)
                      have _gp : wfd (xwf e d) (fun n x => wq_or x (wq_and (xwb d (xlot d ((n : Nat) : Int)) (a1).toNat) (xwb d (xlot d ((n : Nat) : Int)) (a2).toNat))) 0 h9 = v3102 := by
                        rw [wfd_gap _a _f]
                        exact (‹v3102 = wfd (xwf e d) (fun n x => wq_or x (wq_and (xwb d (xlot d ((n : Nat) : Int)) (a1).toNat) (xwb d (xlot d ((n : Nat) : Int)) (a2).toNat))) 0 u3104›).symm
                      have _q : v3177 = wfd (xwf e d) (fun n x => wq_or x (wq_and (xwb d (xlot d ((n : Nat) : Int)) (a1).toNat) (xwb d (xlot d ((n : Nat) : Int)) (a2).toNat))) 0 (h9 + 1) := by
                        rw [wfd_y _c, _gp]
                        exact or_and_e e3178 e3175 (by omega) (by omega)
                      refine wp_of e259 c259_110 (rw_iinc (pc' := 113) (z := v3101) (L' := [(5, vI (v3101 + 1)), (4, vI v3177), (0, .ref r0), (1, vI a1), (2, vI a2)]) rfl rfl rfl rfl ?_)
                      refine wp_of e259 c259_113 (rw_goto (p1 := 52) (by decide) ?_)
                      have k3180 : H3148 r0 29 = H3103 r0 29 := (f3153 r0 29 _ g0 rfl)
                      have h3181 : KL T H3148 r0 (xwf e d) (xlots d).toNat := (KL_fr w3106 g0 f3153 rfl h3111)
                      exact wp_lc (ks := [5, 4, 0, 1, 2]) (wl_c rfl (wl_c rfl (wl_c rfl (wl_c rfl (wl_c rfl wl_n))))) rfl (by decide) (ih3100 _ (by omega) (v3101 + 1) v3177 H3148 ((h9 + 1)) w3152 f3157 ⟨by omega, by omega⟩ ⟨by omega, by omega⟩ h3181 (by omega) (by omega) (by omega) (_q) rfl)
                exact wp_lc (ks := [5, 4, 3, 0, 1, 2]) (wl_c rfl (wl_c rfl (wl_c rfl (wl_c rfl (wl_c rfl wl_n))))) rfl (by decide) (lp3098 _ 0 0 H2753 0 w2757 wfr.rf ⟨by omega, by omega⟩ ⟨by omega, by omega⟩ h2783 (by omega) (by omega) (rfl) (rfl) rfl)
              · exfalso
                omega
            · have f3182 := f2714.tr f2758 rfl
              show wp _ _ 259 35 [(0, .ref r0), (1, vI a1), (2, vI a2)] [vI z2759] _ H2753 _
              refine wp_of e259 c259_35 (rw_istore_n (pc' := 36) (z := z2759) (L' := [(3, vI z2759), (0, .ref r0), (1, vI a1), (2, vI a2)]) rfl rfl rfl ?_)
              refine wp_of e259 c259_36 (rw_iload_n (pc' := 37) (z := z2759) rfl rfl ?_)
              refine wp_of e259 c259_37 (rw_if_le (p1 := 46) (p2 := 40) (by decide) rfl ⟨by omega, by omega⟩ (fun c3183 => ?_) (fun c3183 => ?_))
              · exfalso
                omega
              · refine wp_of e259 c259_40 (rw_aload_n (pc' := 41) (v := .ref r0) rfl rfl rfl ?_)
                refine wp_of e259 c259_41 (rw_iload_n (pc' := 42) (z := z2759) rfl rfl ?_)
                refine wp_of e259 c259_42 (xc_V (pc' := 45) (r := r0) (as := [vI z2759]) (st := []) (lm_9_54) rfl rfl (Nat.le_of_ble_eq_true rfl) w2757 g0 sh_42 (by decide) rfl (by decide) (u_170  w2757 g0 ⟨by omega, by omega⟩) (fun R3184 T3185 H3186 p3187 => ?_))
                obtain ⟨e3188, w3190, f3191, z3192, e3189, b3193, p3194⟩ := p3187
                subst e3188
                subst e3189
                obtain ⟨a3195, a3196, a3197⟩ := p3194
                have f3198 := f3182.tr f3191 rfl
                show wp _ _ 259 45 [(3, vI z2759), (0, .ref r0), (1, vI a1), (2, vI a2)] [vI z3192] _ H3186 _
                have k3199 : wKI H3186 r0 = wKI H2753 r0 := (wKI_fr w2757 g0 f3191 rfl)
                have h3200 : KNN T H3186 r0 e d := (KNN_fr w2757 g0 f3191 rfl a2777)
                exact wp_ireturn e259 c259_45 rfl ⟨rfl, w3190, f3198, z3192, rfl, ⟨by omega, by omega⟩, (Or.inl ⟨by omega, by omega, by omega, h3200⟩)⟩
          · refine wp_of e259 c259_27 (rw_iconst (pc' := 28) rfl ?_)
            refine wp_of e259 c259_28 (rw_goto (p1 := 32) (by decide) ?_)
            have k3201 : H2711 r0 3 = H r0 3 := (wq_u_j e2712 rfl)
            have k3202 : wKI H2711 r0 = wKI H r0 := (wKI_fr hW g0 ((wfr.rf (l := [(42, 0)])).put' e2712 g0 rfl) rfl)
            have h3203 : KNN T H2711 r0 e d := (KNN_fr hW g0 ((wfr.rf (l := [(42, 0)])).put' e2712 g0 rfl) rfl hKNN_r0)
            refine wp_of e259 c259_32 (xc_V (pc' := 35) (r := r0) (as := [vI 1]) (st := []) (lm_9_433) rfl rfl (Nat.le_of_ble_eq_true rfl) w2713 g0 sh_42 (by decide) rfl (by decide) (u_241 (e := e) (d := d) w2713 g0 ⟨by omega, by omega⟩ (by omega) (by omega) (by assumption) (by assumption) (by assumption) (by assumption) h2716 h3203) (fun R3204 T3205 H3206 p3207 => ?_))
            obtain ⟨e3208, w3210, f3211, z3212, e3209, b3213, p3214⟩ := p3207
            subst e3208
            subst e3209
            rcases p3214 with ⟨a3215, a3216, a3217, a3218, a3219, a3220, a3221, a3222, a3223⟩ | ⟨a3224, a3225, a3226, a3227, a3228, a3229, a3230⟩
            · have f3231 := f2714.tr f3211 rfl
              show wp _ _ 259 35 [(0, .ref r0), (1, vI a1), (2, vI a2)] [vI z3212] _ H3206 _
              refine wp_of e259 c259_35 (rw_istore_n (pc' := 36) (z := z3212) (L' := [(3, vI z3212), (0, .ref r0), (1, vI a1), (2, vI a2)]) rfl rfl rfl ?_)
              refine wp_of e259 c259_36 (rw_iload_n (pc' := 37) (z := z3212) rfl rfl ?_)
              obtain ⟨r3232, q3233, g3234⟩ := (w3210.opt g0 (t' := 54) (n := 33) (j := 3) (p := 0) (q := 0) rfl (by decide) rfl).resolve_left (by omega)
              have h3235 : RB T H3206 r0 e d := (RB_fr w2713 g0 f3211 rfl h2716)
              have _kbb := a3223
              have _kb := _kbb.1
              have _n3 : H3206 r0 3 ≠ -1 := by omega
              have _rp := RB_at h3235 q3233
              have _k := RP_k _rp
              have _nb := xcn_b (f := xwf e d) (xlots d).toNat
              have h3236 : KL T H3206 r0 (xwf e d) (xlots d).toNat := _kbb.2
              have _ar := RB_ar h3235 (by omega)
              have _pk := _ar.1
              have h3237 : LB25 T H3206 r0 (xwk d) (xsq d) := _ar.2.2.2.2.2.2.2
              refine wp_of e259 c259_37 (rw_if_le (p1 := 46) (p2 := 40) (by decide) rfl ⟨by omega, by omega⟩ (fun c3238 => ?_) (fun c3238 => ?_))
              · refine wp_of e259 c259_46 (rw_iconst (pc' := 47) rfl ?_)
                refine wp_of e259 c259_47 (rw_istore (pc' := 49) (z := 0) (L' := [(4, vI 0), (3, vI z3212), (0, .ref r0), (1, vI a1), (2, vI a2)]) rfl rfl rfl ?_)
                refine wp_of e259 c259_49 (rw_iconst (pc' := 50) rfl ?_)
                refine wp_of e259 c259_50 (rw_istore (pc' := 52) (z := 0) (L' := [(5, vI 0), (4, vI 0), (3, vI z3212), (0, .ref r0), (1, vI a1), (2, vI a2)]) rfl rfl rfl ?_)
                have b3558 : 0 ≤ H3206 r0 29 ∧ H3206 r0 29 ≤ 20000 := w3210.box g0 (n := 33) rfl (by decide) rfl
                have lp3551 : ∀ (n3552 : Nat) (v3554 : Int) (v3555 : Int) (H3556 : wq_H) (u3557 : Nat), WT T H3556 → wfr [(51, 999)] T H3206 H3556 → (0 ≤ v3554 ∧ v3554 ≤ 20000) → (0 ≤ v3555 ∧ v3555 ≤ 16777215) → KL T H3556 r0 (xwf e d) (xlots d).toNat → (v3554 ≤ H3556 r0 29) → (u3557 ≤ (xlots d).toNat) → (xcn (xwf e d) u3557 = v3554) → (v3555 = wfd (xwf e d) (fun n x => wq_or x (wq_and (xwb d (xlot d ((n : Nat) : Int)) (a1).toNat) (xwb d (xlot d ((n : Nat) : Int)) (a2).toNat))) 0 u3557) → (20000 - v3554).toNat = n3552 → wp kt 7 259 52 [(5, vI v3554), (4, vI v3555), (0, .ref r0), (1, vI a1), (2, vI a2)] [] T H3556 (uq_259 r0 a1 a2 e d T H) := by
                  intro n3552
                  induction n3552 using Nat.strongRecOn with
                  | _ n3552 ih3553 =>
                    intro v3554 v3555 H3556 u3557 w3559 f3560 b3561 b3562 h3564 x3565 x3566 x3567 x3568 m3563
                    have f3569 := f3231.tr f3560 rfl
                    have k3570 : H3556 r0 29 = H3206 r0 29 := (f3560 r0 29 _ g0 rfl)
                    refine wp_of e259 c259_52 (rw_iload (pc' := 54) (z := v3554) rfl rfl ?_)
                    refine wp_of e259 c259_54 (rw_aload_n (pc' := 55) (v := .ref r0) rfl rfl rfl ?_)
                    refine wp_of e259 c259_55 (xg_I (pc' := 58) lf_9_422 w3559 g0 sh_42 (by decide) (by decide) ty_42_29 rfl rfl (fun b3571 b3572 => ?_))
                    refine wp_of e259 c259_58 (rw_icmp_ge (p1 := 116) (p2 := 61) (by decide) rfl ⟨by omega, by omega⟩ ⟨by omega, by omega⟩ (fun c3573 => ?_) (fun c3573 => ?_))
                    · refine wp_of e259 c259_116 (rw_aload_n (pc' := 117) (v := .ref r0) rfl rfl rfl ?_)
                      refine wp_of e259 c259_117 (rw_iload (pc' := 119) (z := v3555) rfl rfl ?_)
                      refine wp_of e259 c259_119 (xc_V (pc' := 122) (r := r0) (as := [vI v3555]) (st := []) (lm_9_58) rfl rfl (Nat.le_of_ble_eq_true rfl) w3559 g0 sh_42 (by decide) rfl (by decide) (u_209  w3559 g0 ⟨by omega, by omega⟩) (fun R3574 T3575 H3576 p3577 => ?_))
                      obtain ⟨e3578, w3580, f3581, z3582, e3579, b3583, p3584⟩ := p3577
                      subst e3578
                      subst e3579
                      obtain ⟨a3585, a3586, a3587⟩ := p3584
                      have f3588 := f3569.tr f3581 rfl
                      show wp _ _ 259 122 [(5, vI v3554), (4, vI v3555), (0, .ref r0), (1, vI a1), (2, vI a2)] [vI z3582] _ H3576 _
                      have k3589 : wKI H3576 r0 = wKI H3206 r0 := ((wKI_fr w3559 g0 f3581 rfl).trans (wKI_fr w3210 g0 f3560 rfl))
                      have h3590 : KNN T H3576 r0 e d := (KNN_fr w3559 g0 f3581 rfl (KNN_fr w3210 g0 f3560 rfl a3222))
                      exact wp_ireturn e259 c259_122 rfl ⟨rfl, w3580, f3588, z3582, rfl, ⟨by omega, by omega⟩, (Or.inr ⟨by omega, by omega, by
                        show _ = wfd (xwf e d) (fun n x => wq_or x (wq_and (xwb d (xlot d ((n : Nat) : Int)) (a1).toNat) (xwb d (xlot d ((n : Nat) : Int)) (a2).toNat))) 0 (xlots d).toNat
                        rw [wfd_end (u := u3557) (by omega) (by omega)]
                        assumption, h3590⟩)⟩
                    · obtain ⟨h9, _a, _b, _c, _e, _f⟩ := xcn_nx (f := xwf e d) (u := u3557) (xlots d).toNat (by omega) (by omega)
                      have _n9 : xcn (xwf e d) (h9 + 1) = xcn (xwf e d) h9 + 1 := by
                        show xcn (xwf e d) h9 + (if xwf e d h9 > 0 then 1 else 0) = _
                        rw [if_pos _c]
                      refine wp_of e259 c259_61 (rw_aload_n (pc' := 62) (v := .ref r0) rfl rfl rfl ?_)
                      refine wp_of e259 c259_62 (rw_aload_n (pc' := 63) (v := .ref r0) rfl rfl rfl ?_)
                      refine wp_of e259 c259_63 (xg_R (pc' := 66) lf_9_42 w3559 g0 sh_42 (by decide) (by decide) ty_42_30 rfl rfl (fun r3591 q3592 g3593 => ?_))
                      refine wp_of e259 c259_66 (rw_iload (pc' := 68) (z := v3554) rfl rfl ?_)
                      refine wp_of e259 c259_68 (xa_I (so := 0) (pc' := 69) w3559 g3593 sh_52 (by decide) (ty_52 _) (by omega) (by omega) rfl (fun b3594 b3595 => ?_))
                      have _kl := KL_at h3564 q3592 (n := h9) (s := (v3554).toNat) (by omega) _c (by omega)
                      have _t9 : H3556 r3591 (v3554.toNat) = ((h9 : Nat) : Int) := by omega
                      have _slw : SL d (xlot d ((h9 : Nat) : Int)) := SL_lot _xw.1 (by omega) (by omega)
                      have k3596 : H3556 r0 3 = H3206 r0 3 := (f3560 r0 3 _ g0 rfl)
                      have q3597 : H3556 r0 3 = (r3232 : Int) := k3596.trans q3233
                      have h3598 : RB T H3556 r0 e d := (RB_fr w3210 g0 f3560 rfl h3235)
                      refine wp_of e259 c259_69 (xc_V (pc' := 72) (r := r0) (as := [vI (H3556 r3591 (v3554.toNat))]) (st := []) (lm_9_425) rfl rfl (Nat.le_of_ble_eq_true rfl) w3559 g0 sh_42 (by decide) rfl (by decide) (u_243 (e := e) (d := d) w3559 g0 ⟨by omega, by omega⟩ q3597 g3234 (by omega) h3598) (fun R3599 T3600 H3601 p3602 => ?_))
                      obtain ⟨e3603, w3605, f3606, e3604, p3607⟩ := p3602
                      subst e3603
                      subst e3604
                      have f3609 := f3569.tr f3606 rfl
                      have f3610 := f3560.tr f3606 rfl
                      show wp _ _ 259 72 [(5, vI v3554), (4, vI v3555), (0, .ref r0), (1, vI a1), (2, vI a2)] [] _ H3601 _
                      have h3611 : LQ27 T H3601 r0 0 (d 0 3) (xlot d ((h9 : Nat) : Int)) := by rw [← _t9]; exact p3607
                      refine wp_of e259 c259_72 (rw_iload (pc' := 74) (z := v3555) rfl rfl ?_)
                      refine wp_of e259 c259_74 (rw_aload_n (pc' := 75) (v := .ref r0) rfl rfl rfl ?_)
                      refine wp_of e259 c259_75 (xg_R (pc' := 78) lf_9_33 w3605 g0 sh_42 (by decide) (by decide) ty_42_25 rfl rfl (fun r3612 q3613 g3614 => ?_))
                      refine wp_of e259 c259_78 (rw_bipush (pc' := 80) (z := 40) rfl (by decide) ?_)
                      refine wp_of e259 c259_80 (rw_iload_n (pc' := 81) (z := a1) rfl rfl ?_)
                      have _sxa1 := _slw (a1).toNat (by omega)
                      refine wp_of e259 c259_81 (rw_imul (pc' := 82) rfl ?_)
                      refine wp_of e259 c259_82 (rw_aload_n (pc' := 83) (v := .ref r0) rfl rfl rfl ?_)
                      refine wp_of e259 c259_83 (xg_R (pc' := 86) lf_9_39 w3605 g0 sh_42 (by decide) (by decide) ty_42_27 rfl rfl (fun r3615 q3616 g3617 => ?_))
                      refine wp_of e259 c259_86 (rw_iload_n (pc' := 87) (z := a1) rfl rfl ?_)
                      refine wp_of e259 c259_87 (xa_I (so := 0) (pc' := 88) w3605 g3617 sh_51 (by decide) (ty_51 _) (by omega) (by omega) rfl (fun b3618 b3619 => ?_))
                      have := LR_at h3611 q3616 (k := (a1.toNat)) (by omega) (by omega)
                      refine wp_of e259 c259_88 (rw_iadd (pc' := 89) rfl ?_)
                      have h3620 : LB25 T H3601 r0 (xwk d) (xsq d) := (LB25_fr w3559 g0 f3606 rfl (LB25_fr w3210 g0 f3560 rfl h3237))
                      have _sx := _slw (a1).toNat (by omega)
                      have _lx := LB_x h3620 q3613 (k := (a1).toNat) (i := (xlot d ((h9 : Nat) : Int) (a1).toNat).toNat) (s := ((40 * a1) + (H3601 r3615 (a1.toNat))).toNat) (by omega) (by omega) (by omega) _pk (by omega)
                      have _x : xwk d (a1).toNat ((xsp d (a1).toNat).getD (xlot d ((h9 : Nat) : Int) (a1).toNat).toNat (0, 0)) = xwb d (xlot d ((h9 : Nat) : Int)) (a1).toNat := rfl
                      refine wp_of e259 c259_89 (xa_I (so := 0) (pc' := 90) w3605 g3614 sh_49 (by decide) (ty_49 _) (by omega) (by omega) rfl (fun b3621 b3622 => ?_))
                      refine wp_of e259 c259_90 (rw_aload_n (pc' := 91) (v := .ref r0) rfl rfl rfl ?_)
                      refine wp_of e259 c259_91 (xg_K (pc' := 94) lf_9_33 w3605 g0 sh_42 (by decide) (by decide) rfl q3613 rfl ?_)
                      refine wp_of e259 c259_94 (rw_bipush (pc' := 96) (z := 40) rfl (by decide) ?_)
                      refine wp_of e259 c259_96 (rw_iload_n (pc' := 97) (z := a2) rfl rfl ?_)
                      have _sxa2 := _slw (a2).toNat (by omega)
                      refine wp_of e259 c259_97 (rw_imul (pc' := 98) rfl ?_)
                      refine wp_of e259 c259_98 (rw_aload_n (pc' := 99) (v := .ref r0) rfl rfl rfl ?_)
                      refine wp_of e259 c259_99 (xg_K (pc' := 102) lf_9_39 w3605 g0 sh_42 (by decide) (by decide) rfl q3616 rfl ?_)
                      refine wp_of e259 c259_102 (rw_iload_n (pc' := 103) (z := a2) rfl rfl ?_)
                      refine wp_of e259 c259_103 (xa_I (so := 0) (pc' := 104) w3605 g3617 sh_51 (by decide) (ty_51 _) (by omega) (by omega) rfl (fun b3623 b3624 => ?_))
                      have := LR_at h3611 q3616 (k := (a2.toNat)) (by omega) (by omega)
                      refine wp_of e259 c259_104 (rw_iadd (pc' := 105) rfl ?_)
                      have _sx := _slw (a2).toNat (by omega)
                      have _lx := LB_x h3620 q3613 (k := (a2).toNat) (i := (xlot d ((h9 : Nat) : Int) (a2).toNat).toNat) (s := ((40 * a2) + (H3601 r3615 (a2.toNat))).toNat) (by omega) (by omega) (by omega) _pk (by omega)
                      have _x : xwk d (a2).toNat ((xsp d (a2).toNat).getD (xlot d ((h9 : Nat) : Int) (a2).toNat).toNat (0, 0)) = xwb d (xlot d ((h9 : Nat) : Int)) (a2).toNat := rfl
                      refine wp_of e259 c259_105 (xa_I (so := 0) (pc' := 106) w3605 g3614 sh_49 (by decide) (ty_49 _) (by omega) (by omega) rfl (fun b3625 b3626 => ?_))
                      refine wp_of e259 c259_106 (rw_iand (pc' := 107) rfl ?_)
                      obtain ⟨v3627, e3628⟩ : ∃ x : Int, x = wq_and (H3601 r3612 (((40 * a1) + (H3601 r3615 (a1.toNat))).toNat)) (H3601 r3612 (((40 * a2) + (H3601 r3615 (a2.toNat))).toNat)) := ⟨_, rfl⟩
                      rw [← e3628]
                      have b3629 : -2147483648 ≤ v3627 ∧ v3627 ≤ 2147483647 := by
                        rw [e3628]
                        exact wI_and _ _
                      refine wp_of e259 c259_107 (rw_ior (pc' := 108) rfl ?_)
                      obtain ⟨v3630, e3631⟩ : ∃ x : Int, x = wq_or v3555 v3627 := ⟨_, rfl⟩
                      rw [← e3631]
                      have b3632 : -2147483648 ≤ v3630 ∧ v3630 ≤ 2147483647 := by
                        rw [e3631]
                        exact wI_or _ _
                      refine wp_of e259 c259_108 (rw_istore (pc' := 110) (z := v3630) (L' := [(4, vI v3630), (5, vI v3554), (0, .ref r0), (1, vI a1), (2, vI a2)]) rfl rfl rfl ?_)
                      have _gp : wfd (xwf e d) (fun n x => wq_or x (wq_and (xwb d (xlot d ((n : Nat) : Int)) (a1).toNat) (xwb d (xlot d ((n : Nat) : Int)) (a2).toNat))) 0 h9 = v3555 := by
                        rw [wfd_gap _a _f]
                        exact (‹v3555 = wfd (xwf e d) (fun n x => wq_or x (wq_and (xwb d (xlot d ((n : Nat) : Int)) (a1).toNat) (xwb d (xlot d ((n : Nat) : Int)) (a2).toNat))) 0 u3557›).symm
                      have _q : v3630 = wfd (xwf e d) (fun n x => wq_or x (wq_and (xwb d (xlot d ((n : Nat) : Int)) (a1).toNat) (xwb d (xlot d ((n : Nat) : Int)) (a2).toNat))) 0 (h9 + 1) := by
                        rw [wfd_y _c, _gp]
                        exact or_and_e e3631 e3628 (by omega) (by omega)
                      refine wp_of e259 c259_110 (rw_iinc (pc' := 113) (z := v3554) (L' := [(5, vI (v3554 + 1)), (4, vI v3630), (0, .ref r0), (1, vI a1), (2, vI a2)]) rfl rfl rfl rfl ?_)
                      refine wp_of e259 c259_113 (rw_goto (p1 := 52) (by decide) ?_)
                      have k3633 : H3601 r0 29 = H3556 r0 29 := (f3606 r0 29 _ g0 rfl)
                      have h3634 : KL T H3601 r0 (xwf e d) (xlots d).toNat := (KL_fr w3559 g0 f3606 rfl h3564)
                      exact wp_lc (ks := [5, 4, 0, 1, 2]) (wl_c rfl (wl_c rfl (wl_c rfl (wl_c rfl (wl_c rfl wl_n))))) rfl (by decide) (ih3553 _ (by omega) (v3554 + 1) v3630 H3601 ((h9 + 1)) w3605 f3610 ⟨by omega, by omega⟩ ⟨by omega, by omega⟩ h3634 (by omega) (by omega) (by omega) (_q) rfl)
                exact wp_lc (ks := [5, 4, 3, 0, 1, 2]) (wl_c rfl (wl_c rfl (wl_c rfl (wl_c rfl (wl_c rfl wl_n))))) rfl (by decide) (lp3551 _ 0 0 H3206 0 w3210 wfr.rf ⟨by omega, by omega⟩ ⟨by omega, by omega⟩ h3236 (by omega) (by omega) (rfl) (rfl) rfl)
              · exfalso
                omega
            · have f3635 := f2714.tr f3211 rfl
              show wp _ _ 259 35 [(0, .ref r0), (1, vI a1), (2, vI a2)] [vI z3212] _ H3206 _
              refine wp_of e259 c259_35 (rw_istore_n (pc' := 36) (z := z3212) (L' := [(3, vI z3212), (0, .ref r0), (1, vI a1), (2, vI a2)]) rfl rfl rfl ?_)
              refine wp_of e259 c259_36 (rw_iload_n (pc' := 37) (z := z3212) rfl rfl ?_)
              refine wp_of e259 c259_37 (rw_if_le (p1 := 46) (p2 := 40) (by decide) rfl ⟨by omega, by omega⟩ (fun c3636 => ?_) (fun c3636 => ?_))
              · exfalso
                omega
              · refine wp_of e259 c259_40 (rw_aload_n (pc' := 41) (v := .ref r0) rfl rfl rfl ?_)
                refine wp_of e259 c259_41 (rw_iload_n (pc' := 42) (z := z3212) rfl rfl ?_)
                refine wp_of e259 c259_42 (xc_V (pc' := 45) (r := r0) (as := [vI z3212]) (st := []) (lm_9_54) rfl rfl (Nat.le_of_ble_eq_true rfl) w3210 g0 sh_42 (by decide) rfl (by decide) (u_170  w3210 g0 ⟨by omega, by omega⟩) (fun R3637 T3638 H3639 p3640 => ?_))
                obtain ⟨e3641, w3643, f3644, z3645, e3642, b3646, p3647⟩ := p3640
                subst e3641
                subst e3642
                obtain ⟨a3648, a3649, a3650⟩ := p3647
                have f3651 := f3635.tr f3644 rfl
                show wp _ _ 259 45 [(3, vI z3212), (0, .ref r0), (1, vI a1), (2, vI a2)] [vI z3645] _ H3639 _
                have k3652 : wKI H3639 r0 = wKI H3206 r0 := (wKI_fr w3210 g0 f3644 rfl)
                have h3653 : KNN T H3639 r0 e d := (KNN_fr w3210 g0 f3644 rfl a3230)
                exact wp_ireturn e259 c259_45 rfl ⟨rfl, w3643, f3651, z3645, rfl, ⟨by omega, by omega⟩, (Or.inl ⟨by omega, by omega, by omega, h3653⟩)⟩
      · show wp _ _ 259 19 [(0, .ref r0), (1, vI a1), (2, vI a2)] [vI z2739, .ref r0] _ H2711 _
        refine wp_of e259 c259_19 (rw_if_eq (p1 := 31) (p2 := 22) (by decide) rfl ⟨by omega, by omega⟩ (fun c3654 => ?_) (fun c3654 => ?_))
        · refine wp_of e259 c259_31 (rw_iconst (pc' := 32) rfl ?_)
          have k3655 : H2711 r0 3 = H r0 3 := (wq_u_j e2712 rfl)
          have k3656 : wKI H2711 r0 = wKI H r0 := (wKI_fr hW g0 ((wfr.rf (l := [(42, 0)])).put' e2712 g0 rfl) rfl)
          have h3657 : KNN T H2711 r0 e d := (KNN_fr hW g0 ((wfr.rf (l := [(42, 0)])).put' e2712 g0 rfl) rfl hKNN_r0)
          refine wp_of e259 c259_32 (xc_V (pc' := 35) (r := r0) (as := [vI 0]) (st := []) (lm_9_433) rfl rfl (Nat.le_of_ble_eq_true rfl) w2713 g0 sh_42 (by decide) rfl (by decide) (u_241 (e := e) (d := d) w2713 g0 ⟨by omega, by omega⟩ (by omega) (by omega) (by assumption) (by assumption) (by assumption) (by assumption) h2716 h3657) (fun R3658 T3659 H3660 p3661 => ?_))
          obtain ⟨e3662, w3664, f3665, z3666, e3663, b3667, p3668⟩ := p3661
          subst e3662
          subst e3663
          rcases p3668 with ⟨a3669, a3670, a3671, a3672, a3673, a3674, a3675, a3676, a3677⟩ | ⟨a3678, a3679, a3680, a3681, a3682, a3683, a3684⟩
          · have f3685 := f2714.tr f3665 rfl
            show wp _ _ 259 35 [(0, .ref r0), (1, vI a1), (2, vI a2)] [vI z3666] _ H3660 _
            refine wp_of e259 c259_35 (rw_istore_n (pc' := 36) (z := z3666) (L' := [(3, vI z3666), (0, .ref r0), (1, vI a1), (2, vI a2)]) rfl rfl rfl ?_)
            refine wp_of e259 c259_36 (rw_iload_n (pc' := 37) (z := z3666) rfl rfl ?_)
            obtain ⟨r3686, q3687, g3688⟩ := (w3664.opt g0 (t' := 54) (n := 33) (j := 3) (p := 0) (q := 0) rfl (by decide) rfl).resolve_left (by omega)
            have h3689 : RB T H3660 r0 e d := (RB_fr w2713 g0 f3665 rfl h2716)
            have _kbb := a3677
            have _kb := _kbb.1
            have _n3 : H3660 r0 3 ≠ -1 := by omega
            have _rp := RB_at h3689 q3687
            have _k := RP_k _rp
            have _nb := xcn_b (f := xwf e d) (xlots d).toNat
            have h3690 : KL T H3660 r0 (xwf e d) (xlots d).toNat := _kbb.2
            have _ar := RB_ar h3689 (by omega)
            have _pk := _ar.1
            have h3691 : LB25 T H3660 r0 (xwk d) (xsq d) := _ar.2.2.2.2.2.2.2
            refine wp_of e259 c259_37 (rw_if_le (p1 := 46) (p2 := 40) (by decide) rfl ⟨by omega, by omega⟩ (fun c3692 => ?_) (fun c3692 => ?_))
            · refine wp_of e259 c259_46 (rw_iconst (pc' := 47) rfl ?_)
              refine wp_of e259 c259_47 (rw_istore (pc' := 49) (z := 0) (L' := [(4, vI 0), (3, vI z3666), (0, .ref r0), (1, vI a1), (2, vI a2)]) rfl rfl rfl ?_)
              refine wp_of e259 c259_49 (rw_iconst (pc' := 50) rfl ?_)
              refine wp_of e259 c259_50 (rw_istore (pc' := 52) (z := 0) (L' := [(5, vI 0), (4, vI 0), (3, vI z3666), (0, .ref r0), (1, vI a1), (2, vI a2)]) rfl rfl rfl ?_)
              have b4012 : 0 ≤ H3660 r0 29 ∧ H3660 r0 29 ≤ 20000 := w3664.box g0 (n := 33) rfl (by decide) rfl
              have lp4005 : ∀ (n4006 : Nat) (v4008 : Int) (v4009 : Int) (H4010 : wq_H) (u4011 : Nat), WT T H4010 → wfr [(51, 999)] T H3660 H4010 → (0 ≤ v4008 ∧ v4008 ≤ 20000) → (0 ≤ v4009 ∧ v4009 ≤ 16777215) → KL T H4010 r0 (xwf e d) (xlots d).toNat → (v4008 ≤ H4010 r0 29) → (u4011 ≤ (xlots d).toNat) → (xcn (xwf e d) u4011 = v4008) → (v4009 = wfd (xwf e d) (fun n x => wq_or x (wq_and (xwb d (xlot d ((n : Nat) : Int)) (a1).toNat) (xwb d (xlot d ((n : Nat) : Int)) (a2).toNat))) 0 u4011) → (20000 - v4008).toNat = n4006 → wp kt 7 259 52 [(5, vI v4008), (4, vI v4009), (0, .ref r0), (1, vI a1), (2, vI a2)] [] T H4010 (uq_259 r0 a1 a2 e d T H) := by
                intro n4006
                induction n4006 using Nat.strongRecOn with
                | _ n4006 ih4007 =>
                  intro v4008 v4009 H4010 u4011 w4013 f4014 b4015 b4016 h4018 x4019 x4020 x4021 x4022 m4017
                  have f4023 := f3685.tr f4014 rfl
                  have k4024 : H4010 r0 29 = H3660 r0 29 := (f4014 r0 29 _ g0 rfl)
                  refine wp_of e259 c259_52 (rw_iload (pc' := 54) (z := v4008) rfl rfl ?_)
                  refine wp_of e259 c259_54 (rw_aload_n (pc' := 55) (v := .ref r0) rfl rfl rfl ?_)
                  refine wp_of e259 c259_55 (xg_I (pc' := 58) lf_9_422 w4013 g0 sh_42 (by decide) (by decide) ty_42_29 rfl rfl (fun b4025 b4026 => ?_))
                  refine wp_of e259 c259_58 (rw_icmp_ge (p1 := 116) (p2 := 61) (by decide) rfl ⟨by omega, by omega⟩ ⟨by omega, by omega⟩ (fun c4027 => ?_) (fun c4027 => ?_))
                  · refine wp_of e259 c259_116 (rw_aload_n (pc' := 117) (v := .ref r0) rfl rfl rfl ?_)
                    refine wp_of e259 c259_117 (rw_iload (pc' := 119) (z := v4009) rfl rfl ?_)
                    refine wp_of e259 c259_119 (xc_V (pc' := 122) (r := r0) (as := [vI v4009]) (st := []) (lm_9_58) rfl rfl (Nat.le_of_ble_eq_true rfl) w4013 g0 sh_42 (by decide) rfl (by decide) (u_209  w4013 g0 ⟨by omega, by omega⟩) (fun R4028 T4029 H4030 p4031 => ?_))
                    obtain ⟨e4032, w4034, f4035, z4036, e4033, b4037, p4038⟩ := p4031
                    subst e4032
                    subst e4033
                    obtain ⟨a4039, a4040, a4041⟩ := p4038
                    have f4042 := f4023.tr f4035 rfl
                    show wp _ _ 259 122 [(5, vI v4008), (4, vI v4009), (0, .ref r0), (1, vI a1), (2, vI a2)] [vI z4036] _ H4030 _
                    have k4043 : wKI H4030 r0 = wKI H3660 r0 := ((wKI_fr w4013 g0 f4035 rfl).trans (wKI_fr w3664 g0 f4014 rfl))
                    have h4044 : KNN T H4030 r0 e d := (KNN_fr w4013 g0 f4035 rfl (KNN_fr w3664 g0 f4014 rfl a3676))
                    exact wp_ireturn e259 c259_122 rfl ⟨rfl, w4034, f4042, z4036, rfl, ⟨by omega, by omega⟩, (Or.inr ⟨by omega, by omega, by
                      show _ = wfd (xwf e d) (fun n x => wq_or x (wq_and (xwb d (xlot d ((n : Nat) : Int)) (a1).toNat) (xwb d (xlot d ((n : Nat) : Int)) (a2).toNat))) 0 (xlots d).toNat
                      rw [wfd_end (u := u4011) (by omega) (by omega)]
                      assumption, h4044⟩)⟩
                  · obtain ⟨h9, _a, _b, _c, _e, _f⟩ := xcn_nx (f := xwf e d) (u := u4011) (xlots d).toNat (by omega) (by omega)
                    have _n9 : xcn (xwf e d) (h9 + 1) = xcn (xwf e d) h9 + 1 := by
                      show xcn (xwf e d) h9 + (if xwf e d h9 > 0 then 1 else 0) = _
                      rw [if_pos _c]
                    refine wp_of e259 c259_61 (rw_aload_n (pc' := 62) (v := .ref r0) rfl rfl rfl ?_)
                    refine wp_of e259 c259_62 (rw_aload_n (pc' := 63) (v := .ref r0) rfl rfl rfl ?_)
                    refine wp_of e259 c259_63 (xg_R (pc' := 66) lf_9_42 w4013 g0 sh_42 (by decide) (by decide) ty_42_30 rfl rfl (fun r4045 q4046 g4047 => ?_))
                    refine wp_of e259 c259_66 (rw_iload (pc' := 68) (z := v4008) rfl rfl ?_)
                    refine wp_of e259 c259_68 (xa_I (so := 0) (pc' := 69) w4013 g4047 sh_52 (by decide) (ty_52 _) (by omega) (by omega) rfl (fun b4048 b4049 => ?_))
                    have _kl := KL_at h4018 q4046 (n := h9) (s := (v4008).toNat) (by omega) _c (by omega)
                    have _t9 : H4010 r4045 (v4008.toNat) = ((h9 : Nat) : Int) := by omega
                    have _slw : SL d (xlot d ((h9 : Nat) : Int)) := SL_lot _xw.1 (by omega) (by omega)
                    have k4050 : H4010 r0 3 = H3660 r0 3 := (f4014 r0 3 _ g0 rfl)
                    have q4051 : H4010 r0 3 = (r3686 : Int) := k4050.trans q3687
                    have h4052 : RB T H4010 r0 e d := (RB_fr w3664 g0 f4014 rfl h3689)
                    refine wp_of e259 c259_69 (xc_V (pc' := 72) (r := r0) (as := [vI (H4010 r4045 (v4008.toNat))]) (st := []) (lm_9_425) rfl rfl (Nat.le_of_ble_eq_true rfl) w4013 g0 sh_42 (by decide) rfl (by decide) (u_243 (e := e) (d := d) w4013 g0 ⟨by omega, by omega⟩ q4051 g3688 (by omega) h4052) (fun R4053 T4054 H4055 p4056 => ?_))
                    obtain ⟨e4057, w4059, f4060, e4058, p4061⟩ := p4056
                    subst e4057
                    subst e4058
                    have f4063 := f4023.tr f4060 rfl
                    have f4064 := f4014.tr f4060 rfl
                    show wp _ _ 259 72 [(5, vI v4008), (4, vI v4009), (0, .ref r0), (1, vI a1), (2, vI a2)] [] _ H4055 _
                    have h4065 : LQ27 T H4055 r0 0 (d 0 3) (xlot d ((h9 : Nat) : Int)) := by rw [← _t9]; exact p4061
                    refine wp_of e259 c259_72 (rw_iload (pc' := 74) (z := v4009) rfl rfl ?_)
                    refine wp_of e259 c259_74 (rw_aload_n (pc' := 75) (v := .ref r0) rfl rfl rfl ?_)
                    refine wp_of e259 c259_75 (xg_R (pc' := 78) lf_9_33 w4059 g0 sh_42 (by decide) (by decide) ty_42_25 rfl rfl (fun r4066 q4067 g4068 => ?_))
                    refine wp_of e259 c259_78 (rw_bipush (pc' := 80) (z := 40) rfl (by decide) ?_)
                    refine wp_of e259 c259_80 (rw_iload_n (pc' := 81) (z := a1) rfl rfl ?_)
                    have _sxa1 := _slw (a1).toNat (by omega)
                    refine wp_of e259 c259_81 (rw_imul (pc' := 82) rfl ?_)
                    refine wp_of e259 c259_82 (rw_aload_n (pc' := 83) (v := .ref r0) rfl rfl rfl ?_)
                    refine wp_of e259 c259_83 (xg_R (pc' := 86) lf_9_39 w4059 g0 sh_42 (by decide) (by decide) ty_42_27 rfl rfl (fun r4069 q4070 g4071 => ?_))
                    refine wp_of e259 c259_86 (rw_iload_n (pc' := 87) (z := a1) rfl rfl ?_)
                    refine wp_of e259 c259_87 (xa_I (so := 0) (pc' := 88) w4059 g4071 sh_51 (by decide) (ty_51 _) (by omega) (by omega) rfl (fun b4072 b4073 => ?_))
                    have := LR_at h4065 q4070 (k := (a1.toNat)) (by omega) (by omega)
                    refine wp_of e259 c259_88 (rw_iadd (pc' := 89) rfl ?_)
                    have h4074 : LB25 T H4055 r0 (xwk d) (xsq d) := (LB25_fr w4013 g0 f4060 rfl (LB25_fr w3664 g0 f4014 rfl h3691))
                    have _sx := _slw (a1).toNat (by omega)
                    have _lx := LB_x h4074 q4067 (k := (a1).toNat) (i := (xlot d ((h9 : Nat) : Int) (a1).toNat).toNat) (s := ((40 * a1) + (H4055 r4069 (a1.toNat))).toNat) (by omega) (by omega) (by omega) _pk (by omega)
                    have _x : xwk d (a1).toNat ((xsp d (a1).toNat).getD (xlot d ((h9 : Nat) : Int) (a1).toNat).toNat (0, 0)) = xwb d (xlot d ((h9 : Nat) : Int)) (a1).toNat := rfl
                    refine wp_of e259 c259_89 (xa_I (so := 0) (pc' := 90) w4059 g4068 sh_49 (by decide) (ty_49 _) (by omega) (by omega) rfl (fun b4075 b4076 => ?_))
                    refine wp_of e259 c259_90 (rw_aload_n (pc' := 91) (v := .ref r0) rfl rfl rfl ?_)
                    refine wp_of e259 c259_91 (xg_K (pc' := 94) lf_9_33 w4059 g0 sh_42 (by decide) (by decide) rfl q4067 rfl ?_)
                    refine wp_of e259 c259_94 (rw_bipush (pc' := 96) (z := 40) rfl (by decide) ?_)
                    refine wp_of e259 c259_96 (rw_iload_n (pc' := 97) (z := a2) rfl rfl ?_)
                    have _sxa2 := _slw (a2).toNat (by omega)
                    refine wp_of e259 c259_97 (rw_imul (pc' := 98) rfl ?_)
                    refine wp_of e259 c259_98 (rw_aload_n (pc' := 99) (v := .ref r0) rfl rfl rfl ?_)
                    refine wp_of e259 c259_99 (xg_K (pc' := 102) lf_9_39 w4059 g0 sh_42 (by decide) (by decide) rfl q4070 rfl ?_)
                    refine wp_of e259 c259_102 (rw_iload_n (pc' := 103) (z := a2) rfl rfl ?_)
                    refine wp_of e259 c259_103 (xa_I (so := 0) (pc' := 104) w4059 g4071 sh_51 (by decide) (ty_51 _) (by omega) (by omega) rfl (fun b4077 b4078 => ?_))
                    have := LR_at h4065 q4070 (k := (a2.toNat)) (by omega) (by omega)
                    refine wp_of e259 c259_104 (rw_iadd (pc' := 105) rfl ?_)
                    have _sx := _slw (a2).toNat (by omega)
                    have _lx := LB_x h4074 q4067 (k := (a2).toNat) (i := (xlot d ((h9 : Nat) : Int) (a2).toNat).toNat) (s := ((40 * a2) + (H4055 r4069 (a2.toNat))).toNat) (by omega) (by omega) (by omega) _pk (by omega)
                    have _x : xwk d (a2).toNat ((xsp d (a2).toNat).getD (xlot d ((h9 : Nat) : Int) (a2).toNat).toNat (0, 0)) = xwb d (xlot d ((h9 : Nat) : Int)) (a2).toNat := rfl
                    refine wp_of e259 c259_105 (xa_I (so := 0) (pc' := 106) w4059 g4068 sh_49 (by decide) (ty_49 _) (by omega) (by omega) rfl (fun b4079 b4080 => ?_))
                    refine wp_of e259 c259_106 (rw_iand (pc' := 107) rfl ?_)
                    obtain ⟨v4081, e4082⟩ : ∃ x : Int, x = wq_and (H4055 r4066 (((40 * a1) + (H4055 r4069 (a1.toNat))).toNat)) (H4055 r4066 (((40 * a2) + (H4055 r4069 (a2.toNat))).toNat)) := ⟨_, rfl⟩
                    rw [← e4082]
                    have b4083 : -2147483648 ≤ v4081 ∧ v4081 ≤ 2147483647 := by
                      rw [e4082]
                      exact wI_and _ _
                    refine wp_of e259 c259_107 (rw_ior (pc' := 108) rfl ?_)
                    obtain ⟨v4084, e4085⟩ : ∃ x : Int, x = wq_or v4009 v4081 := ⟨_, rfl⟩
                    rw [← e4085]
                    have b4086 : -2147483648 ≤ v4084 ∧ v4084 ≤ 2147483647 := by
                      rw [e4085]
                      exact wI_or _ _
                    refine wp_of e259 c259_108 (rw_istore (pc' := 110) (z := v4084) (L' := [(4, vI v4084), (5, vI v4008), (0, .ref r0), (1, vI a1), (2, vI a2)]) rfl rfl rfl ?_)
                    have _gp : wfd (xwf e d) (fun n x => wq_or x (wq_and (xwb d (xlot d ((n : Nat) : Int)) (a1).toNat) (xwb d (xlot d ((n : Nat) : Int)) (a2).toNat))) 0 h9 = v4009 := by
                      rw [wfd_gap _a _f]
                      exact (‹v4009 = wfd (xwf e d) (fun n x => wq_or x (wq_and (xwb d (xlot d ((n : Nat) : Int)) (a1).toNat) (xwb d (xlot d ((n : Nat) : Int)) (a2).toNat))) 0 u4011›).symm
                    have _q : v4084 = wfd (xwf e d) (fun n x => wq_or x (wq_and (xwb d (xlot d ((n : Nat) : Int)) (a1).toNat) (xwb d (xlot d ((n : Nat) : Int)) (a2).toNat))) 0 (h9 + 1) := by
                      rw [wfd_y _c, _gp]
                      exact or_and_e e4085 e4082 (by omega) (by omega)
                    refine wp_of e259 c259_110 (rw_iinc (pc' := 113) (z := v4008) (L' := [(5, vI (v4008 + 1)), (4, vI v4084), (0, .ref r0), (1, vI a1), (2, vI a2)]) rfl rfl rfl rfl ?_)
                    refine wp_of e259 c259_113 (rw_goto (p1 := 52) (by decide) ?_)
                    have k4087 : H4055 r0 29 = H4010 r0 29 := (f4060 r0 29 _ g0 rfl)
                    have h4088 : KL T H4055 r0 (xwf e d) (xlots d).toNat := (KL_fr w4013 g0 f4060 rfl h4018)
                    exact wp_lc (ks := [5, 4, 0, 1, 2]) (wl_c rfl (wl_c rfl (wl_c rfl (wl_c rfl (wl_c rfl wl_n))))) rfl (by decide) (ih4007 _ (by omega) (v4008 + 1) v4084 H4055 ((h9 + 1)) w4059 f4064 ⟨by omega, by omega⟩ ⟨by omega, by omega⟩ h4088 (by omega) (by omega) (by omega) (_q) rfl)
              exact wp_lc (ks := [5, 4, 3, 0, 1, 2]) (wl_c rfl (wl_c rfl (wl_c rfl (wl_c rfl (wl_c rfl wl_n))))) rfl (by decide) (lp4005 _ 0 0 H3660 0 w3664 wfr.rf ⟨by omega, by omega⟩ ⟨by omega, by omega⟩ h3690 (by omega) (by omega) (rfl) (rfl) rfl)
            · exfalso
              omega
          · have f4089 := f2714.tr f3665 rfl
            show wp _ _ 259 35 [(0, .ref r0), (1, vI a1), (2, vI a2)] [vI z3666] _ H3660 _
            refine wp_of e259 c259_35 (rw_istore_n (pc' := 36) (z := z3666) (L' := [(3, vI z3666), (0, .ref r0), (1, vI a1), (2, vI a2)]) rfl rfl rfl ?_)
            refine wp_of e259 c259_36 (rw_iload_n (pc' := 37) (z := z3666) rfl rfl ?_)
            refine wp_of e259 c259_37 (rw_if_le (p1 := 46) (p2 := 40) (by decide) rfl ⟨by omega, by omega⟩ (fun c4090 => ?_) (fun c4090 => ?_))
            · exfalso
              omega
            · refine wp_of e259 c259_40 (rw_aload_n (pc' := 41) (v := .ref r0) rfl rfl rfl ?_)
              refine wp_of e259 c259_41 (rw_iload_n (pc' := 42) (z := z3666) rfl rfl ?_)
              refine wp_of e259 c259_42 (xc_V (pc' := 45) (r := r0) (as := [vI z3666]) (st := []) (lm_9_54) rfl rfl (Nat.le_of_ble_eq_true rfl) w3664 g0 sh_42 (by decide) rfl (by decide) (u_170  w3664 g0 ⟨by omega, by omega⟩) (fun R4091 T4092 H4093 p4094 => ?_))
              obtain ⟨e4095, w4097, f4098, z4099, e4096, b4100, p4101⟩ := p4094
              subst e4095
              subst e4096
              obtain ⟨a4102, a4103, a4104⟩ := p4101
              have f4105 := f4089.tr f4098 rfl
              show wp _ _ 259 45 [(3, vI z3666), (0, .ref r0), (1, vI a1), (2, vI a2)] [vI z4099] _ H4093 _
              have k4106 : wKI H4093 r0 = wKI H3660 r0 := (wKI_fr w3664 g0 f4098 rfl)
              have h4107 : KNN T H4093 r0 e d := (KNN_fr w3664 g0 f4098 rfl a3684)
              exact wp_ireturn e259 c259_45 rfl ⟨rfl, w4097, f4105, z4099, rfl, ⟨by omega, by omega⟩, (Or.inl ⟨by omega, by omega, by omega, h4107⟩)⟩
        · exfalso
          omega
  · show wp _ _ 259 11 [(0, .ref r0), (1, vI a1), (2, vI a2)] [vI z2724, .ref r0] _ H2711 _
    refine wp_of e259 c259_11 (rw_if_eq (p1 := 31) (p2 := 14) (by decide) rfl ⟨by omega, by omega⟩ (fun c4108 => ?_) (fun c4108 => ?_))
    · refine wp_of e259 c259_31 (rw_iconst (pc' := 32) rfl ?_)
      have k4109 : H2711 r0 3 = H r0 3 := (wq_u_j e2712 rfl)
      have k4110 : wKI H2711 r0 = wKI H r0 := (wKI_fr hW g0 ((wfr.rf (l := [(42, 0)])).put' e2712 g0 rfl) rfl)
      have h4111 : KNN T H2711 r0 e d := (KNN_fr hW g0 ((wfr.rf (l := [(42, 0)])).put' e2712 g0 rfl) rfl hKNN_r0)
      refine wp_of e259 c259_32 (xc_V (pc' := 35) (r := r0) (as := [vI 0]) (st := []) (lm_9_433) rfl rfl (Nat.le_of_ble_eq_true rfl) w2713 g0 sh_42 (by decide) rfl (by decide) (u_241 (e := e) (d := d) w2713 g0 ⟨by omega, by omega⟩ (by omega) (by omega) (by assumption) (by assumption) (by assumption) (by assumption) h2716 h4111) (fun R4112 T4113 H4114 p4115 => ?_))
      obtain ⟨e4116, w4118, f4119, z4120, e4117, b4121, p4122⟩ := p4115
      subst e4116
      subst e4117
      rcases p4122 with ⟨a4123, a4124, a4125, a4126, a4127, a4128, a4129, a4130, a4131⟩ | ⟨a4132, a4133, a4134, a4135, a4136, a4137, a4138⟩
      · have f4139 := f2714.tr f4119 rfl
        show wp _ _ 259 35 [(0, .ref r0), (1, vI a1), (2, vI a2)] [vI z4120] _ H4114 _
        refine wp_of e259 c259_35 (rw_istore_n (pc' := 36) (z := z4120) (L' := [(3, vI z4120), (0, .ref r0), (1, vI a1), (2, vI a2)]) rfl rfl rfl ?_)
        refine wp_of e259 c259_36 (rw_iload_n (pc' := 37) (z := z4120) rfl rfl ?_)
        obtain ⟨r4140, q4141, g4142⟩ := (w4118.opt g0 (t' := 54) (n := 33) (j := 3) (p := 0) (q := 0) rfl (by decide) rfl).resolve_left (by omega)
        have h4143 : RB T H4114 r0 e d := (RB_fr w2713 g0 f4119 rfl h2716)
        have _kbb := a4131
        have _kb := _kbb.1
        have _n3 : H4114 r0 3 ≠ -1 := by omega
        have _rp := RB_at h4143 q4141
        have _k := RP_k _rp
        have _nb := xcn_b (f := xwf e d) (xlots d).toNat
        have h4144 : KL T H4114 r0 (xwf e d) (xlots d).toNat := _kbb.2
        have _ar := RB_ar h4143 (by omega)
        have _pk := _ar.1
        have h4145 : LB25 T H4114 r0 (xwk d) (xsq d) := _ar.2.2.2.2.2.2.2
        refine wp_of e259 c259_37 (rw_if_le (p1 := 46) (p2 := 40) (by decide) rfl ⟨by omega, by omega⟩ (fun c4146 => ?_) (fun c4146 => ?_))
        · refine wp_of e259 c259_46 (rw_iconst (pc' := 47) rfl ?_)
          refine wp_of e259 c259_47 (rw_istore (pc' := 49) (z := 0) (L' := [(4, vI 0), (3, vI z4120), (0, .ref r0), (1, vI a1), (2, vI a2)]) rfl rfl rfl ?_)
          refine wp_of e259 c259_49 (rw_iconst (pc' := 50) rfl ?_)
          refine wp_of e259 c259_50 (rw_istore (pc' := 52) (z := 0) (L' := [(5, vI 0), (4, vI 0), (3, vI z4120), (0, .ref r0), (1, vI a1), (2, vI a2)]) rfl rfl rfl ?_)
          have b4466 : 0 ≤ H4114 r0 29 ∧ H4114 r0 29 ≤ 20000 := w4118.box g0 (n := 33) rfl (by decide) rfl
          have lp4459 : ∀ (n4460 : Nat) (v4462 : Int) (v4463 : Int) (H4464 : wq_H) (u4465 : Nat), WT T H4464 → wfr [(51, 999)] T H4114 H4464 → (0 ≤ v4462 ∧ v4462 ≤ 20000) → (0 ≤ v4463 ∧ v4463 ≤ 16777215) → KL T H4464 r0 (xwf e d) (xlots d).toNat → (v4462 ≤ H4464 r0 29) → (u4465 ≤ (xlots d).toNat) → (xcn (xwf e d) u4465 = v4462) → (v4463 = wfd (xwf e d) (fun n x => wq_or x (wq_and (xwb d (xlot d ((n : Nat) : Int)) (a1).toNat) (xwb d (xlot d ((n : Nat) : Int)) (a2).toNat))) 0 u4465) → (20000 - v4462).toNat = n4460 → wp kt 7 259 52 [(5, vI v4462), (4, vI v4463), (0, .ref r0), (1, vI a1), (2, vI a2)] [] T H4464 (uq_259 r0 a1 a2 e d T H) := by
            intro n4460
            induction n4460 using Nat.strongRecOn with
            | _ n4460 ih4461 =>
              intro v4462 v4463 H4464 u4465 w4467 f4468 b4469 b4470 h4472 x4473 x4474 x4475 x4476 m4471
              have f4477 := f4139.tr f4468 rfl
              have k4478 : H4464 r0 29 = H4114 r0 29 := (f4468 r0 29 _ g0 rfl)
              refine wp_of e259 c259_52 (rw_iload (pc' := 54) (z := v4462) rfl rfl ?_)
              refine wp_of e259 c259_54 (rw_aload_n (pc' := 55) (v := .ref r0) rfl rfl rfl ?_)
              refine wp_of e259 c259_55 (xg_I (pc' := 58) lf_9_422 w4467 g0 sh_42 (by decide) (by decide) ty_42_29 rfl rfl (fun b4479 b4480 => ?_))
              refine wp_of e259 c259_58 (rw_icmp_ge (p1 := 116) (p2 := 61) (by decide) rfl ⟨by omega, by omega⟩ ⟨by omega, by omega⟩ (fun c4481 => ?_) (fun c4481 => ?_))
              · refine wp_of e259 c259_116 (rw_aload_n (pc' := 117) (v := .ref r0) rfl rfl rfl ?_)
                refine wp_of e259 c259_117 (rw_iload (pc' := 119) (z := v4463) rfl rfl ?_)
                refine wp_of e259 c259_119 (xc_V (pc' := 122) (r := r0) (as := [vI v4463]) (st := []) (lm_9_58) rfl rfl (Nat.le_of_ble_eq_true rfl) w4467 g0 sh_42 (by decide) rfl (by decide) (u_209  w4467 g0 ⟨by omega, by omega⟩) (fun R4482 T4483 H4484 p4485 => ?_))
                obtain ⟨e4486, w4488, f4489, z4490, e4487, b4491, p4492⟩ := p4485
                subst e4486
                subst e4487
                obtain ⟨a4493, a4494, a4495⟩ := p4492
                have f4496 := f4477.tr f4489 rfl
                show wp _ _ 259 122 [(5, vI v4462), (4, vI v4463), (0, .ref r0), (1, vI a1), (2, vI a2)] [vI z4490] _ H4484 _
                have k4497 : wKI H4484 r0 = wKI H4114 r0 := ((wKI_fr w4467 g0 f4489 rfl).trans (wKI_fr w4118 g0 f4468 rfl))
                have h4498 : KNN T H4484 r0 e d := (KNN_fr w4467 g0 f4489 rfl (KNN_fr w4118 g0 f4468 rfl a4130))
                exact wp_ireturn e259 c259_122 rfl ⟨rfl, w4488, f4496, z4490, rfl, ⟨by omega, by omega⟩, (Or.inr ⟨by omega, by omega, by
                  show _ = wfd (xwf e d) (fun n x => wq_or x (wq_and (xwb d (xlot d ((n : Nat) : Int)) (a1).toNat) (xwb d (xlot d ((n : Nat) : Int)) (a2).toNat))) 0 (xlots d).toNat
                  rw [wfd_end (u := u4465) (by omega) (by omega)]
                  assumption, h4498⟩)⟩
              · obtain ⟨h9, _a, _b, _c, _e, _f⟩ := xcn_nx (f := xwf e d) (u := u4465) (xlots d).toNat (by omega) (by omega)
                have _n9 : xcn (xwf e d) (h9 + 1) = xcn (xwf e d) h9 + 1 := by
                  show xcn (xwf e d) h9 + (if xwf e d h9 > 0 then 1 else 0) = _
                  rw [if_pos _c]
                refine wp_of e259 c259_61 (rw_aload_n (pc' := 62) (v := .ref r0) rfl rfl rfl ?_)
                refine wp_of e259 c259_62 (rw_aload_n (pc' := 63) (v := .ref r0) rfl rfl rfl ?_)
                refine wp_of e259 c259_63 (xg_R (pc' := 66) lf_9_42 w4467 g0 sh_42 (by decide) (by decide) ty_42_30 rfl rfl (fun r4499 q4500 g4501 => ?_))
                refine wp_of e259 c259_66 (rw_iload (pc' := 68) (z := v4462) rfl rfl ?_)
                refine wp_of e259 c259_68 (xa_I (so := 0) (pc' := 69) w4467 g4501 sh_52 (by decide) (ty_52 _) (by omega) (by omega) rfl (fun b4502 b4503 => ?_))
                have _kl := KL_at h4472 q4500 (n := h9) (s := (v4462).toNat) (by omega) _c (by omega)
                have _t9 : H4464 r4499 (v4462.toNat) = ((h9 : Nat) : Int) := by omega
                have _slw : SL d (xlot d ((h9 : Nat) : Int)) := SL_lot _xw.1 (by omega) (by omega)
                have k4504 : H4464 r0 3 = H4114 r0 3 := (f4468 r0 3 _ g0 rfl)
                have q4505 : H4464 r0 3 = (r4140 : Int) := k4504.trans q4141
                have h4506 : RB T H4464 r0 e d := (RB_fr w4118 g0 f4468 rfl h4143)
                refine wp_of e259 c259_69 (xc_V (pc' := 72) (r := r0) (as := [vI (H4464 r4499 (v4462.toNat))]) (st := []) (lm_9_425) rfl rfl (Nat.le_of_ble_eq_true rfl) w4467 g0 sh_42 (by decide) rfl (by decide) (u_243 (e := e) (d := d) w4467 g0 ⟨by omega, by omega⟩ q4505 g4142 (by omega) h4506) (fun R4507 T4508 H4509 p4510 => ?_))
                obtain ⟨e4511, w4513, f4514, e4512, p4515⟩ := p4510
                subst e4511
                subst e4512
                have f4517 := f4477.tr f4514 rfl
                have f4518 := f4468.tr f4514 rfl
                show wp _ _ 259 72 [(5, vI v4462), (4, vI v4463), (0, .ref r0), (1, vI a1), (2, vI a2)] [] _ H4509 _
                have h4519 : LQ27 T H4509 r0 0 (d 0 3) (xlot d ((h9 : Nat) : Int)) := by rw [← _t9]; exact p4515
                refine wp_of e259 c259_72 (rw_iload (pc' := 74) (z := v4463) rfl rfl ?_)
                refine wp_of e259 c259_74 (rw_aload_n (pc' := 75) (v := .ref r0) rfl rfl rfl ?_)
                refine wp_of e259 c259_75 (xg_R (pc' := 78) lf_9_33 w4513 g0 sh_42 (by decide) (by decide) ty_42_25 rfl rfl (fun r4520 q4521 g4522 => ?_))
                refine wp_of e259 c259_78 (rw_bipush (pc' := 80) (z := 40) rfl (by decide) ?_)
                refine wp_of e259 c259_80 (rw_iload_n (pc' := 81) (z := a1) rfl rfl ?_)
                have _sxa1 := _slw (a1).toNat (by omega)
                refine wp_of e259 c259_81 (rw_imul (pc' := 82) rfl ?_)
                refine wp_of e259 c259_82 (rw_aload_n (pc' := 83) (v := .ref r0) rfl rfl rfl ?_)
                refine wp_of e259 c259_83 (xg_R (pc' := 86) lf_9_39 w4513 g0 sh_42 (by decide) (by decide) ty_42_27 rfl rfl (fun r4523 q4524 g4525 => ?_))
                refine wp_of e259 c259_86 (rw_iload_n (pc' := 87) (z := a1) rfl rfl ?_)
                refine wp_of e259 c259_87 (xa_I (so := 0) (pc' := 88) w4513 g4525 sh_51 (by decide) (ty_51 _) (by omega) (by omega) rfl (fun b4526 b4527 => ?_))
                have := LR_at h4519 q4524 (k := (a1.toNat)) (by omega) (by omega)
                refine wp_of e259 c259_88 (rw_iadd (pc' := 89) rfl ?_)
                have h4528 : LB25 T H4509 r0 (xwk d) (xsq d) := (LB25_fr w4467 g0 f4514 rfl (LB25_fr w4118 g0 f4468 rfl h4145))
                have _sx := _slw (a1).toNat (by omega)
                have _lx := LB_x h4528 q4521 (k := (a1).toNat) (i := (xlot d ((h9 : Nat) : Int) (a1).toNat).toNat) (s := ((40 * a1) + (H4509 r4523 (a1.toNat))).toNat) (by omega) (by omega) (by omega) _pk (by omega)
                have _x : xwk d (a1).toNat ((xsp d (a1).toNat).getD (xlot d ((h9 : Nat) : Int) (a1).toNat).toNat (0, 0)) = xwb d (xlot d ((h9 : Nat) : Int)) (a1).toNat := rfl
                refine wp_of e259 c259_89 (xa_I (so := 0) (pc' := 90) w4513 g4522 sh_49 (by decide) (ty_49 _) (by omega) (by omega) rfl (fun b4529 b4530 => ?_))
                refine wp_of e259 c259_90 (rw_aload_n (pc' := 91) (v := .ref r0) rfl rfl rfl ?_)
                refine wp_of e259 c259_91 (xg_K (pc' := 94) lf_9_33 w4513 g0 sh_42 (by decide) (by decide) rfl q4521 rfl ?_)
                refine wp_of e259 c259_94 (rw_bipush (pc' := 96) (z := 40) rfl (by decide) ?_)
                refine wp_of e259 c259_96 (rw_iload_n (pc' := 97) (z := a2) rfl rfl ?_)
                have _sxa2 := _slw (a2).toNat (by omega)
                refine wp_of e259 c259_97 (rw_imul (pc' := 98) rfl ?_)
                refine wp_of e259 c259_98 (rw_aload_n (pc' := 99) (v := .ref r0) rfl rfl rfl ?_)
                refine wp_of e259 c259_99 (xg_K (pc' := 102) lf_9_39 w4513 g0 sh_42 (by decide) (by decide) rfl q4524 rfl ?_)
                refine wp_of e259 c259_102 (rw_iload_n (pc' := 103) (z := a2) rfl rfl ?_)
                refine wp_of e259 c259_103 (xa_I (so := 0) (pc' := 104) w4513 g4525 sh_51 (by decide) (ty_51 _) (by omega) (by omega) rfl (fun b4531 b4532 => ?_))
                have := LR_at h4519 q4524 (k := (a2.toNat)) (by omega) (by omega)
                refine wp_of e259 c259_104 (rw_iadd (pc' := 105) rfl ?_)
                have _sx := _slw (a2).toNat (by omega)
                have _lx := LB_x h4528 q4521 (k := (a2).toNat) (i := (xlot d ((h9 : Nat) : Int) (a2).toNat).toNat) (s := ((40 * a2) + (H4509 r4523 (a2.toNat))).toNat) (by omega) (by omega) (by omega) _pk (by omega)
                have _x : xwk d (a2).toNat ((xsp d (a2).toNat).getD (xlot d ((h9 : Nat) : Int) (a2).toNat).toNat (0, 0)) = xwb d (xlot d ((h9 : Nat) : Int)) (a2).toNat := rfl
                refine wp_of e259 c259_105 (xa_I (so := 0) (pc' := 106) w4513 g4522 sh_49 (by decide) (ty_49 _) (by omega) (by omega) rfl (fun b4533 b4534 => ?_))
                refine wp_of e259 c259_106 (rw_iand (pc' := 107) rfl ?_)
                obtain ⟨v4535, e4536⟩ : ∃ x : Int, x = wq_and (H4509 r4520 (((40 * a1) + (H4509 r4523 (a1.toNat))).toNat)) (H4509 r4520 (((40 * a2) + (H4509 r4523 (a2.toNat))).toNat)) := ⟨_, rfl⟩
                rw [← e4536]
                have b4537 : -2147483648 ≤ v4535 ∧ v4535 ≤ 2147483647 := by
                  rw [e4536]
                  exact wI_and _ _
                refine wp_of e259 c259_107 (rw_ior (pc' := 108) rfl ?_)
                obtain ⟨v4538, e4539⟩ : ∃ x : Int, x = wq_or v4463 v4535 := ⟨_, rfl⟩
                rw [← e4539]
                have b4540 : -2147483648 ≤ v4538 ∧ v4538 ≤ 2147483647 := by
                  rw [e4539]
                  exact wI_or _ _
                refine wp_of e259 c259_108 (rw_istore (pc' := 110) (z := v4538) (L' := [(4, vI v4538), (5, vI v4462), (0, .ref r0), (1, vI a1), (2, vI a2)]) rfl rfl rfl ?_)
                have _gp : wfd (xwf e d) (fun n x => wq_or x (wq_and (xwb d (xlot d ((n : Nat) : Int)) (a1).toNat) (xwb d (xlot d ((n : Nat) : Int)) (a2).toNat))) 0 h9 = v4463 := by
                  rw [wfd_gap _a _f]
                  exact (‹v4463 = wfd (xwf e d) (fun n x => wq_or x (wq_and (xwb d (xlot d ((n : Nat) : Int)) (a1).toNat) (xwb d (xlot d ((n : Nat) : Int)) (a2).toNat))) 0 u4465›).symm
                have _q : v4538 = wfd (xwf e d) (fun n x => wq_or x (wq_and (xwb d (xlot d ((n : Nat) : Int)) (a1).toNat) (xwb d (xlot d ((n : Nat) : Int)) (a2).toNat))) 0 (h9 + 1) := by
                  rw [wfd_y _c, _gp]
                  exact or_and_e e4539 e4536 (by omega) (by omega)
                refine wp_of e259 c259_110 (rw_iinc (pc' := 113) (z := v4462) (L' := [(5, vI (v4462 + 1)), (4, vI v4538), (0, .ref r0), (1, vI a1), (2, vI a2)]) rfl rfl rfl rfl ?_)
                refine wp_of e259 c259_113 (rw_goto (p1 := 52) (by decide) ?_)
                have k4541 : H4509 r0 29 = H4464 r0 29 := (f4514 r0 29 _ g0 rfl)
                have h4542 : KL T H4509 r0 (xwf e d) (xlots d).toNat := (KL_fr w4467 g0 f4514 rfl h4472)
                exact wp_lc (ks := [5, 4, 0, 1, 2]) (wl_c rfl (wl_c rfl (wl_c rfl (wl_c rfl (wl_c rfl wl_n))))) rfl (by decide) (ih4461 _ (by omega) (v4462 + 1) v4538 H4509 ((h9 + 1)) w4513 f4518 ⟨by omega, by omega⟩ ⟨by omega, by omega⟩ h4542 (by omega) (by omega) (by omega) (_q) rfl)
          exact wp_lc (ks := [5, 4, 3, 0, 1, 2]) (wl_c rfl (wl_c rfl (wl_c rfl (wl_c rfl (wl_c rfl wl_n))))) rfl (by decide) (lp4459 _ 0 0 H4114 0 w4118 wfr.rf ⟨by omega, by omega⟩ ⟨by omega, by omega⟩ h4144 (by omega) (by omega) (rfl) (rfl) rfl)
        · exfalso
          omega
      · have f4543 := f2714.tr f4119 rfl
        show wp _ _ 259 35 [(0, .ref r0), (1, vI a1), (2, vI a2)] [vI z4120] _ H4114 _
        refine wp_of e259 c259_35 (rw_istore_n (pc' := 36) (z := z4120) (L' := [(3, vI z4120), (0, .ref r0), (1, vI a1), (2, vI a2)]) rfl rfl rfl ?_)
        refine wp_of e259 c259_36 (rw_iload_n (pc' := 37) (z := z4120) rfl rfl ?_)
        refine wp_of e259 c259_37 (rw_if_le (p1 := 46) (p2 := 40) (by decide) rfl ⟨by omega, by omega⟩ (fun c4544 => ?_) (fun c4544 => ?_))
        · exfalso
          omega
        · refine wp_of e259 c259_40 (rw_aload_n (pc' := 41) (v := .ref r0) rfl rfl rfl ?_)
          refine wp_of e259 c259_41 (rw_iload_n (pc' := 42) (z := z4120) rfl rfl ?_)
          refine wp_of e259 c259_42 (xc_V (pc' := 45) (r := r0) (as := [vI z4120]) (st := []) (lm_9_54) rfl rfl (Nat.le_of_ble_eq_true rfl) w4118 g0 sh_42 (by decide) rfl (by decide) (u_170  w4118 g0 ⟨by omega, by omega⟩) (fun R4545 T4546 H4547 p4548 => ?_))
          obtain ⟨e4549, w4551, f4552, z4553, e4550, b4554, p4555⟩ := p4548
          subst e4549
          subst e4550
          obtain ⟨a4556, a4557, a4558⟩ := p4555
          have f4559 := f4543.tr f4552 rfl
          show wp _ _ 259 45 [(3, vI z4120), (0, .ref r0), (1, vI a1), (2, vI a2)] [vI z4553] _ H4547 _
          have k4560 : wKI H4547 r0 = wKI H4114 r0 := (wKI_fr w4118 g0 f4552 rfl)
          have h4561 : KNN T H4547 r0 e d := (KNN_fr w4118 g0 f4552 rfl a4138)
          exact wp_ireturn e259 c259_45 rfl ⟨rfl, w4551, f4559, z4553, rfl, ⟨by omega, by omega⟩, (Or.inl ⟨by omega, by omega, by omega, h4561⟩)⟩
    · exfalso
      omega
/-! StrikeAwakeModel.possible(I)J  -/
abbrev uq_260 (r0 : Nat) (a1 : Int) (e : xD) (d : xD) (T : wq_T) (H : wq_H) : Option Value → wq_T → wq_H → Prop := fun r T' H' => T = T' ∧ WT T H' ∧ wfr [(42, 0), (42, 1), (42, 2), (42, 28), (42, 29), (51, 999), (52, 999)] T H H' ∧ ∃ z : Int, some (vL z) = r ∧ ((-9223372036854775808) ≤ z ∧ z ≤ 9223372036854775807) ∧ (((z = -1) ∧ (wKI H' r0 = 1) ∧ ((a1 < 0 ∨ d 0 3 ≤ a1) ∨ 20000 < xlots d) ∧ KNN T H' r0 e d) ∨ ((wKI H' r0 = 1) ∧ ((0 ≤ a1 ∧ a1 < d 0 3) ∧ xlots d ≤ 20000) ∧ (z = xps e d (a1).toNat) ∧ KNN T H' r0 e d))
set_option maxHeartbeats 4000000 in
theorem u_260 {kt : Nat → Option mc_E} {T : wq_T} {H : wq_H} {r0 : Nat} {a1 : Int} {e : xD} {d : xD} (hW : WT T H) (g0 : T.2.2.2 r0 = some 42) (i1 : (-2147483648) ≤ a1 ∧ a1 ≤ 2147483647) (p0 : wKI H r0 = 1) (p1 : XW d) (p2 : ∀ h : Nat, d 0 0 ≤ (h : Int) → h < 24 → e 13 h = 0) (p3 : XN d) (p4 : ∀ h : Nat, h < 24 → 0 ≤ e 13 h ∧ e 13 h ≤ 100) (hRB_r0 : RB T H r0 e d) (hKNN_r0 : KNN T H r0 e d) : wpc kt 8 260 [.ref r0, vI a1] T H (uq_260 r0 a1 e d T H) := by
  refine wp_enter e260 (Nat.le_of_ble_eq_true rfl) rfl ?_
  have f0 : wfr [(42, 0), (42, 1), (42, 2), (42, 28), (42, 29), (51, 999), (52, 999)] T H H := wfr.rf
  show wp _ _ 260 0 [(0, .ref r0), (1, vI a1)] [] _ H _
  have _b := RB_b hW hRB_r0
  have _nu := RB_n3 hRB_r0
  have _lm := RB_lm hRB_r0
  have _xw := (by assumption : XW d)
  refine wp_of e260 c260_0 (rw_aload_n (pc' := 1) (v := .ref r0) rfl rfl rfl ?_)
  refine wp_of e260 c260_1 (rw_iconst (pc' := 2) rfl ?_)
  refine wp_of e260 c260_2 (xp_I (pc' := 5) lf_9_48 hW g0 sh_42 (by decide) (by decide) ty_42_0 rfl rfl (by omega) (by omega) ⟨by omega, by omega⟩ rfl (fun H1694 e1695 w1696 => ?_))
  have f1697 := f0.put' e1695 g0 rfl
  have k1698 : H1694 r0 0 = 0 := wq_u_s e1695
  refine wp_of e260 c260_5 (rw_aload_n (pc' := 6) (v := .ref r0) rfl rfl rfl ?_)
  refine wp_of e260 c260_6 (rw_aload_n (pc' := 7) (v := .ref r0) rfl rfl rfl ?_)
  refine wp_of e260 c260_7 (rw_iload_n (pc' := 8) (z := a1) rfl rfl ?_)
  have h1699 : RB T H1694 r0 e d := (RB_fr hW g0 ((wfr.rf (l := [(42, 0)])).put' e1695 g0 rfl) rfl hRB_r0)
  refine wp_of e260 c260_8 (xc_V (pc' := 11) (r := r0) (as := [vI a1]) (st := [.ref r0]) (lm_9_364) rfl rfl (Nat.le_of_ble_eq_true rfl) w1696 g0 sh_42 (by decide) rfl (by decide) (u_213 (e := e) (d := d) w1696 g0 ⟨by omega, by omega⟩ h1699) (fun R1700 T1701 H1702 p1703 => ?_))
  obtain ⟨e1704, e1706, z1707, e1705, b1708, p1709⟩ := p1703
  subst e1704
  subst e1705
  subst e1706
  rcases p1709 with ⟨a1710, a1711⟩ | ⟨a1712, a1713⟩
  · show wp _ _ 260 11 [(0, .ref r0), (1, vI a1)] [vI z1707, .ref r0] _ H1694 _
    have k1714 : H1694 r0 3 = H r0 3 := (wq_u_j e1695 rfl)
    have k1715 : wKI H1694 r0 = wKI H r0 := (wKI_fr hW g0 ((wfr.rf (l := [(42, 0)])).put' e1695 g0 rfl) rfl)
    have h1716 : KNN T H1694 r0 e d := (KNN_fr hW g0 ((wfr.rf (l := [(42, 0)])).put' e1695 g0 rfl) rfl hKNN_r0)
    refine wp_of e260 c260_11 (xc_V (pc' := 14) (r := r0) (as := [vI z1707]) (st := []) (lm_9_433) rfl rfl (Nat.le_of_ble_eq_true rfl) w1696 g0 sh_42 (by decide) rfl (by decide) (u_241 (e := e) (d := d) w1696 g0 ⟨by omega, by omega⟩ (by omega) (by omega) (by assumption) (by assumption) (by assumption) (by assumption) h1699 h1716) (fun R1717 T1718 H1719 p1720 => ?_))
    obtain ⟨e1721, w1723, f1724, z1725, e1722, b1726, p1727⟩ := p1720
    subst e1721
    subst e1722
    rcases p1727 with ⟨a1728, a1729, a1730, a1731, a1732, a1733, a1734, a1735, a1736⟩ | ⟨a1737, a1738, a1739, a1740, a1741, a1742, a1743⟩
    · have f1744 := f1697.tr f1724 rfl
      show wp _ _ 260 14 [(0, .ref r0), (1, vI a1)] [vI z1725] _ H1719 _
      refine wp_of e260 c260_14 (rw_istore_n (pc' := 15) (z := z1725) (L' := [(2, vI z1725), (0, .ref r0), (1, vI a1)]) rfl rfl rfl ?_)
      refine wp_of e260 c260_15 (rw_iload_n (pc' := 16) (z := z1725) rfl rfl ?_)
      obtain ⟨r1745, q1746, g1747⟩ := (w1723.opt g0 (t' := 54) (n := 33) (j := 3) (p := 0) (q := 0) rfl (by decide) rfl).resolve_left (by omega)
      have h1748 : RB T H1719 r0 e d := (RB_fr w1696 g0 f1724 rfl h1699)
      have _kbb := a1736
      have _kb := _kbb.1
      have _n3 : H1719 r0 3 ≠ -1 := by omega
      have _rp := RB_at h1748 q1746
      have _k := RP_k _rp
      have _nb := xcn_b (f := xwf e d) (xlots d).toNat
      have h1749 : KL T H1719 r0 (xwf e d) (xlots d).toNat := _kbb.2
      refine wp_of e260 c260_16 (rw_if_le (p1 := 26) (p2 := 19) (by decide) rfl ⟨by omega, by omega⟩ (fun c1750 => ?_) (fun c1750 => ?_))
      · refine wp_of e260 c260_26 (rw_lconst (pc' := 27) (z := 0) rfl rfl ?_)
        refine wp_of e260 c260_27 (rw_lstore_n (pc' := 28) (z := 0) (L' := [(3, vL 0), (2, vI z1725), (0, .ref r0), (1, vI a1)]) rfl rfl rfl ?_)
        refine wp_of e260 c260_28 (rw_iconst (pc' := 29) rfl ?_)
        refine wp_of e260 c260_29 (rw_istore (pc' := 31) (z := 0) (L' := [(5, vI 0), (3, vL 0), (2, vI z1725), (0, .ref r0), (1, vI a1)]) rfl rfl rfl ?_)
        have b1998 : 0 ≤ H1719 r0 29 ∧ H1719 r0 29 ≤ 20000 := w1723.box g0 (n := 33) rfl (by decide) rfl
        have lp1991 : ∀ (n1992 : Nat) (v1994 : Int) (v1995 : Int) (H1996 : wq_H) (u1997 : Nat), WT T H1996 → wfr [(51, 999)] T H1719 H1996 → (0 ≤ v1994 ∧ v1994 ≤ 20000) → ((-9223372036854775808) ≤ v1995 ∧ v1995 ≤ 9223372036854775807) → KL T H1996 r0 (xwf e d) (xlots d).toNat → (v1994 ≤ H1996 r0 29) → (u1997 ≤ (xlots d).toNat) → (xcn (xwf e d) u1997 = v1994) → (v1995 = wfd (xwf e d) (fun n x => wl_or x (wl_shl 1 (((xlot d ((n : Nat) : Int) (a1).toNat).toNat : Nat) : Int))) 0 u1997) → (20000 - v1994).toNat = n1992 → wp kt 7 260 31 [(5, vI v1994), (3, vL v1995), (0, .ref r0), (1, vI a1)] [] T H1996 (uq_260 r0 a1 e d T H) := by
          intro n1992
          induction n1992 using Nat.strongRecOn with
          | _ n1992 ih1993 =>
            intro v1994 v1995 H1996 u1997 w1999 f2000 b2001 b2002 h2004 x2005 x2006 x2007 x2008 m2003
            have f2009 := f1744.tr f2000 rfl
            have k2010 : H1996 r0 29 = H1719 r0 29 := (f2000 r0 29 _ g0 rfl)
            refine wp_of e260 c260_31 (rw_iload (pc' := 33) (z := v1994) rfl rfl ?_)
            refine wp_of e260 c260_33 (rw_aload_n (pc' := 34) (v := .ref r0) rfl rfl rfl ?_)
            refine wp_of e260 c260_34 (xg_I (pc' := 37) lf_9_422 w1999 g0 sh_42 (by decide) (by decide) ty_42_29 rfl rfl (fun b2011 b2012 => ?_))
            refine wp_of e260 c260_37 (rw_icmp_ge (p1 := 68) (p2 := 40) (by decide) rfl ⟨by omega, by omega⟩ ⟨by omega, by omega⟩ (fun c2013 => ?_) (fun c2013 => ?_))
            · refine wp_of e260 c260_68 (rw_aload_n (pc' := 69) (v := .ref r0) rfl rfl rfl ?_)
              refine wp_of e260 c260_69 (rw_lload_n (pc' := 70) (z := v1995) rfl rfl ?_)
              refine wp_of e260 c260_70 (xc_V (pc' := 73) (r := r0) (as := [vL v1995]) (st := []) (lm_9_380) rfl rfl (Nat.le_of_ble_eq_true rfl) w1999 g0 sh_42 (by decide) rfl (by decide) (u_221  w1999 g0 ⟨by omega, by omega⟩) (fun R2014 T2015 H2016 p2017 => ?_))
              obtain ⟨e2018, w2020, f2021, z2022, e2019, b2023, p2024⟩ := p2017
              subst e2018
              subst e2019
              obtain ⟨a2025, a2026, a2027⟩ := p2024
              have f2028 := f2009.tr f2021 rfl
              show wp _ _ 260 73 [(5, vI v1994), (3, vL v1995), (0, .ref r0), (1, vI a1)] [vL z2022] _ H2016 _
              have k2029 : wKI H2016 r0 = wKI H1719 r0 := ((wKI_fr w1999 g0 f2021 rfl).trans (wKI_fr w1723 g0 f2000 rfl))
              have h2030 : KNN T H2016 r0 e d := (KNN_fr w1999 g0 f2021 rfl (KNN_fr w1723 g0 f2000 rfl a1735))
              exact wp_lreturn e260 c260_73 rfl ⟨rfl, w2020, f2028, z2022, rfl, ⟨by omega, by omega⟩, (Or.inr ⟨by omega, by omega, by
                show _ = wfd (xwf e d) (fun n x => wl_or x (wl_shl 1 (((xlot d ((n : Nat) : Int) (a1).toNat).toNat : Nat) : Int))) 0 (xlots d).toNat
                rw [wfd_end (u := u1997) (by omega) (by omega)]
                assumption, h2030⟩)⟩
            · obtain ⟨h9, _a, _b, _c, _e, _f⟩ := xcn_nx (f := xwf e d) (u := u1997) (xlots d).toNat (by omega) (by omega)
              have _n9 : xcn (xwf e d) (h9 + 1) = xcn (xwf e d) h9 + 1 := by
                show xcn (xwf e d) h9 + (if xwf e d h9 > 0 then 1 else 0) = _
                rw [if_pos _c]
              refine wp_of e260 c260_40 (rw_aload_n (pc' := 41) (v := .ref r0) rfl rfl rfl ?_)
              refine wp_of e260 c260_41 (rw_aload_n (pc' := 42) (v := .ref r0) rfl rfl rfl ?_)
              refine wp_of e260 c260_42 (xg_R (pc' := 45) lf_9_42 w1999 g0 sh_42 (by decide) (by decide) ty_42_30 rfl rfl (fun r2031 q2032 g2033 => ?_))
              refine wp_of e260 c260_45 (rw_iload (pc' := 47) (z := v1994) rfl rfl ?_)
              refine wp_of e260 c260_47 (xa_I (so := 0) (pc' := 48) w1999 g2033 sh_52 (by decide) (ty_52 _) (by omega) (by omega) rfl (fun b2034 b2035 => ?_))
              have _kl := KL_at h2004 q2032 (n := h9) (s := (v1994).toNat) (by omega) _c (by omega)
              have _t9 : H1996 r2031 (v1994.toNat) = ((h9 : Nat) : Int) := by omega
              have _slw : SL d (xlot d ((h9 : Nat) : Int)) := SL_lot _xw.1 (by omega) (by omega)
              have k2036 : H1996 r0 3 = H1719 r0 3 := (f2000 r0 3 _ g0 rfl)
              have q2037 : H1996 r0 3 = (r1745 : Int) := k2036.trans q1746
              have h2038 : RB T H1996 r0 e d := (RB_fr w1723 g0 f2000 rfl h1748)
              refine wp_of e260 c260_48 (xc_V (pc' := 51) (r := r0) (as := [vI (H1996 r2031 (v1994.toNat))]) (st := []) (lm_9_425) rfl rfl (Nat.le_of_ble_eq_true rfl) w1999 g0 sh_42 (by decide) rfl (by decide) (u_243 (e := e) (d := d) w1999 g0 ⟨by omega, by omega⟩ q2037 g1747 (by omega) h2038) (fun R2039 T2040 H2041 p2042 => ?_))
              obtain ⟨e2043, w2045, f2046, e2044, p2047⟩ := p2042
              subst e2043
              subst e2044
              have f2049 := f2009.tr f2046 rfl
              have f2050 := f2000.tr f2046 rfl
              show wp _ _ 260 51 [(5, vI v1994), (3, vL v1995), (0, .ref r0), (1, vI a1)] [] _ H2041 _
              have h2051 : LQ27 T H2041 r0 0 (d 0 3) (xlot d ((h9 : Nat) : Int)) := by rw [← _t9]; exact p2047
              refine wp_of e260 c260_51 (rw_lload_n (pc' := 52) (z := v1995) rfl rfl ?_)
              refine wp_of e260 c260_52 (rw_lconst (pc' := 53) (z := 1) rfl rfl ?_)
              refine wp_of e260 c260_53 (rw_aload_n (pc' := 54) (v := .ref r0) rfl rfl rfl ?_)
              refine wp_of e260 c260_54 (xg_R (pc' := 57) lf_9_39 w2045 g0 sh_42 (by decide) (by decide) ty_42_27 rfl rfl (fun r2052 q2053 g2054 => ?_))
              refine wp_of e260 c260_57 (rw_iload_n (pc' := 58) (z := a1) rfl rfl ?_)
              have _sxa1 := _slw (a1).toNat (by omega)
              refine wp_of e260 c260_58 (xa_I (so := 0) (pc' := 59) w2045 g2054 sh_51 (by decide) (ty_51 _) (by omega) (by omega) rfl (fun b2055 b2056 => ?_))
              have := LR_at h2051 q2053 (k := (a1.toNat)) (by omega) (by omega)
              refine wp_of e260 c260_59 (rw_lshl (pc' := 60) rfl ?_)
              obtain ⟨v2057, e2058⟩ : ∃ x : Int, x = wl_shl 1 (H2041 r2052 (a1.toNat)) := ⟨_, rfl⟩
              rw [← e2058]
              have b2059 : -9223372036854775808 ≤ v2057 ∧ v2057 ≤ 9223372036854775807 := by
                rw [e2058]
                exact wL_shl _ _
              refine wp_of e260 c260_60 (rw_lor (pc' := 61) rfl ?_)
              obtain ⟨v2060, e2061⟩ : ∃ x : Int, x = wl_or v1995 v2057 := ⟨_, rfl⟩
              rw [← e2061]
              have b2062 : -9223372036854775808 ≤ v2060 ∧ v2060 ≤ 9223372036854775807 := by
                rw [e2061]
                exact wL_or _ _
              refine wp_of e260 c260_61 (rw_lstore_n (pc' := 62) (z := v2060) (L' := [(3, vL v2060), (5, vI v1994), (0, .ref r0), (1, vI a1)]) rfl rfl rfl ?_)
              have _gp : wfd (xwf e d) (fun n x => wl_or x (wl_shl 1 (((xlot d ((n : Nat) : Int) (a1).toNat).toNat : Nat) : Int))) 0 h9 = v1995 := by
                rw [wfd_gap _a _f]
                exact (‹v1995 = wfd (xwf e d) (fun n x => wl_or x (wl_shl 1 (((xlot d ((n : Nat) : Int) (a1).toNat).toNat : Nat) : Int))) 0 u1997›).symm
              have _q : v2060 = wfd (xwf e d) (fun n x => wl_or x (wl_shl 1 (((xlot d ((n : Nat) : Int) (a1).toNat).toNat : Nat) : Int))) 0 (h9 + 1) := by
                rw [wfd_y _c, _gp]
                show v2060 = wl_or v1995 (wl_shl 1 (((xlot d ((h9 : Nat) : Int) (a1).toNat).toNat : Nat) : Int))
                rw [show (((xlot d ((h9 : Nat) : Int) (a1).toNat).toNat : Nat) : Int) = xlot d ((h9 : Nat) : Int) (a1).toNat by omega]
                exact orl_e e2061 e2058 (by omega)
              refine wp_of e260 c260_62 (rw_iinc (pc' := 65) (z := v1994) (L' := [(5, vI (v1994 + 1)), (3, vL v2060), (0, .ref r0), (1, vI a1)]) rfl rfl rfl rfl ?_)
              refine wp_of e260 c260_65 (rw_goto (p1 := 31) (by decide) ?_)
              have k2063 : H2041 r0 29 = H1996 r0 29 := (f2046 r0 29 _ g0 rfl)
              have h2064 : KL T H2041 r0 (xwf e d) (xlots d).toNat := (KL_fr w1999 g0 f2046 rfl h2004)
              exact wp_lc (ks := [5, 3, 0, 1]) (wl_c rfl (wl_c rfl (wl_c rfl (wl_c rfl wl_n)))) rfl (by decide) (ih1993 _ (by omega) (v1994 + 1) v2060 H2041 ((h9 + 1)) w2045 f2050 ⟨by omega, by omega⟩ ⟨by omega, by omega⟩ h2064 (by omega) (by omega) (by omega) (_q) rfl)
        exact wp_lc (ks := [5, 3, 2, 0, 1]) (wl_c rfl (wl_c rfl (wl_c rfl (wl_c rfl wl_n)))) rfl (by decide) (lp1991 _ 0 0 H1719 0 w1723 wfr.rf ⟨by omega, by omega⟩ ⟨by omega, by omega⟩ h1749 (by omega) (by omega) (rfl) (rfl) rfl)
      · exfalso
        omega
    · have f2065 := f1697.tr f1724 rfl
      show wp _ _ 260 14 [(0, .ref r0), (1, vI a1)] [vI z1725] _ H1719 _
      refine wp_of e260 c260_14 (rw_istore_n (pc' := 15) (z := z1725) (L' := [(2, vI z1725), (0, .ref r0), (1, vI a1)]) rfl rfl rfl ?_)
      refine wp_of e260 c260_15 (rw_iload_n (pc' := 16) (z := z1725) rfl rfl ?_)
      refine wp_of e260 c260_16 (rw_if_le (p1 := 26) (p2 := 19) (by decide) rfl ⟨by omega, by omega⟩ (fun c2066 => ?_) (fun c2066 => ?_))
      · exfalso
        omega
      · refine wp_of e260 c260_19 (rw_aload_n (pc' := 20) (v := .ref r0) rfl rfl rfl ?_)
        refine wp_of e260 c260_20 (rw_iload_n (pc' := 21) (z := z1725) rfl rfl ?_)
        refine wp_of e260 c260_21 (xc_V (pc' := 24) (r := r0) (as := [vI z1725]) (st := []) (lm_9_54) rfl rfl (Nat.le_of_ble_eq_true rfl) w1723 g0 sh_42 (by decide) rfl (by decide) (u_170  w1723 g0 ⟨by omega, by omega⟩) (fun R2067 T2068 H2069 p2070 => ?_))
        obtain ⟨e2071, w2073, f2074, z2075, e2072, b2076, p2077⟩ := p2070
        subst e2071
        subst e2072
        obtain ⟨a2078, a2079, a2080⟩ := p2077
        have f2081 := f2065.tr f2074 rfl
        show wp _ _ 260 24 [(2, vI z1725), (0, .ref r0), (1, vI a1)] [vI z2075] _ H2069 _
        refine wp_of e260 c260_24 (rw_i2l (pc' := 25) rfl ⟨by omega, by omega⟩ ?_)
        have k2082 : wKI H2069 r0 = wKI H1719 r0 := (wKI_fr w1723 g0 f2074 rfl)
        have h2083 : KNN T H2069 r0 e d := (KNN_fr w1723 g0 f2074 rfl a1743)
        exact wp_lreturn e260 c260_25 rfl ⟨rfl, w2073, f2081, z2075, rfl, ⟨by omega, by omega⟩, (Or.inl ⟨by omega, by omega, by omega, h2083⟩)⟩
  · show wp _ _ 260 11 [(0, .ref r0), (1, vI a1)] [vI z1707, .ref r0] _ H1694 _
    have k2084 : H1694 r0 3 = H r0 3 := (wq_u_j e1695 rfl)
    have k2085 : wKI H1694 r0 = wKI H r0 := (wKI_fr hW g0 ((wfr.rf (l := [(42, 0)])).put' e1695 g0 rfl) rfl)
    have h2086 : KNN T H1694 r0 e d := (KNN_fr hW g0 ((wfr.rf (l := [(42, 0)])).put' e1695 g0 rfl) rfl hKNN_r0)
    refine wp_of e260 c260_11 (xc_V (pc' := 14) (r := r0) (as := [vI z1707]) (st := []) (lm_9_433) rfl rfl (Nat.le_of_ble_eq_true rfl) w1696 g0 sh_42 (by decide) rfl (by decide) (u_241 (e := e) (d := d) w1696 g0 ⟨by omega, by omega⟩ (by omega) (by omega) (by assumption) (by assumption) (by assumption) (by assumption) h1699 h2086) (fun R2087 T2088 H2089 p2090 => ?_))
    obtain ⟨e2091, w2093, f2094, z2095, e2092, b2096, p2097⟩ := p2090
    subst e2091
    subst e2092
    rcases p2097 with ⟨a2098, a2099, a2100, a2101, a2102, a2103, a2104, a2105, a2106⟩ | ⟨a2107, a2108, a2109, a2110, a2111, a2112, a2113⟩
    · have f2114 := f1697.tr f2094 rfl
      show wp _ _ 260 14 [(0, .ref r0), (1, vI a1)] [vI z2095] _ H2089 _
      refine wp_of e260 c260_14 (rw_istore_n (pc' := 15) (z := z2095) (L' := [(2, vI z2095), (0, .ref r0), (1, vI a1)]) rfl rfl rfl ?_)
      refine wp_of e260 c260_15 (rw_iload_n (pc' := 16) (z := z2095) rfl rfl ?_)
      obtain ⟨r2115, q2116, g2117⟩ := (w2093.opt g0 (t' := 54) (n := 33) (j := 3) (p := 0) (q := 0) rfl (by decide) rfl).resolve_left (by omega)
      have h2118 : RB T H2089 r0 e d := (RB_fr w1696 g0 f2094 rfl h1699)
      have _kbb := a2106
      have _kb := _kbb.1
      have _n3 : H2089 r0 3 ≠ -1 := by omega
      have _rp := RB_at h2118 q2116
      have _k := RP_k _rp
      have _nb := xcn_b (f := xwf e d) (xlots d).toNat
      have h2119 : KL T H2089 r0 (xwf e d) (xlots d).toNat := _kbb.2
      refine wp_of e260 c260_16 (rw_if_le (p1 := 26) (p2 := 19) (by decide) rfl ⟨by omega, by omega⟩ (fun c2120 => ?_) (fun c2120 => ?_))
      · refine wp_of e260 c260_26 (rw_lconst (pc' := 27) (z := 0) rfl rfl ?_)
        refine wp_of e260 c260_27 (rw_lstore_n (pc' := 28) (z := 0) (L' := [(3, vL 0), (2, vI z2095), (0, .ref r0), (1, vI a1)]) rfl rfl rfl ?_)
        refine wp_of e260 c260_28 (rw_iconst (pc' := 29) rfl ?_)
        refine wp_of e260 c260_29 (rw_istore (pc' := 31) (z := 0) (L' := [(5, vI 0), (3, vL 0), (2, vI z2095), (0, .ref r0), (1, vI a1)]) rfl rfl rfl ?_)
        have b2368 : 0 ≤ H2089 r0 29 ∧ H2089 r0 29 ≤ 20000 := w2093.box g0 (n := 33) rfl (by decide) rfl
        have lp2361 : ∀ (n2362 : Nat) (v2364 : Int) (v2365 : Int) (H2366 : wq_H) (u2367 : Nat), WT T H2366 → wfr [(51, 999)] T H2089 H2366 → (0 ≤ v2364 ∧ v2364 ≤ 20000) → ((-9223372036854775808) ≤ v2365 ∧ v2365 ≤ 9223372036854775807) → KL T H2366 r0 (xwf e d) (xlots d).toNat → (v2364 ≤ H2366 r0 29) → (u2367 ≤ (xlots d).toNat) → (xcn (xwf e d) u2367 = v2364) → (v2365 = wfd (xwf e d) (fun n x => wl_or x (wl_shl 1 (((xlot d ((n : Nat) : Int) (a1).toNat).toNat : Nat) : Int))) 0 u2367) → (20000 - v2364).toNat = n2362 → wp kt 7 260 31 [(5, vI v2364), (3, vL v2365), (0, .ref r0), (1, vI a1)] [] T H2366 (uq_260 r0 a1 e d T H) := by
          intro n2362
          induction n2362 using Nat.strongRecOn with
          | _ n2362 ih2363 =>
            intro v2364 v2365 H2366 u2367 w2369 f2370 b2371 b2372 h2374 x2375 x2376 x2377 x2378 m2373
            have f2379 := f2114.tr f2370 rfl
            have k2380 : H2366 r0 29 = H2089 r0 29 := (f2370 r0 29 _ g0 rfl)
            refine wp_of e260 c260_31 (rw_iload (pc' := 33) (z := v2364) rfl rfl ?_)
            refine wp_of e260 c260_33 (rw_aload_n (pc' := 34) (v := .ref r0) rfl rfl rfl ?_)
            refine wp_of e260 c260_34 (xg_I (pc' := 37) lf_9_422 w2369 g0 sh_42 (by decide) (by decide) ty_42_29 rfl rfl (fun b2381 b2382 => ?_))
            refine wp_of e260 c260_37 (rw_icmp_ge (p1 := 68) (p2 := 40) (by decide) rfl ⟨by omega, by omega⟩ ⟨by omega, by omega⟩ (fun c2383 => ?_) (fun c2383 => ?_))
            · refine wp_of e260 c260_68 (rw_aload_n (pc' := 69) (v := .ref r0) rfl rfl rfl ?_)
              refine wp_of e260 c260_69 (rw_lload_n (pc' := 70) (z := v2365) rfl rfl ?_)
              refine wp_of e260 c260_70 (xc_V (pc' := 73) (r := r0) (as := [vL v2365]) (st := []) (lm_9_380) rfl rfl (Nat.le_of_ble_eq_true rfl) w2369 g0 sh_42 (by decide) rfl (by decide) (u_221  w2369 g0 ⟨by omega, by omega⟩) (fun R2384 T2385 H2386 p2387 => ?_))
              obtain ⟨e2388, w2390, f2391, z2392, e2389, b2393, p2394⟩ := p2387
              subst e2388
              subst e2389
              obtain ⟨a2395, a2396, a2397⟩ := p2394
              have f2398 := f2379.tr f2391 rfl
              show wp _ _ 260 73 [(5, vI v2364), (3, vL v2365), (0, .ref r0), (1, vI a1)] [vL z2392] _ H2386 _
              have k2399 : wKI H2386 r0 = wKI H2089 r0 := ((wKI_fr w2369 g0 f2391 rfl).trans (wKI_fr w2093 g0 f2370 rfl))
              have h2400 : KNN T H2386 r0 e d := (KNN_fr w2369 g0 f2391 rfl (KNN_fr w2093 g0 f2370 rfl a2105))
              exact wp_lreturn e260 c260_73 rfl ⟨rfl, w2390, f2398, z2392, rfl, ⟨by omega, by omega⟩, (Or.inr ⟨by omega, by omega, by
                show _ = wfd (xwf e d) (fun n x => wl_or x (wl_shl 1 (((xlot d ((n : Nat) : Int) (a1).toNat).toNat : Nat) : Int))) 0 (xlots d).toNat
                rw [wfd_end (u := u2367) (by omega) (by omega)]
                assumption, h2400⟩)⟩
            · obtain ⟨h9, _a, _b, _c, _e, _f⟩ := xcn_nx (f := xwf e d) (u := u2367) (xlots d).toNat (by omega) (by omega)
              have _n9 : xcn (xwf e d) (h9 + 1) = xcn (xwf e d) h9 + 1 := by
                show xcn (xwf e d) h9 + (if xwf e d h9 > 0 then 1 else 0) = _
                rw [if_pos _c]
              refine wp_of e260 c260_40 (rw_aload_n (pc' := 41) (v := .ref r0) rfl rfl rfl ?_)
              refine wp_of e260 c260_41 (rw_aload_n (pc' := 42) (v := .ref r0) rfl rfl rfl ?_)
              refine wp_of e260 c260_42 (xg_R (pc' := 45) lf_9_42 w2369 g0 sh_42 (by decide) (by decide) ty_42_30 rfl rfl (fun r2401 q2402 g2403 => ?_))
              refine wp_of e260 c260_45 (rw_iload (pc' := 47) (z := v2364) rfl rfl ?_)
              refine wp_of e260 c260_47 (xa_I (so := 0) (pc' := 48) w2369 g2403 sh_52 (by decide) (ty_52 _) (by omega) (by omega) rfl (fun b2404 b2405 => ?_))
              have _kl := KL_at h2374 q2402 (n := h9) (s := (v2364).toNat) (by omega) _c (by omega)
              have _t9 : H2366 r2401 (v2364.toNat) = ((h9 : Nat) : Int) := by omega
              have _slw : SL d (xlot d ((h9 : Nat) : Int)) := SL_lot _xw.1 (by omega) (by omega)
              have k2406 : H2366 r0 3 = H2089 r0 3 := (f2370 r0 3 _ g0 rfl)
              have q2407 : H2366 r0 3 = (r2115 : Int) := k2406.trans q2116
              have h2408 : RB T H2366 r0 e d := (RB_fr w2093 g0 f2370 rfl h2118)
              refine wp_of e260 c260_48 (xc_V (pc' := 51) (r := r0) (as := [vI (H2366 r2401 (v2364.toNat))]) (st := []) (lm_9_425) rfl rfl (Nat.le_of_ble_eq_true rfl) w2369 g0 sh_42 (by decide) rfl (by decide) (u_243 (e := e) (d := d) w2369 g0 ⟨by omega, by omega⟩ q2407 g2117 (by omega) h2408) (fun R2409 T2410 H2411 p2412 => ?_))
              obtain ⟨e2413, w2415, f2416, e2414, p2417⟩ := p2412
              subst e2413
              subst e2414
              have f2419 := f2379.tr f2416 rfl
              have f2420 := f2370.tr f2416 rfl
              show wp _ _ 260 51 [(5, vI v2364), (3, vL v2365), (0, .ref r0), (1, vI a1)] [] _ H2411 _
              have h2421 : LQ27 T H2411 r0 0 (d 0 3) (xlot d ((h9 : Nat) : Int)) := by rw [← _t9]; exact p2417
              refine wp_of e260 c260_51 (rw_lload_n (pc' := 52) (z := v2365) rfl rfl ?_)
              refine wp_of e260 c260_52 (rw_lconst (pc' := 53) (z := 1) rfl rfl ?_)
              refine wp_of e260 c260_53 (rw_aload_n (pc' := 54) (v := .ref r0) rfl rfl rfl ?_)
              refine wp_of e260 c260_54 (xg_R (pc' := 57) lf_9_39 w2415 g0 sh_42 (by decide) (by decide) ty_42_27 rfl rfl (fun r2422 q2423 g2424 => ?_))
              refine wp_of e260 c260_57 (rw_iload_n (pc' := 58) (z := a1) rfl rfl ?_)
              have _sxa1 := _slw (a1).toNat (by omega)
              refine wp_of e260 c260_58 (xa_I (so := 0) (pc' := 59) w2415 g2424 sh_51 (by decide) (ty_51 _) (by omega) (by omega) rfl (fun b2425 b2426 => ?_))
              have := LR_at h2421 q2423 (k := (a1.toNat)) (by omega) (by omega)
              refine wp_of e260 c260_59 (rw_lshl (pc' := 60) rfl ?_)
              obtain ⟨v2427, e2428⟩ : ∃ x : Int, x = wl_shl 1 (H2411 r2422 (a1.toNat)) := ⟨_, rfl⟩
              rw [← e2428]
              have b2429 : -9223372036854775808 ≤ v2427 ∧ v2427 ≤ 9223372036854775807 := by
                rw [e2428]
                exact wL_shl _ _
              refine wp_of e260 c260_60 (rw_lor (pc' := 61) rfl ?_)
              obtain ⟨v2430, e2431⟩ : ∃ x : Int, x = wl_or v2365 v2427 := ⟨_, rfl⟩
              rw [← e2431]
              have b2432 : -9223372036854775808 ≤ v2430 ∧ v2430 ≤ 9223372036854775807 := by
                rw [e2431]
                exact wL_or _ _
              refine wp_of e260 c260_61 (rw_lstore_n (pc' := 62) (z := v2430) (L' := [(3, vL v2430), (5, vI v2364), (0, .ref r0), (1, vI a1)]) rfl rfl rfl ?_)
              have _gp : wfd (xwf e d) (fun n x => wl_or x (wl_shl 1 (((xlot d ((n : Nat) : Int) (a1).toNat).toNat : Nat) : Int))) 0 h9 = v2365 := by
                rw [wfd_gap _a _f]
                exact (‹v2365 = wfd (xwf e d) (fun n x => wl_or x (wl_shl 1 (((xlot d ((n : Nat) : Int) (a1).toNat).toNat : Nat) : Int))) 0 u2367›).symm
              have _q : v2430 = wfd (xwf e d) (fun n x => wl_or x (wl_shl 1 (((xlot d ((n : Nat) : Int) (a1).toNat).toNat : Nat) : Int))) 0 (h9 + 1) := by
                rw [wfd_y _c, _gp]
                show v2430 = wl_or v2365 (wl_shl 1 (((xlot d ((h9 : Nat) : Int) (a1).toNat).toNat : Nat) : Int))
                rw [show (((xlot d ((h9 : Nat) : Int) (a1).toNat).toNat : Nat) : Int) = xlot d ((h9 : Nat) : Int) (a1).toNat by omega]
                exact orl_e e2431 e2428 (by omega)
              refine wp_of e260 c260_62 (rw_iinc (pc' := 65) (z := v2364) (L' := [(5, vI (v2364 + 1)), (3, vL v2430), (0, .ref r0), (1, vI a1)]) rfl rfl rfl rfl ?_)
              refine wp_of e260 c260_65 (rw_goto (p1 := 31) (by decide) ?_)
              have k2433 : H2411 r0 29 = H2366 r0 29 := (f2416 r0 29 _ g0 rfl)
              have h2434 : KL T H2411 r0 (xwf e d) (xlots d).toNat := (KL_fr w2369 g0 f2416 rfl h2374)
              exact wp_lc (ks := [5, 3, 0, 1]) (wl_c rfl (wl_c rfl (wl_c rfl (wl_c rfl wl_n)))) rfl (by decide) (ih2363 _ (by omega) (v2364 + 1) v2430 H2411 ((h9 + 1)) w2415 f2420 ⟨by omega, by omega⟩ ⟨by omega, by omega⟩ h2434 (by omega) (by omega) (by omega) (_q) rfl)
        exact wp_lc (ks := [5, 3, 2, 0, 1]) (wl_c rfl (wl_c rfl (wl_c rfl (wl_c rfl wl_n)))) rfl (by decide) (lp2361 _ 0 0 H2089 0 w2093 wfr.rf ⟨by omega, by omega⟩ ⟨by omega, by omega⟩ h2119 (by omega) (by omega) (rfl) (rfl) rfl)
      · exfalso
        omega
    · have f2435 := f1697.tr f2094 rfl
      show wp _ _ 260 14 [(0, .ref r0), (1, vI a1)] [vI z2095] _ H2089 _
      refine wp_of e260 c260_14 (rw_istore_n (pc' := 15) (z := z2095) (L' := [(2, vI z2095), (0, .ref r0), (1, vI a1)]) rfl rfl rfl ?_)
      refine wp_of e260 c260_15 (rw_iload_n (pc' := 16) (z := z2095) rfl rfl ?_)
      refine wp_of e260 c260_16 (rw_if_le (p1 := 26) (p2 := 19) (by decide) rfl ⟨by omega, by omega⟩ (fun c2436 => ?_) (fun c2436 => ?_))
      · exfalso
        omega
      · refine wp_of e260 c260_19 (rw_aload_n (pc' := 20) (v := .ref r0) rfl rfl rfl ?_)
        refine wp_of e260 c260_20 (rw_iload_n (pc' := 21) (z := z2095) rfl rfl ?_)
        refine wp_of e260 c260_21 (xc_V (pc' := 24) (r := r0) (as := [vI z2095]) (st := []) (lm_9_54) rfl rfl (Nat.le_of_ble_eq_true rfl) w2093 g0 sh_42 (by decide) rfl (by decide) (u_170  w2093 g0 ⟨by omega, by omega⟩) (fun R2437 T2438 H2439 p2440 => ?_))
        obtain ⟨e2441, w2443, f2444, z2445, e2442, b2446, p2447⟩ := p2440
        subst e2441
        subst e2442
        obtain ⟨a2448, a2449, a2450⟩ := p2447
        have f2451 := f2435.tr f2444 rfl
        show wp _ _ 260 24 [(2, vI z2095), (0, .ref r0), (1, vI a1)] [vI z2445] _ H2439 _
        refine wp_of e260 c260_24 (rw_i2l (pc' := 25) rfl ⟨by omega, by omega⟩ ?_)
        have k2452 : wKI H2439 r0 = wKI H2089 r0 := (wKI_fr w2093 g0 f2444 rfl)
        have h2453 : KNN T H2439 r0 e d := (KNN_fr w2093 g0 f2444 rfl a2113)
        exact wp_lreturn e260 c260_25 rfl ⟨rfl, w2443, f2451, z2445, rfl, ⟨by omega, by omega⟩, (Or.inl ⟨by omega, by omega, by omega, h2453⟩)⟩
