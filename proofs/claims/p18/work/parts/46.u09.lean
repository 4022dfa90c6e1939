/-! StrikeAwakeModel.worlds()I  -/
abbrev uq_240 (r0 : Nat) (e : xD) (d : xD) (T : wq_T) (H : wq_H) : Option Value → wq_T → wq_H → Prop := fun r T' H' => T = T' ∧ WT T H' ∧ wfr [(42, 0), (42, 1), (42, 2), (42, 28), (42, 29), (51, 999), (52, 999)] T H H' ∧ ∃ z : Int, some (vI z) = r ∧ ((-2147483648) ≤ z ∧ z ≤ 2147483647) ∧ (((z = -1) ∧ (wKI H' r0 = 1) ∧ (H r0 3 = -1 ∨ 20000 < xlots d) ∧ KNN T H' r0 e d) ∨ ((wKI H' r0 = 1) ∧ (H r0 3 ≠ -1 ∧ xlots d ≤ 20000) ∧ (z = xcn (xwf e d) (xlots d).toNat) ∧ KNN T H' r0 e d))
set_option maxHeartbeats 4000000 in
theorem u_240 {kt : Nat → Option mc_E} {T : wq_T} {H : wq_H} {r0 : Nat} {e : xD} {d : xD} (hW : WT T H) (g0 : T.2.2.2 r0 = some 42) (p0 : wKI H r0 = 1) (p1 : XW d) (p2 : ∀ h : Nat, d 0 0 ≤ (h : Int) → h < 24 → e 13 h = 0) (p3 : XN d) (p4 : ∀ h : Nat, h < 24 → 0 ≤ e 13 h ∧ e 13 h ≤ 100) (hRB_r0 : RB T H r0 e d) (hKNN_r0 : KNN T H r0 e d) : wpc kt 8 240 [.ref r0] T H (uq_240 r0 e d T H) := by
  refine wp_enter e240 (Nat.le_of_ble_eq_true rfl) rfl ?_
  have f0 : wfr [(42, 0), (42, 1), (42, 2), (42, 28), (42, 29), (51, 999), (52, 999)] T H H := wfr.rf
  show wp _ _ 240 0 [(0, .ref r0)] [] _ H _
  have _b := RB_b hW hRB_r0
  have _nu := RB_n3 hRB_r0
  have _lm := RB_lm hRB_r0
  refine wp_of e240 c240_0 (rw_aload_n (pc' := 1) (v := .ref r0) rfl rfl rfl ?_)
  refine wp_of e240 c240_1 (rw_iconst (pc' := 2) rfl ?_)
  refine wp_of e240 c240_2 (xp_I (pc' := 5) lf_9_48 hW g0 sh_42 (by decide) (by decide) ty_42_0 rfl rfl (by decide) (by decide) ⟨by decide, by decide⟩ rfl (fun H1138 e1139 w1140 => ?_))
  have f1141 := f0.put' e1139 g0 rfl
  have k1142 : H1138 r0 0 = 0 := wq_u_s e1139
  refine wp_of e240 c240_5 (rw_aload_n (pc' := 6) (v := .ref r0) rfl rfl rfl ?_)
  refine wp_of e240 c240_6 (rw_aload_n (pc' := 7) (v := .ref r0) rfl rfl rfl ?_)
  have k1143 : H1138 r0 3 = H r0 3 := (wq_u_j e1139 rfl)
  refine wp_of e240 c240_7 (xg_O (pc' := 10) lf_9_337 w1140 g0 sh_42 (by decide) (by decide) ty_42_3 rfl rfl (fun q1145 => ?_) (fun r1144 q1145 g1146 => ?_))
  · refine wp_of e240 c240_10 (rw_ifnull_n (p1 := 17) (p2 := 13) (by decide) rfl ?_)
    refine wp_of e240 c240_17 (rw_iconst (pc' := 18) rfl ?_)
    have k1147 : wKI H1138 r0 = wKI H r0 := (wKI_fr hW g0 ((wfr.rf (l := [(42, 0)])).put' e1139 g0 rfl) rfl)
    have h1148 : RB T H1138 r0 e d := (RB_fr hW g0 ((wfr.rf (l := [(42, 0)])).put' e1139 g0 rfl) rfl hRB_r0)
    have h1149 : KNN T H1138 r0 e d := (KNN_fr hW g0 ((wfr.rf (l := [(42, 0)])).put' e1139 g0 rfl) rfl hKNN_r0)
    refine wp_of e240 c240_18 (xc_V (pc' := 21) (r := r0) (as := [vI 0]) (st := []) (lm_9_433) rfl rfl (Nat.le_of_ble_eq_true rfl) w1140 g0 sh_42 (by decide) rfl (by decide) (u_241 (e := e) (d := d) w1140 g0 ⟨by decide, by decide⟩ (by omega) (by omega) (by assumption) (by assumption) (by assumption) (by assumption) h1148 h1149) (fun R1150 T1151 H1152 p1153 => ?_))
    obtain ⟨e1154, w1156, f1157, z1158, e1155, b1159, p1160⟩ := p1153
    subst e1154
    subst e1155
    rcases p1160 with ⟨a1161, a1162, a1163, a1164, a1165, a1166, a1167, a1168, a1169⟩ | ⟨a1170, a1171, a1172, a1173, a1174, a1175, a1176⟩
    · exfalso
      omega
    · have f1177 := f1141.tr f1157 rfl
      show wp _ _ 240 21 [(0, .ref r0)] [vI z1158] _ H1152 _
      refine wp_of e240 c240_21 (rw_istore_n (pc' := 22) (z := z1158) (L' := [(1, vI z1158), (0, .ref r0)]) rfl rfl rfl ?_)
      refine wp_of e240 c240_22 (rw_iload_n (pc' := 23) (z := z1158) rfl rfl ?_)
      refine wp_of e240 c240_23 (rw_if_le (p1 := 34) (p2 := 26) (by decide) rfl ⟨Int.le_trans (by decide) b1159.1, Int.le_trans b1159.2 (by decide)⟩ (fun c1178 => ?_) (fun c1178 => ?_))
      · exfalso
        omega
      · refine wp_of e240 c240_26 (rw_aload_n (pc' := 27) (v := .ref r0) rfl rfl rfl ?_)
        refine wp_of e240 c240_27 (rw_iload_n (pc' := 28) (z := z1158) rfl rfl ?_)
        refine wp_of e240 c240_28 (xc_V (pc' := 31) (r := r0) (as := [vI z1158]) (st := []) (lm_9_54) rfl rfl (Nat.le_of_ble_eq_true rfl) w1156 g0 sh_42 (by decide) rfl (by decide) (u_170  w1156 g0 ⟨Int.le_trans (by decide) b1159.1, Int.le_trans b1159.2 (by decide)⟩) (fun R1179 T1180 H1181 p1182 => ?_))
        obtain ⟨e1183, w1185, f1186, z1187, e1184, b1188, p1189⟩ := p1182
        subst e1183
        subst e1184
        obtain ⟨a1190, a1191, a1192⟩ := p1189
        have f1193 := f1177.tr f1186 rfl
        show wp _ _ 240 31 [(1, vI z1158), (0, .ref r0)] [vI z1187] _ H1181 _
        refine wp_of e240 c240_31 (rw_goto (p1 := 42) (by decide) ?_)
        have k1194 : wKI H1181 r0 = wKI H1152 r0 := (wKI_fr w1156 g0 f1186 rfl)
        have h1195 : KNN T H1181 r0 e d := (KNN_fr w1156 g0 f1186 rfl a1176)
        exact wp_ireturn e240 c240_42 rfl ⟨rfl, w1185, f1193, z1187, rfl, ⟨b1188.1, b1188.2⟩, (Or.inl ⟨by omega, by omega, by omega, h1195⟩)⟩
  · refine wp_of e240 c240_10 (rw_ifnull_r (p1 := 17) (p2 := 13) (by decide) rfl ?_)
    refine wp_of e240 c240_13 (rw_iconst (pc' := 14) rfl ?_)
    refine wp_of e240 c240_14 (rw_goto (p1 := 18) (by decide) ?_)
    have k1196 : wKI H1138 r0 = wKI H r0 := (wKI_fr hW g0 ((wfr.rf (l := [(42, 0)])).put' e1139 g0 rfl) rfl)
    have h1197 : RB T H1138 r0 e d := (RB_fr hW g0 ((wfr.rf (l := [(42, 0)])).put' e1139 g0 rfl) rfl hRB_r0)
    have h1198 : KNN T H1138 r0 e d := (KNN_fr hW g0 ((wfr.rf (l := [(42, 0)])).put' e1139 g0 rfl) rfl hKNN_r0)
    refine wp_of e240 c240_18 (xc_V (pc' := 21) (r := r0) (as := [vI 1]) (st := []) (lm_9_433) rfl rfl (Nat.le_of_ble_eq_true rfl) w1140 g0 sh_42 (by decide) rfl (by decide) (u_241 (e := e) (d := d) w1140 g0 ⟨by decide, by decide⟩ (by omega) (by omega) (by assumption) (by assumption) (by assumption) (by assumption) h1197 h1198) (fun R1199 T1200 H1201 p1202 => ?_))
    obtain ⟨e1203, w1205, f1206, z1207, e1204, b1208, p1209⟩ := p1202
    subst e1203
    subst e1204
    rcases p1209 with ⟨a1210, a1211, a1212, a1213, a1214, a1215, a1216, a1217, a1218⟩ | ⟨a1219, a1220, a1221, a1222, a1223, a1224, a1225⟩
    · have f1226 := f1141.tr f1206 rfl
      show wp _ _ 240 21 [(0, .ref r0)] [vI z1207] _ H1201 _
      refine wp_of e240 c240_21 (rw_istore_n (pc' := 22) (z := z1207) (L' := [(1, vI z1207), (0, .ref r0)]) rfl rfl rfl ?_)
      refine wp_of e240 c240_22 (rw_iload_n (pc' := 23) (z := z1207) rfl rfl ?_)
      refine wp_of e240 c240_23 (rw_if_le (p1 := 34) (p2 := 26) (by decide) rfl ⟨Int.le_trans (by decide) b1208.1, Int.le_trans b1208.2 (by decide)⟩ (fun c1227 => ?_) (fun c1227 => ?_))
      · have _kb := (a1218).1
        refine wp_of e240 c240_34 (rw_aload_n (pc' := 35) (v := .ref r0) rfl rfl rfl ?_)
        refine wp_of e240 c240_35 (rw_aload_n (pc' := 36) (v := .ref r0) rfl rfl rfl ?_)
        refine wp_of e240 c240_36 (xg_I (pc' := 39) lf_9_422 w1205 g0 sh_42 (by decide) (by decide) ty_42_29 rfl rfl (fun b1228 b1229 => ?_))
        refine wp_of e240 c240_39 (xc_V (pc' := 42) (r := r0) (as := [vI (H1201 r0 29)]) (st := []) (lm_9_58) rfl rfl (Nat.le_of_ble_eq_true rfl) w1205 g0 sh_42 (by decide) rfl (by decide) (u_209  w1205 g0 ⟨Int.le_trans (by decide) b1228, Int.le_trans b1229 (by decide)⟩) (fun R1230 T1231 H1232 p1233 => ?_))
        obtain ⟨e1234, w1236, f1237, z1238, e1235, b1239, p1240⟩ := p1233
        subst e1234
        subst e1235
        obtain ⟨a1241, a1242, a1243⟩ := p1240
        have f1244 := f1226.tr f1237 rfl
        show wp _ _ 240 42 [(1, vI z1207), (0, .ref r0)] [vI z1238] _ H1232 _
        have k1245 : wKI H1232 r0 = wKI H1201 r0 := (wKI_fr w1205 g0 f1237 rfl)
        have h1246 : KNN T H1232 r0 e d := (KNN_fr w1205 g0 f1237 rfl a1217)
        exact wp_ireturn e240 c240_42 rfl ⟨rfl, w1236, f1244, z1238, rfl, ⟨b1239.1, b1239.2⟩, (Or.inr ⟨by omega, by omega, by omega, h1246⟩)⟩
      · exfalso
        omega
    · have f1247 := f1141.tr f1206 rfl
      show wp _ _ 240 21 [(0, .ref r0)] [vI z1207] _ H1201 _
      refine wp_of e240 c240_21 (rw_istore_n (pc' := 22) (z := z1207) (L' := [(1, vI z1207), (0, .ref r0)]) rfl rfl rfl ?_)
      refine wp_of e240 c240_22 (rw_iload_n (pc' := 23) (z := z1207) rfl rfl ?_)
      refine wp_of e240 c240_23 (rw_if_le (p1 := 34) (p2 := 26) (by decide) rfl ⟨Int.le_trans (by decide) b1208.1, Int.le_trans b1208.2 (by decide)⟩ (fun c1248 => ?_) (fun c1248 => ?_))
      · exfalso
        omega
      · refine wp_of e240 c240_26 (rw_aload_n (pc' := 27) (v := .ref r0) rfl rfl rfl ?_)
        refine wp_of e240 c240_27 (rw_iload_n (pc' := 28) (z := z1207) rfl rfl ?_)
        refine wp_of e240 c240_28 (xc_V (pc' := 31) (r := r0) (as := [vI z1207]) (st := []) (lm_9_54) rfl rfl (Nat.le_of_ble_eq_true rfl) w1205 g0 sh_42 (by decide) rfl (by decide) (u_170  w1205 g0 ⟨Int.le_trans (by decide) b1208.1, Int.le_trans b1208.2 (by decide)⟩) (fun R1249 T1250 H1251 p1252 => ?_))
        obtain ⟨e1253, w1255, f1256, z1257, e1254, b1258, p1259⟩ := p1252
        subst e1253
        subst e1254
        obtain ⟨a1260, a1261, a1262⟩ := p1259
        have f1263 := f1247.tr f1256 rfl
        show wp _ _ 240 31 [(1, vI z1207), (0, .ref r0)] [vI z1257] _ H1251 _
        refine wp_of e240 c240_31 (rw_goto (p1 := 42) (by decide) ?_)
        have k1264 : wKI H1251 r0 = wKI H1201 r0 := (wKI_fr w1205 g0 f1256 rfl)
        have h1265 : KNN T H1251 r0 e d := (KNN_fr w1205 g0 f1256 rfl a1225)
        exact wp_ireturn e240 c240_42 rfl ⟨rfl, w1255, f1263, z1257, rfl, ⟨b1258.1, b1258.2⟩, (Or.inl ⟨by omega, by omega, by omega, h1265⟩)⟩
/-! StrikeAwakeModel.can()I  -/
abbrev uq_244 (r0 : Nat) (e : xD) (d : xD) (T : wq_T) (H : wq_H) : Option Value → wq_T → wq_H → Prop := fun r T' H' => T = T' ∧ WT T H' ∧ wfr [(42, 0), (42, 1), (42, 2), (42, 28), (42, 29), (51, 999), (52, 999)] T H H' ∧ ∃ z : Int, some (vI z) = r ∧ ((-2147483648) ≤ z ∧ z ≤ 2147483647) ∧ (((z = -1) ∧ (wKI H' r0 = 1) ∧ (H r0 3 = -1 ∨ 20000 < xlots d) ∧ KNN T H' r0 e d) ∨ ((0 ≤ z ∧ z ≤ 1) ∧ (wKI H' r0 = 1) ∧ (H r0 3 ≠ -1 ∧ xlots d ≤ 20000) ∧ ((z = 1 ∧ 0 < xcn (xwf e d) (xlots d).toNat) ∨ (z = 0 ∧ xcn (xwf e d) (xlots d).toNat ≤ 0)) ∧ KNN T H' r0 e d))
set_option maxHeartbeats 4000000 in
theorem u_244 {kt : Nat → Option mc_E} {T : wq_T} {H : wq_H} {r0 : Nat} {e : xD} {d : xD} (hW : WT T H) (g0 : T.2.2.2 r0 = some 42) (p0 : wKI H r0 = 1) (p1 : XW d) (p2 : ∀ h : Nat, d 0 0 ≤ (h : Int) → h < 24 → e 13 h = 0) (p3 : XN d) (p4 : ∀ h : Nat, h < 24 → 0 ≤ e 13 h ∧ e 13 h ≤ 100) (hRB_r0 : RB T H r0 e d) (hKNN_r0 : KNN T H r0 e d) : wpc kt 8 244 [.ref r0] T H (uq_244 r0 e d T H) := by
  refine wp_enter e244 (Nat.le_of_ble_eq_true rfl) rfl ?_
  have f0 : wfr [(42, 0), (42, 1), (42, 2), (42, 28), (42, 29), (51, 999), (52, 999)] T H H := wfr.rf
  show wp _ _ 244 0 [(0, .ref r0)] [] _ H _
  have _b := RB_b hW hRB_r0
  have _nu := RB_n3 hRB_r0
  have _lm := RB_lm hRB_r0
  refine wp_of e244 c244_0 (rw_aload_n (pc' := 1) (v := .ref r0) rfl rfl rfl ?_)
  refine wp_of e244 c244_1 (rw_iconst (pc' := 2) rfl ?_)
  refine wp_of e244 c244_2 (xp_I (pc' := 5) lf_9_48 hW g0 sh_42 (by decide) (by decide) ty_42_0 rfl rfl (by decide) (by decide) ⟨by decide, by decide⟩ rfl (fun H1170 e1171 w1172 => ?_))
  have f1173 := f0.put' e1171 g0 rfl
  have k1174 : H1170 r0 0 = 0 := wq_u_s e1171
  refine wp_of e244 c244_5 (rw_aload_n (pc' := 6) (v := .ref r0) rfl rfl rfl ?_)
  refine wp_of e244 c244_6 (rw_aload_n (pc' := 7) (v := .ref r0) rfl rfl rfl ?_)
  have k1175 : H1170 r0 3 = H r0 3 := (wq_u_j e1171 rfl)
  refine wp_of e244 c244_7 (xg_O (pc' := 10) lf_9_337 w1172 g0 sh_42 (by decide) (by decide) ty_42_3 rfl rfl (fun q1177 => ?_) (fun r1176 q1177 g1178 => ?_))
  · refine wp_of e244 c244_10 (rw_ifnull_n (p1 := 17) (p2 := 13) (by decide) rfl ?_)
    refine wp_of e244 c244_17 (rw_iconst (pc' := 18) rfl ?_)
    have k1179 : wKI H1170 r0 = wKI H r0 := (wKI_fr hW g0 ((wfr.rf (l := [(42, 0)])).put' e1171 g0 rfl) rfl)
    have h1180 : RB T H1170 r0 e d := (RB_fr hW g0 ((wfr.rf (l := [(42, 0)])).put' e1171 g0 rfl) rfl hRB_r0)
    have h1181 : KNN T H1170 r0 e d := (KNN_fr hW g0 ((wfr.rf (l := [(42, 0)])).put' e1171 g0 rfl) rfl hKNN_r0)
    refine wp_of e244 c244_18 (xc_V (pc' := 21) (r := r0) (as := [vI 0]) (st := []) (lm_9_433) rfl rfl (Nat.le_of_ble_eq_true rfl) w1172 g0 sh_42 (by decide) rfl (by decide) (u_241 (e := e) (d := d) w1172 g0 ⟨by decide, by decide⟩ (by omega) (by omega) (by assumption) (by assumption) (by assumption) (by assumption) h1180 h1181) (fun R1182 T1183 H1184 p1185 => ?_))
    obtain ⟨e1186, w1188, f1189, z1190, e1187, b1191, p1192⟩ := p1185
    subst e1186
    subst e1187
    rcases p1192 with ⟨a1193, a1194, a1195, a1196, a1197, a1198, a1199, a1200, a1201⟩ | ⟨a1202, a1203, a1204, a1205, a1206, a1207, a1208⟩
    · exfalso
      omega
    · have f1209 := f1173.tr f1189 rfl
      show wp _ _ 244 21 [(0, .ref r0)] [vI z1190] _ H1184 _
      refine wp_of e244 c244_21 (rw_istore_n (pc' := 22) (z := z1190) (L' := [(1, vI z1190), (0, .ref r0)]) rfl rfl rfl ?_)
      refine wp_of e244 c244_22 (rw_iload_n (pc' := 23) (z := z1190) rfl rfl ?_)
      refine wp_of e244 c244_23 (rw_if_le (p1 := 34) (p2 := 26) (by decide) rfl ⟨Int.le_trans (by decide) b1191.1, Int.le_trans b1191.2 (by decide)⟩ (fun c1210 => ?_) (fun c1210 => ?_))
      · exfalso
        omega
      · refine wp_of e244 c244_26 (rw_aload_n (pc' := 27) (v := .ref r0) rfl rfl rfl ?_)
        refine wp_of e244 c244_27 (rw_iload_n (pc' := 28) (z := z1190) rfl rfl ?_)
        refine wp_of e244 c244_28 (xc_V (pc' := 31) (r := r0) (as := [vI z1190]) (st := []) (lm_9_54) rfl rfl (Nat.le_of_ble_eq_true rfl) w1188 g0 sh_42 (by decide) rfl (by decide) (u_170  w1188 g0 ⟨Int.le_trans (by decide) b1191.1, Int.le_trans b1191.2 (by decide)⟩) (fun R1211 T1212 H1213 p1214 => ?_))
        obtain ⟨e1215, w1217, f1218, z1219, e1216, b1220, p1221⟩ := p1214
        subst e1215
        subst e1216
        obtain ⟨a1222, a1223, a1224⟩ := p1221
        have f1225 := f1209.tr f1218 rfl
        show wp _ _ 244 31 [(1, vI z1190), (0, .ref r0)] [vI z1219] _ H1213 _
        refine wp_of e244 c244_31 (rw_goto (p1 := 50) (by decide) ?_)
        have k1226 : wKI H1213 r0 = wKI H1184 r0 := (wKI_fr w1188 g0 f1218 rfl)
        have h1227 : KNN T H1213 r0 e d := (KNN_fr w1188 g0 f1218 rfl a1208)
        exact wp_ireturn e244 c244_50 rfl ⟨rfl, w1217, f1225, z1219, rfl, ⟨b1220.1, b1220.2⟩, (Or.inl ⟨by omega, by omega, by omega, h1227⟩)⟩
  · refine wp_of e244 c244_10 (rw_ifnull_r (p1 := 17) (p2 := 13) (by decide) rfl ?_)
    refine wp_of e244 c244_13 (rw_iconst (pc' := 14) rfl ?_)
    refine wp_of e244 c244_14 (rw_goto (p1 := 18) (by decide) ?_)
    have k1228 : wKI H1170 r0 = wKI H r0 := (wKI_fr hW g0 ((wfr.rf (l := [(42, 0)])).put' e1171 g0 rfl) rfl)
    have h1229 : RB T H1170 r0 e d := (RB_fr hW g0 ((wfr.rf (l := [(42, 0)])).put' e1171 g0 rfl) rfl hRB_r0)
    have h1230 : KNN T H1170 r0 e d := (KNN_fr hW g0 ((wfr.rf (l := [(42, 0)])).put' e1171 g0 rfl) rfl hKNN_r0)
    refine wp_of e244 c244_18 (xc_V (pc' := 21) (r := r0) (as := [vI 1]) (st := []) (lm_9_433) rfl rfl (Nat.le_of_ble_eq_true rfl) w1172 g0 sh_42 (by decide) rfl (by decide) (u_241 (e := e) (d := d) w1172 g0 ⟨by decide, by decide⟩ (by omega) (by omega) (by assumption) (by assumption) (by assumption) (by assumption) h1229 h1230) (fun R1231 T1232 H1233 p1234 => ?_))
    obtain ⟨e1235, w1237, f1238, z1239, e1236, b1240, p1241⟩ := p1234
    subst e1235
    subst e1236
    rcases p1241 with ⟨a1242, a1243, a1244, a1245, a1246, a1247, a1248, a1249, a1250⟩ | ⟨a1251, a1252, a1253, a1254, a1255, a1256, a1257⟩
    · have f1258 := f1173.tr f1238 rfl
      show wp _ _ 244 21 [(0, .ref r0)] [vI z1239] _ H1233 _
      refine wp_of e244 c244_21 (rw_istore_n (pc' := 22) (z := z1239) (L' := [(1, vI z1239), (0, .ref r0)]) rfl rfl rfl ?_)
      refine wp_of e244 c244_22 (rw_iload_n (pc' := 23) (z := z1239) rfl rfl ?_)
      refine wp_of e244 c244_23 (rw_if_le (p1 := 34) (p2 := 26) (by decide) rfl ⟨Int.le_trans (by decide) b1240.1, Int.le_trans b1240.2 (by decide)⟩ (fun c1259 => ?_) (fun c1259 => ?_))
      · have _kb := (a1250).1
        refine wp_of e244 c244_34 (rw_aload_n (pc' := 35) (v := .ref r0) rfl rfl rfl ?_)
        refine wp_of e244 c244_35 (rw_aload_n (pc' := 36) (v := .ref r0) rfl rfl rfl ?_)
        refine wp_of e244 c244_36 (xg_I (pc' := 39) lf_9_422 w1237 g0 sh_42 (by decide) (by decide) ty_42_29 rfl rfl (fun b1260 b1261 => ?_))
        refine wp_of e244 c244_39 (rw_if_le (p1 := 46) (p2 := 42) (by decide) rfl ⟨Int.le_trans (by decide) b1260, Int.le_trans b1261 (by decide)⟩ (fun c1262 => ?_) (fun c1262 => ?_))
        · refine wp_of e244 c244_46 (rw_iconst (pc' := 47) rfl ?_)
          refine wp_of e244 c244_47 (xc_V (pc' := 50) (r := r0) (as := [vI 0]) (st := []) (lm_9_58) rfl rfl (Nat.le_of_ble_eq_true rfl) w1237 g0 sh_42 (by decide) rfl (by decide) (u_209  w1237 g0 ⟨by decide, by decide⟩) (fun R1263 T1264 H1265 p1266 => ?_))
          obtain ⟨e1267, w1269, f1270, z1271, e1268, b1272, p1273⟩ := p1266
          subst e1267
          subst e1268
          obtain ⟨a1274, a1275, a1276⟩ := p1273
          have f1277 := f1258.tr f1270 rfl
          show wp _ _ 244 50 [(1, vI z1239), (0, .ref r0)] [vI z1271] _ H1265 _
          have k1278 : wKI H1265 r0 = wKI H1233 r0 := (wKI_fr w1237 g0 f1270 rfl)
          have h1279 : KNN T H1265 r0 e d := (KNN_fr w1237 g0 f1270 rfl a1249)
          exact wp_ireturn e244 c244_50 rfl ⟨rfl, w1269, f1277, z1271, rfl, ⟨b1272.1, b1272.2⟩, (Or.inr ⟨by omega, by omega, by omega, by omega, h1279⟩)⟩
        · refine wp_of e244 c244_42 (rw_iconst (pc' := 43) rfl ?_)
          refine wp_of e244 c244_43 (rw_goto (p1 := 47) (by decide) ?_)
          refine wp_of e244 c244_47 (xc_V (pc' := 50) (r := r0) (as := [vI 1]) (st := []) (lm_9_58) rfl rfl (Nat.le_of_ble_eq_true rfl) w1237 g0 sh_42 (by decide) rfl (by decide) (u_209  w1237 g0 ⟨by decide, by decide⟩) (fun R1280 T1281 H1282 p1283 => ?_))
          obtain ⟨e1284, w1286, f1287, z1288, e1285, b1289, p1290⟩ := p1283
          subst e1284
          subst e1285
          obtain ⟨a1291, a1292, a1293⟩ := p1290
          have f1294 := f1258.tr f1287 rfl
          show wp _ _ 244 50 [(1, vI z1239), (0, .ref r0)] [vI z1288] _ H1282 _
          have k1295 : wKI H1282 r0 = wKI H1233 r0 := (wKI_fr w1237 g0 f1287 rfl)
          have h1296 : KNN T H1282 r0 e d := (KNN_fr w1237 g0 f1287 rfl a1249)
          exact wp_ireturn e244 c244_50 rfl ⟨rfl, w1286, f1294, z1288, rfl, ⟨b1289.1, b1289.2⟩, (Or.inr ⟨by omega, by omega, by omega, by omega, h1296⟩)⟩
      · exfalso
        omega
    · have f1297 := f1173.tr f1238 rfl
      show wp _ _ 244 21 [(0, .ref r0)] [vI z1239] _ H1233 _
      refine wp_of e244 c244_21 (rw_istore_n (pc' := 22) (z := z1239) (L' := [(1, vI z1239), (0, .ref r0)]) rfl rfl rfl ?_)
      refine wp_of e244 c244_22 (rw_iload_n (pc' := 23) (z := z1239) rfl rfl ?_)
      refine wp_of e244 c244_23 (rw_if_le (p1 := 34) (p2 := 26) (by decide) rfl ⟨Int.le_trans (by decide) b1240.1, Int.le_trans b1240.2 (by decide)⟩ (fun c1298 => ?_) (fun c1298 => ?_))
      · exfalso
        omega
      · refine wp_of e244 c244_26 (rw_aload_n (pc' := 27) (v := .ref r0) rfl rfl rfl ?_)
        refine wp_of e244 c244_27 (rw_iload_n (pc' := 28) (z := z1239) rfl rfl ?_)
        refine wp_of e244 c244_28 (xc_V (pc' := 31) (r := r0) (as := [vI z1239]) (st := []) (lm_9_54) rfl rfl (Nat.le_of_ble_eq_true rfl) w1237 g0 sh_42 (by decide) rfl (by decide) (u_170  w1237 g0 ⟨Int.le_trans (by decide) b1240.1, Int.le_trans b1240.2 (by decide)⟩) (fun R1299 T1300 H1301 p1302 => ?_))
        obtain ⟨e1303, w1305, f1306, z1307, e1304, b1308, p1309⟩ := p1302
        subst e1303
        subst e1304
        obtain ⟨a1310, a1311, a1312⟩ := p1309
        have f1313 := f1297.tr f1306 rfl
        show wp _ _ 244 31 [(1, vI z1239), (0, .ref r0)] [vI z1307] _ H1301 _
        refine wp_of e244 c244_31 (rw_goto (p1 := 50) (by decide) ?_)
        have k1314 : wKI H1301 r0 = wKI H1233 r0 := (wKI_fr w1237 g0 f1306 rfl)
        have h1315 : KNN T H1301 r0 e d := (KNN_fr w1237 g0 f1306 rfl a1257)
        exact wp_ireturn e244 c244_50 rfl ⟨rfl, w1305, f1313, z1307, rfl, ⟨b1308.1, b1308.2⟩, (Or.inl ⟨by omega, by omega, by omega, h1315⟩)⟩
/-! StrikeAwakeModel.world(II)I  -/
abbrev uq_245 (r0 : Nat) (a1 : Int) (a2 : Int) (e : xD) (d : xD) (T : wq_T) (H : wq_H) : Option Value → wq_T → wq_H → Prop := fun r T' H' => T = T' ∧ WT T H' ∧ wfr [(42, 0), (42, 1), (42, 2), (42, 28), (42, 29), (51, 999), (52, 999)] T H H' ∧ ∃ z : Int, some (vI z) = r ∧ ((-2147483648) ≤ z ∧ z ≤ 2147483647) ∧ (((z = -1) ∧ (wKI H' r0 = 1) ∧ (((a2 < 0 ∨ d 0 3 ≤ a2) ∨ a1 < 0) ∨ 20000 < xlots d ∨ xcn (xwf e d) (xlots d).toNat ≤ a1) ∧ KNN T H' r0 e d) ∨ ((wKI H' r0 = 1) ∧ (((0 ≤ a2 ∧ a2 < d 0 3) ∧ 0 ≤ a1) ∧ xlots d ≤ 20000 ∧ a1 < xcn (xwf e d) (xlots d).toNat) ∧ (z = xlot d ((xith (xwf e d) a1 (xlots d).toNat : Nat) : Int) (a2).toNat) ∧ KNN T H' r0 e d))
set_option maxHeartbeats 4000000 in
theorem u_245 {kt : Nat → Option mc_E} {T : wq_T} {H : wq_H} {r0 : Nat} {a1 : Int} {a2 : Int} {e : xD} {d : xD} (hW : WT T H) (g0 : T.2.2.2 r0 = some 42) (i1 : (-2147483648) ≤ a1 ∧ a1 ≤ 2147483647) (i2 : (-2147483648) ≤ a2 ∧ a2 ≤ 2147483647) (p0 : wKI H r0 = 1) (p1 : XW d) (p2 : ∀ h : Nat, d 0 0 ≤ (h : Int) → h < 24 → e 13 h = 0) (p3 : XN d) (p4 : ∀ h : Nat, h < 24 → 0 ≤ e 13 h ∧ e 13 h ≤ 100) (hRB_r0 : RB T H r0 e d) (hKNN_r0 : KNN T H r0 e d) : wpc kt 8 245 [.ref r0, vI a1, vI a2] T H (uq_245 r0 a1 a2 e d T H) := by
  refine wp_enter e245 (Nat.le_of_ble_eq_true rfl) rfl ?_
  have f0 : wfr [(42, 0), (42, 1), (42, 2), (42, 28), (42, 29), (51, 999), (52, 999)] T H H := wfr.rf
  show wp _ _ 245 0 [(0, .ref r0), (1, vI a1), (2, vI a2)] [] _ H _
  have _b := RB_b hW hRB_r0
  have _nu := RB_n3 hRB_r0
  have _lm := RB_lm hRB_r0
  refine wp_of e245 c245_0 (rw_aload_n (pc' := 1) (v := .ref r0) rfl rfl rfl ?_)
  refine wp_of e245 c245_1 (rw_iconst (pc' := 2) rfl ?_)
  refine wp_of e245 c245_2 (xp_I (pc' := 5) lf_9_48 hW g0 sh_42 (by decide) (by decide) ty_42_0 rfl rfl (by decide) (by decide) ⟨by decide, by decide⟩ rfl (fun H1334 e1335 w1336 => ?_))
  have f1337 := f0.put' e1335 g0 rfl
  have k1338 : H1334 r0 0 = 0 := wq_u_s e1335
  refine wp_of e245 c245_5 (rw_aload_n (pc' := 6) (v := .ref r0) rfl rfl rfl ?_)
  refine wp_of e245 c245_6 (rw_aload_n (pc' := 7) (v := .ref r0) rfl rfl rfl ?_)
  refine wp_of e245 c245_7 (rw_iload_n (pc' := 8) (z := a2) rfl rfl ?_)
  have h1339 : RB T H1334 r0 e d := (RB_fr hW g0 ((wfr.rf (l := [(42, 0)])).put' e1335 g0 rfl) rfl hRB_r0)
  refine wp_of e245 c245_8 (xc_V (pc' := 11) (r := r0) (as := [vI a2]) (st := [.ref r0]) (lm_9_364) rfl rfl (Nat.le_of_ble_eq_true rfl) w1336 g0 sh_42 (by decide) rfl (by decide) (u_213 (e := e) (d := d) w1336 g0 ⟨i2.1, i2.2⟩ h1339) (fun R1340 T1341 H1342 p1343 => ?_))
  obtain ⟨e1344, e1346, z1347, e1345, b1348, p1349⟩ := p1343
  subst e1344
  subst e1345
  subst e1346
  rcases p1349 with ⟨a1350, a1351⟩ | ⟨a1352, a1353⟩
  · show wp _ _ 245 11 [(0, .ref r0), (1, vI a1), (2, vI a2)] [vI z1347, .ref r0] _ H1334 _
    refine wp_of e245 c245_11 (rw_if_eq (p1 := 22) (p2 := 14) (by decide) rfl ⟨Int.le_trans (by decide) b1348.1, Int.le_trans b1348.2 (by decide)⟩ (fun c1354 => ?_) (fun c1354 => ?_))
    · exfalso
      omega
    · refine wp_of e245 c245_14 (rw_iload_n (pc' := 15) (z := a1) rfl rfl ?_)
      refine wp_of e245 c245_15 (rw_if_lt (p1 := 22) (p2 := 18) (by decide) rfl ⟨i1.1, i1.2⟩ (fun c1355 => ?_) (fun c1355 => ?_))
      · refine wp_of e245 c245_22 (rw_iconst (pc' := 23) rfl ?_)
        have k1356 : H1334 r0 3 = H r0 3 := (wq_u_j e1335 rfl)
        have k1357 : wKI H1334 r0 = wKI H r0 := (wKI_fr hW g0 ((wfr.rf (l := [(42, 0)])).put' e1335 g0 rfl) rfl)
        have h1358 : KNN T H1334 r0 e d := (KNN_fr hW g0 ((wfr.rf (l := [(42, 0)])).put' e1335 g0 rfl) rfl hKNN_r0)
        refine wp_of e245 c245_23 (xc_V (pc' := 26) (r := r0) (as := [vI 0]) (st := []) (lm_9_433) rfl rfl (Nat.le_of_ble_eq_true rfl) w1336 g0 sh_42 (by decide) rfl (by decide) (u_241 (e := e) (d := d) w1336 g0 ⟨by decide, by decide⟩ (by omega) (by omega) (by assumption) (by assumption) (by assumption) (by assumption) h1339 h1358) (fun R1359 T1360 H1361 p1362 => ?_))
        obtain ⟨e1363, w1365, f1366, z1367, e1364, b1368, p1369⟩ := p1362
        subst e1363
        subst e1364
        rcases p1369 with ⟨a1370, a1371, a1372, a1373, a1374, a1375, a1376, a1377, a1378⟩ | ⟨a1379, a1380, a1381, a1382, a1383, a1384, a1385⟩
        · exfalso
          omega
        · have f1386 := f1337.tr f1366 rfl
          show wp _ _ 245 26 [(0, .ref r0), (1, vI a1), (2, vI a2)] [vI z1367] _ H1361 _
          refine wp_of e245 c245_26 (rw_istore_n (pc' := 27) (z := z1367) (L' := [(3, vI z1367), (0, .ref r0), (1, vI a1), (2, vI a2)]) rfl rfl rfl ?_)
          refine wp_of e245 c245_27 (rw_iload_n (pc' := 28) (z := z1367) rfl rfl ?_)
          refine wp_of e245 c245_28 (rw_if_ne (p1 := 41) (p2 := 31) (by decide) rfl ⟨Int.le_trans (by decide) b1368.1, Int.le_trans b1368.2 (by decide)⟩ (fun c1387 => ?_) (fun c1387 => ?_))
          · refine wp_of e245 c245_41 (rw_iload_n (pc' := 42) (z := z1367) rfl rfl ?_)
            refine wp_of e245 c245_42 (rw_if_le (p1 := 51) (p2 := 45) (by decide) rfl ⟨Int.le_trans (by decide) b1368.1, Int.le_trans b1368.2 (by decide)⟩ (fun c1388 => ?_) (fun c1388 => ?_))
            · exfalso
              omega
            · refine wp_of e245 c245_45 (rw_aload_n (pc' := 46) (v := .ref r0) rfl rfl rfl ?_)
              refine wp_of e245 c245_46 (rw_iload_n (pc' := 47) (z := z1367) rfl rfl ?_)
              refine wp_of e245 c245_47 (xc_V (pc' := 50) (r := r0) (as := [vI z1367]) (st := []) (lm_9_54) rfl rfl (Nat.le_of_ble_eq_true rfl) w1365 g0 sh_42 (by decide) rfl (by decide) (u_170  w1365 g0 ⟨Int.le_trans (by decide) b1368.1, Int.le_trans b1368.2 (by decide)⟩) (fun R1389 T1390 H1391 p1392 => ?_))
              obtain ⟨e1393, w1395, f1396, z1397, e1394, b1398, p1399⟩ := p1392
              subst e1393
              subst e1394
              obtain ⟨a1400, a1401, a1402⟩ := p1399
              have f1403 := f1386.tr f1396 rfl
              show wp _ _ 245 50 [(3, vI z1367), (0, .ref r0), (1, vI a1), (2, vI a2)] [vI z1397] _ H1391 _
              have k1404 : wKI H1391 r0 = wKI H1361 r0 := (wKI_fr w1365 g0 f1396 rfl)
              have h1405 : KNN T H1391 r0 e d := (KNN_fr w1365 g0 f1396 rfl a1385)
              exact wp_ireturn e245 c245_50 rfl ⟨rfl, w1395, f1403, z1397, rfl, ⟨b1398.1, b1398.2⟩, (Or.inl ⟨by omega, by omega, by omega, h1405⟩)⟩
          · exfalso
            omega
      · refine wp_of e245 c245_18 (rw_iconst (pc' := 19) rfl ?_)
        refine wp_of e245 c245_19 (rw_goto (p1 := 23) (by decide) ?_)
        have k1406 : H1334 r0 3 = H r0 3 := (wq_u_j e1335 rfl)
        have k1407 : wKI H1334 r0 = wKI H r0 := (wKI_fr hW g0 ((wfr.rf (l := [(42, 0)])).put' e1335 g0 rfl) rfl)
        have h1408 : KNN T H1334 r0 e d := (KNN_fr hW g0 ((wfr.rf (l := [(42, 0)])).put' e1335 g0 rfl) rfl hKNN_r0)
        refine wp_of e245 c245_23 (xc_V (pc' := 26) (r := r0) (as := [vI 1]) (st := []) (lm_9_433) rfl rfl (Nat.le_of_ble_eq_true rfl) w1336 g0 sh_42 (by decide) rfl (by decide) (u_241 (e := e) (d := d) w1336 g0 ⟨by decide, by decide⟩ (by omega) (by omega) (by assumption) (by assumption) (by assumption) (by assumption) h1339 h1408) (fun R1409 T1410 H1411 p1412 => ?_))
        obtain ⟨e1413, w1415, f1416, z1417, e1414, b1418, p1419⟩ := p1412
        subst e1413
        subst e1414
        rcases p1419 with ⟨a1420, a1421, a1422, a1423, a1424, a1425, a1426, a1427, a1428⟩ | ⟨a1429, a1430, a1431, a1432, a1433, a1434, a1435⟩
        · have f1436 := f1337.tr f1416 rfl
          show wp _ _ 245 26 [(0, .ref r0), (1, vI a1), (2, vI a2)] [vI z1417] _ H1411 _
          refine wp_of e245 c245_26 (rw_istore_n (pc' := 27) (z := z1417) (L' := [(3, vI z1417), (0, .ref r0), (1, vI a1), (2, vI a2)]) rfl rfl rfl ?_)
          refine wp_of e245 c245_27 (rw_iload_n (pc' := 28) (z := z1417) rfl rfl ?_)
          refine wp_of e245 c245_28 (rw_if_ne (p1 := 41) (p2 := 31) (by decide) rfl ⟨Int.le_trans (by decide) b1418.1, Int.le_trans b1418.2 (by decide)⟩ (fun c1437 => ?_) (fun c1437 => ?_))
          · exfalso
            omega
          · have k1438 : H1411 r0 3 = H1334 r0 3 := (f1416 r0 3 _ g0 rfl)
            obtain ⟨r1439, q1440, g1441⟩ := (w1415.opt g0 (t' := 54) (n := 33) (j := 3) (p := 0) (q := 0) rfl (by decide) rfl).resolve_left (by omega)
            have h1442 : RB T H1411 r0 e d := (RB_fr w1336 g0 f1416 rfl h1339)
            have _kbb := a1428
            have _kb := _kbb.1
            have _n3 : H1411 r0 3 ≠ -1 := by omega
            have _rp := RB_at h1442 q1440
            have _k := RP_k _rp
            have _nb := xcn_b (f := xwf e d) (xlots d).toNat
            have h1443 : KL T H1411 r0 (xwf e d) (xlots d).toNat := _kbb.2
            refine wp_of e245 c245_31 (rw_iload_n (pc' := 32) (z := a1) rfl rfl ?_)
            refine wp_of e245 c245_32 (rw_aload_n (pc' := 33) (v := .ref r0) rfl rfl rfl ?_)
            refine wp_of e245 c245_33 (xg_I (pc' := 36) lf_9_422 w1415 g0 sh_42 (by decide) (by decide) ty_42_29 rfl rfl (fun b1444 b1445 => ?_))
            refine wp_of e245 c245_36 (rw_icmp_lt (p1 := 41) (p2 := 39) (by decide) rfl ⟨i1.1, i1.2⟩ ⟨Int.le_trans (by decide) b1444, Int.le_trans b1445 (by decide)⟩ (fun c1446 => ?_) (fun c1446 => ?_))
            · refine wp_of e245 c245_41 (rw_iload_n (pc' := 42) (z := z1417) rfl rfl ?_)
              refine wp_of e245 c245_42 (rw_if_le (p1 := 51) (p2 := 45) (by decide) rfl ⟨Int.le_trans (by decide) b1418.1, Int.le_trans b1418.2 (by decide)⟩ (fun c1447 => ?_) (fun c1447 => ?_))
              · refine wp_of e245 c245_51 (rw_aload_n (pc' := 52) (v := .ref r0) rfl rfl rfl ?_)
                refine wp_of e245 c245_52 (rw_aload_n (pc' := 53) (v := .ref r0) rfl rfl rfl ?_)
                refine wp_of e245 c245_53 (xg_R (pc' := 56) lf_9_42 w1415 g0 sh_42 (by decide) (by decide) ty_42_30 rfl rfl (fun r1448 q1449 g1450 => ?_))
                have _xi := xith_ex (f := xwf e d) (i := a1) (xlots d).toNat (by omega) (by omega)
                have _kl := KL_at h1443 q1449 (n := xith (xwf e d) a1 (xlots d).toNat) (s := (a1).toNat) _xi.2.2 _xi.1 (by omega)
                refine wp_of e245 c245_56 (rw_iload_n (pc' := 57) (z := a1) rfl rfl ?_)
                refine wp_of e245 c245_57 (xa_I (so := 0) (pc' := 58) w1415 g1450 sh_52 (by decide) (ty_52 _) (by omega) (by omega) rfl (fun b1451 b1452 => ?_))
                refine wp_of e245 c245_58 (xc_V (pc' := 61) (r := r0) (as := [vI (H1411 r1448 (a1.toNat))]) (st := []) (lm_9_425) rfl rfl (Nat.le_of_ble_eq_true rfl) w1415 g0 sh_42 (by decide) rfl (by decide) (u_243 (e := e) (d := d) w1415 g0 ⟨b1451, Int.le_trans b1452 (by decide)⟩ q1440 g1441 (by omega) h1442) (fun R1453 T1454 H1455 p1456 => ?_))
                obtain ⟨e1457, w1459, f1460, e1458, p1461⟩ := p1456
                subst e1457
                subst e1458
                have f1463 := f1436.tr f1460 rfl
                show wp _ _ 245 61 [(3, vI z1417), (0, .ref r0), (1, vI a1), (2, vI a2)] [] _ H1455 _
                have h1464 : LQ27 T H1455 r0 0 (d 0 3) (xlot d ((xith (xwf e d) a1 (xlots d).toNat : Nat) : Int)) := by rw [← show H1411 r1448 (a1.toNat) = ((xith (xwf e d) a1 (xlots d).toNat : Nat) : Int) by omega]; exact p1461
                refine wp_of e245 c245_61 (rw_aload_n (pc' := 62) (v := .ref r0) rfl rfl rfl ?_)
                refine wp_of e245 c245_62 (rw_aload_n (pc' := 63) (v := .ref r0) rfl rfl rfl ?_)
                refine wp_of e245 c245_63 (xg_R (pc' := 66) lf_9_39 w1459 g0 sh_42 (by decide) (by decide) ty_42_27 rfl rfl (fun r1465 q1466 g1467 => ?_))
                refine wp_of e245 c245_66 (rw_iload_n (pc' := 67) (z := a2) rfl rfl ?_)
                refine wp_of e245 c245_67 (xa_I (so := 0) (pc' := 68) w1459 g1467 sh_51 (by decide) (ty_51 _) (by omega) (by omega) rfl (fun b1468 b1469 => ?_))
                have := LR_at h1464 q1466 (k := (a2.toNat)) (by omega) (by omega)
                refine wp_of e245 c245_68 (xc_V (pc' := 71) (r := r0) (as := [vI (H1455 r1465 (a2.toNat))]) (st := []) (lm_9_58) rfl rfl (Nat.le_of_ble_eq_true rfl) w1459 g0 sh_42 (by decide) rfl (by decide) (u_209  w1459 g0 ⟨Int.le_trans (by decide) b1468, Int.le_trans b1469 (by decide)⟩) (fun R1470 T1471 H1472 p1473 => ?_))
                obtain ⟨e1474, w1476, f1477, z1478, e1475, b1479, p1480⟩ := p1473
                subst e1474
                subst e1475
                obtain ⟨a1481, a1482, a1483⟩ := p1480
                have f1484 := f1463.tr f1477 rfl
                show wp _ _ 245 71 [(3, vI z1417), (0, .ref r0), (1, vI a1), (2, vI a2)] [vI z1478] _ H1472 _
                have k1485 : wKI H1472 r0 = wKI H1411 r0 := ((wKI_fr w1459 g0 f1477 rfl).trans (wKI_fr w1415 g0 f1460 rfl))
                have h1486 : KNN T H1472 r0 e d := (KNN_fr w1459 g0 f1477 rfl (KNN_fr w1415 g0 f1460 rfl a1427))
                exact wp_ireturn e245 c245_71 rfl ⟨rfl, w1476, f1484, z1478, rfl, ⟨b1479.1, b1479.2⟩, (Or.inr ⟨by omega, by omega, by omega, h1486⟩)⟩
              · exfalso
                omega
            · refine wp_of e245 c245_39 (rw_iconst (pc' := 40) rfl ?_)
              refine wp_of e245 c245_40 (rw_istore_n (pc' := 41) (z := 1) (L' := [(3, vI 1), (0, .ref r0), (1, vI a1), (2, vI a2)]) rfl rfl rfl ?_)
              refine wp_of e245 c245_41 (rw_iload_n (pc' := 42) (z := 1) rfl rfl ?_)
              refine wp_of e245 c245_42 (rw_if_le (p1 := 51) (p2 := 45) (by decide) rfl ⟨by decide, by decide⟩ (fun c1487 => ?_) (fun c1487 => ?_))
              · exfalso
                omega
              · refine wp_of e245 c245_45 (rw_aload_n (pc' := 46) (v := .ref r0) rfl rfl rfl ?_)
                refine wp_of e245 c245_46 (rw_iload_n (pc' := 47) (z := 1) rfl rfl ?_)
                refine wp_of e245 c245_47 (xc_V (pc' := 50) (r := r0) (as := [vI 1]) (st := []) (lm_9_54) rfl rfl (Nat.le_of_ble_eq_true rfl) w1415 g0 sh_42 (by decide) rfl (by decide) (u_170  w1415 g0 ⟨by decide, by decide⟩) (fun R1488 T1489 H1490 p1491 => ?_))
                obtain ⟨e1492, w1494, f1495, z1496, e1493, b1497, p1498⟩ := p1491
                subst e1492
                subst e1493
                obtain ⟨a1499, a1500, a1501⟩ := p1498
                have f1502 := f1436.tr f1495 rfl
                show wp _ _ 245 50 [(3, vI 1), (0, .ref r0), (1, vI a1), (2, vI a2)] [vI z1496] _ H1490 _
                have k1503 : wKI H1490 r0 = wKI H1411 r0 := (wKI_fr w1415 g0 f1495 rfl)
                have h1504 : KNN T H1490 r0 e d := (KNN_fr w1415 g0 f1495 rfl a1427)
                exact wp_ireturn e245 c245_50 rfl ⟨rfl, w1494, f1502, z1496, rfl, ⟨b1497.1, b1497.2⟩, (Or.inl ⟨by omega, by omega, by omega, h1504⟩)⟩
        · have f1505 := f1337.tr f1416 rfl
          show wp _ _ 245 26 [(0, .ref r0), (1, vI a1), (2, vI a2)] [vI z1417] _ H1411 _
          refine wp_of e245 c245_26 (rw_istore_n (pc' := 27) (z := z1417) (L' := [(3, vI z1417), (0, .ref r0), (1, vI a1), (2, vI a2)]) rfl rfl rfl ?_)
          refine wp_of e245 c245_27 (rw_iload_n (pc' := 28) (z := z1417) rfl rfl ?_)
          refine wp_of e245 c245_28 (rw_if_ne (p1 := 41) (p2 := 31) (by decide) rfl ⟨Int.le_trans (by decide) b1418.1, Int.le_trans b1418.2 (by decide)⟩ (fun c1506 => ?_) (fun c1506 => ?_))
          · refine wp_of e245 c245_41 (rw_iload_n (pc' := 42) (z := z1417) rfl rfl ?_)
            refine wp_of e245 c245_42 (rw_if_le (p1 := 51) (p2 := 45) (by decide) rfl ⟨Int.le_trans (by decide) b1418.1, Int.le_trans b1418.2 (by decide)⟩ (fun c1507 => ?_) (fun c1507 => ?_))
            · exfalso
              omega
            · refine wp_of e245 c245_45 (rw_aload_n (pc' := 46) (v := .ref r0) rfl rfl rfl ?_)
              refine wp_of e245 c245_46 (rw_iload_n (pc' := 47) (z := z1417) rfl rfl ?_)
              refine wp_of e245 c245_47 (xc_V (pc' := 50) (r := r0) (as := [vI z1417]) (st := []) (lm_9_54) rfl rfl (Nat.le_of_ble_eq_true rfl) w1415 g0 sh_42 (by decide) rfl (by decide) (u_170  w1415 g0 ⟨Int.le_trans (by decide) b1418.1, Int.le_trans b1418.2 (by decide)⟩) (fun R1508 T1509 H1510 p1511 => ?_))
              obtain ⟨e1512, w1514, f1515, z1516, e1513, b1517, p1518⟩ := p1511
              subst e1512
              subst e1513
              obtain ⟨a1519, a1520, a1521⟩ := p1518
              have f1522 := f1505.tr f1515 rfl
              show wp _ _ 245 50 [(3, vI z1417), (0, .ref r0), (1, vI a1), (2, vI a2)] [vI z1516] _ H1510 _
              have k1523 : wKI H1510 r0 = wKI H1411 r0 := (wKI_fr w1415 g0 f1515 rfl)
              have h1524 : KNN T H1510 r0 e d := (KNN_fr w1415 g0 f1515 rfl a1435)
              exact wp_ireturn e245 c245_50 rfl ⟨rfl, w1514, f1522, z1516, rfl, ⟨b1517.1, b1517.2⟩, (Or.inl ⟨by omega, by omega, by omega, h1524⟩)⟩
          · exfalso
            omega
  · show wp _ _ 245 11 [(0, .ref r0), (1, vI a1), (2, vI a2)] [vI z1347, .ref r0] _ H1334 _
    refine wp_of e245 c245_11 (rw_if_eq (p1 := 22) (p2 := 14) (by decide) rfl ⟨Int.le_trans (by decide) b1348.1, Int.le_trans b1348.2 (by decide)⟩ (fun c1525 => ?_) (fun c1525 => ?_))
    · refine wp_of e245 c245_22 (rw_iconst (pc' := 23) rfl ?_)
      have k1526 : H1334 r0 3 = H r0 3 := (wq_u_j e1335 rfl)
      have k1527 : wKI H1334 r0 = wKI H r0 := (wKI_fr hW g0 ((wfr.rf (l := [(42, 0)])).put' e1335 g0 rfl) rfl)
      have h1528 : KNN T H1334 r0 e d := (KNN_fr hW g0 ((wfr.rf (l := [(42, 0)])).put' e1335 g0 rfl) rfl hKNN_r0)
      refine wp_of e245 c245_23 (xc_V (pc' := 26) (r := r0) (as := [vI 0]) (st := []) (lm_9_433) rfl rfl (Nat.le_of_ble_eq_true rfl) w1336 g0 sh_42 (by decide) rfl (by decide) (u_241 (e := e) (d := d) w1336 g0 ⟨by decide, by decide⟩ (by omega) (by omega) (by assumption) (by assumption) (by assumption) (by assumption) h1339 h1528) (fun R1529 T1530 H1531 p1532 => ?_))
      obtain ⟨e1533, w1535, f1536, z1537, e1534, b1538, p1539⟩ := p1532
      subst e1533
      subst e1534
      rcases p1539 with ⟨a1540, a1541, a1542, a1543, a1544, a1545, a1546, a1547, a1548⟩ | ⟨a1549, a1550, a1551, a1552, a1553, a1554, a1555⟩
      · exfalso
        omega
      · have f1556 := f1337.tr f1536 rfl
        show wp _ _ 245 26 [(0, .ref r0), (1, vI a1), (2, vI a2)] [vI z1537] _ H1531 _
        refine wp_of e245 c245_26 (rw_istore_n (pc' := 27) (z := z1537) (L' := [(3, vI z1537), (0, .ref r0), (1, vI a1), (2, vI a2)]) rfl rfl rfl ?_)
        refine wp_of e245 c245_27 (rw_iload_n (pc' := 28) (z := z1537) rfl rfl ?_)
        refine wp_of e245 c245_28 (rw_if_ne (p1 := 41) (p2 := 31) (by decide) rfl ⟨Int.le_trans (by decide) b1538.1, Int.le_trans b1538.2 (by decide)⟩ (fun c1557 => ?_) (fun c1557 => ?_))
        · refine wp_of e245 c245_41 (rw_iload_n (pc' := 42) (z := z1537) rfl rfl ?_)
          refine wp_of e245 c245_42 (rw_if_le (p1 := 51) (p2 := 45) (by decide) rfl ⟨Int.le_trans (by decide) b1538.1, Int.le_trans b1538.2 (by decide)⟩ (fun c1558 => ?_) (fun c1558 => ?_))
          · exfalso
            omega
          · refine wp_of e245 c245_45 (rw_aload_n (pc' := 46) (v := .ref r0) rfl rfl rfl ?_)
            refine wp_of e245 c245_46 (rw_iload_n (pc' := 47) (z := z1537) rfl rfl ?_)
            refine wp_of e245 c245_47 (xc_V (pc' := 50) (r := r0) (as := [vI z1537]) (st := []) (lm_9_54) rfl rfl (Nat.le_of_ble_eq_true rfl) w1535 g0 sh_42 (by decide) rfl (by decide) (u_170  w1535 g0 ⟨Int.le_trans (by decide) b1538.1, Int.le_trans b1538.2 (by decide)⟩) (fun R1559 T1560 H1561 p1562 => ?_))
            obtain ⟨e1563, w1565, f1566, z1567, e1564, b1568, p1569⟩ := p1562
            subst e1563
            subst e1564
            obtain ⟨a1570, a1571, a1572⟩ := p1569
            have f1573 := f1556.tr f1566 rfl
            show wp _ _ 245 50 [(3, vI z1537), (0, .ref r0), (1, vI a1), (2, vI a2)] [vI z1567] _ H1561 _
            have k1574 : wKI H1561 r0 = wKI H1531 r0 := (wKI_fr w1535 g0 f1566 rfl)
            have h1575 : KNN T H1561 r0 e d := (KNN_fr w1535 g0 f1566 rfl a1555)
            exact wp_ireturn e245 c245_50 rfl ⟨rfl, w1565, f1573, z1567, rfl, ⟨b1568.1, b1568.2⟩, (Or.inl ⟨by omega, by omega, by omega, h1575⟩)⟩
        · exfalso
          omega
    · exfalso
      omega
