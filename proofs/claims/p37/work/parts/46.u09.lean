/-! StrikeAwakeModel.worlds()I  -/
abbrev uq_240 (r0 : Nat) (e : xD) (d : xD) (T : wq_T) (H : wq_H) : Option Value → wq_T → wq_H → Prop := fun r T' H' => T = T' ∧ WT T H' ∧ wfr [(42, 0), (42, 1), (42, 2), (42, 28), (42, 29), (51, 999), (52, 999)] T H H' ∧ ∃ z : Int, some (vI z) = r ∧ ((-2147483648) ≤ z ∧ z ≤ 2147483647) ∧ (((z = -1) ∧ (wKI H' r0 = 1) ∧ (H r0 3 = -1 ∨ 20000 < xlots d) ∧ KNN T H' r0 e d) ∨ ((wKI H' r0 = 1) ∧ (H r0 3 ≠ -1 ∧ xlots d ≤ 20000) ∧ (z = xcn (xwf e d) (xlots d).toNat) ∧ KNN T H' r0 e d))
set_option maxHeartbeats 4000000 in
theorem u_240 {kt : Nat → Option mc_E} {T : wq_T} {H : wq_H} {r0 : Nat} {e : xD} {d : xD} (hW : WT T H) (g0 : T.2.2.2 r0 = some 42) (p0 : wKI H r0 = 1) (p1 : XW d) (p2 : ∀ h : Nat, d 0 0 ≤ (h : Int) → h < 24 → e 13 h = 0) (p3 : XN d) (p4 : ∀ h : Nat, h < 24 → 0 ≤ e 13 h ∧ e 13 h ≤ 100) (hRB_r0 : RB T H r0 e d) (hKNN_r0 : KNN T H r0 e d) : wpc kt 8 240 [.ref r0] T H (uq_240 r0 e d T H) := by
  refine wp_enter e240 (Nat.le_of_ble_eq_true rfl) rfl ?_
  have f0 : wfr [(42, 0), (42, 1), (42, 2), (42, 28), (42, 29), (51, 999), (52, 999)] T H H := wfr.rf
  show wp _ _ 240 0 [(0, .ref r0)] [] _ H _
  have _b := RB_b hW hRB_r0
  have _nu := RB_n3 hRB_r0
  have _lm := RB_lm hRB_r0
  refine wp_of e240 c240_0 (rw_aload_n (pc' := 1) (v := .ref r0) rfl rfl rfl ?_)
  refine wp_of e240 c240_1 (rw_iconst (pc' := 2) rfl ?_)
  refine wp_of e240 c240_2 (xp_I (pc' := 5) lf_9_48 hW g0 sh_42 (by decide) (by decide) ty_42_0 rfl rfl (by decide) (by decide) ⟨by decide, by decide⟩ rfl (fun H1138 e1139 w1140 => ?_))
  have f1141 := f0.put' e1139 g0 rfl
  have k1142 : H1138 r0 0 = 0 := wq_u_s e1139
  refine wp_of e240 c240_5 (rw_aload_n (pc' := 6) (v := .ref r0) rfl rfl rfl ?_)
  refine wp_of e240 c240_6 (rw_aload_n (pc' := 7) (v := .ref r0) rfl rfl rfl ?_)
  have k1143 : H1138 r0 3 = H r0 3 := (wq_u_j e1139 rfl)
  refine wp_of e240 c240_7 (xg_O (pc' := 10) lf_9_337 w1140 g0 sh_42 (by decide) (by decide) ty_42_3 rfl rfl (fun q1145 => ?_) (fun r1144 q1145 g1146 => ?_))
  · refine wp_of e240 c240_10 (rw_ifnull_n (p1 := 17) (p2 := 13) (by decide) rfl ?_)
    refine wp_of e240 c240_17 (rw_iconst (pc' := 18) rfl ?_)
    have k1147 : wKI H1138 r0 = wKI H r0 := (wKI_fr hW g0 ((wfr.rf (l := [(42, 0)])).put' e1139 g0 rfl) rfl)
    have h1148 : RB T H1138 r0 e d := (RB_fr hW g0 ((wfr.rf (l := [(42, 0)])).put' e1139 g0 rfl) rfl hRB_r0)
    have h1149 : KNN T H1138 r0 e d := (KNN_fr hW g0 ((wfr.rf (l := [(42, 0)])).put' e1139 g0 rfl) rfl hKNN_r0)
    refine wp_of e240 c240_18 (xc_V (pc' := 21) (r := r0) (as := [vI 0]) (st := []) (lm_9_433) rfl rfl (Nat.le_of_ble_eq_true rfl) w1140 g0 sh_42 (by decide) rfl (by decide) (u_241 (e := e) (d := d) w1140 g0 ⟨by decide, by decide⟩ (by omega) (by omega) (by assumption) (by assumption) (by assumption) (by assumption) h1148 h1149) (fun R1150 T1151 H1152 p1153 => ?_))
    obtain ⟨e1154, w1156, f1157, z1158, e1155, b1159, p1160⟩ := p1153
    subst e1154
    subst e1155
    rcases p1160 with ⟨a1161, a1162, a1163, a1164, a1165, a1166, a1167, a1168, a1169⟩ | ⟨a1170, a1171, a1172, a1173, a1174, a1175, a1176⟩
    · exfalso
      omega
    · have f1177 := f1141.tr f1157 rfl
      show wp _ _ 240 21 [(0, .ref r0)] [vI z1158] _ H1152 _
      refine wp_of e240 c240_21 (rw_istore_n (pc' := 22) (z := z1158) (L' := [(1, vI z1158), (0, .ref r0)]) rfl rfl rfl ?_)
      refine wp_of e240 c240_22 (rw_iload_n (pc' := 23) (z := z1158) rfl rfl ?_)
      refine wp_of e240 c240_23 (rw_if_le (p1 := 34) (p2 := 26) (by decide) rfl ⟨Int.le_trans (by decide) b1159.1, Int.le_trans b1159.2 (by decide)⟩ (fun c1178 => ?_) (fun c1178 => ?_))
      · exfalso
        omega
      · refine wp_of e240 c240_26 (rw_aload_n (pc' := 27) (v := .ref r0) rfl rfl rfl ?_)
        refine wp_of e240 c240_27 (rw_iload_n (pc' := 28) (z := z1158) rfl rfl ?_)
        refine wp_of e240 c240_28 (xc_V (pc' := 31) (r := r0) (as := [vI z1158]) (st := []) (lm_9_54) rfl rfl (Nat.le_of_ble_eq_true rfl) w1156 g0 sh_42 (by decide) rfl (by decide) (u_170  w1156 g0 ⟨Int.le_trans (by decide) b1159.1, Int.le_trans b1159.2 (by decide)⟩) (fun R1179 T1180 H1181 p1182 => ?_))
        obtain ⟨e1183, w1185, f1186, z1187, e1184, b1188, p1189⟩ := p1182
        subst e1183
        subst e1184
        obtain ⟨a1190, a1191, a1192⟩ := p1189
        have f1193 := f1177.tr f1186 rfl
        show wp _ _ 240 31 [(1, vI z1158), (0, .ref r0)] [vI z1187] _ H1181 _
        refine wp_of e240 c240_31 (rw_goto (p1 := 42) (by decide) ?_)
        have k1194 : wKI H1181 r0 = wKI H1152 r0 := (wKI_fr w1156 g0 f1186 rfl)
        have h1195 : KNN T H1181 r0 e d := (KNN_fr w1156 g0 f1186 rfl a1176)
        exact wp_ireturn e240 c240_42 rfl ⟨rfl, w1185, f1193, z1187, rfl, ⟨b1188.1, b1188.2⟩, (Or.inl ⟨by omega, by omega, by omega, h1195⟩)⟩
  · refine wp_of e240 c240_10 (rw_ifnull_r (p1 := 17) (p2 := 13) (by decide) rfl ?_)
    refine wp_of e240 c240_13 (rw_iconst (pc' := 14) rfl ?_)
    refine wp_of e240 c240_14 (rw_goto (p1 := 18) (by decide) ?_)
    have k1196 : wKI H1138 r0 = wKI H r0 := (wKI_fr hW g0 ((wfr.rf (l := [(42, 0)])).put' e1139 g0 rfl) rfl)
    have h1197 : RB T H1138 r0 e d := (RB_fr hW g0 ((wfr.rf (l := [(42, 0)])).put' e1139 g0 rfl) rfl hRB_r0)
    have h1198 : KNN T H1138 r0 e d := (KNN_fr hW g0 ((wfr.rf (l := [(42, 0)])).put' e1139 g0 rfl) rfl hKNN_r0)
    refine wp_of e240 c240_18 (xc_V (pc' := 21) (r := r0) (as := [vI 1]) (st := []) (lm_9_433) rfl rfl (Nat.le_of_ble_eq_true rfl) w1140 g0 sh_42 (by decide) rfl (by decide) (u_241 (e := e) (d := d) w1140 g0 ⟨by decide, by decide⟩ (by omega) (by omega) (by assumption) (by assumption) (by assumption) (by assumption) h1197 h1198) (fun R1199 T1200 H1201 p1202 => ?_))
    obtain ⟨e1203, w1205, f1206, z1207, e1204, b1208, p1209⟩ := p1202
    subst e1203
    subst e1204
    rcases p1209 with ⟨a1210, a1211, a1212, a1213, a1214, a1215, a1216, a1217, a1218⟩ | ⟨a1219, a1220, a1221, a1222, a1223, a1224, a1225⟩
    · have f1226 := f1141.tr f1206 rfl
      show wp _ _ 240 21 [(0, .ref r0)] [vI z1207] _ H1201 _
      refine wp_of e240 c240_21 (rw_istore_n (pc' := 22) (z := z1207) (L' := [(1, vI z1207), (0, .ref r0)]) rfl rfl rfl ?_)
      refine wp_of e240 c240_22 (rw_iload_n (pc' := 23) (z := z1207) rfl rfl ?_)
      refine wp_of e240 c240_23 (rw_if_le (p1 := 34) (p2 := 26) (by decide) rfl ⟨Int.le_trans (by decide) b1208.1, Int.le_trans b1208.2 (by decide)⟩ (fun c1227 => ?_) (fun c1227 => ?_))
      · have _kb := (a1218).1
        refine wp_of e240 c240_34 (rw_aload_n (pc' := 35) (v := .ref r0) rfl rfl rfl ?_)
        refine wp_of e240 c240_35 (rw_aload_n (pc' := 36) (v := .ref r0) rfl rfl rfl ?_)
        refine wp_of e240 c240_36 (xg_I (pc' := 39) lf_9_422 w1205 g0 sh_42 (by decide) (by decide) ty_42_29 rfl rfl (fun b1228 b1229 => ?_))
        refine wp_of e240 c240_39 (xc_V (pc' := 42) (r := r0) (as := [vI (H1201 r0 29)]) (st := []) (lm_9_58) rfl rfl (Nat.le_of_ble_eq_true rfl) w1205 g0 sh_42 (by decide) rfl (by decide) (u_209  w1205 g0 ⟨Int.le_trans (by decide) b1228, Int.le_trans b1229 (by decide)⟩) (fun R1230 T1231 H1232 p1233 => ?_))
        obtain ⟨e1234, w1236, f1237, z1238, e1235, b1239, p1240⟩ := p1233
        subst e1234
        subst e1235
        obtain ⟨a1241, a1242, a1243⟩ := p1240
        have f1244 := f1226.tr f1237 rfl
        show wp _ _ 240 42 [(1, vI z1207), (0, .ref r0)] [vI z1238] _ H1232 _
        have k1245 : wKI H1232 r0 = wKI H1201 r0 := (wKI_fr w1205 g0 f1237 rfl)
        have h1246 : KNN T H1232 r0 e d := (KNN_fr w1205 g0 f1237 rfl a1217)
        exact wp_ireturn e240 c240_42 rfl ⟨rfl, w1236, f1244, z1238, rfl, ⟨b1239.1, b1239.2⟩, (Or.inr ⟨by omega, by omega, by omega, h1246⟩)⟩
      · exfalso
        omega
    · have f1247 := f1141.tr f1206 rfl
      show wp _ _ 240 21 [(0, .ref r0)] [vI z1207] _ H1201 _
      refine wp_of e240 c240_21 (rw_istore_n (pc' := 22) (z := z1207) (L' := [(1, vI z1207), (0, .ref r0)]) rfl rfl rfl ?_)
      refine wp_of e240 c240_22 (rw_iload_n (pc' := 23) (z := z1207) rfl rfl ?_)
      refine wp_of e240 c240_23 (rw_if_le (p1 := 34) (p2 := 26) (by decide) rfl ⟨Int.le_trans (by decide) b1208.1, Int.le_trans b1208.2 (by decide)⟩ (fun c1248 => ?_) (fun c1248 => ?_))
      · exfalso
        omega
      · refine wp_of e240 c240_26 (rw_aload_n (pc' := 27) (v := .ref r0) rfl rfl rfl ?_)
        refine wp_of e240 c240_27 (rw_iload_n (pc' := 28) (z := z1207) rfl rfl ?_)
        refine wp_of e240 c240_28 (xc_V (pc' := 31) (r := r0) (as := [vI z1207]) (st := []) (lm_9_54) rfl rfl (Nat.le_of_ble_eq_true rfl) w1205 g0 sh_42 (by decide) rfl (by decide) (u_170  w1205 g0 ⟨Int.le_trans (by decide) b1208.1, Int.le_trans b1208.2 (by decide)⟩) (fun R1249 T1250 H1251 p1252 => ?_))
        obtain ⟨e1253, w1255, f1256, z1257, e1254, b1258, p1259⟩ := p1252
        subst e1253
        subst e1254
        obtain ⟨a1260, a1261, a1262⟩ := p1259
        have f1263 := f1247.tr f1256 rfl
        show wp _ _ 240 31 [(1, vI z1207), (0, .ref r0)] [vI z1257] _ H1251 _
        refine wp_of e240 c240_31 (rw_goto (p1 := 42) (by decide) ?_)
        have k1264 : wKI H1251 r0 = wKI H1201 r0 := (wKI_fr w1205 g0 f1256 rfl)
        have h1265 : KNN T H1251 r0 e d := (KNN_fr w1205 g0 f1256 rfl a1225)
        exact wp_ireturn e240 c240_42 rfl ⟨rfl, w1255, f1263, z1257, rfl, ⟨b1258.1, b1258.2⟩, (Or.inl ⟨by omega, by omega, by omega, h1265⟩)⟩
/-! StrikeAwakeModel.can()I  -/
abbrev uq_244 (r0 : Nat) (e : xD) (d : xD) (T : wq_T) (H : wq_H) : Option Value → wq_T → wq_H → Prop := fun r T' H' => T = T' ∧ WT T H' ∧ wfr [(42, 0), (42, 1), (42, 2), (42, 28), (42, 29), (51, 999), (52, 999)] T H H' ∧ ∃ z : Int, some (vI z) = r ∧ ((-2147483648) ≤ z ∧ z ≤ 2147483647) ∧ (((z = -1) ∧ (wKI H' r0 = 1) ∧ (H r0 3 = -1 ∨ 20000 < xlots d) ∧ KNN T H' r0 e d) ∨ ((0 ≤ z ∧ z ≤ 1) ∧ (wKI H' r0 = 1) ∧ (H r0 3 ≠ -1 ∧ xlots d ≤ 20000) ∧ ((z = 1 ∧ 0 < xcn (xwf e d) (xlots d).toNat) ∨ (z = 0 ∧ xcn (xwf e d) (xlots d).toNat ≤ 0)) ∧ KNN T H' r0 e d))
set_option maxHeartbeats 4000000 in
theorem u_244 {kt : Nat → Option mc_E} {T : wq_T} {H : wq_H} {r0 : Nat} {e : xD} {d : xD} (hW : WT T H) (g0 : T.2.2.2 r0 = some 42) (p0 : wKI H r0 = 1) (p1 : XW d) (p2 : ∀ h : Nat, d 0 0 ≤ (h : Int) → h < 24 → e 13 h = 0) (p3 : XN d) (p4 : ∀ h : Nat, h < 24 → 0 ≤ e 13 h ∧ e 13 h ≤ 100) (hRB_r0 : RB T H r0 e d) (hKNN_r0 : KNN T H r0 e d) : wpc kt 8 244 [.ref r0] T H (uq_244 r0 e d T H) := by
  refine wp_enter e244 (Nat.le_of_ble_eq_true rfl) rfl ?_
  have f0 : wfr [(42, 0), (42, 1), (42, 2), (42, 28), (42, 29), (51, 999), (52, 999)] T H H := wfr.rf
  show wp _ _ 244 0 [(0, .ref r0)] [] _ H _
  have _b := RB_b hW hRB_r0
  have _nu := RB_n3 hRB_r0
  have _lm := RB_lm hRB_r0
  refine wp_of e244 c244_0 (rw_aload_n (pc' := 1) (v := .ref r0) rfl rfl rfl ?_)
  refine wp_of e244 c244_1 (rw_iconst (pc' := 2) rfl ?_)
  refine wp_of e244 c244_2 (xp_I (pc' := 5) lf_9_48 hW g0 sh_42 (by decide) (by decide) ty_42_0 rfl rfl (by decide) (by decide) ⟨by decide, by decide⟩ rfl (fun H1170 e1171 w1172 => ?_))
  have f1173 := f0.put' e1171 g0 rfl
  have k1174 : H1170 r0 0 = 0 := wq_u_s e1171
  refine wp_of e244 c244_5 (rw_aload_n (pc' := 6) (v := .ref r0) rfl rfl rfl ?_)
  refine wp_of e244 c244_6 (rw_aload_n (pc' := 7) (v := .ref r0) rfl rfl rfl ?_)
  have k1175 : H1170 r0 3 = H r0 3 := (wq_u_j e1171 rfl)
  refine wp_of e244 c244_7 (xg_O (pc' := 10) lf_9_337 w1172 g0 sh_42 (by decide) (by decide) ty_42_3 rfl rfl (fun q1177 => ?_) (fun r1176 q1177 g1178 => ?_))
  · refine wp_of e244 c244_10 (rw_ifnull_n (p1 := 17) (p2 := 13) (by decide) rfl ?_)
    refine wp_of e244 c244_17 (rw_iconst (pc' := 18) rfl ?_)
    have k1179 : wKI H1170 r0 = wKI H r0 := (wKI_fr hW g0 ((wfr.rf (l := [(42, 0)])).put' e1171 g0 rfl) rfl)
    have h1180 : RB T H1170 r0 e d := (RB_fr hW g0 ((wfr.rf (l := [(42, 0)])).put' e1171 g0 rfl) rfl hRB_r0)
    have h1181 : KNN T H1170 r0 e d := (KNN_fr hW g0 ((wfr.rf (l := [(42, 0)])).put' e1171 g0 rfl) rfl hKNN_r0)
    refine wp_of e244 c244_18 (xc_V (pc' := 21) (r := r0) (as := [vI 0]) (st := []) (lm_9_433) rfl rfl (Nat.le_of_ble_eq_true rfl) w1172 g0 sh_42 (by decide) rfl (by decide) (u_241 (e := e) (d := d) w1172 g0 ⟨by decide, by decide⟩ (by omega) (by omega) (by assumption) (by assumption) (by assumption) (by assumption) h1180 h1181) (fun R1182 T1183 H1184 p1185 => ?_))
    obtain ⟨e1186, w1188, f1189, z1190, e1187, b1191, p1192⟩ := p1185
    subst e1186
    subst e1187
    rcases p1192 with ⟨a1193, a1194, a1195, a1196, a1197, a1198, a1199, a1200, a1201⟩ | ⟨a1202, a1203, a1204, a1205, a1206, a1207, a1208⟩
    · exfalso
      omega
    · have f1209 := f1173.tr f1189 rfl
      show wp _ _ 244 21 [(0, .ref r0)] [vI z1190] _ H1184 _
      refine wp_of e244 c244_21 (rw_istore_n (pc' := 22) (z := z1190) (L' := [(1, vI z1190), (0, .ref r0)]) rfl rfl rfl ?_)
      refine wp_of e244 c244_22 (rw_iload_n (pc' := 23) (z := z1190) rfl rfl ?_)
      refine wp_of e244 c244_23 (rw_if_le (p1 := 34) (p2 := 26) (by decide) rfl ⟨Int.le_trans (by decide) b1191.1, Int.le_trans b1191.2 (by decide)⟩ (fun c1210 => ?_) (fun c1210 => ?_))
      · exfalso
        omega
      · refine wp_of e244 c244_26 (rw_aload_n (pc' := 27) (v := .ref r0) rfl rfl rfl ?_)
        refine wp_of e244 c244_27 (rw_iload_n (pc' := 28) (z := z1190) rfl rfl ?_)
        refine wp_of e244 c244_28 (xc_V (pc' := 31) (r := r0) (as := [vI z1190]) (st := []) (lm_9_54) rfl rfl (Nat.le_of_ble_eq_true rfl) w1188 g0 sh_42 (by decide) rfl (by decide) (u_170  w1188 g0 ⟨Int.le_trans (by decide) b1191.1, Int.le_trans b1191.2 (by decide)⟩) (fun R1211 T1212 H1213 p1214 => ?_))
        obtain ⟨e1215, w1217, f1218, z1219, e1216, b1220, p1221⟩ := p1214
        subst e1215
        subst e1216
        obtain ⟨a1222, a1223, a1224⟩ := p1221
        have f1225 := f1209.tr f1218 rfl
        show wp _ _ 244 31 [(1, vI z1190), (0, .ref r0)] [vI z1219] _ H1213 _
        refine wp_of e244 c244_31 (rw_goto (p1 := 50) (by decide) ?_)
        have k1226 : wKI H1213 r0 = wKI H1184 r0 := (wKI_fr w1188 g0 f1218 rfl)
        have h1227 : KNN T H1213 r0 e d := (KNN_fr w1188 g0 f1218 rfl a1208)
        exact wp_ireturn e244 c244_50 rfl ⟨rfl, w1217, f1225, z1219, rfl, ⟨b1220.1, b1220.2⟩, (Or.inl ⟨by omega, by omega, by omega, h1227⟩)⟩
  · refine wp_of e244 c244_10 (rw_ifnull_r (p1 := 17) (p2 := 13) (by decide) rfl ?_)
    refine wp_of e244 c244_13 (rw_iconst (pc' := 14) rfl ?_)
    refine wp_of e244 c244_14 (rw_goto (p1 := 18) (by decide) ?_)
    have k1228 : wKI H1170 r0 = wKI H r0 := (wKI_fr hW g0 ((wfr.rf (l := [(42, 0)])).put' e1171 g0 rfl) rfl)
    have h1229 : RB T H1170 r0 e d := (RB_fr hW g0 ((wfr.rf (l := [(42, 0)])).put' e1171 g0 rfl) rfl hRB_r0)
    have h1230 : KNN T H1170 r0 e d := (KNN_fr hW g0 ((wfr.rf (l := [(42, 0)])).put' e1171 g0 rfl) rfl hKNN_r0)
    refine wp_of e244 c244_18 (xc_V (pc' := 21) (r := r0) (as := [vI 1]) (st := []) (lm_9_433) rfl rfl (Nat.le_of_ble_eq_true rfl) w1172 g0 sh_42 (by decide) rfl (by decide) (u_241 (e := e) (d := d) w1172 g0 ⟨by decide, by decide⟩ (by omega) (by omega) (by assumption) (by assumption) (by assumption) (by assumption) h1229 h1230) (fun R1231 T1232 H1233 p1234 => ?_))
    obtain ⟨e1235, w1237, f1238, z1239, e1236, b1240, p1241⟩ := p1234
    subst e1235
    subst e1236
    rcases p1241 with ⟨a1242, a1243, a1244, a1245, a1246, a1247, a1248, a1249, a1250⟩ | ⟨a1251, a1252, a1253, a1254, a1255, a1256, a1257⟩
    · have f1258 := f1173.tr f1238 rfl
      show wp _ _ 244 21 [(0, .ref r0)] [vI z1239] _ H1233 _
      refine wp_of e244 c244_21 (rw_istore_n (pc' := 22) (z := z1239) (L' := [(1, vI z1239), (0, .ref r0)]) rfl rfl rfl ?_)
      refine wp_of e244 c244_22 (rw_iload_n (pc' := 23) (z := z1239) rfl rfl ?_)
      refine wp_of e244 c244_23 (rw_if_le (p1 := 34) (p2 := 26) (by decide) rfl ⟨Int.le_trans (by decide) b1240.1, Int.le_trans b1240.2 (by decide)⟩ (fun c1259 => ?_) (fun c1259 => ?_))
      · have _kb := (a1250).1
        refine wp_of e244 c244_34 (rw_aload_n (pc' := 35) (v := .ref r0) rfl rfl rfl ?_)
        refine wp_of e244 c244_35 (rw_aload_n (pc' := 36) (v := .ref r0) rfl rfl rfl ?_)
        refine wp_of e244 c244_36 (xg_I (pc' := 39) lf_9_422 w1237 g0 sh_42 (by decide) (by decide) ty_42_29 rfl rfl (fun b1260 b1261 => ?_))
        refine wp_of e244 c244_39 (rw_if_le (p1 := 46) (p2 := 42) (by decide) rfl ⟨Int.le_trans (by decide) b1260, Int.le_trans b1261 (by decide)⟩ (fun c1262 => ?_) (fun c1262 => ?_))
        · refine wp_of e244 c244_46 (rw_iconst (pc' := 47) rfl ?_)
          refine wp_of e244 c244_47 (xc_V (pc' := 50) (r := r0) (as := [vI 0]) (st := []) (lm_9_58) rfl rfl (Nat.le_of_ble_eq_true rfl) w1237 g0 sh_42 (by decide) rfl (by decide) (u_209  w1237 g0 ⟨by decide, by decide⟩) (fun R1263 T1264 H1265 p1266 => ?_))
          obtain ⟨e1267, w1269, f1270, z1271, e1268, b1272, p1273⟩ := p1266
          subst e1267
          subst e1268
          obtain ⟨a1274, a1275, a1276⟩ := p1273
          have f1277 := f1258.tr f1270 rfl
          show wp _ _ 244 50 [(1, vI z1239), (0, .ref r0)] [vI z1271] _ H1265 _
          have k1278 : wKI H1265 r0 = wKI H1233 r0 := (wKI_fr w1237 g0 f1270 rfl)
          have h1279 : KNN T H1265 r0 e d := (KNN_fr w1237 g0 f1270 rfl a1249)
          exact wp_ireturn e244 c244_50 rfl ⟨rfl, w1269, f1277, z1271, rfl, ⟨b1272.1, b1272.2⟩, (Or.inr ⟨by omega, by omega, by omega, by omega, h1279⟩)⟩
        · refine wp_of e244 c244_42 (rw_iconst (pc' := 43) rfl ?_)
          refine wp_of e244 c244_43 (rw_goto (p1 := 47) (by decide) ?_)
          refine wp_of e244 c244_47 (xc_V (pc' := 50) (r := r0) (as := [vI 1]) (st := []) (lm_9_58) rfl rfl (Nat.le_of_ble_eq_true rfl) w1237 g0 sh_42 (by decide) rfl (by decide) (u_209  w1237 g0 ⟨by decide, by decide⟩) (fun R1280 T1281 H1282 p1283 => ?_))
          obtain ⟨e1284, w1286, f1287, z1288, e1285, b1289, p1290⟩ := p1283
          subst e1284
          subst e1285
          obtain ⟨a1291, a1292, a1293⟩ := p1290
          have f1294 := f1258.tr f1287 rfl
          show wp _ _ 244 50 [(1, vI z1239), (0, .ref r0)] [vI z1288] _ H1282 _
          have k1295 : wKI H1282 r0 = wKI H1233 r0 := (wKI_fr w1237 g0 f1287 rfl)
          have h1296 : KNN T H1282 r0 e d := (KNN_fr w1237 g0 f1287 rfl a1249)
          exact wp_ireturn e244 c244_50 rfl ⟨rfl, w1286, f1294, z1288, rfl, ⟨b1289.1, b1289.2⟩, (Or.inr ⟨by omega, by omega, by omega, by omega, h1296⟩)⟩
      · exfalso
        omega
    · have f1297 := f1173.tr f1238 rfl
      show wp _ _ 244 21 [(0, .ref r0)] [vI z1239] _ H1233 _
      refine wp_of e244 c244_21 (rw_istore_n (pc' := 22) (z := z1239) (L' := [(1, vI z1239), (0, .ref r0)]) rfl rfl rfl ?_)
      refine wp_of e244 c244_22 (rw_iload_n (pc' := 23) (z := z1239) rfl rfl ?_)
      refine wp_of e244 c244_23 (rw_if_le (p1 := 34) (p2 := 26) (by decide) rfl ⟨Int.le_trans (by decide) b1240.1, Int.le_trans b1240.2 (by decide)⟩ (fun c1298 => ?_) (fun c1298 => ?_))
      · exfalso
        omega
      · refine wp_of e244 c244_26 (rw_aload_n (pc' := 27) (v := .ref r0) rfl rfl rfl ?_)
        refine wp_of e244 c244_27 (rw_iload_n (pc' := 28) (z := z1239) rfl rfl ?_)
        refine wp_of e244 c244_28 (xc_V (pc' := 31) (r := r0) (as := [vI z1239]) (st := []) (lm_9_54) rfl rfl (Nat.le_of_ble_eq_true rfl) w1237 g0 sh_42 (by decide) rfl (by decide) (u_170  w1237 g0 ⟨Int.le_trans (by decide) b1240.1, Int.le_trans b1240.2 (by decide)⟩) (fun R1299 T1300 H1301 p1302 => ?_))
        obtain ⟨e1303, w1305, f1306, z1307, e1304, b1308, p1309⟩ := p1302
        subst e1303
        subst e1304
        obtain ⟨a1310, a1311, a1312⟩ := p1309
        have f1313 := f1297.tr f1306 rfl
        show wp _ _ 244 31 [(1, vI z1239), (0, .ref r0)] [vI z1307] _ H1301 _
        refine wp_of e244 c244_31 (rw_goto (p1 := 50) (by decide) ?_)
        have k1314 : wKI H1301 r0 = wKI H1233 r0 := (wKI_fr w1237 g0 f1306 rfl)
        have h1315 : KNN T H1301 r0 e d := (KNN_fr w1237 g0 f1306 rfl a1257)
        exact wp_ireturn e244 c244_50 rfl ⟨rfl, w1305, f1313, z1307, rfl, ⟨b1308.1, b1308.2⟩, (Or.inl ⟨by omega, by omega, by omega, h1315⟩)⟩
/-! StrikeAwakeModel.world(II)I  -/
abbrev uq_245 (r0 : Nat) (a1 : Int) (a2 : Int) (e : xD) (d : xD) (T : wq_T) (H : wq_H) : Option Value → wq_T → wq_H → Prop := fun r T' H' => T = T' ∧ WT T H' ∧ wfr [(42, 0), (42, 1), (42, 2), (42, 28), (42, 29), (51, 999), (52, 999)] T H H' ∧ ∃ z : Int, some (vI z) = r ∧ ((-2147483648) ≤ z ∧ z ≤ 2147483647) ∧ (((wKI H' r0 = 1) ∧ KNN T H' r0 e d))
set_option maxHeartbeats 4000000 in
theorem u_245 {kt : Nat → Option mc_E} {T : wq_T} {H : wq_H} {r0 : Nat} {a1 : Int} {a2 : Int} {e : xD} {d : xD} (hW : WT T H) (g0 : T.2.2.2 r0 = some 42) (i1 : (-2147483648) ≤ a1 ∧ a1 ≤ 2147483647) (i2 : (-2147483648) ≤ a2 ∧ a2 ≤ 2147483647) (p0 : wKI H r0 = 1) (p1 : XW d) (p2 : ∀ h : Nat, d 0 0 ≤ (h : Int) → h < 24 → e 13 h = 0) (p3 : XN d) (p4 : ∀ h : Nat, h < 24 → 0 ≤ e 13 h ∧ e 13 h ≤ 100) (hRB_r0 : RB T H r0 e d) (hKNN_r0 : KNN T H r0 e d) : wpc kt 8 245 [.ref r0, vI a1, vI a2] T H (uq_245 r0 a1 a2 e d T H) := by
  refine wp_enter e245 (Nat.le_of_ble_eq_true rfl) rfl ?_
  have f0 : wfr [(42, 0), (42, 1), (42, 2), (42, 28), (42, 29), (51, 999), (52, 999)] T H H := wfr.rf
  show wp _ _ 245 0 [(0, .ref r0), (1, vI a1), (2, vI a2)] [] _ H _
  have _b := RB_b hW hRB_r0
  have _nu := RB_n3 hRB_r0
  have _lm := RB_lm hRB_r0
  refine wp_of e245 c245_0 (rw_aload_n (pc' := 1) (v := .ref r0) rfl rfl rfl ?_)
  refine wp_of e245 c245_1 (rw_iconst (pc' := 2) rfl ?_)
  refine wp_of e245 c245_2 (xp_I (pc' := 5) lf_9_48 hW g0 sh_42 (by decide) (by decide) ty_42_0 rfl rfl (by decide) (by decide) ⟨by decide, by decide⟩ rfl (fun H1297 e1298 w1299 => ?_))
  have f1300 := f0.put' e1298 g0 rfl
  have k1301 : H1297 r0 0 = 0 := wq_u_s e1298
  refine wp_of e245 c245_5 (rw_aload_n (pc' := 6) (v := .ref r0) rfl rfl rfl ?_)
  refine wp_of e245 c245_6 (rw_aload_n (pc' := 7) (v := .ref r0) rfl rfl rfl ?_)
  refine wp_of e245 c245_7 (rw_iload_n (pc' := 8) (z := a2) rfl rfl ?_)
  refine wp_of e245 c245_8 (xc_V (pc' := 11) (r := r0) (as := [vI a2]) (st := [.ref r0]) (lm_9_364) rfl rfl (Nat.le_of_ble_eq_true rfl) w1299 g0 sh_42 (by decide) rfl (by decide) (s_213 w1299 g0 ⟨i2.1, i2.2⟩) (fun R1302 T1303 H1304 p1305 => ?_))
  obtain ⟨e1306, e1308, z1310, e1307, b1311, p1309⟩ := p1305
  subst e1306
  subst e1307
  subst e1308
  show wp _ _ 245 11 [(0, .ref r0), (1, vI a1), (2, vI a2)] [vI z1310, .ref r0] _ H1297 _
  refine wp_of e245 c245_11 (rw_if_eq (p1 := 22) (p2 := 14) (by decide) rfl ⟨Int.le_trans (by decide) b1311.1, Int.le_trans b1311.2 (by decide)⟩ (fun c1312 => ?_) (fun c1312 => ?_))
  · refine wp_of e245 c245_22 (rw_iconst (pc' := 23) rfl ?_)
    have k1313 : H1297 r0 3 = H r0 3 := (wq_u_j e1298 rfl)
    have k1314 : wKI H1297 r0 = wKI H r0 := (wKI_fr hW g0 ((wfr.rf (l := [(42, 0)])).put' e1298 g0 rfl) rfl)
    have h1315 : RB T H1297 r0 e d := (RB_fr hW g0 ((wfr.rf (l := [(42, 0)])).put' e1298 g0 rfl) rfl hRB_r0)
    have h1316 : KNN T H1297 r0 e d := (KNN_fr hW g0 ((wfr.rf (l := [(42, 0)])).put' e1298 g0 rfl) rfl hKNN_r0)
    refine wp_of e245 c245_23 (xc_V (pc' := 26) (r := r0) (as := [vI 0]) (st := []) (lm_9_433) rfl rfl (Nat.le_of_ble_eq_true rfl) w1299 g0 sh_42 (by decide) rfl (by decide) (u_241 (e := e) (d := d) w1299 g0 ⟨by decide, by decide⟩ (by omega) (by omega) (by assumption) (by assumption) (by assumption) (by assumption) h1315 h1316) (fun R1317 T1318 H1319 p1320 => ?_))
    obtain ⟨e1321, w1323, f1324, z1325, e1322, b1326, p1327⟩ := p1320
    subst e1321
    subst e1322
    rcases p1327 with ⟨a1328, a1329, a1330, a1331, a1332, a1333, a1334, a1335, a1336⟩ | ⟨a1337, a1338, a1339, a1340, a1341, a1342, a1343⟩
    · exfalso
      omega
    · have f1344 := f1300.tr f1324 rfl
      show wp _ _ 245 26 [(0, .ref r0), (1, vI a1), (2, vI a2)] [vI z1325] _ H1319 _
      have k1345 : wLM H1319 r0 = wLM H r0 := ((wLM_fr w1299 g0 f1324 rfl).trans (wLM_fr hW g0 ((wfr.rf (l := [(42, 0)])).put' e1298 g0 rfl) rfl))
      refine wp_of e245 c245_26 (rw_istore_n (pc' := 27) (z := z1325) (L' := [(3, vI z1325), (0, .ref r0), (1, vI a1), (2, vI a2)]) rfl rfl rfl ?_)
      refine wp_of e245 c245_27 (rw_iload_n (pc' := 28) (z := z1325) rfl rfl ?_)
      refine wp_of e245 c245_28 (rw_if_ne (p1 := 41) (p2 := 31) (by decide) rfl ⟨Int.le_trans (by decide) b1326.1, Int.le_trans b1326.2 (by decide)⟩ (fun c1346 => ?_) (fun c1346 => ?_))
      · refine wp_of e245 c245_41 (rw_iload_n (pc' := 42) (z := z1325) rfl rfl ?_)
        refine wp_of e245 c245_42 (rw_if_le (p1 := 51) (p2 := 45) (by decide) rfl ⟨Int.le_trans (by decide) b1326.1, Int.le_trans b1326.2 (by decide)⟩ (fun c1347 => ?_) (fun c1347 => ?_))
        · exfalso
          omega
        · refine wp_of e245 c245_45 (rw_aload_n (pc' := 46) (v := .ref r0) rfl rfl rfl ?_)
          refine wp_of e245 c245_46 (rw_iload_n (pc' := 47) (z := z1325) rfl rfl ?_)
          refine wp_of e245 c245_47 (xc_V (pc' := 50) (r := r0) (as := [vI z1325]) (st := []) (lm_9_54) rfl rfl (Nat.le_of_ble_eq_true rfl) w1323 g0 sh_42 (by decide) rfl (by decide) (s_170 w1323 g0 ⟨Int.le_trans (by decide) b1326.1, Int.le_trans b1326.2 (by decide)⟩) (fun R1348 T1349 H1350 p1351 => ?_))
          obtain ⟨e1352, w1354, f1355, z1356, e1353, b1357⟩ := p1351
          subst e1352
          subst e1353
          have f1358 := f1344.tr f1355 rfl
          show wp _ _ 245 50 [(3, vI z1325), (0, .ref r0), (1, vI a1), (2, vI a2)] [vI z1356] _ H1350 _
          have k1359 : wKI H1350 r0 = wKI H1319 r0 := (wKI_fr w1323 g0 f1355 rfl)
          have h1360 : KNN T H1350 r0 e d := (KNN_fr w1323 g0 f1355 rfl a1343)
          exact wp_ireturn e245 c245_50 rfl ⟨rfl, w1354, f1358, z1356, rfl, ⟨b1357.1, b1357.2⟩, ⟨by omega, h1360⟩⟩
      · exfalso
        omega
  · refine wp_of e245 c245_14 (rw_iload_n (pc' := 15) (z := a1) rfl rfl ?_)
    refine wp_of e245 c245_15 (rw_if_lt (p1 := 22) (p2 := 18) (by decide) rfl ⟨i1.1, i1.2⟩ (fun c1361 => ?_) (fun c1361 => ?_))
    · refine wp_of e245 c245_22 (rw_iconst (pc' := 23) rfl ?_)
      have k1362 : H1297 r0 3 = H r0 3 := (wq_u_j e1298 rfl)
      have k1363 : wKI H1297 r0 = wKI H r0 := (wKI_fr hW g0 ((wfr.rf (l := [(42, 0)])).put' e1298 g0 rfl) rfl)
      have h1364 : RB T H1297 r0 e d := (RB_fr hW g0 ((wfr.rf (l := [(42, 0)])).put' e1298 g0 rfl) rfl hRB_r0)
      have h1365 : KNN T H1297 r0 e d := (KNN_fr hW g0 ((wfr.rf (l := [(42, 0)])).put' e1298 g0 rfl) rfl hKNN_r0)
      refine wp_of e245 c245_23 (xc_V (pc' := 26) (r := r0) (as := [vI 0]) (st := []) (lm_9_433) rfl rfl (Nat.le_of_ble_eq_true rfl) w1299 g0 sh_42 (by decide) rfl (by decide) (u_241 (e := e) (d := d) w1299 g0 ⟨by decide, by decide⟩ (by omega) (by omega) (by assumption) (by assumption) (by assumption) (by assumption) h1364 h1365) (fun R1366 T1367 H1368 p1369 => ?_))
      obtain ⟨e1370, w1372, f1373, z1374, e1371, b1375, p1376⟩ := p1369
      subst e1370
      subst e1371
      rcases p1376 with ⟨a1377, a1378, a1379, a1380, a1381, a1382, a1383, a1384, a1385⟩ | ⟨a1386, a1387, a1388, a1389, a1390, a1391, a1392⟩
      · exfalso
        omega
      · have f1393 := f1300.tr f1373 rfl
        show wp _ _ 245 26 [(0, .ref r0), (1, vI a1), (2, vI a2)] [vI z1374] _ H1368 _
        have k1394 : wLM H1368 r0 = wLM H r0 := ((wLM_fr w1299 g0 f1373 rfl).trans (wLM_fr hW g0 ((wfr.rf (l := [(42, 0)])).put' e1298 g0 rfl) rfl))
        refine wp_of e245 c245_26 (rw_istore_n (pc' := 27) (z := z1374) (L' := [(3, vI z1374), (0, .ref r0), (1, vI a1), (2, vI a2)]) rfl rfl rfl ?_)
        refine wp_of e245 c245_27 (rw_iload_n (pc' := 28) (z := z1374) rfl rfl ?_)
        refine wp_of e245 c245_28 (rw_if_ne (p1 := 41) (p2 := 31) (by decide) rfl ⟨Int.le_trans (by decide) b1375.1, Int.le_trans b1375.2 (by decide)⟩ (fun c1395 => ?_) (fun c1395 => ?_))
        · refine wp_of e245 c245_41 (rw_iload_n (pc' := 42) (z := z1374) rfl rfl ?_)
          refine wp_of e245 c245_42 (rw_if_le (p1 := 51) (p2 := 45) (by decide) rfl ⟨Int.le_trans (by decide) b1375.1, Int.le_trans b1375.2 (by decide)⟩ (fun c1396 => ?_) (fun c1396 => ?_))
          · exfalso
            omega
          · refine wp_of e245 c245_45 (rw_aload_n (pc' := 46) (v := .ref r0) rfl rfl rfl ?_)
            refine wp_of e245 c245_46 (rw_iload_n (pc' := 47) (z := z1374) rfl rfl ?_)
            refine wp_of e245 c245_47 (xc_V (pc' := 50) (r := r0) (as := [vI z1374]) (st := []) (lm_9_54) rfl rfl (Nat.le_of_ble_eq_true rfl) w1372 g0 sh_42 (by decide) rfl (by decide) (s_170 w1372 g0 ⟨Int.le_trans (by decide) b1375.1, Int.le_trans b1375.2 (by decide)⟩) (fun R1397 T1398 H1399 p1400 => ?_))
            obtain ⟨e1401, w1403, f1404, z1405, e1402, b1406⟩ := p1400
            subst e1401
            subst e1402
            have f1407 := f1393.tr f1404 rfl
            show wp _ _ 245 50 [(3, vI z1374), (0, .ref r0), (1, vI a1), (2, vI a2)] [vI z1405] _ H1399 _
            have k1408 : wKI H1399 r0 = wKI H1368 r0 := (wKI_fr w1372 g0 f1404 rfl)
            have h1409 : KNN T H1399 r0 e d := (KNN_fr w1372 g0 f1404 rfl a1392)
            exact wp_ireturn e245 c245_50 rfl ⟨rfl, w1403, f1407, z1405, rfl, ⟨b1406.1, b1406.2⟩, ⟨by omega, h1409⟩⟩
        · exfalso
          omega
    · refine wp_of e245 c245_18 (rw_iconst (pc' := 19) rfl ?_)
      refine wp_of e245 c245_19 (rw_goto (p1 := 23) (by decide) ?_)
      have k1410 : H1297 r0 3 = H r0 3 := (wq_u_j e1298 rfl)
      have k1411 : wKI H1297 r0 = wKI H r0 := (wKI_fr hW g0 ((wfr.rf (l := [(42, 0)])).put' e1298 g0 rfl) rfl)
      have h1412 : RB T H1297 r0 e d := (RB_fr hW g0 ((wfr.rf (l := [(42, 0)])).put' e1298 g0 rfl) rfl hRB_r0)
      have h1413 : KNN T H1297 r0 e d := (KNN_fr hW g0 ((wfr.rf (l := [(42, 0)])).put' e1298 g0 rfl) rfl hKNN_r0)
      refine wp_of e245 c245_23 (xc_V (pc' := 26) (r := r0) (as := [vI 1]) (st := []) (lm_9_433) rfl rfl (Nat.le_of_ble_eq_true rfl) w1299 g0 sh_42 (by decide) rfl (by decide) (u_241 (e := e) (d := d) w1299 g0 ⟨by decide, by decide⟩ (by omega) (by omega) (by assumption) (by assumption) (by assumption) (by assumption) h1412 h1413) (fun R1414 T1415 H1416 p1417 => ?_))
      obtain ⟨e1418, w1420, f1421, z1422, e1419, b1423, p1424⟩ := p1417
      subst e1418
      subst e1419
      rcases p1424 with ⟨a1425, a1426, a1427, a1428, a1429, a1430, a1431, a1432, a1433⟩ | ⟨a1434, a1435, a1436, a1437, a1438, a1439, a1440⟩
      · have f1441 := f1300.tr f1421 rfl
        show wp _ _ 245 26 [(0, .ref r0), (1, vI a1), (2, vI a2)] [vI z1422] _ H1416 _
        have k1442 : wLM H1416 r0 = wLM H r0 := ((wLM_fr w1299 g0 f1421 rfl).trans (wLM_fr hW g0 ((wfr.rf (l := [(42, 0)])).put' e1298 g0 rfl) rfl))
        refine wp_of e245 c245_26 (rw_istore_n (pc' := 27) (z := z1422) (L' := [(3, vI z1422), (0, .ref r0), (1, vI a1), (2, vI a2)]) rfl rfl rfl ?_)
        refine wp_of e245 c245_27 (rw_iload_n (pc' := 28) (z := z1422) rfl rfl ?_)
        refine wp_of e245 c245_28 (rw_if_ne (p1 := 41) (p2 := 31) (by decide) rfl ⟨Int.le_trans (by decide) b1423.1, Int.le_trans b1423.2 (by decide)⟩ (fun c1443 => ?_) (fun c1443 => ?_))
        · exfalso
          omega
        · refine wp_of e245 c245_31 (rw_iload_n (pc' := 32) (z := a1) rfl rfl ?_)
          refine wp_of e245 c245_32 (rw_aload_n (pc' := 33) (v := .ref r0) rfl rfl rfl ?_)
          refine wp_of e245 c245_33 (xg_I (pc' := 36) lf_9_422 w1420 g0 sh_42 (by decide) (by decide) ty_42_29 rfl rfl (fun b1444 b1445 => ?_))
          refine wp_of e245 c245_36 (rw_icmp_lt (p1 := 41) (p2 := 39) (by decide) rfl ⟨i1.1, i1.2⟩ ⟨Int.le_trans (by decide) b1444, Int.le_trans b1445 (by decide)⟩ (fun c1446 => ?_) (fun c1446 => ?_))
          · refine wp_of e245 c245_41 (rw_iload_n (pc' := 42) (z := z1422) rfl rfl ?_)
            refine wp_of e245 c245_42 (rw_if_le (p1 := 51) (p2 := 45) (by decide) rfl ⟨Int.le_trans (by decide) b1423.1, Int.le_trans b1423.2 (by decide)⟩ (fun c1447 => ?_) (fun c1447 => ?_))
            · refine wp_of e245 c245_51 (rw_aload_n (pc' := 52) (v := .ref r0) rfl rfl rfl ?_)
              refine wp_of e245 c245_52 (rw_aload_n (pc' := 53) (v := .ref r0) rfl rfl rfl ?_)
              refine wp_of e245 c245_53 (xg_R (pc' := 56) lf_9_42 w1420 g0 sh_42 (by decide) (by decide) ty_42_30 rfl rfl (fun r1448 q1449 g1450 => ?_))
              refine wp_of e245 c245_56 (rw_iload_n (pc' := 57) (z := a1) rfl rfl ?_)
              refine wp_of e245 c245_57 (xa_I (so := 0) (pc' := 58) w1420 g1450 sh_52 (by decide) (ty_52 _) (by omega) (by omega) rfl (fun b1451 b1452 => ?_))
              have k1453 : H1416 r0 3 = H1297 r0 3 := (f1421 r0 3 _ g0 rfl)
              obtain ⟨r1454, q1455, g1456⟩ := (w1420.opt g0 (t' := 54) (n := 33) (j := 3) (p := 0) (q := 0) rfl (by decide) rfl).resolve_left (by omega)
              refine wp_of e245 c245_58 (xc_V (pc' := 61) (r := r0) (as := [vI (H1416 r1448 (a1.toNat))]) (st := []) (lm_9_425) rfl rfl (Nat.le_of_ble_eq_true rfl) w1420 g0 sh_42 (by decide) rfl (by decide) (s_243 w1420 g0 ⟨b1451, Int.le_trans b1452 (by decide)⟩ q1455 g1456 (by omega)) (fun R1457 T1458 H1459 p1460 => ?_))
              obtain ⟨e1461, w1463, f1464, e1462⟩ := p1460
              subst e1461
              subst e1462
              have f1465 := f1441.tr f1464 rfl
              show wp _ _ 245 61 [(3, vI z1422), (0, .ref r0), (1, vI a1), (2, vI a2)] [] _ H1459 _
              refine wp_of e245 c245_61 (rw_aload_n (pc' := 62) (v := .ref r0) rfl rfl rfl ?_)
              refine wp_of e245 c245_62 (rw_aload_n (pc' := 63) (v := .ref r0) rfl rfl rfl ?_)
              refine wp_of e245 c245_63 (xg_R (pc' := 66) lf_9_39 w1463 g0 sh_42 (by decide) (by decide) ty_42_27 rfl rfl (fun r1466 q1467 g1468 => ?_))
              refine wp_of e245 c245_66 (rw_iload_n (pc' := 67) (z := a2) rfl rfl ?_)
              refine wp_of e245 c245_67 (xa_I (so := 0) (pc' := 68) w1463 g1468 sh_51 (by decide) (ty_51 _) (by omega) (by omega) rfl (fun b1469 b1470 => ?_))
              refine wp_of e245 c245_68 (xc_V (pc' := 71) (r := r0) (as := [vI (H1459 r1466 (a2.toNat))]) (st := []) (lm_9_58) rfl rfl (Nat.le_of_ble_eq_true rfl) w1463 g0 sh_42 (by decide) rfl (by decide) (s_209 w1463 g0 ⟨Int.le_trans (by decide) b1469, Int.le_trans b1470 (by decide)⟩) (fun R1471 T1472 H1473 p1474 => ?_))
              obtain ⟨e1475, w1477, f1478, z1479, e1476, b1480⟩ := p1474
              subst e1475
              subst e1476
              have f1481 := f1465.tr f1478 rfl
              show wp _ _ 245 71 [(3, vI z1422), (0, .ref r0), (1, vI a1), (2, vI a2)] [vI z1479] _ H1473 _
              have k1482 : wKI H1473 r0 = wKI H1416 r0 := ((wKI_fr w1463 g0 f1478 rfl).trans (wKI_fr w1420 g0 f1464 rfl))
              have h1483 : KNN T H1473 r0 e d := (KNN_fr w1463 g0 f1478 rfl (KNN_fr w1420 g0 f1464 rfl a1432))
              exact wp_ireturn e245 c245_71 rfl ⟨rfl, w1477, f1481, z1479, rfl, ⟨b1480.1, b1480.2⟩, ⟨by omega, h1483⟩⟩
            · exfalso
              omega
          · refine wp_of e245 c245_39 (rw_iconst (pc' := 40) rfl ?_)
            refine wp_of e245 c245_40 (rw_istore_n (pc' := 41) (z := 1) (L' := [(3, vI 1), (0, .ref r0), (1, vI a1), (2, vI a2)]) rfl rfl rfl ?_)
            refine wp_of e245 c245_41 (rw_iload_n (pc' := 42) (z := 1) rfl rfl ?_)
            refine wp_of e245 c245_42 (rw_if_le (p1 := 51) (p2 := 45) (by decide) rfl ⟨by decide, by decide⟩ (fun c1484 => ?_) (fun c1484 => ?_))
            · exfalso
              omega
            · refine wp_of e245 c245_45 (rw_aload_n (pc' := 46) (v := .ref r0) rfl rfl rfl ?_)
              refine wp_of e245 c245_46 (rw_iload_n (pc' := 47) (z := 1) rfl rfl ?_)
              refine wp_of e245 c245_47 (xc_V (pc' := 50) (r := r0) (as := [vI 1]) (st := []) (lm_9_54) rfl rfl (Nat.le_of_ble_eq_true rfl) w1420 g0 sh_42 (by decide) rfl (by decide) (s_170 w1420 g0 ⟨by decide, by decide⟩) (fun R1485 T1486 H1487 p1488 => ?_))
              obtain ⟨e1489, w1491, f1492, z1493, e1490, b1494⟩ := p1488
              subst e1489
              subst e1490
              have f1495 := f1441.tr f1492 rfl
              show wp _ _ 245 50 [(3, vI 1), (0, .ref r0), (1, vI a1), (2, vI a2)] [vI z1493] _ H1487 _
              have k1496 : wKI H1487 r0 = wKI H1416 r0 := (wKI_fr w1420 g0 f1492 rfl)
              have h1497 : KNN T H1487 r0 e d := (KNN_fr w1420 g0 f1492 rfl a1432)
              exact wp_ireturn e245 c245_50 rfl ⟨rfl, w1491, f1495, z1493, rfl, ⟨b1494.1, b1494.2⟩, ⟨by omega, h1497⟩⟩
      · have f1498 := f1300.tr f1421 rfl
        show wp _ _ 245 26 [(0, .ref r0), (1, vI a1), (2, vI a2)] [vI z1422] _ H1416 _
        have k1499 : wLM H1416 r0 = wLM H r0 := ((wLM_fr w1299 g0 f1421 rfl).trans (wLM_fr hW g0 ((wfr.rf (l := [(42, 0)])).put' e1298 g0 rfl) rfl))
        refine wp_of e245 c245_26 (rw_istore_n (pc' := 27) (z := z1422) (L' := [(3, vI z1422), (0, .ref r0), (1, vI a1), (2, vI a2)]) rfl rfl rfl ?_)
        refine wp_of e245 c245_27 (rw_iload_n (pc' := 28) (z := z1422) rfl rfl ?_)
        refine wp_of e245 c245_28 (rw_if_ne (p1 := 41) (p2 := 31) (by decide) rfl ⟨Int.le_trans (by decide) b1423.1, Int.le_trans b1423.2 (by decide)⟩ (fun c1500 => ?_) (fun c1500 => ?_))
        · refine wp_of e245 c245_41 (rw_iload_n (pc' := 42) (z := z1422) rfl rfl ?_)
          refine wp_of e245 c245_42 (rw_if_le (p1 := 51) (p2 := 45) (by decide) rfl ⟨Int.le_trans (by decide) b1423.1, Int.le_trans b1423.2 (by decide)⟩ (fun c1501 => ?_) (fun c1501 => ?_))
          · exfalso
            omega
          · refine wp_of e245 c245_45 (rw_aload_n (pc' := 46) (v := .ref r0) rfl rfl rfl ?_)
            refine wp_of e245 c245_46 (rw_iload_n (pc' := 47) (z := z1422) rfl rfl ?_)
            refine wp_of e245 c245_47 (xc_V (pc' := 50) (r := r0) (as := [vI z1422]) (st := []) (lm_9_54) rfl rfl (Nat.le_of_ble_eq_true rfl) w1420 g0 sh_42 (by decide) rfl (by decide) (s_170 w1420 g0 ⟨Int.le_trans (by decide) b1423.1, Int.le_trans b1423.2 (by decide)⟩) (fun R1502 T1503 H1504 p1505 => ?_))
            obtain ⟨e1506, w1508, f1509, z1510, e1507, b1511⟩ := p1505
            subst e1506
            subst e1507
            have f1512 := f1498.tr f1509 rfl
            show wp _ _ 245 50 [(3, vI z1422), (0, .ref r0), (1, vI a1), (2, vI a2)] [vI z1510] _ H1504 _
            have k1513 : wKI H1504 r0 = wKI H1416 r0 := (wKI_fr w1420 g0 f1509 rfl)
            have h1514 : KNN T H1504 r0 e d := (KNN_fr w1420 g0 f1509 rfl a1440)
            exact wp_ireturn e245 c245_50 rfl ⟨rfl, w1508, f1512, z1510, rfl, ⟨b1511.1, b1511.2⟩, ⟨by omega, h1514⟩⟩
        · exfalso
          omega
