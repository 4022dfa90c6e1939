/-! what methods do (own work, written by wip/gen3/sx3.py) -/
/-! StrikeAwakeModel.weights()J  -/
abbrev uq_246 (r0 : Nat) (e : xD) (d : xD) (T : wq_T) (H : wq_H) : Option Value → wq_T → wq_H → Prop := fun r T' H' => T = T' ∧ WT T H' ∧ wfr [(42, 0), (42, 1), (42, 2), (42, 28), (42, 29), (51, 999), (52, 999)] T H H' ∧ ∃ z : Int, some (vL z) = r ∧ ((-9223372036854775808) ≤ z ∧ z ≤ 9223372036854775807) ∧ (((wKI H' r0 = 1) ∧ KNN T H' r0 e d))
set_option maxHeartbeats 4000000 in
theorem u_246 {kt : Nat → Option mc_E} {T : wq_T} {H : wq_H} {r0 : Nat} {e : xD} {d : xD} (hW : WT T H) (g0 : T.2.2.2 r0 = some 42) (p0 : wKI H r0 = 1) (p1 : XW d) (p2 : ∀ h : Nat, d 0 0 ≤ (h : Int) → h < 24 → e 13 h = 0) (p3 : XN d) (p4 : ∀ h : Nat, h < 24 → 0 ≤ e 13 h ∧ e 13 h ≤ 100) (hRB_r0 : RB T H r0 e d) (hKNN_r0 : KNN T H r0 e d) : wpc kt 8 246 [.ref r0] T H (uq_246 r0 e d T H) := by
  refine wp_enter e246 (Nat.le_of_ble_eq_true rfl) rfl ?_
  have f0 : wfr [(42, 0), (42, 1), (42, 2), (42, 28), (42, 29), (51, 999), (52, 999)] T H H := wfr.rf
  show wp _ _ 246 0 [(0, .ref r0)] [] _ H _
  have _b := RB_b hW hRB_r0
  have _nu := RB_n3 hRB_r0
  have _lm := RB_lm hRB_r0
  refine wp_of e246 c246_0 (rw_aload_n (pc' := 1) (v := .ref r0) rfl rfl rfl ?_)
  refine wp_of e246 c246_1 (rw_iconst (pc' := 2) rfl ?_)
  refine wp_of e246 c246_2 (xp_I (pc' := 5) lf_9_48 hW g0 sh_42 (by decide) (by decide) ty_42_0 rfl rfl (by decide) (by decide) ⟨by decide, by decide⟩ rfl (fun H1153 e1154 w1155 => ?_))
  have f1156 := f0.put' e1154 g0 rfl
  have k1157 : H1153 r0 0 = 0 := wq_u_s e1154
  refine wp_of e246 c246_5 (rw_aload_n (pc' := 6) (v := .ref r0) rfl rfl rfl ?_)
  refine wp_of e246 c246_6 (rw_aload_n (pc' := 7) (v := .ref r0) rfl rfl rfl ?_)
  have k1158 : H1153 r0 3 = H r0 3 := (wq_u_j e1154 rfl)
  refine wp_of e246 c246_7 (xg_O (pc' := 10) lf_9_337 w1155 g0 sh_42 (by decide) (by decide) ty_42_3 rfl rfl (fun q1160 => ?_) (fun r1159 q1160 g1161 => ?_))
  · refine wp_of e246 c246_10 (rw_ifnull_n (p1 := 17) (p2 := 13) (by decide) rfl ?_)
    refine wp_of e246 c246_17 (rw_iconst (pc' := 18) rfl ?_)
    have k1162 : wKI H1153 r0 = wKI H r0 := (wKI_fr hW g0 ((wfr.rf (l := [(42, 0)])).put' e1154 g0 rfl) rfl)
    have h1163 : RB T H1153 r0 e d := (RB_fr hW g0 ((wfr.rf (l := [(42, 0)])).put' e1154 g0 rfl) rfl hRB_r0)
    have h1164 : KNN T H1153 r0 e d := (KNN_fr hW g0 ((wfr.rf (l := [(42, 0)])).put' e1154 g0 rfl) rfl hKNN_r0)
    refine wp_of e246 c246_18 (xc_V (pc' := 21) (r := r0) (as := [vI 0]) (st := []) (lm_9_433) rfl rfl (Nat.le_of_ble_eq_true rfl) w1155 g0 sh_42 (by decide) rfl (by decide) (u_241 (e := e) (d := d) w1155 g0 ⟨by decide, by decide⟩ (by omega) (by omega) (by assumption) (by assumption) (by assumption) (by assumption) h1163 h1164) (fun R1165 T1166 H1167 p1168 => ?_))
    obtain ⟨e1169, w1171, f1172, z1173, e1170, b1174, p1175⟩ := p1168
    subst e1169
    subst e1170
    rcases p1175 with ⟨a1176, a1177, a1178, a1179, a1180, a1181, a1182, a1183, a1184⟩ | ⟨a1185, a1186, a1187, a1188, a1189, a1190, a1191⟩
    · exfalso
      omega
    · have f1192 := f1156.tr f1172 rfl
      show wp _ _ 246 21 [(0, .ref r0)] [vI z1173] _ H1167 _
      have k1193 : wLM H1167 r0 = wLM H r0 := ((wLM_fr w1155 g0 f1172 rfl).trans (wLM_fr hW g0 ((wfr.rf (l := [(42, 0)])).put' e1154 g0 rfl) rfl))
      refine wp_of e246 c246_21 (rw_istore_n (pc' := 22) (z := z1173) (L' := [(1, vI z1173), (0, .ref r0)]) rfl rfl rfl ?_)
      refine wp_of e246 c246_22 (rw_iload_n (pc' := 23) (z := z1173) rfl rfl ?_)
      refine wp_of e246 c246_23 (rw_if_le (p1 := 35) (p2 := 26) (by decide) rfl ⟨Int.le_trans (by decide) b1174.1, Int.le_trans b1174.2 (by decide)⟩ (fun c1194 => ?_) (fun c1194 => ?_))
      · exfalso
        omega
      · refine wp_of e246 c246_26 (rw_aload_n (pc' := 27) (v := .ref r0) rfl rfl rfl ?_)
        refine wp_of e246 c246_27 (rw_iload_n (pc' := 28) (z := z1173) rfl rfl ?_)
        refine wp_of e246 c246_28 (xc_V (pc' := 31) (r := r0) (as := [vI z1173]) (st := []) (lm_9_54) rfl rfl (Nat.le_of_ble_eq_true rfl) w1171 g0 sh_42 (by decide) rfl (by decide) (s_170 w1171 g0 ⟨Int.le_trans (by decide) b1174.1, Int.le_trans b1174.2 (by decide)⟩) (fun R1195 T1196 H1197 p1198 => ?_))
        obtain ⟨e1199, w1201, f1202, z1203, e1200, b1204⟩ := p1198
        subst e1199
        subst e1200
        have f1205 := f1192.tr f1202 rfl
        show wp _ _ 246 31 [(1, vI z1173), (0, .ref r0)] [vI z1203] _ H1197 _
        refine wp_of e246 c246_31 (rw_i2l (pc' := 32) rfl ⟨b1204.1, b1204.2⟩ ?_)
        refine wp_of e246 c246_32 (rw_goto (p1 := 45) (by decide) ?_)
        have k1206 : wKI H1197 r0 = wKI H1167 r0 := (wKI_fr w1171 g0 f1202 rfl)
        have h1207 : KNN T H1197 r0 e d := (KNN_fr w1171 g0 f1202 rfl a1191)
        exact wp_lreturn e246 c246_45 rfl ⟨rfl, w1201, f1205, z1203, rfl, ⟨Int.le_trans (by decide) b1204.1, Int.le_trans b1204.2 (by decide)⟩, ⟨by omega, h1207⟩⟩
  · refine wp_of e246 c246_10 (rw_ifnull_r (p1 := 17) (p2 := 13) (by decide) rfl ?_)
    refine wp_of e246 c246_13 (rw_iconst (pc' := 14) rfl ?_)
    refine wp_of e246 c246_14 (rw_goto (p1 := 18) (by decide) ?_)
    have k1208 : wKI H1153 r0 = wKI H r0 := (wKI_fr hW g0 ((wfr.rf (l := [(42, 0)])).put' e1154 g0 rfl) rfl)
    have h1209 : RB T H1153 r0 e d := (RB_fr hW g0 ((wfr.rf (l := [(42, 0)])).put' e1154 g0 rfl) rfl hRB_r0)
    have h1210 : KNN T H1153 r0 e d := (KNN_fr hW g0 ((wfr.rf (l := [(42, 0)])).put' e1154 g0 rfl) rfl hKNN_r0)
    refine wp_of e246 c246_18 (xc_V (pc' := 21) (r := r0) (as := [vI 1]) (st := []) (lm_9_433) rfl rfl (Nat.le_of_ble_eq_true rfl) w1155 g0 sh_42 (by decide) rfl (by decide) (u_241 (e := e) (d := d) w1155 g0 ⟨by decide, by decide⟩ (by omega) (by omega) (by assumption) (by assumption) (by assumption) (by assumption) h1209 h1210) (fun R1211 T1212 H1213 p1214 => ?_))
    obtain ⟨e1215, w1217, f1218, z1219, e1216, b1220, p1221⟩ := p1214
    subst e1215
    subst e1216
    rcases p1221 with ⟨a1222, a1223, a1224, a1225, a1226, a1227, a1228, a1229, a1230⟩ | ⟨a1231, a1232, a1233, a1234, a1235, a1236, a1237⟩
    · have f1238 := f1156.tr f1218 rfl
      show wp _ _ 246 21 [(0, .ref r0)] [vI z1219] _ H1213 _
      have k1239 : wLM H1213 r0 = wLM H r0 := ((wLM_fr w1155 g0 f1218 rfl).trans (wLM_fr hW g0 ((wfr.rf (l := [(42, 0)])).put' e1154 g0 rfl) rfl))
      refine wp_of e246 c246_21 (rw_istore_n (pc' := 22) (z := z1219) (L' := [(1, vI z1219), (0, .ref r0)]) rfl rfl rfl ?_)
      refine wp_of e246 c246_22 (rw_iload_n (pc' := 23) (z := z1219) rfl rfl ?_)
      refine wp_of e246 c246_23 (rw_if_le (p1 := 35) (p2 := 26) (by decide) rfl ⟨Int.le_trans (by decide) b1220.1, Int.le_trans b1220.2 (by decide)⟩ (fun c1240 => ?_) (fun c1240 => ?_))
      · refine wp_of e246 c246_35 (rw_aload_n (pc' := 36) (v := .ref r0) rfl rfl rfl ?_)
        refine wp_of e246 c246_36 (rw_aload_n (pc' := 37) (v := .ref r0) rfl rfl rfl ?_)
        refine wp_of e246 c246_37 (rw_iconst (pc' := 38) rfl ?_)
        refine wp_of e246 c246_38 (rw_iconst (pc' := 39) rfl ?_)
        have k1241 : H1213 r0 3 = H1153 r0 3 := (f1218 r0 3 _ g0 rfl)
        have q1242 : H1213 r0 3 = (r1159 : Int) := k1241.trans q1160
        refine wp_of e246 c246_39 (xc_V (pc' := 42) (r := r0) (as := [vI (-1), vI 0]) (st := [.ref r0]) (lm_9_440) rfl rfl (Nat.le_of_ble_eq_true rfl) w1217 g0 sh_42 (by decide) rfl (by decide) (s_247 w1217 g0 ⟨by decide, by decide⟩ ⟨by decide, by decide⟩ q1242 g1161 (by omega)) (fun R1243 T1244 H1245 p1246 => ?_))
        obtain ⟨e1247, w1249, f1250, z1252, e1248, b1253, p1251⟩ := p1246
        subst e1247
        subst e1248
        have f1254 := f1238.tr f1250 rfl
        show wp _ _ 246 42 [(1, vI z1219), (0, .ref r0)] [vL z1252, .ref r0] _ H1245 _
        refine wp_of e246 c246_42 (xc_V (pc' := 45) (r := r0) (as := [vL z1252]) (st := []) (lm_9_380) rfl rfl (Nat.le_of_ble_eq_true rfl) w1249 g0 sh_42 (by decide) rfl (by decide) (s_221 w1249 g0 ⟨Int.le_trans (by decide) b1253.1, Int.le_trans b1253.2 (by decide)⟩) (fun R1255 T1256 H1257 p1258 => ?_))
        obtain ⟨e1259, w1261, f1262, z1263, e1260, b1264⟩ := p1258
        subst e1259
        subst e1260
        have f1265 := f1254.tr f1262 rfl
        show wp _ _ 246 45 [(1, vI z1219), (0, .ref r0)] [vL z1263] _ H1257 _
        have k1266 : wKI H1257 r0 = wKI H1213 r0 := ((wKI_fr w1249 g0 f1262 rfl).trans (wKI_fr w1217 g0 f1250 rfl))
        have h1267 : KNN T H1257 r0 e d := (KNN_fr w1249 g0 f1262 rfl (KNN_fr w1217 g0 f1250 rfl a1229))
        exact wp_lreturn e246 c246_45 rfl ⟨rfl, w1261, f1265, z1263, rfl, ⟨b1264.1, b1264.2⟩, ⟨by omega, h1267⟩⟩
      · exfalso
        omega
    · have f1268 := f1156.tr f1218 rfl
      show wp _ _ 246 21 [(0, .ref r0)] [vI z1219] _ H1213 _
      have k1269 : wLM H1213 r0 = wLM H r0 := ((wLM_fr w1155 g0 f1218 rfl).trans (wLM_fr hW g0 ((wfr.rf (l := [(42, 0)])).put' e1154 g0 rfl) rfl))
      refine wp_of e246 c246_21 (rw_istore_n (pc' := 22) (z := z1219) (L' := [(1, vI z1219), (0, .ref r0)]) rfl rfl rfl ?_)
      refine wp_of e246 c246_22 (rw_iload_n (pc' := 23) (z := z1219) rfl rfl ?_)
      refine wp_of e246 c246_23 (rw_if_le (p1 := 35) (p2 := 26) (by decide) rfl ⟨Int.le_trans (by decide) b1220.1, Int.le_trans b1220.2 (by decide)⟩ (fun c1270 => ?_) (fun c1270 => ?_))
      · exfalso
        omega
      · refine wp_of e246 c246_26 (rw_aload_n (pc' := 27) (v := .ref r0) rfl rfl rfl ?_)
        refine wp_of e246 c246_27 (rw_iload_n (pc' := 28) (z := z1219) rfl rfl ?_)
        refine wp_of e246 c246_28 (xc_V (pc' := 31) (r := r0) (as := [vI z1219]) (st := []) (lm_9_54) rfl rfl (Nat.le_of_ble_eq_true rfl) w1217 g0 sh_42 (by decide) rfl (by decide) (s_170 w1217 g0 ⟨Int.le_trans (by decide) b1220.1, Int.le_trans b1220.2 (by decide)⟩) (fun R1271 T1272 H1273 p1274 => ?_))
        obtain ⟨e1275, w1277, f1278, z1279, e1276, b1280⟩ := p1274
        subst e1275
        subst e1276
        have f1281 := f1268.tr f1278 rfl
        show wp _ _ 246 31 [(1, vI z1219), (0, .ref r0)] [vI z1279] _ H1273 _
        refine wp_of e246 c246_31 (rw_i2l (pc' := 32) rfl ⟨b1280.1, b1280.2⟩ ?_)
        refine wp_of e246 c246_32 (rw_goto (p1 := 45) (by decide) ?_)
        have k1282 : wKI H1273 r0 = wKI H1213 r0 := (wKI_fr w1217 g0 f1278 rfl)
        have h1283 : KNN T H1273 r0 e d := (KNN_fr w1217 g0 f1278 rfl a1237)
        exact wp_lreturn e246 c246_45 rfl ⟨rfl, w1277, f1281, z1279, rfl, ⟨Int.le_trans (by decide) b1280.1, Int.le_trans b1280.2 (by decide)⟩, ⟨by omega, h1283⟩⟩
/-! StrikeAwakeModel.having(II)I  -/
abbrev uq_249 (r0 : Nat) (a1 : Int) (a2 : Int) (e : xD) (d : xD) (T : wq_T) (H : wq_H) : Option Value → wq_T → wq_H → Prop := fun r T' H' => T = T' ∧ WT T H' ∧ wfr [(42, 0), (42, 1), (42, 2), (42, 28), (42, 29), (51, 999), (52, 999)] T H H' ∧ ∃ z : Int, some (vI z) = r ∧ ((-2147483648) ≤ z ∧ z ≤ 2147483647) ∧ (((wKI H' r0 = 1) ∧ KNN T H' r0 e d))
set_option maxHeartbeats 4000000 in
theorem u_249 {kt : Nat → Option mc_E} {T : wq_T} {H : wq_H} {r0 : Nat} {a1 : Int} {a2 : Int} {e : xD} {d : xD} (hW : WT T H) (g0 : T.2.2.2 r0 = some 42) (i1 : (-2147483648) ≤ a1 ∧ a1 ≤ 2147483647) (i2 : (-2147483648) ≤ a2 ∧ a2 ≤ 2147483647) (p0 : wKI H r0 = 1) (p1 : XW d) (p2 : ∀ h : Nat, d 0 0 ≤ (h : Int) → h < 24 → e 13 h = 0) (p3 : XN d) (p4 : ∀ h : Nat, h < 24 → 0 ≤ e 13 h ∧ e 13 h ≤ 100) (hRB_r0 : RB T H r0 e d) (hKNN_r0 : KNN T H r0 e d) : wpc kt 8 249 [.ref r0, vI a1, vI a2] T H (uq_249 r0 a1 a2 e d T H) := by
  refine wp_enter e249 (Nat.le_of_ble_eq_true rfl) rfl ?_
  have f0 : wfr [(42, 0), (42, 1), (42, 2), (42, 28), (42, 29), (51, 999), (52, 999)] T H H := wfr.rf
  show wp _ _ 249 0 [(0, .ref r0), (1, vI a1), (2, vI a2)] [] _ H _
  have _b := RB_b hW hRB_r0
  have _nu := RB_n3 hRB_r0
  have _lm := RB_lm hRB_r0
  refine wp_of e249 c249_0 (rw_aload_n (pc' := 1) (v := .ref r0) rfl rfl rfl ?_)
  refine wp_of e249 c249_1 (rw_iconst (pc' := 2) rfl ?_)
  refine wp_of e249 c249_2 (xp_I (pc' := 5) lf_9_48 hW g0 sh_42 (by decide) (by decide) ty_42_0 rfl rfl (by decide) (by decide) ⟨by decide, by decide⟩ rfl (fun H1370 e1371 w1372 => ?_))
  have f1373 := f0.put' e1371 g0 rfl
  have k1374 : H1370 r0 0 = 0 := wq_u_s e1371
  refine wp_of e249 c249_5 (rw_aload_n (pc' := 6) (v := .ref r0) rfl rfl rfl ?_)
  refine wp_of e249 c249_6 (rw_aload_n (pc' := 7) (v := .ref r0) rfl rfl rfl ?_)
  refine wp_of e249 c249_7 (rw_iload_n (pc' := 8) (z := a1) rfl rfl ?_)
  refine wp_of e249 c249_8 (rw_iload_n (pc' := 9) (z := a2) rfl rfl ?_)
  refine wp_of e249 c249_9 (xc_V (pc' := 12) (r := r0) (as := [vI a1, vI a2]) (st := [.ref r0]) (lm_9_367) rfl rfl (Nat.le_of_ble_eq_true rfl) w1372 g0 sh_42 (by decide) rfl (by decide) (s_215 w1372 g0 ⟨i1.1, i1.2⟩ ⟨i2.1, i2.2⟩) (fun R1375 T1376 H1377 p1378 => ?_))
  obtain ⟨e1379, e1381, z1383, e1380, b1384, p1382⟩ := p1378
  subst e1379
  subst e1380
  subst e1381
  show wp _ _ 249 12 [(0, .ref r0), (1, vI a1), (2, vI a2)] [vI z1383, .ref r0] _ H1370 _
  have k1385 : H1370 r0 3 = H r0 3 := (wq_u_j e1371 rfl)
  have k1386 : wKI H1370 r0 = wKI H r0 := (wKI_fr hW g0 ((wfr.rf (l := [(42, 0)])).put' e1371 g0 rfl) rfl)
  have h1387 : RB T H1370 r0 e d := (RB_fr hW g0 ((wfr.rf (l := [(42, 0)])).put' e1371 g0 rfl) rfl hRB_r0)
  have h1388 : KNN T H1370 r0 e d := (KNN_fr hW g0 ((wfr.rf (l := [(42, 0)])).put' e1371 g0 rfl) rfl hKNN_r0)
  refine wp_of e249 c249_12 (xc_V (pc' := 15) (r := r0) (as := [vI z1383]) (st := []) (lm_9_433) rfl rfl (Nat.le_of_ble_eq_true rfl) w1372 g0 sh_42 (by decide) rfl (by decide) (u_241 (e := e) (d := d) w1372 g0 ⟨b1384.1, b1384.2⟩ (by omega) (by omega) (by assumption) (by assumption) (by assumption) (by assumption) h1387 h1388) (fun R1389 T1390 H1391 p1392 => ?_))
  obtain ⟨e1393, w1395, f1396, z1397, e1394, b1398, p1399⟩ := p1392
  subst e1393
  subst e1394
  rcases p1399 with ⟨a1400, a1401, a1402, a1403, a1404, a1405, a1406, a1407, a1408⟩ | ⟨a1409, a1410, a1411, a1412, a1413, a1414, a1415⟩
  · have f1416 := f1373.tr f1396 rfl
    show wp _ _ 249 15 [(0, .ref r0), (1, vI a1), (2, vI a2)] [vI z1397] _ H1391 _
    have k1417 : wLM H1391 r0 = wLM H r0 := ((wLM_fr w1372 g0 f1396 rfl).trans (wLM_fr hW g0 ((wfr.rf (l := [(42, 0)])).put' e1371 g0 rfl) rfl))
    refine wp_of e249 c249_15 (rw_istore_n (pc' := 16) (z := z1397) (L' := [(3, vI z1397), (0, .ref r0), (1, vI a1), (2, vI a2)]) rfl rfl rfl ?_)
    refine wp_of e249 c249_16 (rw_iload_n (pc' := 17) (z := z1397) rfl rfl ?_)
    refine wp_of e249 c249_17 (rw_if_le (p1 := 26) (p2 := 20) (by decide) rfl ⟨Int.le_trans (by decide) b1398.1, Int.le_trans b1398.2 (by decide)⟩ (fun c1418 => ?_) (fun c1418 => ?_))
    · refine wp_of e249 c249_26 (rw_iconst (pc' := 27) rfl ?_)
      refine wp_of e249 c249_27 (rw_istore (pc' := 29) (z := 0) (L' := [(4, vI 0), (3, vI z1397), (0, .ref r0), (1, vI a1), (2, vI a2)]) rfl rfl rfl ?_)
      refine wp_of e249 c249_29 (rw_iconst (pc' := 30) rfl ?_)
      refine wp_of e249 c249_30 (rw_istore (pc' := 32) (z := 0) (L' := [(5, vI 0), (4, vI 0), (3, vI z1397), (0, .ref r0), (1, vI a1), (2, vI a2)]) rfl rfl rfl ?_)
      have lp1684 : ∀ (n1685 : Nat) (v1687 : Int) (v1688 : Int) (H1689 : wq_H), WT T H1689 → wfr [(51, 999)] T H1391 H1689 → (0 ≤ v1687 ∧ v1687 ≤ 20000) → ((-2147483648) ≤ v1688 ∧ v1688 ≤ 2147483647) → (20000 - v1687).toNat = n1685 → wp kt 7 249 32 [(5, vI v1687), (4, vI v1688), (0, .ref r0), (1, vI a1), (2, vI a2)] [] T H1689 (uq_249 r0 a1 a2 e d T H) := by
        intro n1685
        induction n1685 using Nat.strongRecOn with
        | _ n1685 ih1686 =>
          intro v1687 v1688 H1689 w1690 f1691 b1692 b1693 m1694
          have f1695 := f1416.tr f1691 rfl
          refine wp_of e249 c249_32 (rw_iload (pc' := 34) (z := v1687) rfl rfl ?_)
          refine wp_of e249 c249_34 (rw_aload_n (pc' := 35) (v := .ref r0) rfl rfl rfl ?_)
          have k1696 : H1689 r0 29 = H1391 r0 29 := (f1691 r0 29 _ g0 rfl)
          refine wp_of e249 c249_35 (xg_I (pc' := 38) lf_9_422 w1690 g0 sh_42 (by decide) (by decide) ty_42_29 rfl rfl (fun b1697 b1698 => ?_))
          refine wp_of e249 c249_38 (rw_icmp_ge (p1 := 78) (p2 := 41) (by decide) rfl ⟨Int.le_trans (by decide) b1692.1, Int.le_trans b1692.2 (by decide)⟩ ⟨Int.le_trans (by decide) b1697, Int.le_trans b1698 (by decide)⟩ (fun c1699 => ?_) (fun c1699 => ?_))
          · refine wp_of e249 c249_78 (rw_aload_n (pc' := 79) (v := .ref r0) rfl rfl rfl ?_)
            refine wp_of e249 c249_79 (rw_iload (pc' := 81) (z := v1688) rfl rfl ?_)
            refine wp_of e249 c249_81 (xc_V (pc' := 84) (r := r0) (as := [vI v1688]) (st := []) (lm_9_58) rfl rfl (Nat.le_of_ble_eq_true rfl) w1690 g0 sh_42 (by decide) rfl (by decide) (s_209 w1690 g0 ⟨b1693.1, b1693.2⟩) (fun R1700 T1701 H1702 p1703 => ?_))
            obtain ⟨e1704, w1706, f1707, z1708, e1705, b1709⟩ := p1703
            subst e1704
            subst e1705
            have f1710 := f1695.tr f1707 rfl
            show wp _ _ 249 84 [(5, vI v1687), (4, vI v1688), (0, .ref r0), (1, vI a1), (2, vI a2)] [vI z1708] _ H1702 _
            have k1711 : wKI H1702 r0 = wKI H1391 r0 := ((wKI_fr w1690 g0 f1707 rfl).trans (wKI_fr w1395 g0 f1691 rfl))
            have h1712 : KNN T H1702 r0 e d := (KNN_fr w1690 g0 f1707 rfl (KNN_fr w1395 g0 f1691 rfl a1407))
            exact wp_ireturn e249 c249_84 rfl ⟨rfl, w1706, f1710, z1708, rfl, ⟨b1709.1, b1709.2⟩, ⟨by omega, h1712⟩⟩
          · refine wp_of e249 c249_41 (rw_aload_n (pc' := 42) (v := .ref r0) rfl rfl rfl ?_)
            refine wp_of e249 c249_42 (rw_aload_n (pc' := 43) (v := .ref r0) rfl rfl rfl ?_)
            refine wp_of e249 c249_43 (xg_R (pc' := 46) lf_9_42 w1690 g0 sh_42 (by decide) (by decide) ty_42_30 rfl rfl (fun r1713 q1714 g1715 => ?_))
            refine wp_of e249 c249_46 (rw_iload (pc' := 48) (z := v1687) rfl rfl ?_)
            refine wp_of e249 c249_48 (xa_I (so := 0) (pc' := 49) w1690 g1715 sh_52 (by decide) (ty_52 _) (b1692.1) (by omega) rfl (fun b1716 b1717 => ?_))
            have k1718 : wLM H1689 r0 = wLM H1391 r0 := (wLM_fr w1395 g0 f1691 rfl)
            have k1719 : H1689 r0 3 = H1370 r0 3 := ((f1691 r0 3 _ g0 rfl).trans (f1396 r0 3 _ g0 rfl))
            obtain ⟨r1720, q1721, g1722⟩ := (w1690.opt g0 (t' := 54) (n := 33) (j := 3) (p := 0) (q := 0) rfl (by decide) rfl).resolve_left (by omega)
            refine wp_of e249 c249_49 (xc_V (pc' := 52) (r := r0) (as := [vI (H1689 r1713 (v1687.toNat))]) (st := []) (lm_9_425) rfl rfl (Nat.le_of_ble_eq_true rfl) w1690 g0 sh_42 (by decide) rfl (by decide) (s_243 w1690 g0 ⟨b1716, Int.le_trans b1717 (by decide)⟩ q1721 g1722 (by omega)) (fun R1723 T1724 H1725 p1726 => ?_))
            obtain ⟨e1727, w1729, f1730, e1728⟩ := p1726
            subst e1727
            subst e1728
            have f1731 := f1695.tr f1730 rfl
            have f1732 := f1691.tr f1730 rfl
            show wp _ _ 249 52 [(5, vI v1687), (4, vI v1688), (0, .ref r0), (1, vI a1), (2, vI a2)] [] _ H1725 _
            refine wp_of e249 c249_52 (rw_iload (pc' := 54) (z := v1688) rfl rfl ?_)
            refine wp_of e249 c249_54 (rw_aload_n (pc' := 55) (v := .ref r0) rfl rfl rfl ?_)
            refine wp_of e249 c249_55 (xg_R (pc' := 58) lf_9_39 w1729 g0 sh_42 (by decide) (by decide) ty_42_27 rfl rfl (fun r1733 q1734 g1735 => ?_))
            refine wp_of e249 c249_58 (rw_iload_n (pc' := 59) (z := a1) rfl rfl ?_)
            refine wp_of e249 c249_59 (xa_I (so := 0) (pc' := 60) w1729 g1735 sh_51 (by decide) (ty_51 _) (by omega) (by omega) rfl (fun b1736 b1737 => ?_))
            refine wp_of e249 c249_60 (rw_iload_n (pc' := 61) (z := a2) rfl rfl ?_)
            refine wp_of e249 c249_61 (rw_icmp_ne (p1 := 68) (p2 := 64) (by decide) rfl ⟨Int.le_trans (by decide) b1736, Int.le_trans b1737 (by decide)⟩ ⟨i2.1, i2.2⟩ (fun c1738 => ?_) (fun c1738 => ?_))
            · refine wp_of e249 c249_68 (rw_iconst (pc' := 69) rfl ?_)
              refine wp_of e249 c249_69 (rw_iadd (pc' := 70) rfl ?_)
              refine wp_of e249 c249_70 (rw_istore (pc' := 72) (z := v1688 + 0) (L' := [(4, vI (v1688 + 0)), (5, vI v1687), (0, .ref r0), (1, vI a1), (2, vI a2)]) rfl rfl rfl ?_)
              refine wp_of e249 c249_72 (rw_iinc (pc' := 75) (z := v1687) (L' := [(5, vI (v1687 + 1)), (4, vI (v1688 + 0)), (0, .ref r0), (1, vI a1), (2, vI a2)]) rfl rfl rfl rfl ?_)
              refine wp_of e249 c249_75 (rw_goto (p1 := 32) (by decide) ?_)
              exact wp_lc (ks := [5, 4, 0, 1, 2]) (wl_c rfl (wl_c rfl (wl_c rfl (wl_c rfl (wl_c rfl wl_n))))) rfl (by decide) (ih1686 _ (by omega) (v1687 + 1) (v1688 + 0) H1725 w1729 f1732 ⟨by omega, by omega⟩ ⟨by omega, by omega⟩ rfl)
            · refine wp_of e249 c249_64 (rw_iconst (pc' := 65) rfl ?_)
              refine wp_of e249 c249_65 (rw_goto (p1 := 69) (by decide) ?_)
              refine wp_of e249 c249_69 (rw_iaddw (pc' := 70) rfl ?_)
              obtain ⟨v1739, e1740⟩ : ∃ x : Int, x = wq_w (v1688 + 1) := ⟨_, rfl⟩
              rw [← e1740]
              have b1741 : -2147483648 ≤ v1739 ∧ v1739 ≤ 2147483647 := by
                rw [e1740]
                exact wI_w _
              have b1742 : (-2147483648 ≤ v1688 + 1 ∧ v1688 + 1 ≤ 2147483647) → v1739 = v1688 + 1 := fun h => by rw [e1740]; exact wq_w_id h
              refine wp_of e249 c249_70 (rw_istore (pc' := 72) (z := v1739) (L' := [(4, vI v1739), (5, vI v1687), (0, .ref r0), (1, vI a1), (2, vI a2)]) rfl rfl rfl ?_)
              refine wp_of e249 c249_72 (rw_iinc (pc' := 75) (z := v1687) (L' := [(5, vI (v1687 + 1)), (4, vI v1739), (0, .ref r0), (1, vI a1), (2, vI a2)]) rfl rfl rfl rfl ?_)
              refine wp_of e249 c249_75 (rw_goto (p1 := 32) (by decide) ?_)
              exact wp_lc (ks := [5, 4, 0, 1, 2]) (wl_c rfl (wl_c rfl (wl_c rfl (wl_c rfl (wl_c rfl wl_n))))) rfl (by decide) (ih1686 _ (by omega) (v1687 + 1) v1739 H1725 w1729 f1732 ⟨by omega, by omega⟩ ⟨b1741.1, b1741.2⟩ rfl)
      exact wp_lc (ks := [5, 4, 3, 0, 1, 2]) (wl_c rfl (wl_c rfl (wl_c rfl (wl_c rfl (wl_c rfl wl_n))))) rfl (by decide) (lp1684 _ 0 0 H1391 w1395 wfr.rf ⟨by decide, by decide⟩ ⟨by decide, by decide⟩ rfl)
    · exfalso
      omega
  · have f1743 := f1373.tr f1396 rfl
    show wp _ _ 249 15 [(0, .ref r0), (1, vI a1), (2, vI a2)] [vI z1397] _ H1391 _
    have k1744 : wLM H1391 r0 = wLM H r0 := ((wLM_fr w1372 g0 f1396 rfl).trans (wLM_fr hW g0 ((wfr.rf (l := [(42, 0)])).put' e1371 g0 rfl) rfl))
    refine wp_of e249 c249_15 (rw_istore_n (pc' := 16) (z := z1397) (L' := [(3, vI z1397), (0, .ref r0), (1, vI a1), (2, vI a2)]) rfl rfl rfl ?_)
    refine wp_of e249 c249_16 (rw_iload_n (pc' := 17) (z := z1397) rfl rfl ?_)
    refine wp_of e249 c249_17 (rw_if_le (p1 := 26) (p2 := 20) (by decide) rfl ⟨Int.le_trans (by decide) b1398.1, Int.le_trans b1398.2 (by decide)⟩ (fun c1745 => ?_) (fun c1745 => ?_))
    · exfalso
      omega
    · refine wp_of e249 c249_20 (rw_aload_n (pc' := 21) (v := .ref r0) rfl rfl rfl ?_)
      refine wp_of e249 c249_21 (rw_iload_n (pc' := 22) (z := z1397) rfl rfl ?_)
      refine wp_of e249 c249_22 (xc_V (pc' := 25) (r := r0) (as := [vI z1397]) (st := []) (lm_9_54) rfl rfl (Nat.le_of_ble_eq_true rfl) w1395 g0 sh_42 (by decide) rfl (by decide) (s_170 w1395 g0 ⟨Int.le_trans (by decide) b1398.1, Int.le_trans b1398.2 (by decide)⟩) (fun R1746 T1747 H1748 p1749 => ?_))
      obtain ⟨e1750, w1752, f1753, z1754, e1751, b1755⟩ := p1749
      subst e1750
      subst e1751
      have f1756 := f1743.tr f1753 rfl
      show wp _ _ 249 25 [(3, vI z1397), (0, .ref r0), (1, vI a1), (2, vI a2)] [vI z1754] _ H1748 _
      have k1757 : wKI H1748 r0 = wKI H1391 r0 := (wKI_fr w1395 g0 f1753 rfl)
      have h1758 : KNN T H1748 r0 e d := (KNN_fr w1395 g0 f1753 rfl a1415)
      exact wp_ireturn e249 c249_25 rfl ⟨rfl, w1752, f1756, z1754, rfl, ⟨b1755.1, b1755.2⟩, ⟨by omega, h1758⟩⟩
/-! StrikeAwakeModel.times(II)I  -/
abbrev uq_250 (r0 : Nat) (a1 : Int) (a2 : Int) (e : xD) (d : xD) (T : wq_T) (H : wq_H) : Option Value → wq_T → wq_H → Prop := fun r T' H' => T = T' ∧ WT T H' ∧ wfr [(42, 0), (42, 1), (42, 2), (42, 28), (42, 29), (51, 999), (52, 999)] T H H' ∧ ∃ z : Int, some (vI z) = r ∧ ((-2147483648) ≤ z ∧ z ≤ 2147483647) ∧ (((wKI H' r0 = 1) ∧ KNN T H' r0 e d))
set_option maxHeartbeats 4000000 in
theorem u_250 {kt : Nat → Option mc_E} {T : wq_T} {H : wq_H} {r0 : Nat} {a1 : Int} {a2 : Int} {e : xD} {d : xD} (hW : WT T H) (g0 : T.2.2.2 r0 = some 42) (i1 : (-2147483648) ≤ a1 ∧ a1 ≤ 2147483647) (i2 : (-2147483648) ≤ a2 ∧ a2 ≤ 2147483647) (p0 : wKI H r0 = 1) (p1 : XW d) (p2 : ∀ h : Nat, d 0 0 ≤ (h : Int) → h < 24 → e 13 h = 0) (p3 : XN d) (p4 : ∀ h : Nat, h < 24 → 0 ≤ e 13 h ∧ e 13 h ≤ 100) (hRB_r0 : RB T H r0 e d) (hKNN_r0 : KNN T H r0 e d) : wpc kt 8 250 [.ref r0, vI a1, vI a2] T H (uq_250 r0 a1 a2 e d T H) := by
  refine wp_enter e250 (Nat.le_of_ble_eq_true rfl) rfl ?_
  have f0 : wfr [(42, 0), (42, 1), (42, 2), (42, 28), (42, 29), (51, 999), (52, 999)] T H H := wfr.rf
  show wp _ _ 250 0 [(0, .ref r0), (1, vI a1), (2, vI a2)] [] _ H _
  have _b := RB_b hW hRB_r0
  have _nu := RB_n3 hRB_r0
  have _lm := RB_lm hRB_r0
  refine wp_of e250 c250_0 (rw_aload_n (pc' := 1) (v := .ref r0) rfl rfl rfl ?_)
  refine wp_of e250 c250_1 (rw_iconst (pc' := 2) rfl ?_)
  refine wp_of e250 c250_2 (xp_I (pc' := 5) lf_9_48 hW g0 sh_42 (by decide) (by decide) ty_42_0 rfl rfl (by decide) (by decide) ⟨by decide, by decide⟩ rfl (fun H1244 e1245 w1246 => ?_))
  have f1247 := f0.put' e1245 g0 rfl
  have k1248 : H1244 r0 0 = 0 := wq_u_s e1245
  refine wp_of e250 c250_5 (rw_aload_n (pc' := 6) (v := .ref r0) rfl rfl rfl ?_)
  refine wp_of e250 c250_6 (rw_aload_n (pc' := 7) (v := .ref r0) rfl rfl rfl ?_)
  refine wp_of e250 c250_7 (rw_iload_n (pc' := 8) (z := a1) rfl rfl ?_)
  refine wp_of e250 c250_8 (xc_V (pc' := 11) (r := r0) (as := [vI a1]) (st := [.ref r0]) (lm_9_364) rfl rfl (Nat.le_of_ble_eq_true rfl) w1246 g0 sh_42 (by decide) rfl (by decide) (s_213 w1246 g0 ⟨i1.1, i1.2⟩) (fun R1249 T1250 H1251 p1252 => ?_))
  obtain ⟨e1253, e1255, z1257, e1254, b1258, p1256⟩ := p1252
  subst e1253
  subst e1254
  subst e1255
  show wp _ _ 250 11 [(0, .ref r0), (1, vI a1), (2, vI a2)] [vI z1257, .ref r0] _ H1244 _
  refine wp_of e250 c250_11 (rw_if_eq (p1 := 26) (p2 := 14) (by decide) rfl ⟨Int.le_trans (by decide) b1258.1, Int.le_trans b1258.2 (by decide)⟩ (fun c1259 => ?_) (fun c1259 => ?_))
  · refine wp_of e250 c250_26 (rw_iconst (pc' := 27) rfl ?_)
    have k1260 : H1244 r0 3 = H r0 3 := (wq_u_j e1245 rfl)
    have k1261 : wKI H1244 r0 = wKI H r0 := (wKI_fr hW g0 ((wfr.rf (l := [(42, 0)])).put' e1245 g0 rfl) rfl)
    have h1262 : RB T H1244 r0 e d := (RB_fr hW g0 ((wfr.rf (l := [(42, 0)])).put' e1245 g0 rfl) rfl hRB_r0)
    have h1263 : KNN T H1244 r0 e d := (KNN_fr hW g0 ((wfr.rf (l := [(42, 0)])).put' e1245 g0 rfl) rfl hKNN_r0)
    refine wp_of e250 c250_27 (xc_V (pc' := 30) (r := r0) (as := [vI 0]) (st := []) (lm_9_433) rfl rfl (Nat.le_of_ble_eq_true rfl) w1246 g0 sh_42 (by decide) rfl (by decide) (u_241 (e := e) (d := d) w1246 g0 ⟨by decide, by decide⟩ (by omega) (by omega) (by assumption) (by assumption) (by assumption) (by assumption) h1262 h1263) (fun R1264 T1265 H1266 p1267 => ?_))
    obtain ⟨e1268, w1270, f1271, z1272, e1269, b1273, p1274⟩ := p1267
    subst e1268
    subst e1269
    rcases p1274 with ⟨a1275, a1276, a1277, a1278, a1279, a1280, a1281, a1282, a1283⟩ | ⟨a1284, a1285, a1286, a1287, a1288, a1289, a1290⟩
    · exfalso
      omega
    · have f1291 := f1247.tr f1271 rfl
      show wp _ _ 250 30 [(0, .ref r0), (1, vI a1), (2, vI a2)] [vI z1272] _ H1266 _
      have k1292 : wLM H1266 r0 = wLM H r0 := ((wLM_fr w1246 g0 f1271 rfl).trans (wLM_fr hW g0 ((wfr.rf (l := [(42, 0)])).put' e1245 g0 rfl) rfl))
      refine wp_of e250 c250_30 (rw_istore_n (pc' := 31) (z := z1272) (L' := [(3, vI z1272), (0, .ref r0), (1, vI a1), (2, vI a2)]) rfl rfl rfl ?_)
      refine wp_of e250 c250_31 (rw_iload_n (pc' := 32) (z := z1272) rfl rfl ?_)
      refine wp_of e250 c250_32 (rw_if_le (p1 := 43) (p2 := 35) (by decide) rfl ⟨Int.le_trans (by decide) b1273.1, Int.le_trans b1273.2 (by decide)⟩ (fun c1293 => ?_) (fun c1293 => ?_))
      · exfalso
        omega
      · refine wp_of e250 c250_35 (rw_aload_n (pc' := 36) (v := .ref r0) rfl rfl rfl ?_)
        refine wp_of e250 c250_36 (rw_iload_n (pc' := 37) (z := z1272) rfl rfl ?_)
        refine wp_of e250 c250_37 (xc_V (pc' := 40) (r := r0) (as := [vI z1272]) (st := []) (lm_9_54) rfl rfl (Nat.le_of_ble_eq_true rfl) w1270 g0 sh_42 (by decide) rfl (by decide) (s_170 w1270 g0 ⟨Int.le_trans (by decide) b1273.1, Int.le_trans b1273.2 (by decide)⟩) (fun R1294 T1295 H1296 p1297 => ?_))
        obtain ⟨e1298, w1300, f1301, z1302, e1299, b1303⟩ := p1297
        subst e1298
        subst e1299
        have f1304 := f1291.tr f1301 rfl
        show wp _ _ 250 40 [(3, vI z1272), (0, .ref r0), (1, vI a1), (2, vI a2)] [vI z1302] _ H1296 _
        refine wp_of e250 c250_40 (rw_goto (p1 := 53) (by decide) ?_)
        have k1305 : wKI H1296 r0 = wKI H1266 r0 := (wKI_fr w1270 g0 f1301 rfl)
        have h1306 : KNN T H1296 r0 e d := (KNN_fr w1270 g0 f1301 rfl a1290)
        exact wp_ireturn e250 c250_53 rfl ⟨rfl, w1300, f1304, z1302, rfl, ⟨b1303.1, b1303.2⟩, ⟨by omega, h1306⟩⟩
  · refine wp_of e250 c250_14 (rw_aload_n (pc' := 15) (v := .ref r0) rfl rfl rfl ?_)
    refine wp_of e250 c250_15 (rw_iload_n (pc' := 16) (z := a2) rfl rfl ?_)
    refine wp_of e250 c250_16 (xc_V (pc' := 19) (r := r0) (as := [vI a2]) (st := [.ref r0]) (lm_9_373) rfl rfl (Nat.le_of_ble_eq_true rfl) w1246 g0 sh_42 (by decide) rfl (by decide) (s_218 w1246 g0 ⟨i2.1, i2.2⟩) (fun R1307 T1308 H1309 p1310 => ?_))
    obtain ⟨e1311, e1313, z1315, e1312, b1316, p1314⟩ := p1310
    subst e1311
    subst e1312
    subst e1313
    show wp _ _ 250 19 [(0, .ref r0), (1, vI a1), (2, vI a2)] [vI z1315, .ref r0] _ H1244 _
    refine wp_of e250 c250_19 (rw_if_eq (p1 := 26) (p2 := 22) (by decide) rfl ⟨Int.le_trans (by decide) b1316.1, Int.le_trans b1316.2 (by decide)⟩ (fun c1317 => ?_) (fun c1317 => ?_))
    · refine wp_of e250 c250_26 (rw_iconst (pc' := 27) rfl ?_)
      have k1318 : H1244 r0 3 = H r0 3 := (wq_u_j e1245 rfl)
      have k1319 : wKI H1244 r0 = wKI H r0 := (wKI_fr hW g0 ((wfr.rf (l := [(42, 0)])).put' e1245 g0 rfl) rfl)
      have h1320 : RB T H1244 r0 e d := (RB_fr hW g0 ((wfr.rf (l := [(42, 0)])).put' e1245 g0 rfl) rfl hRB_r0)
      have h1321 : KNN T H1244 r0 e d := (KNN_fr hW g0 ((wfr.rf (l := [(42, 0)])).put' e1245 g0 rfl) rfl hKNN_r0)
      refine wp_of e250 c250_27 (xc_V (pc' := 30) (r := r0) (as := [vI 0]) (st := []) (lm_9_433) rfl rfl (Nat.le_of_ble_eq_true rfl) w1246 g0 sh_42 (by decide) rfl (by decide) (u_241 (e := e) (d := d) w1246 g0 ⟨by decide, by decide⟩ (by omega) (by omega) (by assumption) (by assumption) (by assumption) (by assumption) h1320 h1321) (fun R1322 T1323 H1324 p1325 => ?_))
      obtain ⟨e1326, w1328, f1329, z1330, e1327, b1331, p1332⟩ := p1325
      subst e1326
      subst e1327
      rcases p1332 with ⟨a1333, a1334, a1335, a1336, a1337, a1338, a1339, a1340, a1341⟩ | ⟨a1342, a1343, a1344, a1345, a1346, a1347, a1348⟩
      · exfalso
        omega
      · have f1349 := f1247.tr f1329 rfl
        show wp _ _ 250 30 [(0, .ref r0), (1, vI a1), (2, vI a2)] [vI z1330] _ H1324 _
        have k1350 : wLM H1324 r0 = wLM H r0 := ((wLM_fr w1246 g0 f1329 rfl).trans (wLM_fr hW g0 ((wfr.rf (l := [(42, 0)])).put' e1245 g0 rfl) rfl))
        refine wp_of e250 c250_30 (rw_istore_n (pc' := 31) (z := z1330) (L' := [(3, vI z1330), (0, .ref r0), (1, vI a1), (2, vI a2)]) rfl rfl rfl ?_)
        refine wp_of e250 c250_31 (rw_iload_n (pc' := 32) (z := z1330) rfl rfl ?_)
        refine wp_of e250 c250_32 (rw_if_le (p1 := 43) (p2 := 35) (by decide) rfl ⟨Int.le_trans (by decide) b1331.1, Int.le_trans b1331.2 (by decide)⟩ (fun c1351 => ?_) (fun c1351 => ?_))
        · exfalso
          omega
        · refine wp_of e250 c250_35 (rw_aload_n (pc' := 36) (v := .ref r0) rfl rfl rfl ?_)
          refine wp_of e250 c250_36 (rw_iload_n (pc' := 37) (z := z1330) rfl rfl ?_)
          refine wp_of e250 c250_37 (xc_V (pc' := 40) (r := r0) (as := [vI z1330]) (st := []) (lm_9_54) rfl rfl (Nat.le_of_ble_eq_true rfl) w1328 g0 sh_42 (by decide) rfl (by decide) (s_170 w1328 g0 ⟨Int.le_trans (by decide) b1331.1, Int.le_trans b1331.2 (by decide)⟩) (fun R1352 T1353 H1354 p1355 => ?_))
          obtain ⟨e1356, w1358, f1359, z1360, e1357, b1361⟩ := p1355
          subst e1356
          subst e1357
          have f1362 := f1349.tr f1359 rfl
          show wp _ _ 250 40 [(3, vI z1330), (0, .ref r0), (1, vI a1), (2, vI a2)] [vI z1360] _ H1354 _
          refine wp_of e250 c250_40 (rw_goto (p1 := 53) (by decide) ?_)
          have k1363 : wKI H1354 r0 = wKI H1324 r0 := (wKI_fr w1328 g0 f1359 rfl)
          have h1364 : KNN T H1354 r0 e d := (KNN_fr w1328 g0 f1359 rfl a1348)
          exact wp_ireturn e250 c250_53 rfl ⟨rfl, w1358, f1362, z1360, rfl, ⟨b1361.1, b1361.2⟩, ⟨by omega, h1364⟩⟩
    · refine wp_of e250 c250_22 (rw_iconst (pc' := 23) rfl ?_)
      refine wp_of e250 c250_23 (rw_goto (p1 := 27) (by decide) ?_)
      have k1365 : H1244 r0 3 = H r0 3 := (wq_u_j e1245 rfl)
      have k1366 : wKI H1244 r0 = wKI H r0 := (wKI_fr hW g0 ((wfr.rf (l := [(42, 0)])).put' e1245 g0 rfl) rfl)
      have h1367 : RB T H1244 r0 e d := (RB_fr hW g0 ((wfr.rf (l := [(42, 0)])).put' e1245 g0 rfl) rfl hRB_r0)
      have h1368 : KNN T H1244 r0 e d := (KNN_fr hW g0 ((wfr.rf (l := [(42, 0)])).put' e1245 g0 rfl) rfl hKNN_r0)
      refine wp_of e250 c250_27 (xc_V (pc' := 30) (r := r0) (as := [vI 1]) (st := []) (lm_9_433) rfl rfl (Nat.le_of_ble_eq_true rfl) w1246 g0 sh_42 (by decide) rfl (by decide) (u_241 (e := e) (d := d) w1246 g0 ⟨by decide, by decide⟩ (by omega) (by omega) (by assumption) (by assumption) (by assumption) (by assumption) h1367 h1368) (fun R1369 T1370 H1371 p1372 => ?_))
      obtain ⟨e1373, w1375, f1376, z1377, e1374, b1378, p1379⟩ := p1372
      subst e1373
      subst e1374
      rcases p1379 with ⟨a1380, a1381, a1382, a1383, a1384, a1385, a1386, a1387, a1388⟩ | ⟨a1389, a1390, a1391, a1392, a1393, a1394, a1395⟩
      · have f1396 := f1247.tr f1376 rfl
        show wp _ _ 250 30 [(0, .ref r0), (1, vI a1), (2, vI a2)] [vI z1377] _ H1371 _
        have k1397 : wLM H1371 r0 = wLM H r0 := ((wLM_fr w1246 g0 f1376 rfl).trans (wLM_fr hW g0 ((wfr.rf (l := [(42, 0)])).put' e1245 g0 rfl) rfl))
        refine wp_of e250 c250_30 (rw_istore_n (pc' := 31) (z := z1377) (L' := [(3, vI z1377), (0, .ref r0), (1, vI a1), (2, vI a2)]) rfl rfl rfl ?_)
        refine wp_of e250 c250_31 (rw_iload_n (pc' := 32) (z := z1377) rfl rfl ?_)
        refine wp_of e250 c250_32 (rw_if_le (p1 := 43) (p2 := 35) (by decide) rfl ⟨Int.le_trans (by decide) b1378.1, Int.le_trans b1378.2 (by decide)⟩ (fun c1398 => ?_) (fun c1398 => ?_))
        · refine wp_of e250 c250_43 (rw_aload_n (pc' := 44) (v := .ref r0) rfl rfl rfl ?_)
          refine wp_of e250 c250_44 (rw_aload_n (pc' := 45) (v := .ref r0) rfl rfl rfl ?_)
          refine wp_of e250 c250_45 (rw_iload_n (pc' := 46) (z := a1) rfl rfl ?_)
          refine wp_of e250 c250_46 (rw_iload_n (pc' := 47) (z := a2) rfl rfl ?_)
          have k1399 : H1371 r0 3 = H1244 r0 3 := (f1376 r0 3 _ g0 rfl)
          obtain ⟨r1400, q1401, g1402⟩ := (w1375.opt g0 (t' := 54) (n := 33) (j := 3) (p := 0) (q := 0) rfl (by decide) rfl).resolve_left (by omega)
          refine wp_of e250 c250_47 (xc_V (pc' := 50) (r := r0) (as := [vI a1, vI a2]) (st := [.ref r0]) (lm_9_444) rfl rfl (Nat.le_of_ble_eq_true rfl) w1375 g0 sh_42 (by decide) rfl (by decide) (s_251 w1375 g0 ⟨by omega, by omega⟩ ⟨i2.1, i2.2⟩ q1401 g1402 (by omega)) (fun R1403 T1404 H1405 p1406 => ?_))
          obtain ⟨e1407, w1409, f1410, z1411, e1408, b1412⟩ := p1406
          subst e1407
          subst e1408
          have f1413 := f1396.tr f1410 rfl
          show wp _ _ 250 50 [(3, vI z1377), (0, .ref r0), (1, vI a1), (2, vI a2)] [vI z1411, .ref r0] _ H1405 _
          refine wp_of e250 c250_50 (xc_V (pc' := 53) (r := r0) (as := [vI z1411]) (st := []) (lm_9_58) rfl rfl (Nat.le_of_ble_eq_true rfl) w1409 g0 sh_42 (by decide) rfl (by decide) (s_209 w1409 g0 ⟨b1412.1, b1412.2⟩) (fun R1414 T1415 H1416 p1417 => ?_))
          obtain ⟨e1418, w1420, f1421, z1422, e1419, b1423⟩ := p1417
          subst e1418
          subst e1419
          have f1424 := f1413.tr f1421 rfl
          show wp _ _ 250 53 [(3, vI z1377), (0, .ref r0), (1, vI a1), (2, vI a2)] [vI z1422] _ H1416 _
          have k1425 : wKI H1416 r0 = wKI H1371 r0 := ((wKI_fr w1409 g0 f1421 rfl).trans (wKI_fr w1375 g0 f1410 rfl))
          have h1426 : KNN T H1416 r0 e d := (KNN_fr w1409 g0 f1421 rfl (KNN_fr w1375 g0 f1410 rfl a1387))
          exact wp_ireturn e250 c250_53 rfl ⟨rfl, w1420, f1424, z1422, rfl, ⟨b1423.1, b1423.2⟩, ⟨by omega, h1426⟩⟩
        · exfalso
          omega
      · have f1427 := f1247.tr f1376 rfl
        show wp _ _ 250 30 [(0, .ref r0), (1, vI a1), (2, vI a2)] [vI z1377] _ H1371 _
        have k1428 : wLM H1371 r0 = wLM H r0 := ((wLM_fr w1246 g0 f1376 rfl).trans (wLM_fr hW g0 ((wfr.rf (l := [(42, 0)])).put' e1245 g0 rfl) rfl))
        refine wp_of e250 c250_30 (rw_istore_n (pc' := 31) (z := z1377) (L' := [(3, vI z1377), (0, .ref r0), (1, vI a1), (2, vI a2)]) rfl rfl rfl ?_)
        refine wp_of e250 c250_31 (rw_iload_n (pc' := 32) (z := z1377) rfl rfl ?_)
        refine wp_of e250 c250_32 (rw_if_le (p1 := 43) (p2 := 35) (by decide) rfl ⟨Int.le_trans (by decide) b1378.1, Int.le_trans b1378.2 (by decide)⟩ (fun c1429 => ?_) (fun c1429 => ?_))
        · exfalso
          omega
        · refine wp_of e250 c250_35 (rw_aload_n (pc' := 36) (v := .ref r0) rfl rfl rfl ?_)
          refine wp_of e250 c250_36 (rw_iload_n (pc' := 37) (z := z1377) rfl rfl ?_)
          refine wp_of e250 c250_37 (xc_V (pc' := 40) (r := r0) (as := [vI z1377]) (st := []) (lm_9_54) rfl rfl (Nat.le_of_ble_eq_true rfl) w1375 g0 sh_42 (by decide) rfl (by decide) (s_170 w1375 g0 ⟨Int.le_trans (by decide) b1378.1, Int.le_trans b1378.2 (by decide)⟩) (fun R1430 T1431 H1432 p1433 => ?_))
          obtain ⟨e1434, w1436, f1437, z1438, e1435, b1439⟩ := p1433
          subst e1434
          subst e1435
          have f1440 := f1427.tr f1437 rfl
          show wp _ _ 250 40 [(3, vI z1377), (0, .ref r0), (1, vI a1), (2, vI a2)] [vI z1438] _ H1432 _
          refine wp_of e250 c250_40 (rw_goto (p1 := 53) (by decide) ?_)
          have k1441 : wKI H1432 r0 = wKI H1371 r0 := (wKI_fr w1375 g0 f1437 rfl)
          have h1442 : KNN T H1432 r0 e d := (KNN_fr w1375 g0 f1437 rfl a1395)
          exact wp_ireturn e250 c250_53 rfl ⟨rfl, w1436, f1440, z1438, rfl, ⟨b1439.1, b1439.2⟩, ⟨by omega, h1442⟩⟩
/-! StrikeAwakeModel.sure(II)I  -/
abbrev uq_252 (r0 : Nat) (a1 : Int) (a2 : Int) (e : xD) (d : xD) (T : wq_T) (H : wq_H) : Option Value → wq_T → wq_H → Prop := fun r T' H' => T = T' ∧ WT T H' ∧ wfr [(42, 0), (42, 1), (42, 2), (42, 28), (42, 29), (51, 999), (52, 999)] T H H' ∧ ∃ z : Int, some (vI z) = r ∧ ((-2147483648) ≤ z ∧ z ≤ 2147483647) ∧ (((wKI H' r0 = 1) ∧ KNN T H' r0 e d))
set_option maxHeartbeats 4000000 in
theorem u_252 {kt : Nat → Option mc_E} {T : wq_T} {H : wq_H} {r0 : Nat} {a1 : Int} {a2 : Int} {e : xD} {d : xD} (hW : WT T H) (g0 : T.2.2.2 r0 = some 42) (i1 : (-2147483648) ≤ a1 ∧ a1 ≤ 2147483647) (i2 : (-2147483648) ≤ a2 ∧ a2 ≤ 2147483647) (p0 : wKI H r0 = 1) (p1 : XW d) (p2 : ∀ h : Nat, d 0 0 ≤ (h : Int) → h < 24 → e 13 h = 0) (p3 : XN d) (p4 : ∀ h : Nat, h < 24 → 0 ≤ e 13 h ∧ e 13 h ≤ 100) (hRB_r0 : RB T H r0 e d) (hKNN_r0 : KNN T H r0 e d) : wpc kt 9 252 [.ref r0, vI a1, vI a2] T H (uq_252 r0 a1 a2 e d T H) := by
  refine wp_enter e252 (Nat.le_of_ble_eq_true rfl) rfl ?_
  have f0 : wfr [(42, 0), (42, 1), (42, 2), (42, 28), (42, 29), (51, 999), (52, 999)] T H H := wfr.rf
  show wp _ _ 252 0 [(0, .ref r0), (1, vI a1), (2, vI a2)] [] _ H _
  have _b := RB_b hW hRB_r0
  have _nu := RB_n3 hRB_r0
  have _lm := RB_lm hRB_r0
  refine wp_of e252 c252_0 (rw_aload_n (pc' := 1) (v := .ref r0) rfl rfl rfl ?_)
  refine wp_of e252 c252_1 (rw_iconst (pc' := 2) rfl ?_)
  refine wp_of e252 c252_2 (xp_I (pc' := 5) lf_9_48 hW g0 sh_42 (by decide) (by decide) ty_42_0 rfl rfl (by decide) (by decide) ⟨by decide, by decide⟩ rfl (fun H1328 e1329 w1330 => ?_))
  have f1331 := f0.put' e1329 g0 rfl
  have k1332 : H1328 r0 0 = 0 := wq_u_s e1329
  refine wp_of e252 c252_5 (rw_aload_n (pc' := 6) (v := .ref r0) rfl rfl rfl ?_)
  refine wp_of e252 c252_6 (rw_aload_n (pc' := 7) (v := .ref r0) rfl rfl rfl ?_)
  refine wp_of e252 c252_7 (rw_iload_n (pc' := 8) (z := a1) rfl rfl ?_)
  refine wp_of e252 c252_8 (xc_V (pc' := 11) (r := r0) (as := [vI a1]) (st := [.ref r0]) (lm_9_364) rfl rfl (Nat.le_of_ble_eq_true rfl) w1330 g0 sh_42 (by decide) rfl (by decide) (s_213 w1330 g0 ⟨i1.1, i1.2⟩) (fun R1333 T1334 H1335 p1336 => ?_))
  obtain ⟨e1337, e1339, z1341, e1338, b1342, p1340⟩ := p1336
  subst e1337
  subst e1338
  subst e1339
  show wp _ _ 252 11 [(0, .ref r0), (1, vI a1), (2, vI a2)] [vI z1341, .ref r0] _ H1328 _
  refine wp_of e252 c252_11 (rw_if_eq (p1 := 26) (p2 := 14) (by decide) rfl ⟨Int.le_trans (by decide) b1342.1, Int.le_trans b1342.2 (by decide)⟩ (fun c1343 => ?_) (fun c1343 => ?_))
  · refine wp_of e252 c252_26 (rw_iconst (pc' := 27) rfl ?_)
    have k1344 : H1328 r0 3 = H r0 3 := (wq_u_j e1329 rfl)
    have k1345 : wKI H1328 r0 = wKI H r0 := (wKI_fr hW g0 ((wfr.rf (l := [(42, 0)])).put' e1329 g0 rfl) rfl)
    have h1346 : RB T H1328 r0 e d := (RB_fr hW g0 ((wfr.rf (l := [(42, 0)])).put' e1329 g0 rfl) rfl hRB_r0)
    have h1347 : KNN T H1328 r0 e d := (KNN_fr hW g0 ((wfr.rf (l := [(42, 0)])).put' e1329 g0 rfl) rfl hKNN_r0)
    refine wp_of e252 c252_27 (xc_V (pc' := 30) (r := r0) (as := [vI 0]) (st := []) (lm_9_447) rfl rfl (Nat.le_of_ble_eq_true rfl) w1330 g0 sh_42 (by decide) rfl (by decide) (u_253 (e := e) (d := d) w1330 g0 ⟨by decide, by decide⟩ (by omega) (by omega) (by assumption) (by assumption) (by assumption) (by assumption) h1346 h1347) (fun R1348 T1349 H1350 p1351 => ?_))
    obtain ⟨e1352, w1354, f1355, z1356, e1353, b1357, p1358⟩ := p1351
    subst e1352
    subst e1353
    rcases p1358 with ⟨a1359, a1360, a1361, a1362, a1363, a1364, a1365, a1366, a1367, a1368⟩ | ⟨a1369, a1370, a1371, a1372, a1373, a1374, a1375⟩
    · exfalso
      omega
    · have f1376 := f1331.tr f1355 rfl
      show wp _ _ 252 30 [(0, .ref r0), (1, vI a1), (2, vI a2)] [vI z1356] _ H1350 _
      have k1377 : wLM H1350 r0 = wLM H r0 := ((wLM_fr w1330 g0 f1355 rfl).trans (wLM_fr hW g0 ((wfr.rf (l := [(42, 0)])).put' e1329 g0 rfl) rfl))
      refine wp_of e252 c252_30 (rw_istore_n (pc' := 31) (z := z1356) (L' := [(3, vI z1356), (0, .ref r0), (1, vI a1), (2, vI a2)]) rfl rfl rfl ?_)
      refine wp_of e252 c252_31 (rw_iload_n (pc' := 32) (z := z1356) rfl rfl ?_)
      refine wp_of e252 c252_32 (rw_if_le (p1 := 41) (p2 := 35) (by decide) rfl ⟨Int.le_trans (by decide) b1357.1, Int.le_trans b1357.2 (by decide)⟩ (fun c1378 => ?_) (fun c1378 => ?_))
      · exfalso
        omega
      · refine wp_of e252 c252_35 (rw_aload_n (pc' := 36) (v := .ref r0) rfl rfl rfl ?_)
        refine wp_of e252 c252_36 (rw_iload_n (pc' := 37) (z := z1356) rfl rfl ?_)
        refine wp_of e252 c252_37 (xc_V (pc' := 40) (r := r0) (as := [vI z1356]) (st := []) (lm_9_54) rfl rfl (Nat.le_of_ble_eq_true rfl) w1354 g0 sh_42 (by decide) rfl (by decide) (s_170 w1354 g0 ⟨Int.le_trans (by decide) b1357.1, Int.le_trans b1357.2 (by decide)⟩) (fun R1379 T1380 H1381 p1382 => ?_))
        obtain ⟨e1383, w1385, f1386, z1387, e1384, b1388⟩ := p1382
        subst e1383
        subst e1384
        have f1389 := f1376.tr f1386 rfl
        show wp _ _ 252 40 [(3, vI z1356), (0, .ref r0), (1, vI a1), (2, vI a2)] [vI z1387] _ H1381 _
        have k1390 : wKI H1381 r0 = wKI H1350 r0 := (wKI_fr w1354 g0 f1386 rfl)
        have h1391 : KNN T H1381 r0 e d := (KNN_fr w1354 g0 f1386 rfl a1375)
        exact wp_ireturn e252 c252_40 rfl ⟨rfl, w1385, f1389, z1387, rfl, ⟨b1388.1, b1388.2⟩, ⟨by omega, h1391⟩⟩
  · refine wp_of e252 c252_14 (rw_aload_n (pc' := 15) (v := .ref r0) rfl rfl rfl ?_)
    refine wp_of e252 c252_15 (rw_iload_n (pc' := 16) (z := a2) rfl rfl ?_)
    refine wp_of e252 c252_16 (xc_V (pc' := 19) (r := r0) (as := [vI a2]) (st := [.ref r0]) (lm_9_373) rfl rfl (Nat.le_of_ble_eq_true rfl) w1330 g0 sh_42 (by decide) rfl (by decide) (s_218 w1330 g0 ⟨i2.1, i2.2⟩) (fun R1392 T1393 H1394 p1395 => ?_))
    obtain ⟨e1396, e1398, z1400, e1397, b1401, p1399⟩ := p1395
    subst e1396
    subst e1397
    subst e1398
    show wp _ _ 252 19 [(0, .ref r0), (1, vI a1), (2, vI a2)] [vI z1400, .ref r0] _ H1328 _
    refine wp_of e252 c252_19 (rw_if_eq (p1 := 26) (p2 := 22) (by decide) rfl ⟨Int.le_trans (by decide) b1401.1, Int.le_trans b1401.2 (by decide)⟩ (fun c1402 => ?_) (fun c1402 => ?_))
    · refine wp_of e252 c252_26 (rw_iconst (pc' := 27) rfl ?_)
      have k1403 : H1328 r0 3 = H r0 3 := (wq_u_j e1329 rfl)
      have k1404 : wKI H1328 r0 = wKI H r0 := (wKI_fr hW g0 ((wfr.rf (l := [(42, 0)])).put' e1329 g0 rfl) rfl)
      have h1405 : RB T H1328 r0 e d := (RB_fr hW g0 ((wfr.rf (l := [(42, 0)])).put' e1329 g0 rfl) rfl hRB_r0)
      have h1406 : KNN T H1328 r0 e d := (KNN_fr hW g0 ((wfr.rf (l := [(42, 0)])).put' e1329 g0 rfl) rfl hKNN_r0)
      refine wp_of e252 c252_27 (xc_V (pc' := 30) (r := r0) (as := [vI 0]) (st := []) (lm_9_447) rfl rfl (Nat.le_of_ble_eq_true rfl) w1330 g0 sh_42 (by decide) rfl (by decide) (u_253 (e := e) (d := d) w1330 g0 ⟨by decide, by decide⟩ (by omega) (by omega) (by assumption) (by assumption) (by assumption) (by assumption) h1405 h1406) (fun R1407 T1408 H1409 p1410 => ?_))
      obtain ⟨e1411, w1413, f1414, z1415, e1412, b1416, p1417⟩ := p1410
      subst e1411
      subst e1412
      rcases p1417 with ⟨a1418, a1419, a1420, a1421, a1422, a1423, a1424, a1425, a1426, a1427⟩ | ⟨a1428, a1429, a1430, a1431, a1432, a1433, a1434⟩
      · exfalso
        omega
      · have f1435 := f1331.tr f1414 rfl
        show wp _ _ 252 30 [(0, .ref r0), (1, vI a1), (2, vI a2)] [vI z1415] _ H1409 _
        have k1436 : wLM H1409 r0 = wLM H r0 := ((wLM_fr w1330 g0 f1414 rfl).trans (wLM_fr hW g0 ((wfr.rf (l := [(42, 0)])).put' e1329 g0 rfl) rfl))
        refine wp_of e252 c252_30 (rw_istore_n (pc' := 31) (z := z1415) (L' := [(3, vI z1415), (0, .ref r0), (1, vI a1), (2, vI a2)]) rfl rfl rfl ?_)
        refine wp_of e252 c252_31 (rw_iload_n (pc' := 32) (z := z1415) rfl rfl ?_)
        refine wp_of e252 c252_32 (rw_if_le (p1 := 41) (p2 := 35) (by decide) rfl ⟨Int.le_trans (by decide) b1416.1, Int.le_trans b1416.2 (by decide)⟩ (fun c1437 => ?_) (fun c1437 => ?_))
        · exfalso
          omega
        · refine wp_of e252 c252_35 (rw_aload_n (pc' := 36) (v := .ref r0) rfl rfl rfl ?_)
          refine wp_of e252 c252_36 (rw_iload_n (pc' := 37) (z := z1415) rfl rfl ?_)
          refine wp_of e252 c252_37 (xc_V (pc' := 40) (r := r0) (as := [vI z1415]) (st := []) (lm_9_54) rfl rfl (Nat.le_of_ble_eq_true rfl) w1413 g0 sh_42 (by decide) rfl (by decide) (s_170 w1413 g0 ⟨Int.le_trans (by decide) b1416.1, Int.le_trans b1416.2 (by decide)⟩) (fun R1438 T1439 H1440 p1441 => ?_))
          obtain ⟨e1442, w1444, f1445, z1446, e1443, b1447⟩ := p1441
          subst e1442
          subst e1443
          have f1448 := f1435.tr f1445 rfl
          show wp _ _ 252 40 [(3, vI z1415), (0, .ref r0), (1, vI a1), (2, vI a2)] [vI z1446] _ H1440 _
          have k1449 : wKI H1440 r0 = wKI H1409 r0 := (wKI_fr w1413 g0 f1445 rfl)
          have h1450 : KNN T H1440 r0 e d := (KNN_fr w1413 g0 f1445 rfl a1434)
          exact wp_ireturn e252 c252_40 rfl ⟨rfl, w1444, f1448, z1446, rfl, ⟨b1447.1, b1447.2⟩, ⟨by omega, h1450⟩⟩
    · refine wp_of e252 c252_22 (rw_iconst (pc' := 23) rfl ?_)
      refine wp_of e252 c252_23 (rw_goto (p1 := 27) (by decide) ?_)
      have k1451 : H1328 r0 3 = H r0 3 := (wq_u_j e1329 rfl)
      have k1452 : wKI H1328 r0 = wKI H r0 := (wKI_fr hW g0 ((wfr.rf (l := [(42, 0)])).put' e1329 g0 rfl) rfl)
      have h1453 : RB T H1328 r0 e d := (RB_fr hW g0 ((wfr.rf (l := [(42, 0)])).put' e1329 g0 rfl) rfl hRB_r0)
      have h1454 : KNN T H1328 r0 e d := (KNN_fr hW g0 ((wfr.rf (l := [(42, 0)])).put' e1329 g0 rfl) rfl hKNN_r0)
      refine wp_of e252 c252_27 (xc_V (pc' := 30) (r := r0) (as := [vI 1]) (st := []) (lm_9_447) rfl rfl (Nat.le_of_ble_eq_true rfl) w1330 g0 sh_42 (by decide) rfl (by decide) (u_253 (e := e) (d := d) w1330 g0 ⟨by decide, by decide⟩ (by omega) (by omega) (by assumption) (by assumption) (by assumption) (by assumption) h1453 h1454) (fun R1455 T1456 H1457 p1458 => ?_))
      obtain ⟨e1459, w1461, f1462, z1463, e1460, b1464, p1465⟩ := p1458
      subst e1459
      subst e1460
      rcases p1465 with ⟨a1466, a1467, a1468, a1469, a1470, a1471, a1472, a1473, a1474, a1475⟩ | ⟨a1476, a1477, a1478, a1479, a1480, a1481, a1482⟩
      · have f1483 := f1331.tr f1462 rfl
        show wp _ _ 252 30 [(0, .ref r0), (1, vI a1), (2, vI a2)] [vI z1463] _ H1457 _
        have k1484 : wLM H1457 r0 = wLM H r0 := ((wLM_fr w1330 g0 f1462 rfl).trans (wLM_fr hW g0 ((wfr.rf (l := [(42, 0)])).put' e1329 g0 rfl) rfl))
        refine wp_of e252 c252_30 (rw_istore_n (pc' := 31) (z := z1463) (L' := [(3, vI z1463), (0, .ref r0), (1, vI a1), (2, vI a2)]) rfl rfl rfl ?_)
        refine wp_of e252 c252_31 (rw_iload_n (pc' := 32) (z := z1463) rfl rfl ?_)
        refine wp_of e252 c252_32 (rw_if_le (p1 := 41) (p2 := 35) (by decide) rfl ⟨Int.le_trans (by decide) b1464.1, Int.le_trans b1464.2 (by decide)⟩ (fun c1485 => ?_) (fun c1485 => ?_))
        · refine wp_of e252 c252_41 (rw_aload_n (pc' := 42) (v := .ref r0) rfl rfl rfl ?_)
          refine wp_of e252 c252_42 (rw_iload_n (pc' := 43) (z := a1) rfl rfl ?_)
          refine wp_of e252 c252_43 (rw_iload_n (pc' := 44) (z := a2) rfl rfl ?_)
          have k1486 : H1457 r0 3 = H1328 r0 3 := (f1462 r0 3 _ g0 rfl)
          obtain ⟨r1487, q1488, g1489⟩ := (w1461.opt g0 (t' := 54) (n := 33) (j := 3) (p := 0) (q := 0) rfl (by decide) rfl).resolve_left (by omega)
          refine wp_of e252 c252_44 (xc_V (pc' := 47) (r := r0) (as := [vI a1, vI a2]) (st := []) (lm_9_444) rfl rfl (Nat.le_of_ble_eq_true rfl) w1461 g0 sh_42 (by decide) rfl (by decide) (s_251 w1461 g0 ⟨by omega, by omega⟩ ⟨i2.1, i2.2⟩ q1488 g1489 (by omega)) (fun R1490 T1491 H1492 p1493 => ?_))
          obtain ⟨e1494, w1496, f1497, z1498, e1495, b1499⟩ := p1493
          subst e1494
          subst e1495
          have f1500 := f1483.tr f1497 rfl
          show wp _ _ 252 47 [(3, vI z1463), (0, .ref r0), (1, vI a1), (2, vI a2)] [vI z1498] _ H1492 _
          refine wp_of e252 c252_47 (rw_istore (pc' := 49) (z := z1498) (L' := [(4, vI z1498), (3, vI z1463), (0, .ref r0), (1, vI a1), (2, vI a2)]) rfl rfl rfl ?_)
          refine wp_of e252 c252_49 (rw_aload_n (pc' := 50) (v := .ref r0) rfl rfl rfl ?_)
          refine wp_of e252 c252_50 (rw_iload (pc' := 52) (z := z1498) rfl rfl ?_)
          refine wp_of e252 c252_52 (rw_aload_n (pc' := 53) (v := .ref r0) rfl rfl rfl ?_)
          have k1501 : H1492 r0 29 = H1457 r0 29 := (f1497 r0 29 _ g0 rfl)
          refine wp_of e252 c252_53 (xg_I (pc' := 56) lf_9_422 w1496 g0 sh_42 (by decide) (by decide) ty_42_29 rfl rfl (fun b1502 b1503 => ?_))
          refine wp_of e252 c252_56 (rw_icmp_ne (p1 := 63) (p2 := 59) (by decide) rfl ⟨b1499.1, b1499.2⟩ ⟨Int.le_trans (by decide) b1502, Int.le_trans b1503 (by decide)⟩ (fun c1504 => ?_) (fun c1504 => ?_))
          · refine wp_of e252 c252_63 (rw_iload (pc' := 65) (z := z1498) rfl rfl ?_)
            refine wp_of e252 c252_65 (rw_if_ne (p1 := 72) (p2 := 68) (by decide) rfl ⟨b1499.1, b1499.2⟩ (fun c1505 => ?_) (fun c1505 => ?_))
            · refine wp_of e252 c252_72 (rw_iconst (pc' := 73) rfl ?_)
              refine wp_of e252 c252_73 (xc_V (pc' := 76) (r := r0) (as := [vI 1]) (st := []) (lm_9_58) rfl rfl (Nat.le_of_ble_eq_true rfl) w1496 g0 sh_42 (by decide) rfl (by decide) (s_209 w1496 g0 ⟨by decide, by decide⟩) (fun R1506 T1507 H1508 p1509 => ?_))
              obtain ⟨e1510, w1512, f1513, z1514, e1511, b1515⟩ := p1509
              subst e1510
              subst e1511
              have f1516 := f1500.tr f1513 rfl
              show wp _ _ 252 76 [(4, vI z1498), (3, vI z1463), (0, .ref r0), (1, vI a1), (2, vI a2)] [vI z1514] _ H1508 _
              have k1517 : wKI H1508 r0 = wKI H1457 r0 := ((wKI_fr w1496 g0 f1513 rfl).trans (wKI_fr w1461 g0 f1497 rfl))
              have h1518 : KNN T H1508 r0 e d := (KNN_fr w1496 g0 f1513 rfl (KNN_fr w1461 g0 f1497 rfl a1474))
              exact wp_ireturn e252 c252_76 rfl ⟨rfl, w1512, f1516, z1514, rfl, ⟨b1515.1, b1515.2⟩, ⟨by omega, h1518⟩⟩
            · refine wp_of e252 c252_68 (rw_iconst (pc' := 69) rfl ?_)
              refine wp_of e252 c252_69 (rw_goto (p1 := 73) (by decide) ?_)
              refine wp_of e252 c252_73 (xc_V (pc' := 76) (r := r0) (as := [vI 0]) (st := []) (lm_9_58) rfl rfl (Nat.le_of_ble_eq_true rfl) w1496 g0 sh_42 (by decide) rfl (by decide) (s_209 w1496 g0 ⟨by decide, by decide⟩) (fun R1519 T1520 H1521 p1522 => ?_))
              obtain ⟨e1523, w1525, f1526, z1527, e1524, b1528⟩ := p1522
              subst e1523
              subst e1524
              have f1529 := f1500.tr f1526 rfl
              show wp _ _ 252 76 [(4, vI z1498), (3, vI z1463), (0, .ref r0), (1, vI a1), (2, vI a2)] [vI z1527] _ H1521 _
              have k1530 : wKI H1521 r0 = wKI H1457 r0 := ((wKI_fr w1496 g0 f1526 rfl).trans (wKI_fr w1461 g0 f1497 rfl))
              have h1531 : KNN T H1521 r0 e d := (KNN_fr w1496 g0 f1526 rfl (KNN_fr w1461 g0 f1497 rfl a1474))
              exact wp_ireturn e252 c252_76 rfl ⟨rfl, w1525, f1529, z1527, rfl, ⟨b1528.1, b1528.2⟩, ⟨by omega, h1531⟩⟩
          · refine wp_of e252 c252_59 (rw_iconst (pc' := 60) rfl ?_)
            refine wp_of e252 c252_60 (rw_goto (p1 := 73) (by decide) ?_)
            refine wp_of e252 c252_73 (xc_V (pc' := 76) (r := r0) (as := [vI 2]) (st := []) (lm_9_58) rfl rfl (Nat.le_of_ble_eq_true rfl) w1496 g0 sh_42 (by decide) rfl (by decide) (s_209 w1496 g0 ⟨by decide, by decide⟩) (fun R1532 T1533 H1534 p1535 => ?_))
            obtain ⟨e1536, w1538, f1539, z1540, e1537, b1541⟩ := p1535
            subst e1536
            subst e1537
            have f1542 := f1500.tr f1539 rfl
            show wp _ _ 252 76 [(4, vI z1498), (3, vI z1463), (0, .ref r0), (1, vI a1), (2, vI a2)] [vI z1540] _ H1534 _
            have k1543 : wKI H1534 r0 = wKI H1457 r0 := ((wKI_fr w1496 g0 f1539 rfl).trans (wKI_fr w1461 g0 f1497 rfl))
            have h1544 : KNN T H1534 r0 e d := (KNN_fr w1496 g0 f1539 rfl (KNN_fr w1461 g0 f1497 rfl a1474))
            exact wp_ireturn e252 c252_76 rfl ⟨rfl, w1538, f1542, z1540, rfl, ⟨b1541.1, b1541.2⟩, ⟨by omega, h1544⟩⟩
        · exfalso
          omega
      · have f1545 := f1331.tr f1462 rfl
        show wp _ _ 252 30 [(0, .ref r0), (1, vI a1), (2, vI a2)] [vI z1463] _ H1457 _
        have k1546 : wLM H1457 r0 = wLM H r0 := ((wLM_fr w1330 g0 f1462 rfl).trans (wLM_fr hW g0 ((wfr.rf (l := [(42, 0)])).put' e1329 g0 rfl) rfl))
        refine wp_of e252 c252_30 (rw_istore_n (pc' := 31) (z := z1463) (L' := [(3, vI z1463), (0, .ref r0), (1, vI a1), (2, vI a2)]) rfl rfl rfl ?_)
        refine wp_of e252 c252_31 (rw_iload_n (pc' := 32) (z := z1463) rfl rfl ?_)
        refine wp_of e252 c252_32 (rw_if_le (p1 := 41) (p2 := 35) (by decide) rfl ⟨Int.le_trans (by decide) b1464.1, Int.le_trans b1464.2 (by decide)⟩ (fun c1547 => ?_) (fun c1547 => ?_))
        · exfalso
          omega
        · refine wp_of e252 c252_35 (rw_aload_n (pc' := 36) (v := .ref r0) rfl rfl rfl ?_)
          refine wp_of e252 c252_36 (rw_iload_n (pc' := 37) (z := z1463) rfl rfl ?_)
          refine wp_of e252 c252_37 (xc_V (pc' := 40) (r := r0) (as := [vI z1463]) (st := []) (lm_9_54) rfl rfl (Nat.le_of_ble_eq_true rfl) w1461 g0 sh_42 (by decide) rfl (by decide) (s_170 w1461 g0 ⟨Int.le_trans (by decide) b1464.1, Int.le_trans b1464.2 (by decide)⟩) (fun R1548 T1549 H1550 p1551 => ?_))
          obtain ⟨e1552, w1554, f1555, z1556, e1553, b1557⟩ := p1551
          subst e1552
          subst e1553
          have f1558 := f1545.tr f1555 rfl
          show wp _ _ 252 40 [(3, vI z1463), (0, .ref r0), (1, vI a1), (2, vI a2)] [vI z1556] _ H1550 _
          have k1559 : wKI H1550 r0 = wKI H1457 r0 := (wKI_fr w1461 g0 f1555 rfl)
          have h1560 : KNN T H1550 r0 e d := (KNN_fr w1461 g0 f1555 rfl a1482)
          exact wp_ireturn e252 c252_40 rfl ⟨rfl, w1554, f1558, z1556, rfl, ⟨b1557.1, b1557.2⟩, ⟨by omega, h1560⟩⟩
/-! StrikeAwakeModel.surely(IZ)I  -/
abbrev uq_254 (r0 : Nat) (a1 : Int) (a2 : Int) (e : xD) (d : xD) (T : wq_T) (H : wq_H) : Option Value → wq_T → wq_H → Prop := fun r T' H' => T = T' ∧ WT T H' ∧ wfr [(42, 0), (42, 1), (42, 2), (42, 28), (42, 29), (51, 999), (52, 999)] T H H' ∧ ∃ z : Int, some (vI z) = r ∧ ((-2147483648) ≤ z ∧ z ≤ 2147483647) ∧ (((wKI H' r0 = 1) ∧ KNN T H' r0 e d))
set_option maxHeartbeats 4000000 in
theorem u_254 {kt : Nat → Option mc_E} {T : wq_T} {H : wq_H} {r0 : Nat} {a1 : Int} {a2 : Int} {e : xD} {d : xD} (hW : WT T H) (g0 : T.2.2.2 r0 = some 42) (i1 : (-2147483648) ≤ a1 ∧ a1 ≤ 2147483647) (i2 : 0 ≤ a2 ∧ a2 ≤ 1) (p0 : wKI H r0 = 1) (p1 : XW d) (p2 : ∀ h : Nat, d 0 0 ≤ (h : Int) → h < 24 → e 13 h = 0) (p3 : XN d) (p4 : ∀ h : Nat, h < 24 → 0 ≤ e 13 h ∧ e 13 h ≤ 100) (hRB_r0 : RB T H r0 e d) (hKNN_r0 : KNN T H r0 e d) : wpc kt 9 254 [.ref r0, vI a1, vI a2] T H (uq_254 r0 a1 a2 e d T H) := by
  refine wp_enter e254 (Nat.le_of_ble_eq_true rfl) rfl ?_
  have f0 : wfr [(42, 0), (42, 1), (42, 2), (42, 28), (42, 29), (51, 999), (52, 999)] T H H := wfr.rf
  show wp _ _ 254 0 [(0, .ref r0), (1, vI a1), (2, vI a2)] [] _ H _
  have _b := RB_b hW hRB_r0
  have _nu := RB_n3 hRB_r0
  have _lm := RB_lm hRB_r0
  refine wp_of e254 c254_0 (rw_aload_n (pc' := 1) (v := .ref r0) rfl rfl rfl ?_)
  refine wp_of e254 c254_1 (rw_iconst (pc' := 2) rfl ?_)
  refine wp_of e254 c254_2 (xp_I (pc' := 5) lf_9_48 hW g0 sh_42 (by decide) (by decide) ty_42_0 rfl rfl (by decide) (by decide) ⟨by decide, by decide⟩ rfl (fun H1379 e1380 w1381 => ?_))
  have f1382 := f0.put' e1380 g0 rfl
  have k1383 : H1379 r0 0 = 0 := wq_u_s e1380
  refine wp_of e254 c254_5 (rw_aload_n (pc' := 6) (v := .ref r0) rfl rfl rfl ?_)
  refine wp_of e254 c254_6 (rw_aload_n (pc' := 7) (v := .ref r0) rfl rfl rfl ?_)
  refine wp_of e254 c254_7 (rw_iload_n (pc' := 8) (z := a1) rfl rfl ?_)
  refine wp_of e254 c254_8 (xc_V (pc' := 11) (r := r0) (as := [vI a1]) (st := [.ref r0]) (lm_9_373) rfl rfl (Nat.le_of_ble_eq_true rfl) w1381 g0 sh_42 (by decide) rfl (by decide) (s_218 w1381 g0 ⟨i1.1, i1.2⟩) (fun R1384 T1385 H1386 p1387 => ?_))
  obtain ⟨e1388, e1390, z1392, e1389, b1393, p1391⟩ := p1387
  subst e1388
  subst e1389
  subst e1390
  show wp _ _ 254 11 [(0, .ref r0), (1, vI a1), (2, vI a2)] [vI z1392, .ref r0] _ H1379 _
  have k1394 : H1379 r0 3 = H r0 3 := (wq_u_j e1380 rfl)
  have k1395 : wKI H1379 r0 = wKI H r0 := (wKI_fr hW g0 ((wfr.rf (l := [(42, 0)])).put' e1380 g0 rfl) rfl)
  have h1396 : RB T H1379 r0 e d := (RB_fr hW g0 ((wfr.rf (l := [(42, 0)])).put' e1380 g0 rfl) rfl hRB_r0)
  have h1397 : KNN T H1379 r0 e d := (KNN_fr hW g0 ((wfr.rf (l := [(42, 0)])).put' e1380 g0 rfl) rfl hKNN_r0)
  refine wp_of e254 c254_11 (xc_V (pc' := 14) (r := r0) (as := [vI z1392]) (st := []) (lm_9_447) rfl rfl (Nat.le_of_ble_eq_true rfl) w1381 g0 sh_42 (by decide) rfl (by decide) (u_253 (e := e) (d := d) w1381 g0 ⟨b1393.1, b1393.2⟩ (by omega) (by omega) (by assumption) (by assumption) (by assumption) (by assumption) h1396 h1397) (fun R1398 T1399 H1400 p1401 => ?_))
  obtain ⟨e1402, w1404, f1405, z1406, e1403, b1407, p1408⟩ := p1401
  subst e1402
  subst e1403
  rcases p1408 with ⟨a1409, a1410, a1411, a1412, a1413, a1414, a1415, a1416, a1417, a1418⟩ | ⟨a1419, a1420, a1421, a1422, a1423, a1424, a1425⟩
  · have f1426 := f1382.tr f1405 rfl
    show wp _ _ 254 14 [(0, .ref r0), (1, vI a1), (2, vI a2)] [vI z1406] _ H1400 _
    have k1427 : wLM H1400 r0 = wLM H r0 := ((wLM_fr w1381 g0 f1405 rfl).trans (wLM_fr hW g0 ((wfr.rf (l := [(42, 0)])).put' e1380 g0 rfl) rfl))
    refine wp_of e254 c254_14 (rw_istore_n (pc' := 15) (z := z1406) (L' := [(3, vI z1406), (0, .ref r0), (1, vI a1), (2, vI a2)]) rfl rfl rfl ?_)
    refine wp_of e254 c254_15 (rw_iload_n (pc' := 16) (z := z1406) rfl rfl ?_)
    refine wp_of e254 c254_16 (rw_if_le (p1 := 25) (p2 := 19) (by decide) rfl ⟨Int.le_trans (by decide) b1407.1, Int.le_trans b1407.2 (by decide)⟩ (fun c1428 => ?_) (fun c1428 => ?_))
    · refine wp_of e254 c254_25 (rw_iconst (pc' := 26) rfl ?_)
      refine wp_of e254 c254_26 (rw_istore (pc' := 28) (z := 0) (L' := [(4, vI 0), (3, vI z1406), (0, .ref r0), (1, vI a1), (2, vI a2)]) rfl rfl rfl ?_)
      refine wp_of e254 c254_28 (rw_iconst (pc' := 29) rfl ?_)
      refine wp_of e254 c254_29 (rw_istore (pc' := 31) (z := 0) (L' := [(5, vI 0), (4, vI 0), (3, vI z1406), (0, .ref r0), (1, vI a1), (2, vI a2)]) rfl rfl rfl ?_)
      have lp1695 : ∀ (n1696 : Nat) (v1698 : Int) (v1699 : Int) (H1700 : wq_H), WT T H1700 → wfr [(51, 999)] T H1400 H1700 → (0 ≤ v1698 ∧ v1698 ≤ 6) → (0 ≤ v1699 ∧ v1699 ≤ 16777215) → (6 - v1698).toNat = n1696 → wp kt 8 254 31 [(5, vI v1698), (4, vI v1699), (0, .ref r0), (1, vI a1), (2, vI a2)] [] T H1700 (uq_254 r0 a1 a2 e d T H) := by
        intro n1696
        induction n1696 using Nat.strongRecOn with
        | _ n1696 ih1697 =>
          intro v1698 v1699 H1700 w1701 f1702 b1703 b1704 m1705
          have f1706 := f1426.tr f1702 rfl
          refine wp_of e254 c254_31 (rw_iload (pc' := 33) (z := v1698) rfl rfl ?_)
          refine wp_of e254 c254_33 (rw_aload_n (pc' := 34) (v := .ref r0) rfl rfl rfl ?_)
          have k1707 : H1700 r0 3 = H1379 r0 3 := ((f1702 r0 3 _ g0 rfl).trans (f1405 r0 3 _ g0 rfl))
          refine wp_of e254 c254_34 (xg_O (pc' := 37) lf_9_337 w1701 g0 sh_42 (by decide) (by decide) ty_42_3 rfl rfl (fun q1709 => ?_) (fun r1708 q1709 g1710 => ?_))
          · exfalso
            omega
          · refine wp_of e254 c254_37 (xg_I (pc' := 40) lf_9_188 w1701 g1710 sh_54 (by decide) (by decide) ty_54_3 rfl rfl (fun b1711 b1712 => ?_))
            refine wp_of e254 c254_40 (rw_icmp_ge (p1 := 84) (p2 := 43) (by decide) rfl ⟨Int.le_trans (by decide) b1703.1, Int.le_trans b1703.2 (by decide)⟩ ⟨Int.le_trans (by decide) b1711, Int.le_trans b1712 (by decide)⟩ (fun c1713 => ?_) (fun c1713 => ?_))
            · refine wp_of e254 c254_84 (rw_aload_n (pc' := 85) (v := .ref r0) rfl rfl rfl ?_)
              refine wp_of e254 c254_85 (rw_iload (pc' := 87) (z := v1699) rfl rfl ?_)
              refine wp_of e254 c254_87 (xc_V (pc' := 90) (r := r0) (as := [vI v1699]) (st := []) (lm_9_58) rfl rfl (Nat.le_of_ble_eq_true rfl) w1701 g0 sh_42 (by decide) rfl (by decide) (s_209 w1701 g0 ⟨Int.le_trans (by decide) b1704.1, Int.le_trans b1704.2 (by decide)⟩) (fun R1714 T1715 H1716 p1717 => ?_))
              obtain ⟨e1718, w1720, f1721, z1722, e1719, b1723⟩ := p1717
              subst e1718
              subst e1719
              have f1724 := f1706.tr f1721 rfl
              show wp _ _ 254 90 [(5, vI v1698), (4, vI v1699), (0, .ref r0), (1, vI a1), (2, vI a2)] [vI z1722] _ H1716 _
              have k1725 : wKI H1716 r0 = wKI H1400 r0 := ((wKI_fr w1701 g0 f1721 rfl).trans (wKI_fr w1404 g0 f1702 rfl))
              have h1726 : KNN T H1716 r0 e d := (KNN_fr w1701 g0 f1721 rfl (KNN_fr w1404 g0 f1702 rfl a1417))
              exact wp_ireturn e254 c254_90 rfl ⟨rfl, w1720, f1724, z1722, rfl, ⟨b1723.1, b1723.2⟩, ⟨by omega, h1726⟩⟩
            · refine wp_of e254 c254_43 (rw_iload (pc' := 45) (z := v1699) rfl rfl ?_)
              refine wp_of e254 c254_45 (rw_aload_n (pc' := 46) (v := .ref r0) rfl rfl rfl ?_)
              refine wp_of e254 c254_46 (rw_iload (pc' := 48) (z := v1698) rfl rfl ?_)
              refine wp_of e254 c254_48 (rw_iload_n (pc' := 49) (z := a1) rfl rfl ?_)
              have k1727 : H1700 r0 29 = H1400 r0 29 := (f1702 r0 29 _ g0 rfl)
              have k1728 : wLM H1700 r0 = wLM H1400 r0 := (wLM_fr w1404 g0 f1702 rfl)
              refine wp_of e254 c254_49 (xc_V (pc' := 52) (r := r0) (as := [vI v1698, vI a1]) (st := [vI v1699]) (lm_9_444) rfl rfl (Nat.le_of_ble_eq_true rfl) w1701 g0 sh_42 (by decide) rfl (by decide) (s_251 w1701 g0 ⟨b1703.1, by omega⟩ ⟨i1.1, i1.2⟩ q1709 g1710 (by omega)) (fun R1729 T1730 H1731 p1732 => ?_))
              obtain ⟨e1733, w1735, f1736, z1737, e1734, b1738⟩ := p1732
              subst e1733
              subst e1734
              have f1739 := f1706.tr f1736 rfl
              have f1740 := f1702.tr f1736 rfl
              show wp _ _ 254 52 [(5, vI v1698), (4, vI v1699), (0, .ref r0), (1, vI a1), (2, vI a2)] [vI z1737, vI v1699] _ H1731 _
              refine wp_of e254 c254_52 (rw_iload_n (pc' := 53) (z := a2) rfl rfl ?_)
              refine wp_of e254 c254_53 (rw_if_eq (p1 := 63) (p2 := 56) (by decide) rfl ⟨Int.le_trans (by decide) i2.1, Int.le_trans i2.2 (by decide)⟩ (fun c1741 => ?_) (fun c1741 => ?_))
              · refine wp_of e254 c254_63 (rw_iconst (pc' := 64) rfl ?_)
                refine wp_of e254 c254_64 (rw_icmp_ne (p1 := 74) (p2 := 67) (by decide) rfl ⟨b1738.1, b1738.2⟩ ⟨by decide, by decide⟩ (fun c1742 => ?_) (fun c1742 => ?_))
                · refine wp_of e254 c254_74 (rw_iconst (pc' := 75) rfl ?_)
                  refine wp_of e254 c254_75 (rw_ior (pc' := 76) rfl ?_)
                  obtain ⟨v1743, e1744⟩ : ∃ x : Int, x = wq_or v1699 0 := ⟨_, rfl⟩
                  rw [← e1744]
                  have b1745 : 0 ≤ v1743 ∧ v1743 ≤ 16777215 := by
                    rw [e1744]
                    exact wq_or_24 ⟨by omega, by omega⟩ ⟨by omega, by omega⟩
                  refine wp_of e254 c254_76 (rw_istore (pc' := 78) (z := v1743) (L' := [(4, vI v1743), (5, vI v1698), (0, .ref r0), (1, vI a1), (2, vI a2)]) rfl rfl rfl ?_)
                  refine wp_of e254 c254_78 (rw_iinc (pc' := 81) (z := v1698) (L' := [(5, vI (v1698 + 1)), (4, vI v1743), (0, .ref r0), (1, vI a1), (2, vI a2)]) rfl rfl rfl rfl ?_)
                  refine wp_of e254 c254_81 (rw_goto (p1 := 31) (by decide) ?_)
                  exact wp_lc (ks := [5, 4, 0, 1, 2]) (wl_c rfl (wl_c rfl (wl_c rfl (wl_c rfl (wl_c rfl wl_n))))) rfl (by decide) (ih1697 _ (by omega) (v1698 + 1) v1743 H1731 w1735 f1740 ⟨by omega, by omega⟩ ⟨b1745.1, b1745.2⟩ rfl)
                · refine wp_of e254 c254_67 (rw_iconst (pc' := 68) rfl ?_)
                  refine wp_of e254 c254_68 (rw_iload (pc' := 70) (z := v1698) rfl rfl ?_)
                  refine wp_of e254 c254_70 (rw_ishl (pc' := 71) rfl ?_)
                  obtain ⟨v1746, e1747⟩ : ∃ x : Int, x = wq_shl 1 v1698 := ⟨_, rfl⟩
                  rw [← e1747]
                  have b1748 : 1 ≤ v1746 ∧ v1746 ≤ 64 := by
                    rw [e1747]
                    exact wq_shl1_6 ⟨by omega, by omega⟩
                  refine wp_of e254 c254_71 (rw_goto (p1 := 75) (by decide) ?_)
                  refine wp_of e254 c254_75 (rw_ior (pc' := 76) rfl ?_)
                  obtain ⟨v1749, e1750⟩ : ∃ x : Int, x = wq_or v1699 v1746 := ⟨_, rfl⟩
                  rw [← e1750]
                  have b1751 : 0 ≤ v1749 ∧ v1749 ≤ 16777215 := by
                    rw [e1750]
                    exact wq_or_24 ⟨by omega, by omega⟩ ⟨by omega, by omega⟩
                  refine wp_of e254 c254_76 (rw_istore (pc' := 78) (z := v1749) (L' := [(4, vI v1749), (5, vI v1698), (0, .ref r0), (1, vI a1), (2, vI a2)]) rfl rfl rfl ?_)
                  refine wp_of e254 c254_78 (rw_iinc (pc' := 81) (z := v1698) (L' := [(5, vI (v1698 + 1)), (4, vI v1749), (0, .ref r0), (1, vI a1), (2, vI a2)]) rfl rfl rfl rfl ?_)
                  refine wp_of e254 c254_81 (rw_goto (p1 := 31) (by decide) ?_)
                  exact wp_lc (ks := [5, 4, 0, 1, 2]) (wl_c rfl (wl_c rfl (wl_c rfl (wl_c rfl (wl_c rfl wl_n))))) rfl (by decide) (ih1697 _ (by omega) (v1698 + 1) v1749 H1731 w1735 f1740 ⟨by omega, by omega⟩ ⟨b1751.1, b1751.2⟩ rfl)
              · refine wp_of e254 c254_56 (rw_aload_n (pc' := 57) (v := .ref r0) rfl rfl rfl ?_)
                have k1752 : H1731 r0 29 = H1700 r0 29 := (f1736 r0 29 _ g0 rfl)
                refine wp_of e254 c254_57 (xg_I (pc' := 60) lf_9_422 w1735 g0 sh_42 (by decide) (by decide) ty_42_29 rfl rfl (fun b1753 b1754 => ?_))
                refine wp_of e254 c254_60 (rw_goto (p1 := 64) (by decide) ?_)
                refine wp_of e254 c254_64 (rw_icmp_ne (p1 := 74) (p2 := 67) (by decide) rfl ⟨b1738.1, b1738.2⟩ ⟨Int.le_trans (by decide) b1753, Int.le_trans b1754 (by decide)⟩ (fun c1755 => ?_) (fun c1755 => ?_))
                · refine wp_of e254 c254_74 (rw_iconst (pc' := 75) rfl ?_)
                  refine wp_of e254 c254_75 (rw_ior (pc' := 76) rfl ?_)
                  obtain ⟨v1756, e1757⟩ : ∃ x : Int, x = wq_or v1699 0 := ⟨_, rfl⟩
                  rw [← e1757]
                  have b1758 : 0 ≤ v1756 ∧ v1756 ≤ 16777215 := by
                    rw [e1757]
                    exact wq_or_24 ⟨by omega, by omega⟩ ⟨by omega, by omega⟩
                  refine wp_of e254 c254_76 (rw_istore (pc' := 78) (z := v1756) (L' := [(4, vI v1756), (5, vI v1698), (0, .ref r0), (1, vI a1), (2, vI a2)]) rfl rfl rfl ?_)
                  refine wp_of e254 c254_78 (rw_iinc (pc' := 81) (z := v1698) (L' := [(5, vI (v1698 + 1)), (4, vI v1756), (0, .ref r0), (1, vI a1), (2, vI a2)]) rfl rfl rfl rfl ?_)
                  refine wp_of e254 c254_81 (rw_goto (p1 := 31) (by decide) ?_)
                  exact wp_lc (ks := [5, 4, 0, 1, 2]) (wl_c rfl (wl_c rfl (wl_c rfl (wl_c rfl (wl_c rfl wl_n))))) rfl (by decide) (ih1697 _ (by omega) (v1698 + 1) v1756 H1731 w1735 f1740 ⟨by omega, by omega⟩ ⟨b1758.1, b1758.2⟩ rfl)
                · refine wp_of e254 c254_67 (rw_iconst (pc' := 68) rfl ?_)
                  refine wp_of e254 c254_68 (rw_iload (pc' := 70) (z := v1698) rfl rfl ?_)
                  refine wp_of e254 c254_70 (rw_ishl (pc' := 71) rfl ?_)
                  obtain ⟨v1759, e1760⟩ : ∃ x : Int, x = wq_shl 1 v1698 := ⟨_, rfl⟩
                  rw [← e1760]
                  have b1761 : 1 ≤ v1759 ∧ v1759 ≤ 64 := by
                    rw [e1760]
                    exact wq_shl1_6 ⟨by omega, by omega⟩
                  refine wp_of e254 c254_71 (rw_goto (p1 := 75) (by decide) ?_)
                  refine wp_of e254 c254_75 (rw_ior (pc' := 76) rfl ?_)
                  obtain ⟨v1762, e1763⟩ : ∃ x : Int, x = wq_or v1699 v1759 := ⟨_, rfl⟩
                  rw [← e1763]
                  have b1764 : 0 ≤ v1762 ∧ v1762 ≤ 16777215 := by
                    rw [e1763]
                    exact wq_or_24 ⟨by omega, by omega⟩ ⟨by omega, by omega⟩
                  refine wp_of e254 c254_76 (rw_istore (pc' := 78) (z := v1762) (L' := [(4, vI v1762), (5, vI v1698), (0, .ref r0), (1, vI a1), (2, vI a2)]) rfl rfl rfl ?_)
                  refine wp_of e254 c254_78 (rw_iinc (pc' := 81) (z := v1698) (L' := [(5, vI (v1698 + 1)), (4, vI v1762), (0, .ref r0), (1, vI a1), (2, vI a2)]) rfl rfl rfl rfl ?_)
                  refine wp_of e254 c254_81 (rw_goto (p1 := 31) (by decide) ?_)
                  exact wp_lc (ks := [5, 4, 0, 1, 2]) (wl_c rfl (wl_c rfl (wl_c rfl (wl_c rfl (wl_c rfl wl_n))))) rfl (by decide) (ih1697 _ (by omega) (v1698 + 1) v1762 H1731 w1735 f1740 ⟨by omega, by omega⟩ ⟨b1764.1, b1764.2⟩ rfl)
      exact wp_lc (ks := [5, 4, 3, 0, 1, 2]) (wl_c rfl (wl_c rfl (wl_c rfl (wl_c rfl (wl_c rfl wl_n))))) rfl (by decide) (lp1695 _ 0 0 H1400 w1404 wfr.rf ⟨by decide, by decide⟩ ⟨by decide, by decide⟩ rfl)
    · exfalso
      omega
  · have f1765 := f1382.tr f1405 rfl
    show wp _ _ 254 14 [(0, .ref r0), (1, vI a1), (2, vI a2)] [vI z1406] _ H1400 _
    have k1766 : wLM H1400 r0 = wLM H r0 := ((wLM_fr w1381 g0 f1405 rfl).trans (wLM_fr hW g0 ((wfr.rf (l := [(42, 0)])).put' e1380 g0 rfl) rfl))
    refine wp_of e254 c254_14 (rw_istore_n (pc' := 15) (z := z1406) (L' := [(3, vI z1406), (0, .ref r0), (1, vI a1), (2, vI a2)]) rfl rfl rfl ?_)
    refine wp_of e254 c254_15 (rw_iload_n (pc' := 16) (z := z1406) rfl rfl ?_)
    refine wp_of e254 c254_16 (rw_if_le (p1 := 25) (p2 := 19) (by decide) rfl ⟨Int.le_trans (by decide) b1407.1, Int.le_trans b1407.2 (by decide)⟩ (fun c1767 => ?_) (fun c1767 => ?_))
    · exfalso
      omega
    · refine wp_of e254 c254_19 (rw_aload_n (pc' := 20) (v := .ref r0) rfl rfl rfl ?_)
      refine wp_of e254 c254_20 (rw_iload_n (pc' := 21) (z := z1406) rfl rfl ?_)
      refine wp_of e254 c254_21 (xc_V (pc' := 24) (r := r0) (as := [vI z1406]) (st := []) (lm_9_54) rfl rfl (Nat.le_of_ble_eq_true rfl) w1404 g0 sh_42 (by decide) rfl (by decide) (s_170 w1404 g0 ⟨Int.le_trans (by decide) b1407.1, Int.le_trans b1407.2 (by decide)⟩) (fun R1768 T1769 H1770 p1771 => ?_))
      obtain ⟨e1772, w1774, f1775, z1776, e1773, b1777⟩ := p1771
      subst e1772
      subst e1773
      have f1778 := f1765.tr f1775 rfl
      show wp _ _ 254 24 [(3, vI z1406), (0, .ref r0), (1, vI a1), (2, vI a2)] [vI z1776] _ H1770 _
      have k1779 : wKI H1770 r0 = wKI H1400 r0 := (wKI_fr w1404 g0 f1775 rfl)
      have h1780 : KNN T H1770 r0 e d := (KNN_fr w1404 g0 f1775 rfl a1425)
      exact wp_ireturn e254 c254_24 rfl ⟨rfl, w1774, f1778, z1776, rfl, ⟨b1777.1, b1777.2⟩, ⟨by omega, h1780⟩⟩
/-! StrikeAwakeModel.chance(II)I  -/
abbrev uq_255 (r0 : Nat) (a1 : Int) (a2 : Int) (e : xD) (d : xD) (T : wq_T) (H : wq_H) : Option Value → wq_T → wq_H → Prop := fun r T' H' => T = T' ∧ WT T H' ∧ wfr [(42, 0), (42, 1), (42, 2), (42, 28), (42, 29), (51, 999), (52, 999)] T H H' ∧ ∃ z : Int, some (vI z) = r ∧ ((-2147483648) ≤ z ∧ z ≤ 2147483647) ∧ (((wKI H' r0 = 1) ∧ KNN T H' r0 e d))
set_option maxHeartbeats 4000000 in
theorem u_255 {kt : Nat → Option mc_E} {T : wq_T} {H : wq_H} {r0 : Nat} {a1 : Int} {a2 : Int} {e : xD} {d : xD} (hW : WT T H) (g0 : T.2.2.2 r0 = some 42) (i1 : (-2147483648) ≤ a1 ∧ a1 ≤ 2147483647) (i2 : (-2147483648) ≤ a2 ∧ a2 ≤ 2147483647) (p0 : wKI H r0 = 1) (p1 : XW d) (p2 : ∀ h : Nat, d 0 0 ≤ (h : Int) → h < 24 → e 13 h = 0) (p3 : XN d) (p4 : ∀ h : Nat, h < 24 → 0 ≤ e 13 h ∧ e 13 h ≤ 100) (hRB_r0 : RB T H r0 e d) (hKNN_r0 : KNN T H r0 e d) : wpc kt 9 255 [.ref r0, vI a1, vI a2] T H (uq_255 r0 a1 a2 e d T H) := by
  refine wp_enter e255 (Nat.le_of_ble_eq_true rfl) rfl ?_
  have f0 : wfr [(42, 0), (42, 1), (42, 2), (42, 28), (42, 29), (51, 999), (52, 999)] T H H := wfr.rf
  show wp _ _ 255 0 [(0, .ref r0), (1, vI a1), (2, vI a2)] [] _ H _
  have _b := RB_b hW hRB_r0
  have _nu := RB_n3 hRB_r0
  have _lm := RB_lm hRB_r0
  refine wp_of e255 c255_0 (rw_aload_n (pc' := 1) (v := .ref r0) rfl rfl rfl ?_)
  refine wp_of e255 c255_1 (rw_iconst (pc' := 2) rfl ?_)
  refine wp_of e255 c255_2 (xp_I (pc' := 5) lf_9_48 hW g0 sh_42 (by decide) (by decide) ty_42_0 rfl rfl (by decide) (by decide) ⟨by decide, by decide⟩ rfl (fun H1310 e1311 w1312 => ?_))
  have f1313 := f0.put' e1311 g0 rfl
  have k1314 : H1310 r0 0 = 0 := wq_u_s e1311
  refine wp_of e255 c255_5 (rw_aload_n (pc' := 6) (v := .ref r0) rfl rfl rfl ?_)
  refine wp_of e255 c255_6 (rw_aload_n (pc' := 7) (v := .ref r0) rfl rfl rfl ?_)
  refine wp_of e255 c255_7 (rw_iload_n (pc' := 8) (z := a1) rfl rfl ?_)
  refine wp_of e255 c255_8 (xc_V (pc' := 11) (r := r0) (as := [vI a1]) (st := [.ref r0]) (lm_9_364) rfl rfl (Nat.le_of_ble_eq_true rfl) w1312 g0 sh_42 (by decide) rfl (by decide) (s_213 w1312 g0 ⟨i1.1, i1.2⟩) (fun R1315 T1316 H1317 p1318 => ?_))
  obtain ⟨e1319, e1321, z1323, e1320, b1324, p1322⟩ := p1318
  subst e1319
  subst e1320
  subst e1321
  show wp _ _ 255 11 [(0, .ref r0), (1, vI a1), (2, vI a2)] [vI z1323, .ref r0] _ H1310 _
  refine wp_of e255 c255_11 (rw_if_eq (p1 := 26) (p2 := 14) (by decide) rfl ⟨Int.le_trans (by decide) b1324.1, Int.le_trans b1324.2 (by decide)⟩ (fun c1325 => ?_) (fun c1325 => ?_))
  · refine wp_of e255 c255_26 (rw_iconst (pc' := 27) rfl ?_)
    have k1326 : H1310 r0 3 = H r0 3 := (wq_u_j e1311 rfl)
    have k1327 : wKI H1310 r0 = wKI H r0 := (wKI_fr hW g0 ((wfr.rf (l := [(42, 0)])).put' e1311 g0 rfl) rfl)
    have h1328 : RB T H1310 r0 e d := (RB_fr hW g0 ((wfr.rf (l := [(42, 0)])).put' e1311 g0 rfl) rfl hRB_r0)
    have h1329 : KNN T H1310 r0 e d := (KNN_fr hW g0 ((wfr.rf (l := [(42, 0)])).put' e1311 g0 rfl) rfl hKNN_r0)
    refine wp_of e255 c255_27 (xc_V (pc' := 30) (r := r0) (as := [vI 0]) (st := []) (lm_9_447) rfl rfl (Nat.le_of_ble_eq_true rfl) w1312 g0 sh_42 (by decide) rfl (by decide) (u_253 (e := e) (d := d) w1312 g0 ⟨by decide, by decide⟩ (by omega) (by omega) (by assumption) (by assumption) (by assumption) (by assumption) h1328 h1329) (fun R1330 T1331 H1332 p1333 => ?_))
    obtain ⟨e1334, w1336, f1337, z1338, e1335, b1339, p1340⟩ := p1333
    subst e1334
    subst e1335
    rcases p1340 with ⟨a1341, a1342, a1343, a1344, a1345, a1346, a1347, a1348, a1349, a1350⟩ | ⟨a1351, a1352, a1353, a1354, a1355, a1356, a1357⟩
    · exfalso
      omega
    · have f1358 := f1313.tr f1337 rfl
      show wp _ _ 255 30 [(0, .ref r0), (1, vI a1), (2, vI a2)] [vI z1338] _ H1332 _
      have k1359 : wLM H1332 r0 = wLM H r0 := ((wLM_fr w1312 g0 f1337 rfl).trans (wLM_fr hW g0 ((wfr.rf (l := [(42, 0)])).put' e1311 g0 rfl) rfl))
      refine wp_of e255 c255_30 (rw_istore_n (pc' := 31) (z := z1338) (L' := [(3, vI z1338), (0, .ref r0), (1, vI a1), (2, vI a2)]) rfl rfl rfl ?_)
      refine wp_of e255 c255_31 (rw_iload_n (pc' := 32) (z := z1338) rfl rfl ?_)
      refine wp_of e255 c255_32 (rw_if_le (p1 := 43) (p2 := 35) (by decide) rfl ⟨Int.le_trans (by decide) b1339.1, Int.le_trans b1339.2 (by decide)⟩ (fun c1360 => ?_) (fun c1360 => ?_))
      · exfalso
        omega
      · refine wp_of e255 c255_35 (rw_aload_n (pc' := 36) (v := .ref r0) rfl rfl rfl ?_)
        refine wp_of e255 c255_36 (rw_iload_n (pc' := 37) (z := z1338) rfl rfl ?_)
        refine wp_of e255 c255_37 (xc_V (pc' := 40) (r := r0) (as := [vI z1338]) (st := []) (lm_9_54) rfl rfl (Nat.le_of_ble_eq_true rfl) w1336 g0 sh_42 (by decide) rfl (by decide) (s_170 w1336 g0 ⟨Int.le_trans (by decide) b1339.1, Int.le_trans b1339.2 (by decide)⟩) (fun R1361 T1362 H1363 p1364 => ?_))
        obtain ⟨e1365, w1367, f1368, z1369, e1366, b1370⟩ := p1364
        subst e1365
        subst e1366
        have f1371 := f1358.tr f1368 rfl
        show wp _ _ 255 40 [(3, vI z1338), (0, .ref r0), (1, vI a1), (2, vI a2)] [vI z1369] _ H1363 _
        refine wp_of e255 c255_40 (rw_goto (p1 := 65) (by decide) ?_)
        have k1372 : wKI H1363 r0 = wKI H1332 r0 := (wKI_fr w1336 g0 f1368 rfl)
        have h1373 : KNN T H1363 r0 e d := (KNN_fr w1336 g0 f1368 rfl a1357)
        exact wp_ireturn e255 c255_65 rfl ⟨rfl, w1367, f1371, z1369, rfl, ⟨b1370.1, b1370.2⟩, ⟨by omega, h1373⟩⟩
  · refine wp_of e255 c255_14 (rw_aload_n (pc' := 15) (v := .ref r0) rfl rfl rfl ?_)
    refine wp_of e255 c255_15 (rw_iload_n (pc' := 16) (z := a2) rfl rfl ?_)
    refine wp_of e255 c255_16 (xc_V (pc' := 19) (r := r0) (as := [vI a2]) (st := [.ref r0]) (lm_9_373) rfl rfl (Nat.le_of_ble_eq_true rfl) w1312 g0 sh_42 (by decide) rfl (by decide) (s_218 w1312 g0 ⟨i2.1, i2.2⟩) (fun R1374 T1375 H1376 p1377 => ?_))
    obtain ⟨e1378, e1380, z1382, e1379, b1383, p1381⟩ := p1377
    subst e1378
    subst e1379
    subst e1380
    show wp _ _ 255 19 [(0, .ref r0), (1, vI a1), (2, vI a2)] [vI z1382, .ref r0] _ H1310 _
    refine wp_of e255 c255_19 (rw_if_eq (p1 := 26) (p2 := 22) (by decide) rfl ⟨Int.le_trans (by decide) b1383.1, Int.le_trans b1383.2 (by decide)⟩ (fun c1384 => ?_) (fun c1384 => ?_))
    · refine wp_of e255 c255_26 (rw_iconst (pc' := 27) rfl ?_)
      have k1385 : H1310 r0 3 = H r0 3 := (wq_u_j e1311 rfl)
      have k1386 : wKI H1310 r0 = wKI H r0 := (wKI_fr hW g0 ((wfr.rf (l := [(42, 0)])).put' e1311 g0 rfl) rfl)
      have h1387 : RB T H1310 r0 e d := (RB_fr hW g0 ((wfr.rf (l := [(42, 0)])).put' e1311 g0 rfl) rfl hRB_r0)
      have h1388 : KNN T H1310 r0 e d := (KNN_fr hW g0 ((wfr.rf (l := [(42, 0)])).put' e1311 g0 rfl) rfl hKNN_r0)
      refine wp_of e255 c255_27 (xc_V (pc' := 30) (r := r0) (as := [vI 0]) (st := []) (lm_9_447) rfl rfl (Nat.le_of_ble_eq_true rfl) w1312 g0 sh_42 (by decide) rfl (by decide) (u_253 (e := e) (d := d) w1312 g0 ⟨by decide, by decide⟩ (by omega) (by omega) (by assumption) (by assumption) (by assumption) (by assumption) h1387 h1388) (fun R1389 T1390 H1391 p1392 => ?_))
      obtain ⟨e1393, w1395, f1396, z1397, e1394, b1398, p1399⟩ := p1392
      subst e1393
      subst e1394
      rcases p1399 with ⟨a1400, a1401, a1402, a1403, a1404, a1405, a1406, a1407, a1408, a1409⟩ | ⟨a1410, a1411, a1412, a1413, a1414, a1415, a1416⟩
      · exfalso
        omega
      · have f1417 := f1313.tr f1396 rfl
        show wp _ _ 255 30 [(0, .ref r0), (1, vI a1), (2, vI a2)] [vI z1397] _ H1391 _
        have k1418 : wLM H1391 r0 = wLM H r0 := ((wLM_fr w1312 g0 f1396 rfl).trans (wLM_fr hW g0 ((wfr.rf (l := [(42, 0)])).put' e1311 g0 rfl) rfl))
        refine wp_of e255 c255_30 (rw_istore_n (pc' := 31) (z := z1397) (L' := [(3, vI z1397), (0, .ref r0), (1, vI a1), (2, vI a2)]) rfl rfl rfl ?_)
        refine wp_of e255 c255_31 (rw_iload_n (pc' := 32) (z := z1397) rfl rfl ?_)
        refine wp_of e255 c255_32 (rw_if_le (p1 := 43) (p2 := 35) (by decide) rfl ⟨Int.le_trans (by decide) b1398.1, Int.le_trans b1398.2 (by decide)⟩ (fun c1419 => ?_) (fun c1419 => ?_))
        · exfalso
          omega
        · refine wp_of e255 c255_35 (rw_aload_n (pc' := 36) (v := .ref r0) rfl rfl rfl ?_)
          refine wp_of e255 c255_36 (rw_iload_n (pc' := 37) (z := z1397) rfl rfl ?_)
          refine wp_of e255 c255_37 (xc_V (pc' := 40) (r := r0) (as := [vI z1397]) (st := []) (lm_9_54) rfl rfl (Nat.le_of_ble_eq_true rfl) w1395 g0 sh_42 (by decide) rfl (by decide) (s_170 w1395 g0 ⟨Int.le_trans (by decide) b1398.1, Int.le_trans b1398.2 (by decide)⟩) (fun R1420 T1421 H1422 p1423 => ?_))
          obtain ⟨e1424, w1426, f1427, z1428, e1425, b1429⟩ := p1423
          subst e1424
          subst e1425
          have f1430 := f1417.tr f1427 rfl
          show wp _ _ 255 40 [(3, vI z1397), (0, .ref r0), (1, vI a1), (2, vI a2)] [vI z1428] _ H1422 _
          refine wp_of e255 c255_40 (rw_goto (p1 := 65) (by decide) ?_)
          have k1431 : wKI H1422 r0 = wKI H1391 r0 := (wKI_fr w1395 g0 f1427 rfl)
          have h1432 : KNN T H1422 r0 e d := (KNN_fr w1395 g0 f1427 rfl a1416)
          exact wp_ireturn e255 c255_65 rfl ⟨rfl, w1426, f1430, z1428, rfl, ⟨b1429.1, b1429.2⟩, ⟨by omega, h1432⟩⟩
    · refine wp_of e255 c255_22 (rw_iconst (pc' := 23) rfl ?_)
      refine wp_of e255 c255_23 (rw_goto (p1 := 27) (by decide) ?_)
      have k1433 : H1310 r0 3 = H r0 3 := (wq_u_j e1311 rfl)
      have k1434 : wKI H1310 r0 = wKI H r0 := (wKI_fr hW g0 ((wfr.rf (l := [(42, 0)])).put' e1311 g0 rfl) rfl)
      have h1435 : RB T H1310 r0 e d := (RB_fr hW g0 ((wfr.rf (l := [(42, 0)])).put' e1311 g0 rfl) rfl hRB_r0)
      have h1436 : KNN T H1310 r0 e d := (KNN_fr hW g0 ((wfr.rf (l := [(42, 0)])).put' e1311 g0 rfl) rfl hKNN_r0)
      refine wp_of e255 c255_27 (xc_V (pc' := 30) (r := r0) (as := [vI 1]) (st := []) (lm_9_447) rfl rfl (Nat.le_of_ble_eq_true rfl) w1312 g0 sh_42 (by decide) rfl (by decide) (u_253 (e := e) (d := d) w1312 g0 ⟨by decide, by decide⟩ (by omega) (by omega) (by assumption) (by assumption) (by assumption) (by assumption) h1435 h1436) (fun R1437 T1438 H1439 p1440 => ?_))
      obtain ⟨e1441, w1443, f1444, z1445, e1442, b1446, p1447⟩ := p1440
      subst e1441
      subst e1442
      rcases p1447 with ⟨a1448, a1449, a1450, a1451, a1452, a1453, a1454, a1455, a1456, a1457⟩ | ⟨a1458, a1459, a1460, a1461, a1462, a1463, a1464⟩
      · have f1465 := f1313.tr f1444 rfl
        show wp _ _ 255 30 [(0, .ref r0), (1, vI a1), (2, vI a2)] [vI z1445] _ H1439 _
        have k1466 : wLM H1439 r0 = wLM H r0 := ((wLM_fr w1312 g0 f1444 rfl).trans (wLM_fr hW g0 ((wfr.rf (l := [(42, 0)])).put' e1311 g0 rfl) rfl))
        refine wp_of e255 c255_30 (rw_istore_n (pc' := 31) (z := z1445) (L' := [(3, vI z1445), (0, .ref r0), (1, vI a1), (2, vI a2)]) rfl rfl rfl ?_)
        refine wp_of e255 c255_31 (rw_iload_n (pc' := 32) (z := z1445) rfl rfl ?_)
        refine wp_of e255 c255_32 (rw_if_le (p1 := 43) (p2 := 35) (by decide) rfl ⟨Int.le_trans (by decide) b1446.1, Int.le_trans b1446.2 (by decide)⟩ (fun c1467 => ?_) (fun c1467 => ?_))
        · refine wp_of e255 c255_43 (rw_aload_n (pc' := 44) (v := .ref r0) rfl rfl rfl ?_)
          refine wp_of e255 c255_44 (rw_ldc2 (pc' := 47) (z := 100) rfl rfl rfl ?_)
          refine wp_of e255 c255_47 (rw_aload_n (pc' := 48) (v := .ref r0) rfl rfl rfl ?_)
          refine wp_of e255 c255_48 (rw_iload_n (pc' := 49) (z := a1) rfl rfl ?_)
          refine wp_of e255 c255_49 (rw_iload_n (pc' := 50) (z := a2) rfl rfl ?_)
          have k1468 : H1439 r0 3 = H1310 r0 3 := (f1444 r0 3 _ g0 rfl)
          obtain ⟨r1469, q1470, g1471⟩ := (w1443.opt g0 (t' := 54) (n := 33) (j := 3) (p := 0) (q := 0) rfl (by decide) rfl).resolve_left (by omega)
          refine wp_of e255 c255_50 (xc_V (pc' := 53) (r := r0) (as := [vI a1, vI a2]) (st := [vL 100, .ref r0]) (lm_9_440) rfl rfl (Nat.le_of_ble_eq_true rfl) w1443 g0 sh_42 (by decide) rfl (by decide) (s_247 w1443 g0 ⟨by omega, by omega⟩ ⟨i2.1, i2.2⟩ q1470 g1471 (by omega)) (fun R1472 T1473 H1474 p1475 => ?_))
          obtain ⟨e1476, w1478, f1479, z1481, e1477, b1482, p1480⟩ := p1475
          subst e1476
          subst e1477
          have f1483 := f1465.tr f1479 rfl
          show wp _ _ 255 53 [(3, vI z1445), (0, .ref r0), (1, vI a1), (2, vI a2)] [vL z1481, vL 100, .ref r0] _ H1474 _
          refine wp_of e255 c255_53 (rw_lmul (pc' := 54) rfl ?_)
          refine wp_of e255 c255_54 (rw_aload_n (pc' := 55) (v := .ref r0) rfl rfl rfl ?_)
          refine wp_of e255 c255_55 (rw_iconst (pc' := 56) rfl ?_)
          refine wp_of e255 c255_56 (rw_iconst (pc' := 57) rfl ?_)
          have k1484 : H1474 r0 29 = H1439 r0 29 := (f1479 r0 29 _ g0 rfl)
          have k1485 : wLM H1474 r0 = wLM H1439 r0 := (wLM_fr w1443 g0 f1479 rfl)
          have k1486 : H1474 r0 3 = H1439 r0 3 := (f1479 r0 3 _ g0 rfl)
          have q1487 : H1474 r0 3 = (r1469 : Int) := k1486.trans q1470
          refine wp_of e255 c255_57 (xc_V (pc' := 60) (r := r0) (as := [vI (-1), vI 0]) (st := [vL (100 * z1481), .ref r0]) (lm_9_440) rfl rfl (Nat.le_of_ble_eq_true rfl) w1478 g0 sh_42 (by decide) rfl (by decide) (s_247 w1478 g0 ⟨by decide, by decide⟩ ⟨by decide, by decide⟩ q1487 g1471 (by omega)) (fun R1488 T1489 H1490 p1491 => ?_))
          obtain ⟨e1492, w1494, f1495, z1497, e1493, b1498, p1496⟩ := p1491
          subst e1492
          subst e1493
          have f1499 := f1483.tr f1495 rfl
          show wp _ _ 255 60 [(3, vI z1445), (0, .ref r0), (1, vI a1), (2, vI a2)] [vL z1497, vL (100 * z1481), .ref r0] _ H1490 _
          refine wp_of e255 c255_60 (rw_ldiv (pc' := 61) rfl ⟨by omega, by omega⟩ (by omega) ?_)
          obtain ⟨v1500, e1501⟩ : ∃ x : Int, x = wl_div (100 * z1481) z1497 := ⟨_, rfl⟩
          rw [← e1501]
          have b1502 : -9223372036854775808 ≤ v1500 ∧ v1500 ≤ 9223372036854775807 := by
            rw [e1501]
            exact wL_div _ _
          refine wp_of e255 c255_61 (rw_l2i (pc' := 62) rfl ?_)
          obtain ⟨v1503, e1504⟩ : ∃ x : Int, x = wq_w v1500 := ⟨_, rfl⟩
          rw [← e1504]
          have b1505 : -2147483648 ≤ v1503 ∧ v1503 ≤ 2147483647 := by
            rw [e1504]
            exact wI_w _
          have b1506 : (-2147483648 ≤ v1500 ∧ v1500 ≤ 2147483647) → v1503 = v1500 := by
            rw [e1504]
            exact fun h => wq_w_id h
          refine wp_of e255 c255_62 (xc_V (pc' := 65) (r := r0) (as := [vI v1503]) (st := []) (lm_9_58) rfl rfl (Nat.le_of_ble_eq_true rfl) w1494 g0 sh_42 (by decide) rfl (by decide) (s_209 w1494 g0 ⟨b1505.1, b1505.2⟩) (fun R1507 T1508 H1509 p1510 => ?_))
          obtain ⟨e1511, w1513, f1514, z1515, e1512, b1516⟩ := p1510
          subst e1511
          subst e1512
          have f1517 := f1499.tr f1514 rfl
          show wp _ _ 255 65 [(3, vI z1445), (0, .ref r0), (1, vI a1), (2, vI a2)] [vI z1515] _ H1509 _
          have k1518 : wKI H1509 r0 = wKI H1439 r0 := ((wKI_fr w1494 g0 f1514 rfl).trans ((wKI_fr w1478 g0 f1495 rfl).trans (wKI_fr w1443 g0 f1479 rfl)))
          have h1519 : KNN T H1509 r0 e d := (KNN_fr w1494 g0 f1514 rfl (KNN_fr w1478 g0 f1495 rfl (KNN_fr w1443 g0 f1479 rfl a1456)))
          exact wp_ireturn e255 c255_65 rfl ⟨rfl, w1513, f1517, z1515, rfl, ⟨b1516.1, b1516.2⟩, ⟨by omega, h1519⟩⟩
        · exfalso
          omega
      · have f1520 := f1313.tr f1444 rfl
        show wp _ _ 255 30 [(0, .ref r0), (1, vI a1), (2, vI a2)] [vI z1445] _ H1439 _
        have k1521 : wLM H1439 r0 = wLM H r0 := ((wLM_fr w1312 g0 f1444 rfl).trans (wLM_fr hW g0 ((wfr.rf (l := [(42, 0)])).put' e1311 g0 rfl) rfl))
        refine wp_of e255 c255_30 (rw_istore_n (pc' := 31) (z := z1445) (L' := [(3, vI z1445), (0, .ref r0), (1, vI a1), (2, vI a2)]) rfl rfl rfl ?_)
        refine wp_of e255 c255_31 (rw_iload_n (pc' := 32) (z := z1445) rfl rfl ?_)
        refine wp_of e255 c255_32 (rw_if_le (p1 := 43) (p2 := 35) (by decide) rfl ⟨Int.le_trans (by decide) b1446.1, Int.le_trans b1446.2 (by decide)⟩ (fun c1522 => ?_) (fun c1522 => ?_))
        · exfalso
          omega
        · refine wp_of e255 c255_35 (rw_aload_n (pc' := 36) (v := .ref r0) rfl rfl rfl ?_)
          refine wp_of e255 c255_36 (rw_iload_n (pc' := 37) (z := z1445) rfl rfl ?_)
          refine wp_of e255 c255_37 (xc_V (pc' := 40) (r := r0) (as := [vI z1445]) (st := []) (lm_9_54) rfl rfl (Nat.le_of_ble_eq_true rfl) w1443 g0 sh_42 (by decide) rfl (by decide) (s_170 w1443 g0 ⟨Int.le_trans (by decide) b1446.1, Int.le_trans b1446.2 (by decide)⟩) (fun R1523 T1524 H1525 p1526 => ?_))
          obtain ⟨e1527, w1529, f1530, z1531, e1528, b1532⟩ := p1526
          subst e1527
          subst e1528
          have f1533 := f1520.tr f1530 rfl
          show wp _ _ 255 40 [(3, vI z1445), (0, .ref r0), (1, vI a1), (2, vI a2)] [vI z1531] _ H1525 _
          refine wp_of e255 c255_40 (rw_goto (p1 := 65) (by decide) ?_)
          have k1534 : wKI H1525 r0 = wKI H1439 r0 := (wKI_fr w1443 g0 f1530 rfl)
          have h1535 : KNN T H1525 r0 e d := (KNN_fr w1443 g0 f1530 rfl a1464)
          exact wp_ireturn e255 c255_65 rfl ⟨rfl, w1529, f1533, z1531, rfl, ⟨b1532.1, b1532.2⟩, ⟨by omega, h1535⟩⟩
/-! StrikeAwakeModel.likeliest(I)I  -/
abbrev uq_256 (r0 : Nat) (a1 : Int) (e : xD) (d : xD) (T : wq_T) (H : wq_H) : Option Value → wq_T → wq_H → Prop := fun r T' H' => T = T' ∧ WT T H' ∧ wfr [(42, 0), (42, 1), (42, 2), (42, 28), (42, 29), (51, 999), (52, 999)] T H H' ∧ ∃ z : Int, some (vI z) = r ∧ ((-2147483648) ≤ z ∧ z ≤ 2147483647) ∧ (((wKI H' r0 = 1) ∧ KNN T H' r0 e d))
set_option maxHeartbeats 4000000 in
theorem u_256 {kt : Nat → Option mc_E} {T : wq_T} {H : wq_H} {r0 : Nat} {a1 : Int} {e : xD} {d : xD} (hW : WT T H) (g0 : T.2.2.2 r0 = some 42) (i1 : (-2147483648) ≤ a1 ∧ a1 ≤ 2147483647) (p0 : wKI H r0 = 1) (p1 : XW d) (p2 : ∀ h : Nat, d 0 0 ≤ (h : Int) → h < 24 → e 13 h = 0) (p3 : XN d) (p4 : ∀ h : Nat, h < 24 → 0 ≤ e 13 h ∧ e 13 h ≤ 100) (hRB_r0 : RB T H r0 e d) (hKNN_r0 : KNN T H r0 e d) : wpc kt 9 256 [.ref r0, vI a1] T H (uq_256 r0 a1 e d T H) := by
  refine wp_enter e256 (Nat.le_of_ble_eq_true rfl) rfl ?_
  have f0 : wfr [(42, 0), (42, 1), (42, 2), (42, 28), (42, 29), (51, 999), (52, 999)] T H H := wfr.rf
  show wp _ _ 256 0 [(0, .ref r0), (1, vI a1)] [] _ H _
  have _b := RB_b hW hRB_r0
  have _nu := RB_n3 hRB_r0
  have _lm := RB_lm hRB_r0
  refine wp_of e256 c256_0 (rw_aload_n (pc' := 1) (v := .ref r0) rfl rfl rfl ?_)
  refine wp_of e256 c256_1 (rw_iconst (pc' := 2) rfl ?_)
  refine wp_of e256 c256_2 (xp_I (pc' := 5) lf_9_48 hW g0 sh_42 (by decide) (by decide) ty_42_0 rfl rfl (by decide) (by decide) ⟨by decide, by decide⟩ rfl (fun H1094 e1095 w1096 => ?_))
  have f1097 := f0.put' e1095 g0 rfl
  have k1098 : H1094 r0 0 = 0 := wq_u_s e1095
  refine wp_of e256 c256_5 (rw_aload_n (pc' := 6) (v := .ref r0) rfl rfl rfl ?_)
  refine wp_of e256 c256_6 (rw_aload_n (pc' := 7) (v := .ref r0) rfl rfl rfl ?_)
  refine wp_of e256 c256_7 (rw_iload_n (pc' := 8) (z := a1) rfl rfl ?_)
  refine wp_of e256 c256_8 (xc_V (pc' := 11) (r := r0) (as := [vI a1]) (st := [.ref r0]) (lm_9_364) rfl rfl (Nat.le_of_ble_eq_true rfl) w1096 g0 sh_42 (by decide) rfl (by decide) (s_213 w1096 g0 ⟨i1.1, i1.2⟩) (fun R1099 T1100 H1101 p1102 => ?_))
  obtain ⟨e1103, e1105, z1107, e1104, b1108, p1106⟩ := p1102
  subst e1103
  subst e1104
  subst e1105
  show wp _ _ 256 11 [(0, .ref r0), (1, vI a1)] [vI z1107, .ref r0] _ H1094 _
  have k1109 : H1094 r0 3 = H r0 3 := (wq_u_j e1095 rfl)
  have k1110 : wKI H1094 r0 = wKI H r0 := (wKI_fr hW g0 ((wfr.rf (l := [(42, 0)])).put' e1095 g0 rfl) rfl)
  have h1111 : RB T H1094 r0 e d := (RB_fr hW g0 ((wfr.rf (l := [(42, 0)])).put' e1095 g0 rfl) rfl hRB_r0)
  have h1112 : KNN T H1094 r0 e d := (KNN_fr hW g0 ((wfr.rf (l := [(42, 0)])).put' e1095 g0 rfl) rfl hKNN_r0)
  refine wp_of e256 c256_11 (xc_V (pc' := 14) (r := r0) (as := [vI z1107]) (st := []) (lm_9_447) rfl rfl (Nat.le_of_ble_eq_true rfl) w1096 g0 sh_42 (by decide) rfl (by decide) (u_253 (e := e) (d := d) w1096 g0 ⟨b1108.1, b1108.2⟩ (by omega) (by omega) (by assumption) (by assumption) (by assumption) (by assumption) h1111 h1112) (fun R1113 T1114 H1115 p1116 => ?_))
  obtain ⟨e1117, w1119, f1120, z1121, e1118, b1122, p1123⟩ := p1116
  subst e1117
  subst e1118
  rcases p1123 with ⟨a1124, a1125, a1126, a1127, a1128, a1129, a1130, a1131, a1132, a1133⟩ | ⟨a1134, a1135, a1136, a1137, a1138, a1139, a1140⟩
  · have f1141 := f1097.tr f1120 rfl
    show wp _ _ 256 14 [(0, .ref r0), (1, vI a1)] [vI z1121] _ H1115 _
    have k1142 : wLM H1115 r0 = wLM H r0 := ((wLM_fr w1096 g0 f1120 rfl).trans (wLM_fr hW g0 ((wfr.rf (l := [(42, 0)])).put' e1095 g0 rfl) rfl))
    refine wp_of e256 c256_14 (rw_istore_n (pc' := 15) (z := z1121) (L' := [(2, vI z1121), (0, .ref r0), (1, vI a1)]) rfl rfl rfl ?_)
    refine wp_of e256 c256_15 (rw_iload_n (pc' := 16) (z := z1121) rfl rfl ?_)
    refine wp_of e256 c256_16 (rw_if_le (p1 := 25) (p2 := 19) (by decide) rfl ⟨Int.le_trans (by decide) b1122.1, Int.le_trans b1122.2 (by decide)⟩ (fun c1143 => ?_) (fun c1143 => ?_))
    · refine wp_of e256 c256_25 (rw_aload_n (pc' := 26) (v := .ref r0) rfl rfl rfl ?_)
      have k1144 : H1115 r0 3 = H1094 r0 3 := (f1120 r0 3 _ g0 rfl)
      obtain ⟨r1145, q1146, g1147⟩ := (w1119.opt g0 (t' := 54) (n := 33) (j := 3) (p := 0) (q := 0) rfl (by decide) rfl).resolve_left (by omega)
      refine wp_of e256 c256_26 (xc_V (pc' := 29) (r := r0) (as := []) (st := []) (lm_9_452) rfl rfl (Nat.le_of_ble_eq_true rfl) w1119 g0 sh_42 (by decide) rfl (by decide) (s_257 w1119 g0 q1146 g1147 (by omega) (by omega)) (fun R1148 T1149 H1150 p1151 => ?_))
      obtain ⟨e1152, w1154, f1155, z1156, e1153, b1157⟩ := p1151
      subst e1152
      subst e1153
      have f1158 := f1141.tr f1155 rfl
      show wp _ _ 256 29 [(2, vI z1121), (0, .ref r0), (1, vI a1)] [vL z1156] _ H1150 _
      refine wp_of e256 c256_29 (rw_pop2 (pc' := 30) rfl rfl ?_)
      refine wp_of e256 c256_30 (rw_aload_n (pc' := 31) (v := .ref r0) rfl rfl rfl ?_)
      refine wp_of e256 c256_31 (rw_aload_n (pc' := 32) (v := .ref r0) rfl rfl rfl ?_)
      refine wp_of e256 c256_32 (xg_R (pc' := 35) lf_9_39 w1154 g0 sh_42 (by decide) (by decide) ty_42_27 rfl rfl (fun r1159 q1160 g1161 => ?_))
      refine wp_of e256 c256_35 (rw_iload_n (pc' := 36) (z := a1) rfl rfl ?_)
      refine wp_of e256 c256_36 (xa_I (so := 0) (pc' := 37) w1154 g1161 sh_51 (by decide) (ty_51 _) (by omega) (by omega) rfl (fun b1162 b1163 => ?_))
      refine wp_of e256 c256_37 (xc_V (pc' := 40) (r := r0) (as := [vI (H1150 r1159 (a1.toNat))]) (st := []) (lm_9_58) rfl rfl (Nat.le_of_ble_eq_true rfl) w1154 g0 sh_42 (by decide) rfl (by decide) (s_209 w1154 g0 ⟨Int.le_trans (by decide) b1162, Int.le_trans b1163 (by decide)⟩) (fun R1164 T1165 H1166 p1167 => ?_))
      obtain ⟨e1168, w1170, f1171, z1172, e1169, b1173⟩ := p1167
      subst e1168
      subst e1169
      have f1174 := f1158.tr f1171 rfl
      show wp _ _ 256 40 [(2, vI z1121), (0, .ref r0), (1, vI a1)] [vI z1172] _ H1166 _
      have k1175 : wKI H1166 r0 = wKI H1115 r0 := ((wKI_fr w1154 g0 f1171 rfl).trans (wKI_fr w1119 g0 f1155 rfl))
      have h1176 : KNN T H1166 r0 e d := (KNN_fr w1154 g0 f1171 rfl (KNN_fr w1119 g0 f1155 rfl a1132))
      exact wp_ireturn e256 c256_40 rfl ⟨rfl, w1170, f1174, z1172, rfl, ⟨b1173.1, b1173.2⟩, ⟨by omega, h1176⟩⟩
    · exfalso
      omega
  · have f1177 := f1097.tr f1120 rfl
    show wp _ _ 256 14 [(0, .ref r0), (1, vI a1)] [vI z1121] _ H1115 _
    have k1178 : wLM H1115 r0 = wLM H r0 := ((wLM_fr w1096 g0 f1120 rfl).trans (wLM_fr hW g0 ((wfr.rf (l := [(42, 0)])).put' e1095 g0 rfl) rfl))
    refine wp_of e256 c256_14 (rw_istore_n (pc' := 15) (z := z1121) (L' := [(2, vI z1121), (0, .ref r0), (1, vI a1)]) rfl rfl rfl ?_)
    refine wp_of e256 c256_15 (rw_iload_n (pc' := 16) (z := z1121) rfl rfl ?_)
    refine wp_of e256 c256_16 (rw_if_le (p1 := 25) (p2 := 19) (by decide) rfl ⟨Int.le_trans (by decide) b1122.1, Int.le_trans b1122.2 (by decide)⟩ (fun c1179 => ?_) (fun c1179 => ?_))
    · exfalso
      omega
    · refine wp_of e256 c256_19 (rw_aload_n (pc' := 20) (v := .ref r0) rfl rfl rfl ?_)
      refine wp_of e256 c256_20 (rw_iload_n (pc' := 21) (z := z1121) rfl rfl ?_)
      refine wp_of e256 c256_21 (xc_V (pc' := 24) (r := r0) (as := [vI z1121]) (st := []) (lm_9_54) rfl rfl (Nat.le_of_ble_eq_true rfl) w1119 g0 sh_42 (by decide) rfl (by decide) (s_170 w1119 g0 ⟨Int.le_trans (by decide) b1122.1, Int.le_trans b1122.2 (by decide)⟩) (fun R1180 T1181 H1182 p1183 => ?_))
      obtain ⟨e1184, w1186, f1187, z1188, e1185, b1189⟩ := p1183
      subst e1184
      subst e1185
      have f1190 := f1177.tr f1187 rfl
      show wp _ _ 256 24 [(2, vI z1121), (0, .ref r0), (1, vI a1)] [vI z1188] _ H1182 _
      have k1191 : wKI H1182 r0 = wKI H1115 r0 := (wKI_fr w1119 g0 f1187 rfl)
      have h1192 : KNN T H1182 r0 e d := (KNN_fr w1119 g0 f1187 rfl a1140)
      exact wp_ireturn e256 c256_24 rfl ⟨rfl, w1186, f1190, z1188, rfl, ⟨b1189.1, b1189.2⟩, ⟨by omega, h1192⟩⟩
/-! StrikeAwakeModel.greatest()J  -/
abbrev uq_258 (r0 : Nat) (e : xD) (d : xD) (T : wq_T) (H : wq_H) : Option Value → wq_T → wq_H → Prop := fun r T' H' => T = T' ∧ WT T H' ∧ wfr [(42, 0), (42, 1), (42, 2), (42, 28), (42, 29), (51, 999), (52, 999)] T H H' ∧ ∃ z : Int, some (vL z) = r ∧ ((-9223372036854775808) ≤ z ∧ z ≤ 9223372036854775807) ∧ (((wKI H' r0 = 1) ∧ KNN T H' r0 e d))
set_option maxHeartbeats 4000000 in
theorem u_258 {kt : Nat → Option mc_E} {T : wq_T} {H : wq_H} {r0 : Nat} {e : xD} {d : xD} (hW : WT T H) (g0 : T.2.2.2 r0 = some 42) (p0 : wKI H r0 = 1) (p1 : XW d) (p2 : ∀ h : Nat, d 0 0 ≤ (h : Int) → h < 24 → e 13 h = 0) (p3 : XN d) (p4 : ∀ h : Nat, h < 24 → 0 ≤ e 13 h ∧ e 13 h ≤ 100) (hRB_r0 : RB T H r0 e d) (hKNN_r0 : KNN T H r0 e d) : wpc kt 9 258 [.ref r0] T H (uq_258 r0 e d T H) := by
  refine wp_enter e258 (Nat.le_of_ble_eq_true rfl) rfl ?_
  have f0 : wfr [(42, 0), (42, 1), (42, 2), (42, 28), (42, 29), (51, 999), (52, 999)] T H H := wfr.rf
  show wp _ _ 258 0 [(0, .ref r0)] [] _ H _
  have _b := RB_b hW hRB_r0
  have _nu := RB_n3 hRB_r0
  have _lm := RB_lm hRB_r0
  refine wp_of e258 c258_0 (rw_aload_n (pc' := 1) (v := .ref r0) rfl rfl rfl ?_)
  refine wp_of e258 c258_1 (rw_iconst (pc' := 2) rfl ?_)
  refine wp_of e258 c258_2 (xp_I (pc' := 5) lf_9_48 hW g0 sh_42 (by decide) (by decide) ty_42_0 rfl rfl (by decide) (by decide) ⟨by decide, by decide⟩ rfl (fun H1153 e1154 w1155 => ?_))
  have f1156 := f0.put' e1154 g0 rfl
  have k1157 : H1153 r0 0 = 0 := wq_u_s e1154
  refine wp_of e258 c258_5 (rw_aload_n (pc' := 6) (v := .ref r0) rfl rfl rfl ?_)
  refine wp_of e258 c258_6 (rw_aload_n (pc' := 7) (v := .ref r0) rfl rfl rfl ?_)
  have k1158 : H1153 r0 3 = H r0 3 := (wq_u_j e1154 rfl)
  refine wp_of e258 c258_7 (xg_O (pc' := 10) lf_9_337 w1155 g0 sh_42 (by decide) (by decide) ty_42_3 rfl rfl (fun q1160 => ?_) (fun r1159 q1160 g1161 => ?_))
  · refine wp_of e258 c258_10 (rw_ifnull_n (p1 := 17) (p2 := 13) (by decide) rfl ?_)
    refine wp_of e258 c258_17 (rw_iconst (pc' := 18) rfl ?_)
    have k1162 : wKI H1153 r0 = wKI H r0 := (wKI_fr hW g0 ((wfr.rf (l := [(42, 0)])).put' e1154 g0 rfl) rfl)
    have h1163 : RB T H1153 r0 e d := (RB_fr hW g0 ((wfr.rf (l := [(42, 0)])).put' e1154 g0 rfl) rfl hRB_r0)
    have h1164 : KNN T H1153 r0 e d := (KNN_fr hW g0 ((wfr.rf (l := [(42, 0)])).put' e1154 g0 rfl) rfl hKNN_r0)
    refine wp_of e258 c258_18 (xc_V (pc' := 21) (r := r0) (as := [vI 0]) (st := []) (lm_9_447) rfl rfl (Nat.le_of_ble_eq_true rfl) w1155 g0 sh_42 (by decide) rfl (by decide) (u_253 (e := e) (d := d) w1155 g0 ⟨by decide, by decide⟩ (by omega) (by omega) (by assumption) (by assumption) (by assumption) (by assumption) h1163 h1164) (fun R1165 T1166 H1167 p1168 => ?_))
    obtain ⟨e1169, w1171, f1172, z1173, e1170, b1174, p1175⟩ := p1168
    subst e1169
    subst e1170
    rcases p1175 with ⟨a1176, a1177, a1178, a1179, a1180, a1181, a1182, a1183, a1184, a1185⟩ | ⟨a1186, a1187, a1188, a1189, a1190, a1191, a1192⟩
    · exfalso
      omega
    · have f1193 := f1156.tr f1172 rfl
      show wp _ _ 258 21 [(0, .ref r0)] [vI z1173] _ H1167 _
      have k1194 : wLM H1167 r0 = wLM H r0 := ((wLM_fr w1155 g0 f1172 rfl).trans (wLM_fr hW g0 ((wfr.rf (l := [(42, 0)])).put' e1154 g0 rfl) rfl))
      refine wp_of e258 c258_21 (rw_istore_n (pc' := 22) (z := z1173) (L' := [(1, vI z1173), (0, .ref r0)]) rfl rfl rfl ?_)
      refine wp_of e258 c258_22 (rw_iload_n (pc' := 23) (z := z1173) rfl rfl ?_)
      refine wp_of e258 c258_23 (rw_if_le (p1 := 35) (p2 := 26) (by decide) rfl ⟨Int.le_trans (by decide) b1174.1, Int.le_trans b1174.2 (by decide)⟩ (fun c1195 => ?_) (fun c1195 => ?_))
      · exfalso
        omega
      · refine wp_of e258 c258_26 (rw_aload_n (pc' := 27) (v := .ref r0) rfl rfl rfl ?_)
        refine wp_of e258 c258_27 (rw_iload_n (pc' := 28) (z := z1173) rfl rfl ?_)
        refine wp_of e258 c258_28 (xc_V (pc' := 31) (r := r0) (as := [vI z1173]) (st := []) (lm_9_54) rfl rfl (Nat.le_of_ble_eq_true rfl) w1171 g0 sh_42 (by decide) rfl (by decide) (s_170 w1171 g0 ⟨Int.le_trans (by decide) b1174.1, Int.le_trans b1174.2 (by decide)⟩) (fun R1196 T1197 H1198 p1199 => ?_))
        obtain ⟨e1200, w1202, f1203, z1204, e1201, b1205⟩ := p1199
        subst e1200
        subst e1201
        have f1206 := f1193.tr f1203 rfl
        show wp _ _ 258 31 [(1, vI z1173), (0, .ref r0)] [vI z1204] _ H1198 _
        refine wp_of e258 c258_31 (rw_i2l (pc' := 32) rfl ⟨b1205.1, b1205.2⟩ ?_)
        refine wp_of e258 c258_32 (rw_goto (p1 := 43) (by decide) ?_)
        have k1207 : wKI H1198 r0 = wKI H1167 r0 := (wKI_fr w1171 g0 f1203 rfl)
        have h1208 : KNN T H1198 r0 e d := (KNN_fr w1171 g0 f1203 rfl a1192)
        exact wp_lreturn e258 c258_43 rfl ⟨rfl, w1202, f1206, z1204, rfl, ⟨Int.le_trans (by decide) b1205.1, Int.le_trans b1205.2 (by decide)⟩, ⟨by omega, h1208⟩⟩
  · refine wp_of e258 c258_10 (rw_ifnull_r (p1 := 17) (p2 := 13) (by decide) rfl ?_)
    refine wp_of e258 c258_13 (rw_iconst (pc' := 14) rfl ?_)
    refine wp_of e258 c258_14 (rw_goto (p1 := 18) (by decide) ?_)
    have k1209 : wKI H1153 r0 = wKI H r0 := (wKI_fr hW g0 ((wfr.rf (l := [(42, 0)])).put' e1154 g0 rfl) rfl)
    have h1210 : RB T H1153 r0 e d := (RB_fr hW g0 ((wfr.rf (l := [(42, 0)])).put' e1154 g0 rfl) rfl hRB_r0)
    have h1211 : KNN T H1153 r0 e d := (KNN_fr hW g0 ((wfr.rf (l := [(42, 0)])).put' e1154 g0 rfl) rfl hKNN_r0)
    refine wp_of e258 c258_18 (xc_V (pc' := 21) (r := r0) (as := [vI 1]) (st := []) (lm_9_447) rfl rfl (Nat.le_of_ble_eq_true rfl) w1155 g0 sh_42 (by decide) rfl (by decide) (u_253 (e := e) (d := d) w1155 g0 ⟨by decide, by decide⟩ (by omega) (by omega) (by assumption) (by assumption) (by assumption) (by assumption) h1210 h1211) (fun R1212 T1213 H1214 p1215 => ?_))
    obtain ⟨e1216, w1218, f1219, z1220, e1217, b1221, p1222⟩ := p1215
    subst e1216
    subst e1217
    rcases p1222 with ⟨a1223, a1224, a1225, a1226, a1227, a1228, a1229, a1230, a1231, a1232⟩ | ⟨a1233, a1234, a1235, a1236, a1237, a1238, a1239⟩
    · have f1240 := f1156.tr f1219 rfl
      show wp _ _ 258 21 [(0, .ref r0)] [vI z1220] _ H1214 _
      have k1241 : wLM H1214 r0 = wLM H r0 := ((wLM_fr w1155 g0 f1219 rfl).trans (wLM_fr hW g0 ((wfr.rf (l := [(42, 0)])).put' e1154 g0 rfl) rfl))
      refine wp_of e258 c258_21 (rw_istore_n (pc' := 22) (z := z1220) (L' := [(1, vI z1220), (0, .ref r0)]) rfl rfl rfl ?_)
      refine wp_of e258 c258_22 (rw_iload_n (pc' := 23) (z := z1220) rfl rfl ?_)
      refine wp_of e258 c258_23 (rw_if_le (p1 := 35) (p2 := 26) (by decide) rfl ⟨Int.le_trans (by decide) b1221.1, Int.le_trans b1221.2 (by decide)⟩ (fun c1242 => ?_) (fun c1242 => ?_))
      · refine wp_of e258 c258_35 (rw_aload_n (pc' := 36) (v := .ref r0) rfl rfl rfl ?_)
        refine wp_of e258 c258_36 (rw_aload_n (pc' := 37) (v := .ref r0) rfl rfl rfl ?_)
        have k1243 : H1214 r0 3 = H1153 r0 3 := (f1219 r0 3 _ g0 rfl)
        have q1244 : H1214 r0 3 = (r1159 : Int) := k1243.trans q1160
        refine wp_of e258 c258_37 (xc_V (pc' := 40) (r := r0) (as := []) (st := [.ref r0]) (lm_9_452) rfl rfl (Nat.le_of_ble_eq_true rfl) w1218 g0 sh_42 (by decide) rfl (by decide) (s_257 w1218 g0 q1244 g1161 (by omega) (by omega)) (fun R1245 T1246 H1247 p1248 => ?_))
        obtain ⟨e1249, w1251, f1252, z1253, e1250, b1254⟩ := p1248
        subst e1249
        subst e1250
        have f1255 := f1240.tr f1252 rfl
        show wp _ _ 258 40 [(1, vI z1220), (0, .ref r0)] [vL z1253, .ref r0] _ H1247 _
        refine wp_of e258 c258_40 (xc_V (pc' := 43) (r := r0) (as := [vL z1253]) (st := []) (lm_9_380) rfl rfl (Nat.le_of_ble_eq_true rfl) w1251 g0 sh_42 (by decide) rfl (by decide) (s_221 w1251 g0 ⟨Int.le_trans (by decide) b1254.1, Int.le_trans b1254.2 (by decide)⟩) (fun R1256 T1257 H1258 p1259 => ?_))
        obtain ⟨e1260, w1262, f1263, z1264, e1261, b1265⟩ := p1259
        subst e1260
        subst e1261
        have f1266 := f1255.tr f1263 rfl
        show wp _ _ 258 43 [(1, vI z1220), (0, .ref r0)] [vL z1264] _ H1258 _
        have k1267 : wKI H1258 r0 = wKI H1214 r0 := ((wKI_fr w1251 g0 f1263 rfl).trans (wKI_fr w1218 g0 f1252 rfl))
        have h1268 : KNN T H1258 r0 e d := (KNN_fr w1251 g0 f1263 rfl (KNN_fr w1218 g0 f1252 rfl a1231))
        exact wp_lreturn e258 c258_43 rfl ⟨rfl, w1262, f1266, z1264, rfl, ⟨b1265.1, b1265.2⟩, ⟨by omega, h1268⟩⟩
      · exfalso
        omega
    · have f1269 := f1156.tr f1219 rfl
      show wp _ _ 258 21 [(0, .ref r0)] [vI z1220] _ H1214 _
      have k1270 : wLM H1214 r0 = wLM H r0 := ((wLM_fr w1155 g0 f1219 rfl).trans (wLM_fr hW g0 ((wfr.rf (l := [(42, 0)])).put' e1154 g0 rfl) rfl))
      refine wp_of e258 c258_21 (rw_istore_n (pc' := 22) (z := z1220) (L' := [(1, vI z1220), (0, .ref r0)]) rfl rfl rfl ?_)
      refine wp_of e258 c258_22 (rw_iload_n (pc' := 23) (z := z1220) rfl rfl ?_)
      refine wp_of e258 c258_23 (rw_if_le (p1 := 35) (p2 := 26) (by decide) rfl ⟨Int.le_trans (by decide) b1221.1, Int.le_trans b1221.2 (by decide)⟩ (fun c1271 => ?_) (fun c1271 => ?_))
      · exfalso
        omega
      · refine wp_of e258 c258_26 (rw_aload_n (pc' := 27) (v := .ref r0) rfl rfl rfl ?_)
        refine wp_of e258 c258_27 (rw_iload_n (pc' := 28) (z := z1220) rfl rfl ?_)
        refine wp_of e258 c258_28 (xc_V (pc' := 31) (r := r0) (as := [vI z1220]) (st := []) (lm_9_54) rfl rfl (Nat.le_of_ble_eq_true rfl) w1218 g0 sh_42 (by decide) rfl (by decide) (s_170 w1218 g0 ⟨Int.le_trans (by decide) b1221.1, Int.le_trans b1221.2 (by decide)⟩) (fun R1272 T1273 H1274 p1275 => ?_))
        obtain ⟨e1276, w1278, f1279, z1280, e1277, b1281⟩ := p1275
        subst e1276
        subst e1277
        have f1282 := f1269.tr f1279 rfl
        show wp _ _ 258 31 [(1, vI z1220), (0, .ref r0)] [vI z1280] _ H1274 _
        refine wp_of e258 c258_31 (rw_i2l (pc' := 32) rfl ⟨b1281.1, b1281.2⟩ ?_)
        refine wp_of e258 c258_32 (rw_goto (p1 := 43) (by decide) ?_)
        have k1283 : wKI H1274 r0 = wKI H1214 r0 := (wKI_fr w1218 g0 f1279 rfl)
        have h1284 : KNN T H1274 r0 e d := (KNN_fr w1218 g0 f1279 rfl a1239)
        exact wp_lreturn e258 c258_43 rfl ⟨rfl, w1278, f1282, z1280, rfl, ⟨Int.le_trans (by decide) b1281.1, Int.le_trans b1281.2 (by decide)⟩, ⟨by omega, h1284⟩⟩
/-! StrikeAwakeModel.together(II)I  -/
abbrev uq_259 (r0 : Nat) (a1 : Int) (a2 : Int) (e : xD) (d : xD) (T : wq_T) (H : wq_H) : Option Value → wq_T → wq_H → Prop := fun r T' H' => T = T' ∧ WT T H' ∧ wfr [(42, 0), (42, 1), (42, 2), (42, 28), (42, 29), (51, 999), (52, 999)] T H H' ∧ ∃ z : Int, some (vI z) = r ∧ ((-2147483648) ≤ z ∧ z ≤ 2147483647) ∧ (((wKI H' r0 = 1) ∧ KNN T H' r0 e d))
set_option maxHeartbeats 4000000 in
theorem u_259 {kt : Nat → Option mc_E} {T : wq_T} {H : wq_H} {r0 : Nat} {a1 : Int} {a2 : Int} {e : xD} {d : xD} (hW : WT T H) (g0 : T.2.2.2 r0 = some 42) (i1 : (-2147483648) ≤ a1 ∧ a1 ≤ 2147483647) (i2 : (-2147483648) ≤ a2 ∧ a2 ≤ 2147483647) (p0 : wKI H r0 = 1) (p1 : XW d) (p2 : ∀ h : Nat, d 0 0 ≤ (h : Int) → h < 24 → e 13 h = 0) (p3 : XN d) (p4 : ∀ h : Nat, h < 24 → 0 ≤ e 13 h ∧ e 13 h ≤ 100) (hRB_r0 : RB T H r0 e d) (hKNN_r0 : KNN T H r0 e d) : wpc kt 8 259 [.ref r0, vI a1, vI a2] T H (uq_259 r0 a1 a2 e d T H) := by
  refine wp_enter e259 (Nat.le_of_ble_eq_true rfl) rfl ?_
  have f0 : wfr [(42, 0), (42, 1), (42, 2), (42, 28), (42, 29), (51, 999), (52, 999)] T H H := wfr.rf
  show wp _ _ 259 0 [(0, .ref r0), (1, vI a1), (2, vI a2)] [] _ H _
  have _b := RB_b hW hRB_r0
  have _nu := RB_n3 hRB_r0
  have _lm := RB_lm hRB_r0
  refine wp_of e259 c259_0 (rw_aload_n (pc' := 1) (v := .ref r0) rfl rfl rfl ?_)
  refine wp_of e259 c259_1 (rw_iconst (pc' := 2) rfl ?_)
  refine wp_of e259 c259_2 (xp_I (pc' := 5) lf_9_48 hW g0 sh_42 (by decide) (by decide) ty_42_0 rfl rfl (by decide) (by decide) ⟨by decide, by decide⟩ rfl (fun H2845 e2846 w2847 => ?_))
  have f2848 := f0.put' e2846 g0 rfl
  have k2849 : H2845 r0 0 = 0 := wq_u_s e2846
  refine wp_of e259 c259_5 (rw_aload_n (pc' := 6) (v := .ref r0) rfl rfl rfl ?_)
  refine wp_of e259 c259_6 (rw_aload_n (pc' := 7) (v := .ref r0) rfl rfl rfl ?_)
  refine wp_of e259 c259_7 (rw_iload_n (pc' := 8) (z := a1) rfl rfl ?_)
  refine wp_of e259 c259_8 (xc_V (pc' := 11) (r := r0) (as := [vI a1]) (st := [.ref r0]) (lm_9_364) rfl rfl (Nat.le_of_ble_eq_true rfl) w2847 g0 sh_42 (by decide) rfl (by decide) (s_213 w2847 g0 ⟨i1.1, i1.2⟩) (fun R2850 T2851 H2852 p2853 => ?_))
  obtain ⟨e2854, e2856, z2858, e2855, b2859, p2857⟩ := p2853
  subst e2854
  subst e2855
  subst e2856
  show wp _ _ 259 11 [(0, .ref r0), (1, vI a1), (2, vI a2)] [vI z2858, .ref r0] _ H2845 _
  refine wp_of e259 c259_11 (rw_if_eq (p1 := 31) (p2 := 14) (by decide) rfl ⟨Int.le_trans (by decide) b2859.1, Int.le_trans b2859.2 (by decide)⟩ (fun c2860 => ?_) (fun c2860 => ?_))
  · refine wp_of e259 c259_31 (rw_iconst (pc' := 32) rfl ?_)
    have k2861 : H2845 r0 3 = H r0 3 := (wq_u_j e2846 rfl)
    have k2862 : wKI H2845 r0 = wKI H r0 := (wKI_fr hW g0 ((wfr.rf (l := [(42, 0)])).put' e2846 g0 rfl) rfl)
    have h2863 : RB T H2845 r0 e d := (RB_fr hW g0 ((wfr.rf (l := [(42, 0)])).put' e2846 g0 rfl) rfl hRB_r0)
    have h2864 : KNN T H2845 r0 e d := (KNN_fr hW g0 ((wfr.rf (l := [(42, 0)])).put' e2846 g0 rfl) rfl hKNN_r0)
    refine wp_of e259 c259_32 (xc_V (pc' := 35) (r := r0) (as := [vI 0]) (st := []) (lm_9_433) rfl rfl (Nat.le_of_ble_eq_true rfl) w2847 g0 sh_42 (by decide) rfl (by decide) (u_241 (e := e) (d := d) w2847 g0 ⟨by decide, by decide⟩ (by omega) (by omega) (by assumption) (by assumption) (by assumption) (by assumption) h2863 h2864) (fun R2865 T2866 H2867 p2868 => ?_))
    obtain ⟨e2869, w2871, f2872, z2873, e2870, b2874, p2875⟩ := p2868
    subst e2869
    subst e2870
    rcases p2875 with ⟨a2876, a2877, a2878, a2879, a2880, a2881, a2882, a2883, a2884⟩ | ⟨a2885, a2886, a2887, a2888, a2889, a2890, a2891⟩
    · exfalso
      omega
    · have f2892 := f2848.tr f2872 rfl
      show wp _ _ 259 35 [(0, .ref r0), (1, vI a1), (2, vI a2)] [vI z2873] _ H2867 _
      have k2893 : wLM H2867 r0 = wLM H r0 := ((wLM_fr w2847 g0 f2872 rfl).trans (wLM_fr hW g0 ((wfr.rf (l := [(42, 0)])).put' e2846 g0 rfl) rfl))
      refine wp_of e259 c259_35 (rw_istore_n (pc' := 36) (z := z2873) (L' := [(3, vI z2873), (0, .ref r0), (1, vI a1), (2, vI a2)]) rfl rfl rfl ?_)
      refine wp_of e259 c259_36 (rw_iload_n (pc' := 37) (z := z2873) rfl rfl ?_)
      refine wp_of e259 c259_37 (rw_if_le (p1 := 46) (p2 := 40) (by decide) rfl ⟨Int.le_trans (by decide) b2874.1, Int.le_trans b2874.2 (by decide)⟩ (fun c2894 => ?_) (fun c2894 => ?_))
      · exfalso
        omega
      · refine wp_of e259 c259_40 (rw_aload_n (pc' := 41) (v := .ref r0) rfl rfl rfl ?_)
        refine wp_of e259 c259_41 (rw_iload_n (pc' := 42) (z := z2873) rfl rfl ?_)
        refine wp_of e259 c259_42 (xc_V (pc' := 45) (r := r0) (as := [vI z2873]) (st := []) (lm_9_54) rfl rfl (Nat.le_of_ble_eq_true rfl) w2871 g0 sh_42 (by decide) rfl (by decide) (s_170 w2871 g0 ⟨Int.le_trans (by decide) b2874.1, Int.le_trans b2874.2 (by decide)⟩) (fun R2895 T2896 H2897 p2898 => ?_))
        obtain ⟨e2899, w2901, f2902, z2903, e2900, b2904⟩ := p2898
        subst e2899
        subst e2900
        have f2905 := f2892.tr f2902 rfl
        show wp _ _ 259 45 [(3, vI z2873), (0, .ref r0), (1, vI a1), (2, vI a2)] [vI z2903] _ H2897 _
        have k2906 : wKI H2897 r0 = wKI H2867 r0 := (wKI_fr w2871 g0 f2902 rfl)
        have h2907 : KNN T H2897 r0 e d := (KNN_fr w2871 g0 f2902 rfl a2891)
        exact wp_ireturn e259 c259_45 rfl ⟨rfl, w2901, f2905, z2903, rfl, ⟨b2904.1, b2904.2⟩, ⟨by omega, h2907⟩⟩
  · refine wp_of e259 c259_14 (rw_aload_n (pc' := 15) (v := .ref r0) rfl rfl rfl ?_)
    refine wp_of e259 c259_15 (rw_iload_n (pc' := 16) (z := a2) rfl rfl ?_)
    refine wp_of e259 c259_16 (xc_V (pc' := 19) (r := r0) (as := [vI a2]) (st := [.ref r0]) (lm_9_364) rfl rfl (Nat.le_of_ble_eq_true rfl) w2847 g0 sh_42 (by decide) rfl (by decide) (s_213 w2847 g0 ⟨i2.1, i2.2⟩) (fun R2908 T2909 H2910 p2911 => ?_))
    obtain ⟨e2912, e2914, z2916, e2913, b2917, p2915⟩ := p2911
    subst e2912
    subst e2913
    subst e2914
    show wp _ _ 259 19 [(0, .ref r0), (1, vI a1), (2, vI a2)] [vI z2916, .ref r0] _ H2845 _
    refine wp_of e259 c259_19 (rw_if_eq (p1 := 31) (p2 := 22) (by decide) rfl ⟨Int.le_trans (by decide) b2917.1, Int.le_trans b2917.2 (by decide)⟩ (fun c2918 => ?_) (fun c2918 => ?_))
    · refine wp_of e259 c259_31 (rw_iconst (pc' := 32) rfl ?_)
      have k2919 : H2845 r0 3 = H r0 3 := (wq_u_j e2846 rfl)
      have k2920 : wKI H2845 r0 = wKI H r0 := (wKI_fr hW g0 ((wfr.rf (l := [(42, 0)])).put' e2846 g0 rfl) rfl)
      have h2921 : RB T H2845 r0 e d := (RB_fr hW g0 ((wfr.rf (l := [(42, 0)])).put' e2846 g0 rfl) rfl hRB_r0)
      have h2922 : KNN T H2845 r0 e d := (KNN_fr hW g0 ((wfr.rf (l := [(42, 0)])).put' e2846 g0 rfl) rfl hKNN_r0)
      refine wp_of e259 c259_32 (xc_V (pc' := 35) (r := r0) (as := [vI 0]) (st := []) (lm_9_433) rfl rfl (Nat.le_of_ble_eq_true rfl) w2847 g0 sh_42 (by decide) rfl (by decide) (u_241 (e := e) (d := d) w2847 g0 ⟨by decide, by decide⟩ (by omega) (by omega) (by assumption) (by assumption) (by assumption) (by assumption) h2921 h2922) (fun R2923 T2924 H2925 p2926 => ?_))
      obtain ⟨e2927, w2929, f2930, z2931, e2928, b2932, p2933⟩ := p2926
      subst e2927
      subst e2928
      rcases p2933 with ⟨a2934, a2935, a2936, a2937, a2938, a2939, a2940, a2941, a2942⟩ | ⟨a2943, a2944, a2945, a2946, a2947, a2948, a2949⟩
      · exfalso
        omega
      · have f2950 := f2848.tr f2930 rfl
        show wp _ _ 259 35 [(0, .ref r0), (1, vI a1), (2, vI a2)] [vI z2931] _ H2925 _
        have k2951 : wLM H2925 r0 = wLM H r0 := ((wLM_fr w2847 g0 f2930 rfl).trans (wLM_fr hW g0 ((wfr.rf (l := [(42, 0)])).put' e2846 g0 rfl) rfl))
        refine wp_of e259 c259_35 (rw_istore_n (pc' := 36) (z := z2931) (L' := [(3, vI z2931), (0, .ref r0), (1, vI a1), (2, vI a2)]) rfl rfl rfl ?_)
        refine wp_of e259 c259_36 (rw_iload_n (pc' := 37) (z := z2931) rfl rfl ?_)
        refine wp_of e259 c259_37 (rw_if_le (p1 := 46) (p2 := 40) (by decide) rfl ⟨Int.le_trans (by decide) b2932.1, Int.le_trans b2932.2 (by decide)⟩ (fun c2952 => ?_) (fun c2952 => ?_))
        · exfalso
          omega
        · refine wp_of e259 c259_40 (rw_aload_n (pc' := 41) (v := .ref r0) rfl rfl rfl ?_)
          refine wp_of e259 c259_41 (rw_iload_n (pc' := 42) (z := z2931) rfl rfl ?_)
          refine wp_of e259 c259_42 (xc_V (pc' := 45) (r := r0) (as := [vI z2931]) (st := []) (lm_9_54) rfl rfl (Nat.le_of_ble_eq_true rfl) w2929 g0 sh_42 (by decide) rfl (by decide) (s_170 w2929 g0 ⟨Int.le_trans (by decide) b2932.1, Int.le_trans b2932.2 (by decide)⟩) (fun R2953 T2954 H2955 p2956 => ?_))
          obtain ⟨e2957, w2959, f2960, z2961, e2958, b2962⟩ := p2956
          subst e2957
          subst e2958
          have f2963 := f2950.tr f2960 rfl
          show wp _ _ 259 45 [(3, vI z2931), (0, .ref r0), (1, vI a1), (2, vI a2)] [vI z2961] _ H2955 _
          have k2964 : wKI H2955 r0 = wKI H2925 r0 := (wKI_fr w2929 g0 f2960 rfl)
          have h2965 : KNN T H2955 r0 e d := (KNN_fr w2929 g0 f2960 rfl a2949)
          exact wp_ireturn e259 c259_45 rfl ⟨rfl, w2959, f2963, z2961, rfl, ⟨b2962.1, b2962.2⟩, ⟨by omega, h2965⟩⟩
    · refine wp_of e259 c259_22 (rw_iload_n (pc' := 23) (z := a1) rfl rfl ?_)
      refine wp_of e259 c259_23 (rw_iload_n (pc' := 24) (z := a2) rfl rfl ?_)
      refine wp_of e259 c259_24 (rw_icmp_eq (p1 := 31) (p2 := 27) (by decide) rfl ⟨i1.1, i1.2⟩ ⟨i2.1, i2.2⟩ (fun c2966 => ?_) (fun c2966 => ?_))
      · refine wp_of e259 c259_31 (rw_iconst (pc' := 32) rfl ?_)
        have k2967 : H2845 r0 3 = H r0 3 := (wq_u_j e2846 rfl)
        have k2968 : wKI H2845 r0 = wKI H r0 := (wKI_fr hW g0 ((wfr.rf (l := [(42, 0)])).put' e2846 g0 rfl) rfl)
        have h2969 : RB T H2845 r0 e d := (RB_fr hW g0 ((wfr.rf (l := [(42, 0)])).put' e2846 g0 rfl) rfl hRB_r0)
        have h2970 : KNN T H2845 r0 e d := (KNN_fr hW g0 ((wfr.rf (l := [(42, 0)])).put' e2846 g0 rfl) rfl hKNN_r0)
        refine wp_of e259 c259_32 (xc_V (pc' := 35) (r := r0) (as := [vI 0]) (st := []) (lm_9_433) rfl rfl (Nat.le_of_ble_eq_true rfl) w2847 g0 sh_42 (by decide) rfl (by decide) (u_241 (e := e) (d := d) w2847 g0 ⟨by decide, by decide⟩ (by omega) (by omega) (by assumption) (by assumption) (by assumption) (by assumption) h2969 h2970) (fun R2971 T2972 H2973 p2974 => ?_))
        obtain ⟨e2975, w2977, f2978, z2979, e2976, b2980, p2981⟩ := p2974
        subst e2975
        subst e2976
        rcases p2981 with ⟨a2982, a2983, a2984, a2985, a2986, a2987, a2988, a2989, a2990⟩ | ⟨a2991, a2992, a2993, a2994, a2995, a2996, a2997⟩
        · exfalso
          omega
        · have f2998 := f2848.tr f2978 rfl
          show wp _ _ 259 35 [(0, .ref r0), (1, vI a1), (2, vI a2)] [vI z2979] _ H2973 _
          have k2999 : wLM H2973 r0 = wLM H r0 := ((wLM_fr w2847 g0 f2978 rfl).trans (wLM_fr hW g0 ((wfr.rf (l := [(42, 0)])).put' e2846 g0 rfl) rfl))
          refine wp_of e259 c259_35 (rw_istore_n (pc' := 36) (z := z2979) (L' := [(3, vI z2979), (0, .ref r0), (1, vI a1), (2, vI a2)]) rfl rfl rfl ?_)
          refine wp_of e259 c259_36 (rw_iload_n (pc' := 37) (z := z2979) rfl rfl ?_)
          refine wp_of e259 c259_37 (rw_if_le (p1 := 46) (p2 := 40) (by decide) rfl ⟨Int.le_trans (by decide) b2980.1, Int.le_trans b2980.2 (by decide)⟩ (fun c3000 => ?_) (fun c3000 => ?_))
          · exfalso
            omega
          · refine wp_of e259 c259_40 (rw_aload_n (pc' := 41) (v := .ref r0) rfl rfl rfl ?_)
            refine wp_of e259 c259_41 (rw_iload_n (pc' := 42) (z := z2979) rfl rfl ?_)
            refine wp_of e259 c259_42 (xc_V (pc' := 45) (r := r0) (as := [vI z2979]) (st := []) (lm_9_54) rfl rfl (Nat.le_of_ble_eq_true rfl) w2977 g0 sh_42 (by decide) rfl (by decide) (s_170 w2977 g0 ⟨Int.le_trans (by decide) b2980.1, Int.le_trans b2980.2 (by decide)⟩) (fun R3001 T3002 H3003 p3004 => ?_))
            obtain ⟨e3005, w3007, f3008, z3009, e3006, b3010⟩ := p3004
            subst e3005
            subst e3006
            have f3011 := f2998.tr f3008 rfl
            show wp _ _ 259 45 [(3, vI z2979), (0, .ref r0), (1, vI a1), (2, vI a2)] [vI z3009] _ H3003 _
            have k3012 : wKI H3003 r0 = wKI H2973 r0 := (wKI_fr w2977 g0 f3008 rfl)
            have h3013 : KNN T H3003 r0 e d := (KNN_fr w2977 g0 f3008 rfl a2997)
            exact wp_ireturn e259 c259_45 rfl ⟨rfl, w3007, f3011, z3009, rfl, ⟨b3010.1, b3010.2⟩, ⟨by omega, h3013⟩⟩
      · refine wp_of e259 c259_27 (rw_iconst (pc' := 28) rfl ?_)
        refine wp_of e259 c259_28 (rw_goto (p1 := 32) (by decide) ?_)
        have k3014 : H2845 r0 3 = H r0 3 := (wq_u_j e2846 rfl)
        have k3015 : wKI H2845 r0 = wKI H r0 := (wKI_fr hW g0 ((wfr.rf (l := [(42, 0)])).put' e2846 g0 rfl) rfl)
        have h3016 : RB T H2845 r0 e d := (RB_fr hW g0 ((wfr.rf (l := [(42, 0)])).put' e2846 g0 rfl) rfl hRB_r0)
        have h3017 : KNN T H2845 r0 e d := (KNN_fr hW g0 ((wfr.rf (l := [(42, 0)])).put' e2846 g0 rfl) rfl hKNN_r0)
        refine wp_of e259 c259_32 (xc_V (pc' := 35) (r := r0) (as := [vI 1]) (st := []) (lm_9_433) rfl rfl (Nat.le_of_ble_eq_true rfl) w2847 g0 sh_42 (by decide) rfl (by decide) (u_241 (e := e) (d := d) w2847 g0 ⟨by decide, by decide⟩ (by omega) (by omega) (by assumption) (by assumption) (by assumption) (by assumption) h3016 h3017) (fun R3018 T3019 H3020 p3021 => ?_))
        obtain ⟨e3022, w3024, f3025, z3026, e3023, b3027, p3028⟩ := p3021
        subst e3022
        subst e3023
        rcases p3028 with ⟨a3029, a3030, a3031, a3032, a3033, a3034, a3035, a3036, a3037⟩ | ⟨a3038, a3039, a3040, a3041, a3042, a3043, a3044⟩
        · have f3045 := f2848.tr f3025 rfl
          show wp _ _ 259 35 [(0, .ref r0), (1, vI a1), (2, vI a2)] [vI z3026] _ H3020 _
          have k3046 : wLM H3020 r0 = wLM H r0 := ((wLM_fr w2847 g0 f3025 rfl).trans (wLM_fr hW g0 ((wfr.rf (l := [(42, 0)])).put' e2846 g0 rfl) rfl))
          refine wp_of e259 c259_35 (rw_istore_n (pc' := 36) (z := z3026) (L' := [(3, vI z3026), (0, .ref r0), (1, vI a1), (2, vI a2)]) rfl rfl rfl ?_)
          refine wp_of e259 c259_36 (rw_iload_n (pc' := 37) (z := z3026) rfl rfl ?_)
          refine wp_of e259 c259_37 (rw_if_le (p1 := 46) (p2 := 40) (by decide) rfl ⟨Int.le_trans (by decide) b3027.1, Int.le_trans b3027.2 (by decide)⟩ (fun c3047 => ?_) (fun c3047 => ?_))
          · refine wp_of e259 c259_46 (rw_iconst (pc' := 47) rfl ?_)
            refine wp_of e259 c259_47 (rw_istore (pc' := 49) (z := 0) (L' := [(4, vI 0), (3, vI z3026), (0, .ref r0), (1, vI a1), (2, vI a2)]) rfl rfl rfl ?_)
            refine wp_of e259 c259_49 (rw_iconst (pc' := 50) rfl ?_)
            refine wp_of e259 c259_50 (rw_istore (pc' := 52) (z := 0) (L' := [(5, vI 0), (4, vI 0), (3, vI z3026), (0, .ref r0), (1, vI a1), (2, vI a2)]) rfl rfl rfl ?_)
            have lp3376 : ∀ (n3377 : Nat) (v3379 : Int) (v3380 : Int) (H3381 : wq_H), WT T H3381 → wfr [(51, 999)] T H3020 H3381 → (0 ≤ v3379 ∧ v3379 ≤ 20000) → ((-2147483648) ≤ v3380 ∧ v3380 ≤ 2147483647) → (20000 - v3379).toNat = n3377 → wp kt 7 259 52 [(5, vI v3379), (4, vI v3380), (0, .ref r0), (1, vI a1), (2, vI a2)] [] T H3381 (uq_259 r0 a1 a2 e d T H) := by
              intro n3377
              induction n3377 using Nat.strongRecOn with
              | _ n3377 ih3378 =>
                intro v3379 v3380 H3381 w3382 f3383 b3384 b3385 m3386
                have f3387 := f3045.tr f3383 rfl
                refine wp_of e259 c259_52 (rw_iload (pc' := 54) (z := v3379) rfl rfl ?_)
                refine wp_of e259 c259_54 (rw_aload_n (pc' := 55) (v := .ref r0) rfl rfl rfl ?_)
                have k3388 : H3381 r0 29 = H3020 r0 29 := (f3383 r0 29 _ g0 rfl)
                refine wp_of e259 c259_55 (xg_I (pc' := 58) lf_9_422 w3382 g0 sh_42 (by decide) (by decide) ty_42_29 rfl rfl (fun b3389 b3390 => ?_))
                refine wp_of e259 c259_58 (rw_icmp_ge (p1 := 116) (p2 := 61) (by decide) rfl ⟨Int.le_trans (by decide) b3384.1, Int.le_trans b3384.2 (by decide)⟩ ⟨Int.le_trans (by decide) b3389, Int.le_trans b3390 (by decide)⟩ (fun c3391 => ?_) (fun c3391 => ?_))
                · refine wp_of e259 c259_116 (rw_aload_n (pc' := 117) (v := .ref r0) rfl rfl rfl ?_)
                  refine wp_of e259 c259_117 (rw_iload (pc' := 119) (z := v3380) rfl rfl ?_)
                  refine wp_of e259 c259_119 (xc_V (pc' := 122) (r := r0) (as := [vI v3380]) (st := []) (lm_9_58) rfl rfl (Nat.le_of_ble_eq_true rfl) w3382 g0 sh_42 (by decide) rfl (by decide) (s_209 w3382 g0 ⟨b3385.1, b3385.2⟩) (fun R3392 T3393 H3394 p3395 => ?_))
                  obtain ⟨e3396, w3398, f3399, z3400, e3397, b3401⟩ := p3395
                  subst e3396
                  subst e3397
                  have f3402 := f3387.tr f3399 rfl
                  show wp _ _ 259 122 [(5, vI v3379), (4, vI v3380), (0, .ref r0), (1, vI a1), (2, vI a2)] [vI z3400] _ H3394 _
                  have k3403 : wKI H3394 r0 = wKI H3020 r0 := ((wKI_fr w3382 g0 f3399 rfl).trans (wKI_fr w3024 g0 f3383 rfl))
                  have h3404 : KNN T H3394 r0 e d := (KNN_fr w3382 g0 f3399 rfl (KNN_fr w3024 g0 f3383 rfl a3036))
                  exact wp_ireturn e259 c259_122 rfl ⟨rfl, w3398, f3402, z3400, rfl, ⟨b3401.1, b3401.2⟩, ⟨by omega, h3404⟩⟩
                · refine wp_of e259 c259_61 (rw_aload_n (pc' := 62) (v := .ref r0) rfl rfl rfl ?_)
                  refine wp_of e259 c259_62 (rw_aload_n (pc' := 63) (v := .ref r0) rfl rfl rfl ?_)
                  refine wp_of e259 c259_63 (xg_R (pc' := 66) lf_9_42 w3382 g0 sh_42 (by decide) (by decide) ty_42_30 rfl rfl (fun r3405 q3406 g3407 => ?_))
                  refine wp_of e259 c259_66 (rw_iload (pc' := 68) (z := v3379) rfl rfl ?_)
                  refine wp_of e259 c259_68 (xa_I (so := 0) (pc' := 69) w3382 g3407 sh_52 (by decide) (ty_52 _) (b3384.1) (by omega) rfl (fun b3408 b3409 => ?_))
                  have k3410 : wLM H3381 r0 = wLM H3020 r0 := (wLM_fr w3024 g0 f3383 rfl)
                  have k3411 : H3381 r0 3 = H2845 r0 3 := ((f3383 r0 3 _ g0 rfl).trans (f3025 r0 3 _ g0 rfl))
                  obtain ⟨r3412, q3413, g3414⟩ := (w3382.opt g0 (t' := 54) (n := 33) (j := 3) (p := 0) (q := 0) rfl (by decide) rfl).resolve_left (by omega)
                  refine wp_of e259 c259_69 (xc_V (pc' := 72) (r := r0) (as := [vI (H3381 r3405 (v3379.toNat))]) (st := []) (lm_9_425) rfl rfl (Nat.le_of_ble_eq_true rfl) w3382 g0 sh_42 (by decide) rfl (by decide) (s_243 w3382 g0 ⟨b3408, Int.le_trans b3409 (by decide)⟩ q3413 g3414 (by omega)) (fun R3415 T3416 H3417 p3418 => ?_))
                  obtain ⟨e3419, w3421, f3422, e3420⟩ := p3418
                  subst e3419
                  subst e3420
                  have f3423 := f3387.tr f3422 rfl
                  have f3424 := f3383.tr f3422 rfl
                  show wp _ _ 259 72 [(5, vI v3379), (4, vI v3380), (0, .ref r0), (1, vI a1), (2, vI a2)] [] _ H3417 _
                  refine wp_of e259 c259_72 (rw_iload (pc' := 74) (z := v3380) rfl rfl ?_)
                  refine wp_of e259 c259_74 (rw_aload_n (pc' := 75) (v := .ref r0) rfl rfl rfl ?_)
                  refine wp_of e259 c259_75 (xg_R (pc' := 78) lf_9_33 w3421 g0 sh_42 (by decide) (by decide) ty_42_25 rfl rfl (fun r3425 q3426 g3427 => ?_))
                  refine wp_of e259 c259_78 (rw_bipush (pc' := 80) (z := 40) rfl (by decide) ?_)
                  refine wp_of e259 c259_80 (rw_iload_n (pc' := 81) (z := a1) rfl rfl ?_)
                  refine wp_of e259 c259_81 (rw_imul (pc' := 82) rfl ?_)
                  refine wp_of e259 c259_82 (rw_aload_n (pc' := 83) (v := .ref r0) rfl rfl rfl ?_)
                  refine wp_of e259 c259_83 (xg_R (pc' := 86) lf_9_39 w3421 g0 sh_42 (by decide) (by decide) ty_42_27 rfl rfl (fun r3428 q3429 g3430 => ?_))
                  refine wp_of e259 c259_86 (rw_iload_n (pc' := 87) (z := a1) rfl rfl ?_)
                  refine wp_of e259 c259_87 (xa_I (so := 0) (pc' := 88) w3421 g3430 sh_51 (by decide) (ty_51 _) (by omega) (by omega) rfl (fun b3431 b3432 => ?_))
                  refine wp_of e259 c259_88 (rw_iadd (pc' := 89) rfl ?_)
                  refine wp_of e259 c259_89 (xa_I (so := 0) (pc' := 90) w3421 g3427 sh_49 (by decide) (ty_49 _) (by omega) (by omega) rfl (fun b3433 b3434 => ?_))
                  refine wp_of e259 c259_90 (rw_aload_n (pc' := 91) (v := .ref r0) rfl rfl rfl ?_)
                  refine wp_of e259 c259_91 (xg_K (pc' := 94) lf_9_33 w3421 g0 sh_42 (by decide) (by decide) rfl q3426 rfl ?_)
                  refine wp_of e259 c259_94 (rw_bipush (pc' := 96) (z := 40) rfl (by decide) ?_)
                  refine wp_of e259 c259_96 (rw_iload_n (pc' := 97) (z := a2) rfl rfl ?_)
                  refine wp_of e259 c259_97 (rw_imul (pc' := 98) rfl ?_)
                  refine wp_of e259 c259_98 (rw_aload_n (pc' := 99) (v := .ref r0) rfl rfl rfl ?_)
                  refine wp_of e259 c259_99 (xg_K (pc' := 102) lf_9_39 w3421 g0 sh_42 (by decide) (by decide) rfl q3429 rfl ?_)
                  refine wp_of e259 c259_102 (rw_iload_n (pc' := 103) (z := a2) rfl rfl ?_)
                  refine wp_of e259 c259_103 (xa_I (so := 0) (pc' := 104) w3421 g3430 sh_51 (by decide) (ty_51 _) (by omega) (by omega) rfl (fun b3435 b3436 => ?_))
                  refine wp_of e259 c259_104 (rw_iadd (pc' := 105) rfl ?_)
                  refine wp_of e259 c259_105 (xa_I (so := 0) (pc' := 106) w3421 g3427 sh_49 (by decide) (ty_49 _) (by omega) (by omega) rfl (fun b3437 b3438 => ?_))
                  refine wp_of e259 c259_106 (rw_iand (pc' := 107) rfl ?_)
                  obtain ⟨v3439, e3440⟩ : ∃ x : Int, x = wq_and (H3417 r3425 (((40 * a1) + (H3417 r3428 (a1.toNat))).toNat)) (H3417 r3425 (((40 * a2) + (H3417 r3428 (a2.toNat))).toNat)) := ⟨_, rfl⟩
                  rw [← e3440]
                  have b3441 : -2147483648 ≤ v3439 ∧ v3439 ≤ 2147483647 := by
                    rw [e3440]
                    exact wI_and _ _
                  refine wp_of e259 c259_107 (rw_ior (pc' := 108) rfl ?_)
                  obtain ⟨v3442, e3443⟩ : ∃ x : Int, x = wq_or v3380 v3439 := ⟨_, rfl⟩
                  rw [← e3443]
                  have b3444 : -2147483648 ≤ v3442 ∧ v3442 ≤ 2147483647 := by
                    rw [e3443]
                    exact wI_or _ _
                  refine wp_of e259 c259_108 (rw_istore (pc' := 110) (z := v3442) (L' := [(4, vI v3442), (5, vI v3379), (0, .ref r0), (1, vI a1), (2, vI a2)]) rfl rfl rfl ?_)
                  refine wp_of e259 c259_110 (rw_iinc (pc' := 113) (z := v3379) (L' := [(5, vI (v3379 + 1)), (4, vI v3442), (0, .ref r0), (1, vI a1), (2, vI a2)]) rfl rfl rfl rfl ?_)
                  refine wp_of e259 c259_113 (rw_goto (p1 := 52) (by decide) ?_)
                  exact wp_lc (ks := [5, 4, 0, 1, 2]) (wl_c rfl (wl_c rfl (wl_c rfl (wl_c rfl (wl_c rfl wl_n))))) rfl (by decide) (ih3378 _ (by omega) (v3379 + 1) v3442 H3417 w3421 f3424 ⟨by omega, by omega⟩ ⟨b3444.1, b3444.2⟩ rfl)
            exact wp_lc (ks := [5, 4, 3, 0, 1, 2]) (wl_c rfl (wl_c rfl (wl_c rfl (wl_c rfl (wl_c rfl wl_n))))) rfl (by decide) (lp3376 _ 0 0 H3020 w3024 wfr.rf ⟨by decide, by decide⟩ ⟨by decide, by decide⟩ rfl)
          · exfalso
            omega
        · have f3445 := f2848.tr f3025 rfl
          show wp _ _ 259 35 [(0, .ref r0), (1, vI a1), (2, vI a2)] [vI z3026] _ H3020 _
          have k3446 : wLM H3020 r0 = wLM H r0 := ((wLM_fr w2847 g0 f3025 rfl).trans (wLM_fr hW g0 ((wfr.rf (l := [(42, 0)])).put' e2846 g0 rfl) rfl))
          refine wp_of e259 c259_35 (rw_istore_n (pc' := 36) (z := z3026) (L' := [(3, vI z3026), (0, .ref r0), (1, vI a1), (2, vI a2)]) rfl rfl rfl ?_)
          refine wp_of e259 c259_36 (rw_iload_n (pc' := 37) (z := z3026) rfl rfl ?_)
          refine wp_of e259 c259_37 (rw_if_le (p1 := 46) (p2 := 40) (by decide) rfl ⟨Int.le_trans (by decide) b3027.1, Int.le_trans b3027.2 (by decide)⟩ (fun c3447 => ?_) (fun c3447 => ?_))
          · exfalso
            omega
          · refine wp_of e259 c259_40 (rw_aload_n (pc' := 41) (v := .ref r0) rfl rfl rfl ?_)
            refine wp_of e259 c259_41 (rw_iload_n (pc' := 42) (z := z3026) rfl rfl ?_)
            refine wp_of e259 c259_42 (xc_V (pc' := 45) (r := r0) (as := [vI z3026]) (st := []) (lm_9_54) rfl rfl (Nat.le_of_ble_eq_true rfl) w3024 g0 sh_42 (by decide) rfl (by decide) (s_170 w3024 g0 ⟨Int.le_trans (by decide) b3027.1, Int.le_trans b3027.2 (by decide)⟩) (fun R3448 T3449 H3450 p3451 => ?_))
            obtain ⟨e3452, w3454, f3455, z3456, e3453, b3457⟩ := p3451
            subst e3452
            subst e3453
            have f3458 := f3445.tr f3455 rfl
            show wp _ _ 259 45 [(3, vI z3026), (0, .ref r0), (1, vI a1), (2, vI a2)] [vI z3456] _ H3450 _
            have k3459 : wKI H3450 r0 = wKI H3020 r0 := (wKI_fr w3024 g0 f3455 rfl)
            have h3460 : KNN T H3450 r0 e d := (KNN_fr w3024 g0 f3455 rfl a3044)
            exact wp_ireturn e259 c259_45 rfl ⟨rfl, w3454, f3458, z3456, rfl, ⟨b3457.1, b3457.2⟩, ⟨by omega, h3460⟩⟩
/-! StrikeAwakeModel.possible(I)J  -/
abbrev uq_260 (r0 : Nat) (a1 : Int) (e : xD) (d : xD) (T : wq_T) (H : wq_H) : Option Value → wq_T → wq_H → Prop := fun r T' H' => T = T' ∧ WT T H' ∧ wfr [(42, 0), (42, 1), (42, 2), (42, 28), (42, 29), (51, 999), (52, 999)] T H H' ∧ ∃ z : Int, some (vL z) = r ∧ ((-9223372036854775808) ≤ z ∧ z ≤ 9223372036854775807) ∧ (((wKI H' r0 = 1) ∧ KNN T H' r0 e d))
set_option maxHeartbeats 4000000 in
theorem u_260 {kt : Nat → Option mc_E} {T : wq_T} {H : wq_H} {r0 : Nat} {a1 : Int} {e : xD} {d : xD} (hW : WT T H) (g0 : T.2.2.2 r0 = some 42) (i1 : (-2147483648) ≤ a1 ∧ a1 ≤ 2147483647) (p0 : wKI H r0 = 1) (p1 : XW d) (p2 : ∀ h : Nat, d 0 0 ≤ (h : Int) → h < 24 → e 13 h = 0) (p3 : XN d) (p4 : ∀ h : Nat, h < 24 → 0 ≤ e 13 h ∧ e 13 h ≤ 100) (hRB_r0 : RB T H r0 e d) (hKNN_r0 : KNN T H r0 e d) : wpc kt 8 260 [.ref r0, vI a1] T H (uq_260 r0 a1 e d T H) := by
  refine wp_enter e260 (Nat.le_of_ble_eq_true rfl) rfl ?_
  have f0 : wfr [(42, 0), (42, 1), (42, 2), (42, 28), (42, 29), (51, 999), (52, 999)] T H H := wfr.rf
  show wp _ _ 260 0 [(0, .ref r0), (1, vI a1)] [] _ H _
  have _b := RB_b hW hRB_r0
  have _nu := RB_n3 hRB_r0
  have _lm := RB_lm hRB_r0
  refine wp_of e260 c260_0 (rw_aload_n (pc' := 1) (v := .ref r0) rfl rfl rfl ?_)
  refine wp_of e260 c260_1 (rw_iconst (pc' := 2) rfl ?_)
  refine wp_of e260 c260_2 (xp_I (pc' := 5) lf_9_48 hW g0 sh_42 (by decide) (by decide) ty_42_0 rfl rfl (by decide) (by decide) ⟨by decide, by decide⟩ rfl (fun H1362 e1363 w1364 => ?_))
  have f1365 := f0.put' e1363 g0 rfl
  have k1366 : H1362 r0 0 = 0 := wq_u_s e1363
  refine wp_of e260 c260_5 (rw_aload_n (pc' := 6) (v := .ref r0) rfl rfl rfl ?_)
  refine wp_of e260 c260_6 (rw_aload_n (pc' := 7) (v := .ref r0) rfl rfl rfl ?_)
  refine wp_of e260 c260_7 (rw_iload_n (pc' := 8) (z := a1) rfl rfl ?_)
  refine wp_of e260 c260_8 (xc_V (pc' := 11) (r := r0) (as := [vI a1]) (st := [.ref r0]) (lm_9_364) rfl rfl (Nat.le_of_ble_eq_true rfl) w1364 g0 sh_42 (by decide) rfl (by decide) (s_213 w1364 g0 ⟨i1.1, i1.2⟩) (fun R1367 T1368 H1369 p1370 => ?_))
  obtain ⟨e1371, e1373, z1375, e1372, b1376, p1374⟩ := p1370
  subst e1371
  subst e1372
  subst e1373
  show wp _ _ 260 11 [(0, .ref r0), (1, vI a1)] [vI z1375, .ref r0] _ H1362 _
  have k1377 : H1362 r0 3 = H r0 3 := (wq_u_j e1363 rfl)
  have k1378 : wKI H1362 r0 = wKI H r0 := (wKI_fr hW g0 ((wfr.rf (l := [(42, 0)])).put' e1363 g0 rfl) rfl)
  have h1379 : RB T H1362 r0 e d := (RB_fr hW g0 ((wfr.rf (l := [(42, 0)])).put' e1363 g0 rfl) rfl hRB_r0)
  have h1380 : KNN T H1362 r0 e d := (KNN_fr hW g0 ((wfr.rf (l := [(42, 0)])).put' e1363 g0 rfl) rfl hKNN_r0)
  refine wp_of e260 c260_11 (xc_V (pc' := 14) (r := r0) (as := [vI z1375]) (st := []) (lm_9_433) rfl rfl (Nat.le_of_ble_eq_true rfl) w1364 g0 sh_42 (by decide) rfl (by decide) (u_241 (e := e) (d := d) w1364 g0 ⟨b1376.1, b1376.2⟩ (by omega) (by omega) (by assumption) (by assumption) (by assumption) (by assumption) h1379 h1380) (fun R1381 T1382 H1383 p1384 => ?_))
  obtain ⟨e1385, w1387, f1388, z1389, e1386, b1390, p1391⟩ := p1384
  subst e1385
  subst e1386
  rcases p1391 with ⟨a1392, a1393, a1394, a1395, a1396, a1397, a1398, a1399, a1400⟩ | ⟨a1401, a1402, a1403, a1404, a1405, a1406, a1407⟩
  · have f1408 := f1365.tr f1388 rfl
    show wp _ _ 260 14 [(0, .ref r0), (1, vI a1)] [vI z1389] _ H1383 _
    have k1409 : wLM H1383 r0 = wLM H r0 := ((wLM_fr w1364 g0 f1388 rfl).trans (wLM_fr hW g0 ((wfr.rf (l := [(42, 0)])).put' e1363 g0 rfl) rfl))
    refine wp_of e260 c260_14 (rw_istore_n (pc' := 15) (z := z1389) (L' := [(2, vI z1389), (0, .ref r0), (1, vI a1)]) rfl rfl rfl ?_)
    refine wp_of e260 c260_15 (rw_iload_n (pc' := 16) (z := z1389) rfl rfl ?_)
    refine wp_of e260 c260_16 (rw_if_le (p1 := 26) (p2 := 19) (by decide) rfl ⟨Int.le_trans (by decide) b1390.1, Int.le_trans b1390.2 (by decide)⟩ (fun c1410 => ?_) (fun c1410 => ?_))
    · refine wp_of e260 c260_26 (rw_lconst (pc' := 27) (z := 0) rfl rfl ?_)
      refine wp_of e260 c260_27 (rw_lstore_n (pc' := 28) (z := 0) (L' := [(3, vL 0), (2, vI z1389), (0, .ref r0), (1, vI a1)]) rfl rfl rfl ?_)
      refine wp_of e260 c260_28 (rw_iconst (pc' := 29) rfl ?_)
      refine wp_of e260 c260_29 (rw_istore (pc' := 31) (z := 0) (L' := [(5, vI 0), (3, vL 0), (2, vI z1389), (0, .ref r0), (1, vI a1)]) rfl rfl rfl ?_)
      have lp1667 : ∀ (n1668 : Nat) (v1670 : Int) (v1671 : Int) (H1672 : wq_H), WT T H1672 → wfr [(51, 999)] T H1383 H1672 → (0 ≤ v1670 ∧ v1670 ≤ 20000) → ((-9223372036854775808) ≤ v1671 ∧ v1671 ≤ 9223372036854775807) → (20000 - v1670).toNat = n1668 → wp kt 7 260 31 [(5, vI v1670), (3, vL v1671), (0, .ref r0), (1, vI a1)] [] T H1672 (uq_260 r0 a1 e d T H) := by
        intro n1668
        induction n1668 using Nat.strongRecOn with
        | _ n1668 ih1669 =>
          intro v1670 v1671 H1672 w1673 f1674 b1675 b1676 m1677
          have f1678 := f1408.tr f1674 rfl
          refine wp_of e260 c260_31 (rw_iload (pc' := 33) (z := v1670) rfl rfl ?_)
          refine wp_of e260 c260_33 (rw_aload_n (pc' := 34) (v := .ref r0) rfl rfl rfl ?_)
          have k1679 : H1672 r0 29 = H1383 r0 29 := (f1674 r0 29 _ g0 rfl)
          refine wp_of e260 c260_34 (xg_I (pc' := 37) lf_9_422 w1673 g0 sh_42 (by decide) (by decide) ty_42_29 rfl rfl (fun b1680 b1681 => ?_))
          refine wp_of e260 c260_37 (rw_icmp_ge (p1 := 68) (p2 := 40) (by decide) rfl ⟨Int.le_trans (by decide) b1675.1, Int.le_trans b1675.2 (by decide)⟩ ⟨Int.le_trans (by decide) b1680, Int.le_trans b1681 (by decide)⟩ (fun c1682 => ?_) (fun c1682 => ?_))
          · refine wp_of e260 c260_68 (rw_aload_n (pc' := 69) (v := .ref r0) rfl rfl rfl ?_)
            refine wp_of e260 c260_69 (rw_lload_n (pc' := 70) (z := v1671) rfl rfl ?_)
            refine wp_of e260 c260_70 (xc_V (pc' := 73) (r := r0) (as := [vL v1671]) (st := []) (lm_9_380) rfl rfl (Nat.le_of_ble_eq_true rfl) w1673 g0 sh_42 (by decide) rfl (by decide) (s_221 w1673 g0 ⟨b1676.1, b1676.2⟩) (fun R1683 T1684 H1685 p1686 => ?_))
            obtain ⟨e1687, w1689, f1690, z1691, e1688, b1692⟩ := p1686
            subst e1687
            subst e1688
            have f1693 := f1678.tr f1690 rfl
            show wp _ _ 260 73 [(5, vI v1670), (3, vL v1671), (0, .ref r0), (1, vI a1)] [vL z1691] _ H1685 _
            have k1694 : wKI H1685 r0 = wKI H1383 r0 := ((wKI_fr w1673 g0 f1690 rfl).trans (wKI_fr w1387 g0 f1674 rfl))
            have h1695 : KNN T H1685 r0 e d := (KNN_fr w1673 g0 f1690 rfl (KNN_fr w1387 g0 f1674 rfl a1399))
            exact wp_lreturn e260 c260_73 rfl ⟨rfl, w1689, f1693, z1691, rfl, ⟨b1692.1, b1692.2⟩, ⟨by omega, h1695⟩⟩
          · refine wp_of e260 c260_40 (rw_aload_n (pc' := 41) (v := .ref r0) rfl rfl rfl ?_)
            refine wp_of e260 c260_41 (rw_aload_n (pc' := 42) (v := .ref r0) rfl rfl rfl ?_)
            refine wp_of e260 c260_42 (xg_R (pc' := 45) lf_9_42 w1673 g0 sh_42 (by decide) (by decide) ty_42_30 rfl rfl (fun r1696 q1697 g1698 => ?_))
            refine wp_of e260 c260_45 (rw_iload (pc' := 47) (z := v1670) rfl rfl ?_)
            refine wp_of e260 c260_47 (xa_I (so := 0) (pc' := 48) w1673 g1698 sh_52 (by decide) (ty_52 _) (b1675.1) (by omega) rfl (fun b1699 b1700 => ?_))
            have k1701 : wLM H1672 r0 = wLM H1383 r0 := (wLM_fr w1387 g0 f1674 rfl)
            have k1702 : H1672 r0 3 = H1362 r0 3 := ((f1674 r0 3 _ g0 rfl).trans (f1388 r0 3 _ g0 rfl))
            obtain ⟨r1703, q1704, g1705⟩ := (w1673.opt g0 (t' := 54) (n := 33) (j := 3) (p := 0) (q := 0) rfl (by decide) rfl).resolve_left (by omega)
            refine wp_of e260 c260_48 (xc_V (pc' := 51) (r := r0) (as := [vI (H1672 r1696 (v1670.toNat))]) (st := []) (lm_9_425) rfl rfl (Nat.le_of_ble_eq_true rfl) w1673 g0 sh_42 (by decide) rfl (by decide) (s_243 w1673 g0 ⟨b1699, Int.le_trans b1700 (by decide)⟩ q1704 g1705 (by omega)) (fun R1706 T1707 H1708 p1709 => ?_))
            obtain ⟨e1710, w1712, f1713, e1711⟩ := p1709
            subst e1710
            subst e1711
            have f1714 := f1678.tr f1713 rfl
            have f1715 := f1674.tr f1713 rfl
            show wp _ _ 260 51 [(5, vI v1670), (3, vL v1671), (0, .ref r0), (1, vI a1)] [] _ H1708 _
            refine wp_of e260 c260_51 (rw_lload_n (pc' := 52) (z := v1671) rfl rfl ?_)
            refine wp_of e260 c260_52 (rw_lconst (pc' := 53) (z := 1) rfl rfl ?_)
            refine wp_of e260 c260_53 (rw_aload_n (pc' := 54) (v := .ref r0) rfl rfl rfl ?_)
            refine wp_of e260 c260_54 (xg_R (pc' := 57) lf_9_39 w1712 g0 sh_42 (by decide) (by decide) ty_42_27 rfl rfl (fun r1716 q1717 g1718 => ?_))
            refine wp_of e260 c260_57 (rw_iload_n (pc' := 58) (z := a1) rfl rfl ?_)
            refine wp_of e260 c260_58 (xa_I (so := 0) (pc' := 59) w1712 g1718 sh_51 (by decide) (ty_51 _) (by omega) (by omega) rfl (fun b1719 b1720 => ?_))
            refine wp_of e260 c260_59 (rw_lshl (pc' := 60) rfl ?_)
            obtain ⟨v1721, e1722⟩ : ∃ x : Int, x = wl_shl 1 (H1708 r1716 (a1.toNat)) := ⟨_, rfl⟩
            rw [← e1722]
            have b1723 : -9223372036854775808 ≤ v1721 ∧ v1721 ≤ 9223372036854775807 := by
              rw [e1722]
              exact wL_shl _ _
            refine wp_of e260 c260_60 (rw_lor (pc' := 61) rfl ?_)
            obtain ⟨v1724, e1725⟩ : ∃ x : Int, x = wl_or v1671 v1721 := ⟨_, rfl⟩
            rw [← e1725]
            have b1726 : -9223372036854775808 ≤ v1724 ∧ v1724 ≤ 9223372036854775807 := by
              rw [e1725]
              exact wL_or _ _
            refine wp_of e260 c260_61 (rw_lstore_n (pc' := 62) (z := v1724) (L' := [(3, vL v1724), (5, vI v1670), (0, .ref r0), (1, vI a1)]) rfl rfl rfl ?_)
            refine wp_of e260 c260_62 (rw_iinc (pc' := 65) (z := v1670) (L' := [(5, vI (v1670 + 1)), (3, vL v1724), (0, .ref r0), (1, vI a1)]) rfl rfl rfl rfl ?_)
            refine wp_of e260 c260_65 (rw_goto (p1 := 31) (by decide) ?_)
            exact wp_lc (ks := [5, 3, 0, 1]) (wl_c rfl (wl_c rfl (wl_c rfl (wl_c rfl wl_n)))) rfl (by decide) (ih1669 _ (by omega) (v1670 + 1) v1724 H1708 w1712 f1715 ⟨by omega, by omega⟩ ⟨b1726.1, b1726.2⟩ rfl)
      exact wp_lc (ks := [5, 3, 2, 0, 1]) (wl_c rfl (wl_c rfl (wl_c rfl (wl_c rfl wl_n)))) rfl (by decide) (lp1667 _ 0 0 H1383 w1387 wfr.rf ⟨by decide, by decide⟩ ⟨by decide, by decide⟩ rfl)
    · exfalso
      omega
  · have f1727 := f1365.tr f1388 rfl
    show wp _ _ 260 14 [(0, .ref r0), (1, vI a1)] [vI z1389] _ H1383 _
    have k1728 : wLM H1383 r0 = wLM H r0 := ((wLM_fr w1364 g0 f1388 rfl).trans (wLM_fr hW g0 ((wfr.rf (l := [(42, 0)])).put' e1363 g0 rfl) rfl))
    refine wp_of e260 c260_14 (rw_istore_n (pc' := 15) (z := z1389) (L' := [(2, vI z1389), (0, .ref r0), (1, vI a1)]) rfl rfl rfl ?_)
    refine wp_of e260 c260_15 (rw_iload_n (pc' := 16) (z := z1389) rfl rfl ?_)
    refine wp_of e260 c260_16 (rw_if_le (p1 := 26) (p2 := 19) (by decide) rfl ⟨Int.le_trans (by decide) b1390.1, Int.le_trans b1390.2 (by decide)⟩ (fun c1729 => ?_) (fun c1729 => ?_))
    · exfalso
      omega
    · refine wp_of e260 c260_19 (rw_aload_n (pc' := 20) (v := .ref r0) rfl rfl rfl ?_)
      refine wp_of e260 c260_20 (rw_iload_n (pc' := 21) (z := z1389) rfl rfl ?_)
      refine wp_of e260 c260_21 (xc_V (pc' := 24) (r := r0) (as := [vI z1389]) (st := []) (lm_9_54) rfl rfl (Nat.le_of_ble_eq_true rfl) w1387 g0 sh_42 (by decide) rfl (by decide) (s_170 w1387 g0 ⟨Int.le_trans (by decide) b1390.1, Int.le_trans b1390.2 (by decide)⟩) (fun R1730 T1731 H1732 p1733 => ?_))
      obtain ⟨e1734, w1736, f1737, z1738, e1735, b1739⟩ := p1733
      subst e1734
      subst e1735
      have f1740 := f1727.tr f1737 rfl
      show wp _ _ 260 24 [(2, vI z1389), (0, .ref r0), (1, vI a1)] [vI z1738] _ H1732 _
      refine wp_of e260 c260_24 (rw_i2l (pc' := 25) rfl ⟨b1739.1, b1739.2⟩ ?_)
      have k1741 : wKI H1732 r0 = wKI H1383 r0 := (wKI_fr w1387 g0 f1737 rfl)
      have h1742 : KNN T H1732 r0 e d := (KNN_fr w1387 g0 f1737 rfl a1407)
      exact wp_lreturn e260 c260_25 rfl ⟨rfl, w1736, f1740, z1738, rfl, ⟨Int.le_trans (by decide) b1739.1, Int.le_trans b1739.2 (by decide)⟩, ⟨by omega, h1742⟩⟩
