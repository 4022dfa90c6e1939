/-! what methods do (own work, written by wip/gen3/sx3.py) -/
/-! StrikeAwakeModel.weights()J  -/
abbrev uq_246 (r0 : Nat) (e : xD) (d : xD) (T : wq_T) (H : wq_H) : Option Value → wq_T → wq_H → Prop := fun r T' H' => T = T' ∧ WT T H' ∧ wfr [(42, 0), (42, 1), (42, 2), (42, 28), (42, 29), (51, 999), (52, 999)] T H H' ∧ ∃ z : Int, some (vL z) = r ∧ ((-9223372036854775808) ≤ z ∧ z ≤ 9223372036854775807) ∧ (((z = -1) ∧ (wKI H' r0 = 1) ∧ (H r0 3 = -1 ∨ 20000 < xlots d) ∧ KNN T H' r0 e d) ∨ ((wKI H' r0 = 1) ∧ (H r0 3 ≠ -1 ∧ xlots d ≤ 20000) ∧ (z = xsW e d (xlots d).toNat) ∧ KNN T H' r0 e d))
set_option maxHeartbeats 4000000 in
theorem u_246 {kt : Nat → Option mc_E} {T : wq_T} {H : wq_H} {r0 : Nat} {e : xD} {d : xD} (hW : WT T H) (g0 : T.2.2.2 r0 = some 42) (p0 : wKI H r0 = 1) (p1 : XW d) (p2 : ∀ h : Nat, d 0 0 ≤ (h : Int) → h < 24 → e 13 h = 0) (p3 : XN d) (p4 : ∀ h : Nat, h < 24 → 0 ≤ e 13 h ∧ e 13 h ≤ 100) (hRB_r0 : RB T H r0 e d) (hKNN_r0 : KNN T H r0 e d) : wpc kt 8 246 [.ref r0] T H (uq_246 r0 e d T H) := by
  refine wp_enter e246 (Nat.le_of_ble_eq_true rfl) rfl ?_
  have f0 : wfr [(42, 0), (42, 1), (42, 2), (42, 28), (42, 29), (51, 999), (52, 999)] T H H := wfr.rf
  show wp _ _ 246 0 [(0, .ref r0)] [] _ H _
  have _b := RB_b hW hRB_r0
  have _nu := RB_n3 hRB_r0
  have _lm := RB_lm hRB_r0
  have _xw := (by assumption : XW d)
  refine wp_of e246 c246_0 (rw_aload_n (pc' := 1) (v := .ref r0) rfl rfl rfl ?_)
  refine wp_of e246 c246_1 (rw_iconst (pc' := 2) rfl ?_)
  refine wp_of e246 c246_2 (xp_I (pc' := 5) lf_9_48 hW g0 sh_42 (by decide) (by decide) ty_42_0 rfl rfl (by omega) (by omega) ⟨by omega, by omega⟩ rfl (fun H1165 e1166 w1167 => ?_))
  have f1168 := f0.put' e1166 g0 rfl
  have k1169 : H1165 r0 0 = 0 := wq_u_s e1166
  refine wp_of e246 c246_5 (rw_aload_n (pc' := 6) (v := .ref r0) rfl rfl rfl ?_)
  refine wp_of e246 c246_6 (rw_aload_n (pc' := 7) (v := .ref r0) rfl rfl rfl ?_)
  have k1170 : H1165 r0 3 = H r0 3 := (wq_u_j e1166 rfl)
  refine wp_of e246 c246_7 (xg_O (pc' := 10) lf_9_337 w1167 g0 sh_42 (by decide) (by decide) ty_42_3 rfl rfl (fun q1172 => ?_) (fun r1171 q1172 g1173 => ?_))
  · refine wp_of e246 c246_10 (rw_ifnull_n (p1 := 17) (p2 := 13) (by decide) rfl ?_)
    refine wp_of e246 c246_17 (rw_iconst (pc' := 18) rfl ?_)
    have k1174 : wKI H1165 r0 = wKI H r0 := (wKI_fr hW g0 ((wfr.rf (l := [(42, 0)])).put' e1166 g0 rfl) rfl)
    have h1175 : RB T H1165 r0 e d := (RB_fr hW g0 ((wfr.rf (l := [(42, 0)])).put' e1166 g0 rfl) rfl hRB_r0)
    have h1176 : KNN T H1165 r0 e d := (KNN_fr hW g0 ((wfr.rf (l := [(42, 0)])).put' e1166 g0 rfl) rfl hKNN_r0)
    refine wp_of e246 c246_18 (xc_V (pc' := 21) (r := r0) (as := [vI 0]) (st := []) (lm_9_433) rfl rfl (Nat.le_of_ble_eq_true rfl) w1167 g0 sh_42 (by decide) rfl (by decide) (u_241 (e := e) (d := d) w1167 g0 ⟨by omega, by omega⟩ (by omega) (by omega) (by assumption) (by assumption) (by assumption) (by assumption) h1175 h1176) (fun R1177 T1178 H1179 p1180 => ?_))
    obtain ⟨e1181, w1183, f1184, z1185, e1182, b1186, p1187⟩ := p1180
    subst e1181
    subst e1182
    rcases p1187 with ⟨a1188, a1189, a1190, a1191, a1192, a1193, a1194, a1195, a1196⟩ | ⟨a1197, a1198, a1199, a1200, a1201, a1202, a1203⟩
    · have f1204 := f1168.tr f1184 rfl
      show wp _ _ 246 21 [(0, .ref r0)] [vI z1185] _ H1179 _
      refine wp_of e246 c246_21 (rw_istore_n (pc' := 22) (z := z1185) (L' := [(1, vI z1185), (0, .ref r0)]) rfl rfl rfl ?_)
      refine wp_of e246 c246_22 (rw_iload_n (pc' := 23) (z := z1185) rfl rfl ?_)
      obtain ⟨r1205, q1206, g1207⟩ := (w1183.opt g0 (t' := 54) (n := 33) (j := 3) (p := 0) (q := 0) rfl (by decide) rfl).resolve_left (by omega)
      have h1208 : RB T H1179 r0 e d := (RB_fr w1167 g0 f1184 rfl h1175)
      have _kbb := a1196
      have _kb := _kbb.1
      have _n3 : H1179 r0 3 ≠ -1 := by omega
      have _rp := RB_at h1208 q1206
      have _k := RP_k _rp
      have _nb := xcn_b (f := xwf e d) (xlots d).toNat
      have h1209 : KL T H1179 r0 (xwf e d) (xlots d).toNat := _kbb.2
      refine wp_of e246 c246_23 (rw_if_le (p1 := 35) (p2 := 26) (by decide) rfl ⟨by omega, by omega⟩ (fun c1210 => ?_) (fun c1210 => ?_))
      · refine wp_of e246 c246_35 (rw_aload_n (pc' := 36) (v := .ref r0) rfl rfl rfl ?_)
        refine wp_of e246 c246_36 (rw_aload_n (pc' := 37) (v := .ref r0) rfl rfl rfl ?_)
        refine wp_of e246 c246_37 (rw_iconst (pc' := 38) rfl ?_)
        refine wp_of e246 c246_38 (rw_iconst (pc' := 39) rfl ?_)
        refine wp_of e246 c246_39 (xc_V (pc' := 42) (r := r0) (as := [vI (-1), vI 0]) (st := [.ref r0]) (lm_9_440) rfl rfl (Nat.le_of_ble_eq_true rfl) w1183 g0 sh_42 (by decide) rfl (by decide) (u_247 (e := e) (d := d) w1183 g0 ⟨by omega, by omega⟩ ⟨by omega, by omega⟩ q1206 g1207 (by assumption) (by omega) (by omega) (by omega) h1208 a1196) (fun R1211 T1212 H1213 p1214 => ?_))
        obtain ⟨e1215, w1217, f1218, z1219, e1216, b1220, p1221⟩ := p1214
        subst e1215
        subst e1216
        have f1223 := f1204.tr f1218 rfl
        show wp _ _ 246 42 [(1, vI z1185), (0, .ref r0)] [vL z1219, .ref r0] _ H1213 _
        have _wt := wsm_m1 e d (0 : Int).toNat
        refine wp_of e246 c246_42 (xc_V (pc' := 45) (r := r0) (as := [vL z1219]) (st := []) (lm_9_380) rfl rfl (Nat.le_of_ble_eq_true rfl) w1217 g0 sh_42 (by decide) rfl (by decide) (u_221  w1217 g0 ⟨by omega, by omega⟩) (fun R1224 T1225 H1226 p1227 => ?_))
        obtain ⟨e1228, w1230, f1231, z1232, e1229, b1233, p1234⟩ := p1227
        subst e1228
        subst e1229
        obtain ⟨a1235, a1236, a1237⟩ := p1234
        have f1238 := f1223.tr f1231 rfl
        show wp _ _ 246 45 [(1, vI z1185), (0, .ref r0)] [vL z1232] _ H1226 _
        have k1239 : wKI H1226 r0 = wKI H1179 r0 := ((wKI_fr w1217 g0 f1231 rfl).trans (wKI_fr w1183 g0 f1218 rfl))
        have h1240 : KNN T H1226 r0 e d := (KNN_fr w1217 g0 f1231 rfl (KNN_fr w1183 g0 f1218 rfl a1195))
        exact wp_lreturn e246 c246_45 rfl ⟨rfl, w1230, f1238, z1232, rfl, ⟨by omega, by omega⟩, (Or.inr ⟨by omega, by omega, by omega, h1240⟩)⟩
      · exfalso
        omega
    · have f1241 := f1168.tr f1184 rfl
      show wp _ _ 246 21 [(0, .ref r0)] [vI z1185] _ H1179 _
      refine wp_of e246 c246_21 (rw_istore_n (pc' := 22) (z := z1185) (L' := [(1, vI z1185), (0, .ref r0)]) rfl rfl rfl ?_)
      refine wp_of e246 c246_22 (rw_iload_n (pc' := 23) (z := z1185) rfl rfl ?_)
      refine wp_of e246 c246_23 (rw_if_le (p1 := 35) (p2 := 26) (by decide) rfl ⟨by omega, by omega⟩ (fun c1242 => ?_) (fun c1242 => ?_))
      · exfalso
        omega
      · refine wp_of e246 c246_26 (rw_aload_n (pc' := 27) (v := .ref r0) rfl rfl rfl ?_)
        refine wp_of e246 c246_27 (rw_iload_n (pc' := 28) (z := z1185) rfl rfl ?_)
        refine wp_of e246 c246_28 (xc_V (pc' := 31) (r := r0) (as := [vI z1185]) (st := []) (lm_9_54) rfl rfl (Nat.le_of_ble_eq_true rfl) w1183 g0 sh_42 (by decide) rfl (by decide) (u_170  w1183 g0 ⟨by omega, by omega⟩) (fun R1243 T1244 H1245 p1246 => ?_))
        obtain ⟨e1247, w1249, f1250, z1251, e1248, b1252, p1253⟩ := p1246
        subst e1247
        subst e1248
        obtain ⟨a1254, a1255, a1256⟩ := p1253
        have f1257 := f1241.tr f1250 rfl
        show wp _ _ 246 31 [(1, vI z1185), (0, .ref r0)] [vI z1251] _ H1245 _
        refine wp_of e246 c246_31 (rw_i2l (pc' := 32) rfl ⟨by omega, by omega⟩ ?_)
        refine wp_of e246 c246_32 (rw_goto (p1 := 45) (by decide) ?_)
        have k1258 : wKI H1245 r0 = wKI H1179 r0 := (wKI_fr w1183 g0 f1250 rfl)
        have h1259 : KNN T H1245 r0 e d := (KNN_fr w1183 g0 f1250 rfl a1203)
        exact wp_lreturn e246 c246_45 rfl ⟨rfl, w1249, f1257, z1251, rfl, ⟨by omega, by omega⟩, (Or.inl ⟨by omega, by omega, by omega, h1259⟩)⟩
  · refine wp_of e246 c246_10 (rw_ifnull_r (p1 := 17) (p2 := 13) (by decide) rfl ?_)
    refine wp_of e246 c246_13 (rw_iconst (pc' := 14) rfl ?_)
    refine wp_of e246 c246_14 (rw_goto (p1 := 18) (by decide) ?_)
    have k1260 : wKI H1165 r0 = wKI H r0 := (wKI_fr hW g0 ((wfr.rf (l := [(42, 0)])).put' e1166 g0 rfl) rfl)
    have h1261 : RB T H1165 r0 e d := (RB_fr hW g0 ((wfr.rf (l := [(42, 0)])).put' e1166 g0 rfl) rfl hRB_r0)
    have h1262 : KNN T H1165 r0 e d := (KNN_fr hW g0 ((wfr.rf (l := [(42, 0)])).put' e1166 g0 rfl) rfl hKNN_r0)
    refine wp_of e246 c246_18 (xc_V (pc' := 21) (r := r0) (as := [vI 1]) (st := []) (lm_9_433) rfl rfl (Nat.le_of_ble_eq_true rfl) w1167 g0 sh_42 (by decide) rfl (by decide) (u_241 (e := e) (d := d) w1167 g0 ⟨by omega, by omega⟩ (by omega) (by omega) (by assumption) (by assumption) (by assumption) (by assumption) h1261 h1262) (fun R1263 T1264 H1265 p1266 => ?_))
    obtain ⟨e1267, w1269, f1270, z1271, e1268, b1272, p1273⟩ := p1266
    subst e1267
    subst e1268
    rcases p1273 with ⟨a1274, a1275, a1276, a1277, a1278, a1279, a1280, a1281, a1282⟩ | ⟨a1283, a1284, a1285, a1286, a1287, a1288, a1289⟩
    · have f1290 := f1168.tr f1270 rfl
      show wp _ _ 246 21 [(0, .ref r0)] [vI z1271] _ H1265 _
      refine wp_of e246 c246_21 (rw_istore_n (pc' := 22) (z := z1271) (L' := [(1, vI z1271), (0, .ref r0)]) rfl rfl rfl ?_)
      refine wp_of e246 c246_22 (rw_iload_n (pc' := 23) (z := z1271) rfl rfl ?_)
      have k1291 : H1265 r0 3 = H1165 r0 3 := (f1270 r0 3 _ g0 rfl)
      have q1292 : H1265 r0 3 = (r1171 : Int) := k1291.trans q1172
      have h1293 : RB T H1265 r0 e d := (RB_fr w1167 g0 f1270 rfl h1261)
      have _kbb := a1282
      have _kb := _kbb.1
      have _n3 : H1265 r0 3 ≠ -1 := by omega
      have _rp := RB_at h1293 q1292
      have _k := RP_k _rp
      have _nb := xcn_b (f := xwf e d) (xlots d).toNat
      have h1294 : KL T H1265 r0 (xwf e d) (xlots d).toNat := _kbb.2
      refine wp_of e246 c246_23 (rw_if_le (p1 := 35) (p2 := 26) (by decide) rfl ⟨by omega, by omega⟩ (fun c1295 => ?_) (fun c1295 => ?_))
      · refine wp_of e246 c246_35 (rw_aload_n (pc' := 36) (v := .ref r0) rfl rfl rfl ?_)
        refine wp_of e246 c246_36 (rw_aload_n (pc' := 37) (v := .ref r0) rfl rfl rfl ?_)
        refine wp_of e246 c246_37 (rw_iconst (pc' := 38) rfl ?_)
        refine wp_of e246 c246_38 (rw_iconst (pc' := 39) rfl ?_)
        refine wp_of e246 c246_39 (xc_V (pc' := 42) (r := r0) (as := [vI (-1), vI 0]) (st := [.ref r0]) (lm_9_440) rfl rfl (Nat.le_of_ble_eq_true rfl) w1269 g0 sh_42 (by decide) rfl (by decide) (u_247 (e := e) (d := d) w1269 g0 ⟨by omega, by omega⟩ ⟨by omega, by omega⟩ q1292 g1173 (by assumption) (by omega) (by omega) (by omega) h1293 a1282) (fun R1296 T1297 H1298 p1299 => ?_))
        obtain ⟨e1300, w1302, f1303, z1304, e1301, b1305, p1306⟩ := p1299
        subst e1300
        subst e1301
        have f1308 := f1290.tr f1303 rfl
        show wp _ _ 246 42 [(1, vI z1271), (0, .ref r0)] [vL z1304, .ref r0] _ H1298 _
        have _wt := wsm_m1 e d (0 : Int).toNat
        refine wp_of e246 c246_42 (xc_V (pc' := 45) (r := r0) (as := [vL z1304]) (st := []) (lm_9_380) rfl rfl (Nat.le_of_ble_eq_true rfl) w1302 g0 sh_42 (by decide) rfl (by decide) (u_221  w1302 g0 ⟨by omega, by omega⟩) (fun R1309 T1310 H1311 p1312 => ?_))
        obtain ⟨e1313, w1315, f1316, z1317, e1314, b1318, p1319⟩ := p1312
        subst e1313
        subst e1314
        obtain ⟨a1320, a1321, a1322⟩ := p1319
        have f1323 := f1308.tr f1316 rfl
        show wp _ _ 246 45 [(1, vI z1271), (0, .ref r0)] [vL z1317] _ H1311 _
        have k1324 : wKI H1311 r0 = wKI H1265 r0 := ((wKI_fr w1302 g0 f1316 rfl).trans (wKI_fr w1269 g0 f1303 rfl))
        have h1325 : KNN T H1311 r0 e d := (KNN_fr w1302 g0 f1316 rfl (KNN_fr w1269 g0 f1303 rfl a1281))
        exact wp_lreturn e246 c246_45 rfl ⟨rfl, w1315, f1323, z1317, rfl, ⟨by omega, by omega⟩, (Or.inr ⟨by omega, by omega, by omega, h1325⟩)⟩
      · exfalso
        omega
    · have f1326 := f1168.tr f1270 rfl
      show wp _ _ 246 21 [(0, .ref r0)] [vI z1271] _ H1265 _
      refine wp_of e246 c246_21 (rw_istore_n (pc' := 22) (z := z1271) (L' := [(1, vI z1271), (0, .ref r0)]) rfl rfl rfl ?_)
      refine wp_of e246 c246_22 (rw_iload_n (pc' := 23) (z := z1271) rfl rfl ?_)
      refine wp_of e246 c246_23 (rw_if_le (p1 := 35) (p2 := 26) (by decide) rfl ⟨by omega, by omega⟩ (fun c1327 => ?_) (fun c1327 => ?_))
      · exfalso
        omega
      · refine wp_of e246 c246_26 (rw_aload_n (pc' := 27) (v := .ref r0) rfl rfl rfl ?_)
        refine wp_of e246 c246_27 (rw_iload_n (pc' := 28) (z := z1271) rfl rfl ?_)
        refine wp_of e246 c246_28 (xc_V (pc' := 31) (r := r0) (as := [vI z1271]) (st := []) (lm_9_54) rfl rfl (Nat.le_of_ble_eq_true rfl) w1269 g0 sh_42 (by decide) rfl (by decide) (u_170  w1269 g0 ⟨by omega, by omega⟩) (fun R1328 T1329 H1330 p1331 => ?_))
        obtain ⟨e1332, w1334, f1335, z1336, e1333, b1337, p1338⟩ := p1331
        subst e1332
        subst e1333
        obtain ⟨a1339, a1340, a1341⟩ := p1338
        have f1342 := f1326.tr f1335 rfl
        show wp _ _ 246 31 [(1, vI z1271), (0, .ref r0)] [vI z1336] _ H1330 _
        refine wp_of e246 c246_31 (rw_i2l (pc' := 32) rfl ⟨by omega, by omega⟩ ?_)
        refine wp_of e246 c246_32 (rw_goto (p1 := 45) (by decide) ?_)
        have k1343 : wKI H1330 r0 = wKI H1265 r0 := (wKI_fr w1269 g0 f1335 rfl)
        have h1344 : KNN T H1330 r0 e d := (KNN_fr w1269 g0 f1335 rfl a1289)
        exact wp_lreturn e246 c246_45 rfl ⟨rfl, w1334, f1342, z1336, rfl, ⟨by omega, by omega⟩, (Or.inl ⟨by omega, by omega, by omega, h1344⟩)⟩
/-! StrikeAwakeModel.having(II)I  -/
abbrev uq_249 (r0 : Nat) (a1 : Int) (a2 : Int) (e : xD) (d : xD) (T : wq_T) (H : wq_H) : Option Value → wq_T → wq_H → Prop := fun r T' H' => T = T' ∧ WT T H' ∧ wfr [(42, 0), (42, 1), (42, 2), (42, 28), (42, 29), (51, 999), (52, 999)] T H H' ∧ ∃ z : Int, some (vI z) = r ∧ ((-2147483648) ≤ z ∧ z ≤ 2147483647) ∧ (((z = -1) ∧ (wKI H' r0 = 1) ∧ ((a1 < 0 ∨ d 0 3 ≤ a1) ∨ a2 < 0 ∨ ((xsp d (a1).toNat).length : Int) ≤ a2 ∨ 20000 < xlots d) ∧ KNN T H' r0 e d) ∨ ((wKI H' r0 = 1) ∧ (((0 ≤ a1 ∧ a1 < d 0 3) ∧ 0 ≤ a2 ∧ a2 < ((xsp d (a1).toNat).length : Int)) ∧ xlots d ≤ 20000) ∧ (z = xhc e d (a1).toNat (a2).toNat (xlots d).toNat) ∧ KNN T H' r0 e d))
set_option maxHeartbeats 4000000 in
theorem u_249 {kt : Nat → Option mc_E} {T : wq_T} {H : wq_H} {r0 : Nat} {a1 : Int} {a2 : Int} {e : xD} {d : xD} (hW : WT T H) (g0 : T.2.2.2 r0 = some 42) (i1 : (-2147483648) ≤ a1 ∧ a1 ≤ 2147483647) (i2 : (-2147483648) ≤ a2 ∧ a2 ≤ 2147483647) (p0 : wKI H r0 = 1) (p1 : XW d) (p2 : ∀ h : Nat, d 0 0 ≤ (h : Int) → h < 24 → e 13 h = 0) (p3 : XN d) (p4 : ∀ h : Nat, h < 24 → 0 ≤ e 13 h ∧ e 13 h ≤ 100) (hRB_r0 : RB T H r0 e d) (hKNN_r0 : KNN T H r0 e d) : wpc kt 8 249 [.ref r0, vI a1, vI a2] T H (uq_249 r0 a1 a2 e d T H) := by
  refine wp_enter e249 (Nat.le_of_ble_eq_true rfl) rfl ?_
  have f0 : wfr [(42, 0), (42, 1), (42, 2), (42, 28), (42, 29), (51, 999), (52, 999)] T H H := wfr.rf
  show wp _ _ 249 0 [(0, .ref r0), (1, vI a1), (2, vI a2)] [] _ H _
  have _b := RB_b hW hRB_r0
  have _nu := RB_n3 hRB_r0
  have _lm := RB_lm hRB_r0
  have _xw := (by assumption : XW d)
  refine wp_of e249 c249_0 (rw_aload_n (pc' := 1) (v := .ref r0) rfl rfl rfl ?_)
  refine wp_of e249 c249_1 (rw_iconst (pc' := 2) rfl ?_)
  refine wp_of e249 c249_2 (xp_I (pc' := 5) lf_9_48 hW g0 sh_42 (by decide) (by decide) ty_42_0 rfl rfl (by omega) (by omega) ⟨by omega, by omega⟩ rfl (fun H1640 e1641 w1642 => ?_))
  have f1643 := f0.put' e1641 g0 rfl
  have k1644 : H1640 r0 0 = 0 := wq_u_s e1641
  refine wp_of e249 c249_5 (rw_aload_n (pc' := 6) (v := .ref r0) rfl rfl rfl ?_)
  refine wp_of e249 c249_6 (rw_aload_n (pc' := 7) (v := .ref r0) rfl rfl rfl ?_)
  refine wp_of e249 c249_7 (rw_iload_n (pc' := 8) (z := a1) rfl rfl ?_)
  refine wp_of e249 c249_8 (rw_iload_n (pc' := 9) (z := a2) rfl rfl ?_)
  have h1645 : RB T H1640 r0 e d := (RB_fr hW g0 ((wfr.rf (l := [(42, 0)])).put' e1641 g0 rfl) rfl hRB_r0)
  refine wp_of e249 c249_9 (xc_V (pc' := 12) (r := r0) (as := [vI a1, vI a2]) (st := [.ref r0]) (lm_9_367) rfl rfl (Nat.le_of_ble_eq_true rfl) w1642 g0 sh_42 (by decide) rfl (by decide) (u_215 (e := e) (d := d) w1642 g0 ⟨by omega, by omega⟩ ⟨by omega, by omega⟩ h1645) (fun R1646 T1647 H1648 p1649 => ?_))
  obtain ⟨e1650, e1652, z1653, e1651, b1654, p1655⟩ := p1649
  subst e1650
  subst e1651
  subst e1652
  rcases p1655 with ⟨a1656, a1657⟩ | ⟨a1658, a1659⟩
  · show wp _ _ 249 12 [(0, .ref r0), (1, vI a1), (2, vI a2)] [vI z1653, .ref r0] _ H1640 _
    have k1660 : H1640 r0 3 = H r0 3 := (wq_u_j e1641 rfl)
    have k1661 : wKI H1640 r0 = wKI H r0 := (wKI_fr hW g0 ((wfr.rf (l := [(42, 0)])).put' e1641 g0 rfl) rfl)
    have h1662 : KNN T H1640 r0 e d := (KNN_fr hW g0 ((wfr.rf (l := [(42, 0)])).put' e1641 g0 rfl) rfl hKNN_r0)
    refine wp_of e249 c249_12 (xc_V (pc' := 15) (r := r0) (as := [vI z1653]) (st := []) (lm_9_433) rfl rfl (Nat.le_of_ble_eq_true rfl) w1642 g0 sh_42 (by decide) rfl (by decide) (u_241 (e := e) (d := d) w1642 g0 ⟨by omega, by omega⟩ (by omega) (by omega) (by assumption) (by assumption) (by assumption) (by assumption) h1645 h1662) (fun R1663 T1664 H1665 p1666 => ?_))
    obtain ⟨e1667, w1669, f1670, z1671, e1668, b1672, p1673⟩ := p1666
    subst e1667
    subst e1668
    rcases p1673 with ⟨a1674, a1675, a1676, a1677, a1678, a1679, a1680, a1681, a1682⟩ | ⟨a1683, a1684, a1685, a1686, a1687, a1688, a1689⟩
    · have f1690 := f1643.tr f1670 rfl
      show wp _ _ 249 15 [(0, .ref r0), (1, vI a1), (2, vI a2)] [vI z1671] _ H1665 _
      refine wp_of e249 c249_15 (rw_istore_n (pc' := 16) (z := z1671) (L' := [(3, vI z1671), (0, .ref r0), (1, vI a1), (2, vI a2)]) rfl rfl rfl ?_)
      refine wp_of e249 c249_16 (rw_iload_n (pc' := 17) (z := z1671) rfl rfl ?_)
      obtain ⟨r1691, q1692, g1693⟩ := (w1669.opt g0 (t' := 54) (n := 33) (j := 3) (p := 0) (q := 0) rfl (by decide) rfl).resolve_left (by omega)
      have h1694 : RB T H1665 r0 e d := (RB_fr w1642 g0 f1670 rfl h1645)
      have _kbb := a1682
      have _kb := _kbb.1
      have _n3 : H1665 r0 3 ≠ -1 := by omega
      have _rp := RB_at h1694 q1692
      have _k := RP_k _rp
      have _nb := xcn_b (f := xwf e d) (xlots d).toNat
      have h1695 : KL T H1665 r0 (xwf e d) (xlots d).toNat := _kbb.2
      refine wp_of e249 c249_17 (rw_if_le (p1 := 26) (p2 := 20) (by decide) rfl ⟨by omega, by omega⟩ (fun c1696 => ?_) (fun c1696 => ?_))
      · refine wp_of e249 c249_26 (rw_iconst (pc' := 27) rfl ?_)
        refine wp_of e249 c249_27 (rw_istore (pc' := 29) (z := 0) (L' := [(4, vI 0), (3, vI z1671), (0, .ref r0), (1, vI a1), (2, vI a2)]) rfl rfl rfl ?_)
        refine wp_of e249 c249_29 (rw_iconst (pc' := 30) rfl ?_)
        refine wp_of e249 c249_30 (rw_istore (pc' := 32) (z := 0) (L' := [(5, vI 0), (4, vI 0), (3, vI z1671), (0, .ref r0), (1, vI a1), (2, vI a2)]) rfl rfl rfl ?_)
        have b1920 : 0 ≤ H1665 r0 29 ∧ H1665 r0 29 ≤ 20000 := w1669.box g0 (n := 33) rfl (by decide) rfl
        have lp1913 : ∀ (n1914 : Nat) (v1916 : Int) (v1917 : Int) (H1918 : wq_H) (u1919 : Nat), WT T H1918 → wfr [(51, 999)] T H1665 H1918 → (0 ≤ v1916 ∧ v1916 ≤ 20000) → (0 ≤ v1917 ∧ v1917 ≤ 20000) → KL T H1918 r0 (xwf e d) (xlots d).toNat → (v1916 ≤ H1918 r0 29) → (u1919 ≤ (xlots d).toNat) → (xcn (xwf e d) u1919 = v1916) → (v1917 ≤ v1916) → (v1917 = wsm (xwf e d) (fun n => if (xlot d ((n : Nat) : Int) (a1).toNat).toNat = (a2).toNat then (1 : Int) else 0) u1919) → (20000 - v1916).toNat = n1914 → wp kt 7 249 32 [(5, vI v1916), (4, vI v1917), (0, .ref r0), (1, vI a1), (2, vI a2)] [] T H1918 (uq_249 r0 a1 a2 e d T H) := by
          intro n1914
          induction n1914 using Nat.strongRecOn with
          | _ n1914 ih1915 =>
            intro v1916 v1917 H1918 u1919 w1921 f1922 b1923 b1924 h1926 x1927 x1928 x1929 x1930 x1931 m1925
            have f1932 := f1690.tr f1922 rfl
            have k1933 : H1918 r0 29 = H1665 r0 29 := (f1922 r0 29 _ g0 rfl)
            refine wp_of e249 c249_32 (rw_iload (pc' := 34) (z := v1916) rfl rfl ?_)
            refine wp_of e249 c249_34 (rw_aload_n (pc' := 35) (v := .ref r0) rfl rfl rfl ?_)
            refine wp_of e249 c249_35 (xg_I (pc' := 38) lf_9_422 w1921 g0 sh_42 (by decide) (by decide) ty_42_29 rfl rfl (fun b1934 b1935 => ?_))
            refine wp_of e249 c249_38 (rw_icmp_ge (p1 := 78) (p2 := 41) (by decide) rfl ⟨by omega, by omega⟩ ⟨by omega, by omega⟩ (fun c1936 => ?_) (fun c1936 => ?_))
            · refine wp_of e249 c249_78 (rw_aload_n (pc' := 79) (v := .ref r0) rfl rfl rfl ?_)
              refine wp_of e249 c249_79 (rw_iload (pc' := 81) (z := v1917) rfl rfl ?_)
              refine wp_of e249 c249_81 (xc_V (pc' := 84) (r := r0) (as := [vI v1917]) (st := []) (lm_9_58) rfl rfl (Nat.le_of_ble_eq_true rfl) w1921 g0 sh_42 (by decide) rfl (by decide) (u_209  w1921 g0 ⟨by omega, by omega⟩) (fun R1937 T1938 H1939 p1940 => ?_))
              obtain ⟨e1941, w1943, f1944, z1945, e1942, b1946, p1947⟩ := p1940
              subst e1941
              subst e1942
              obtain ⟨a1948, a1949, a1950⟩ := p1947
              have f1951 := f1932.tr f1944 rfl
              show wp _ _ 249 84 [(5, vI v1916), (4, vI v1917), (0, .ref r0), (1, vI a1), (2, vI a2)] [vI z1945] _ H1939 _
              have k1952 : wKI H1939 r0 = wKI H1665 r0 := ((wKI_fr w1921 g0 f1944 rfl).trans (wKI_fr w1669 g0 f1922 rfl))
              have h1953 : KNN T H1939 r0 e d := (KNN_fr w1921 g0 f1944 rfl (KNN_fr w1669 g0 f1922 rfl a1681))
              exact wp_ireturn e249 c249_84 rfl ⟨rfl, w1943, f1951, z1945, rfl, ⟨by omega, by omega⟩, (Or.inr ⟨by omega, by omega, by
                show _ = wsm (xwf e d) (fun n => if (xlot d ((n : Nat) : Int) (a1).toNat).toNat = (a2).toNat then (1 : Int) else 0) (xlots d).toNat
                rw [wsm_end (u := u1919) (by omega) (by omega)]
                assumption, h1953⟩)⟩
            · obtain ⟨h9, _a, _b, _c, _e, _f⟩ := xcn_nx (f := xwf e d) (u := u1919) (xlots d).toNat (by omega) (by omega)
              have _n9 : xcn (xwf e d) (h9 + 1) = xcn (xwf e d) h9 + 1 := by
                show xcn (xwf e d) h9 + (if xwf e d h9 > 0 then 1 else 0) = _
                rw [if_pos _c]
              refine wp_of e249 c249_41 (rw_aload_n (pc' := 42) (v := .ref r0) rfl rfl rfl ?_)
              refine wp_of e249 c249_42 (rw_aload_n (pc' := 43) (v := .ref r0) rfl rfl rfl ?_)
              refine wp_of e249 c249_43 (xg_R (pc' := 46) lf_9_42 w1921 g0 sh_42 (by decide) (by decide) ty_42_30 rfl rfl (fun r1954 q1955 g1956 => ?_))
              refine wp_of e249 c249_46 (rw_iload (pc' := 48) (z := v1916) rfl rfl ?_)
              refine wp_of e249 c249_48 (xa_I (so := 0) (pc' := 49) w1921 g1956 sh_52 (by decide) (ty_52 _) (by omega) (by omega) rfl (fun b1957 b1958 => ?_))
              have _kl := KL_at h1926 q1955 (n := h9) (s := (v1916).toNat) (by omega) _c (by omega)
              have _t9 : H1918 r1954 (v1916.toNat) = ((h9 : Nat) : Int) := by omega
              have _slw : SL d (xlot d ((h9 : Nat) : Int)) := SL_lot _xw.1 (by omega) (by omega)
              have k1959 : H1918 r0 3 = H1665 r0 3 := (f1922 r0 3 _ g0 rfl)
              have q1960 : H1918 r0 3 = (r1691 : Int) := k1959.trans q1692
              have h1961 : RB T H1918 r0 e d := (RB_fr w1669 g0 f1922 rfl h1694)
              refine wp_of e249 c249_49 (xc_V (pc' := 52) (r := r0) (as := [vI (H1918 r1954 (v1916.toNat))]) (st := []) (lm_9_425) rfl rfl (Nat.le_of_ble_eq_true rfl) w1921 g0 sh_42 (by decide) rfl (by decide) (u_243 (e := e) (d := d) w1921 g0 ⟨by omega, by omega⟩ q1960 g1693 (by omega) h1961) (fun R1962 T1963 H1964 p1965 => ?_))
              obtain ⟨e1966, w1968, f1969, e1967, p1970⟩ := p1965
              subst e1966
              subst e1967
              have f1972 := f1932.tr f1969 rfl
              have f1973 := f1922.tr f1969 rfl
              show wp _ _ 249 52 [(5, vI v1916), (4, vI v1917), (0, .ref r0), (1, vI a1), (2, vI a2)] [] _ H1964 _
              have h1974 : LQ27 T H1964 r0 0 (d 0 3) (xlot d ((h9 : Nat) : Int)) := by rw [← _t9]; exact p1970
              refine wp_of e249 c249_52 (rw_iload (pc' := 54) (z := v1917) rfl rfl ?_)
              refine wp_of e249 c249_54 (rw_aload_n (pc' := 55) (v := .ref r0) rfl rfl rfl ?_)
              refine wp_of e249 c249_55 (xg_R (pc' := 58) lf_9_39 w1968 g0 sh_42 (by decide) (by decide) ty_42_27 rfl rfl (fun r1975 q1976 g1977 => ?_))
              refine wp_of e249 c249_58 (rw_iload_n (pc' := 59) (z := a1) rfl rfl ?_)
              refine wp_of e249 c249_59 (xa_I (so := 0) (pc' := 60) w1968 g1977 sh_51 (by decide) (ty_51 _) (by omega) (by omega) rfl (fun b1978 b1979 => ?_))
              have := LR_at h1974 q1976 (k := (a1.toNat)) (by omega) (by omega)
              refine wp_of e249 c249_60 (rw_iload_n (pc' := 61) (z := a2) rfl rfl ?_)
              refine wp_of e249 c249_61 (rw_icmp_ne (p1 := 68) (p2 := 64) (by decide) rfl ⟨by omega, by omega⟩ ⟨by omega, by omega⟩ (fun c1980 => ?_) (fun c1980 => ?_))
              · refine wp_of e249 c249_68 (rw_iconst (pc' := 69) rfl ?_)
                refine wp_of e249 c249_69 (rw_iadd (pc' := 70) rfl ?_)
                refine wp_of e249 c249_70 (rw_istore (pc' := 72) (z := v1917 + 0) (L' := [(4, vI (v1917 + 0)), (5, vI v1916), (0, .ref r0), (1, vI a1), (2, vI a2)]) rfl rfl rfl ?_)
                have _gp : wsm (xwf e d) (fun n => if (xlot d ((n : Nat) : Int) (a1).toNat).toNat = (a2).toNat then (1 : Int) else 0) h9 = v1917 := by
                  rw [wsm_gap _a _f]
                  exact (‹v1917 = wsm (xwf e d) (fun n => if (xlot d ((n : Nat) : Int) (a1).toNat).toNat = (a2).toNat then (1 : Int) else 0) u1919›).symm
                have _q : (v1917 + 0) = wsm (xwf e d) (fun n => if (xlot d ((n : Nat) : Int) (a1).toNat).toNat = (a2).toNat then (1 : Int) else 0) (h9 + 1) := by
                  rw [wsm_y _c, _gp]
                  have _sx := _slw (a1).toNat (by omega)
                  show (v1917 + 0) = v1917 + (if (xlot d ((h9 : Nat) : Int) (a1).toNat).toNat = (a2).toNat then (1 : Int) else 0)
                  first
                  | (rw [if_pos (by omega)]; omega)
                  | (rw [if_neg (by omega)]; omega)
                refine wp_of e249 c249_72 (rw_iinc (pc' := 75) (z := v1916) (L' := [(5, vI (v1916 + 1)), (4, vI (v1917 + 0)), (0, .ref r0), (1, vI a1), (2, vI a2)]) rfl rfl rfl rfl ?_)
                refine wp_of e249 c249_75 (rw_goto (p1 := 32) (by decide) ?_)
                have k1981 : H1964 r0 29 = H1918 r0 29 := (f1969 r0 29 _ g0 rfl)
                have h1982 : KL T H1964 r0 (xwf e d) (xlots d).toNat := (KL_fr w1921 g0 f1969 rfl h1926)
                exact wp_lc (ks := [5, 4, 0, 1, 2]) (wl_c rfl (wl_c rfl (wl_c rfl (wl_c rfl (wl_c rfl wl_n))))) rfl (by decide) (ih1915 _ (by omega) (v1916 + 1) (v1917 + 0) H1964 ((h9 + 1)) w1968 f1973 ⟨by omega, by omega⟩ ⟨by omega, by omega⟩ h1982 (by omega) (by omega) (by omega) (by omega) (_q) rfl)
              · refine wp_of e249 c249_64 (rw_iconst (pc' := 65) rfl ?_)
                refine wp_of e249 c249_65 (rw_goto (p1 := 69) (by decide) ?_)
                refine wp_of e249 c249_69 (rw_iadd (pc' := 70) rfl ?_)
                refine wp_of e249 c249_70 (rw_istore (pc' := 72) (z := v1917 + 1) (L' := [(4, vI (v1917 + 1)), (5, vI v1916), (0, .ref r0), (1, vI a1), (2, vI a2)]) rfl rfl rfl ?_)
                have _gp : wsm (xwf e d) (fun n => if (xlot d ((n : Nat) : Int) (a1).toNat).toNat = (a2).toNat then (1 : Int) else 0) h9 = v1917 := by
                  rw [wsm_gap _a _f]
                  exact (‹v1917 = wsm (xwf e d) (fun n => if (xlot d ((n : Nat) : Int) (a1).toNat).toNat = (a2).toNat then (1 : Int) else 0) u1919›).symm
                have _q : (v1917 + 1) = wsm (xwf e d) (fun n => if (xlot d ((n : Nat) : Int) (a1).toNat).toNat = (a2).toNat then (1 : Int) else 0) (h9 + 1) := by
                  rw [wsm_y _c, _gp]
                  have _sx := _slw (a1).toNat (by omega)
                  show (v1917 + 1) = v1917 + (if (xlot d ((h9 : Nat) : Int) (a1).toNat).toNat = (a2).toNat then (1 : Int) else 0)
                  first
                  | (rw [if_pos (by omega)]; omega)
                  | (rw [if_neg (by omega)]; omega)
                refine wp_of e249 c249_72 (rw_iinc (pc' := 75) (z := v1916) (L' := [(5, vI (v1916 + 1)), (4, vI (v1917 + 1)), (0, .ref r0), (1, vI a1), (2, vI a2)]) rfl rfl rfl rfl ?_)
                refine wp_of e249 c249_75 (rw_goto (p1 := 32) (by decide) ?_)
                have k1983 : H1964 r0 29 = H1918 r0 29 := (f1969 r0 29 _ g0 rfl)
                have h1984 : KL T H1964 r0 (xwf e d) (xlots d).toNat := (KL_fr w1921 g0 f1969 rfl h1926)
                exact wp_lc (ks := [5, 4, 0, 1, 2]) (wl_c rfl (wl_c rfl (wl_c rfl (wl_c rfl (wl_c rfl wl_n))))) rfl (by decide) (ih1915 _ (by omega) (v1916 + 1) (v1917 + 1) H1964 ((h9 + 1)) w1968 f1973 ⟨by omega, by omega⟩ ⟨by omega, by omega⟩ h1984 (by omega) (by omega) (by omega) (by omega) (_q) rfl)
        exact wp_lc (ks := [5, 4, 3, 0, 1, 2]) (wl_c rfl (wl_c rfl (wl_c rfl (wl_c rfl (wl_c rfl wl_n))))) rfl (by decide) (lp1913 _ 0 0 H1665 0 w1669 wfr.rf ⟨by omega, by omega⟩ ⟨by omega, by omega⟩ h1695 (by omega) (by omega) (rfl) (by omega) (rfl) rfl)
      · exfalso
        omega
    · have f1985 := f1643.tr f1670 rfl
      show wp _ _ 249 15 [(0, .ref r0), (1, vI a1), (2, vI a2)] [vI z1671] _ H1665 _
      refine wp_of e249 c249_15 (rw_istore_n (pc' := 16) (z := z1671) (L' := [(3, vI z1671), (0, .ref r0), (1, vI a1), (2, vI a2)]) rfl rfl rfl ?_)
      refine wp_of e249 c249_16 (rw_iload_n (pc' := 17) (z := z1671) rfl rfl ?_)
      refine wp_of e249 c249_17 (rw_if_le (p1 := 26) (p2 := 20) (by decide) rfl ⟨by omega, by omega⟩ (fun c1986 => ?_) (fun c1986 => ?_))
      · exfalso
        omega
      · refine wp_of e249 c249_20 (rw_aload_n (pc' := 21) (v := .ref r0) rfl rfl rfl ?_)
        refine wp_of e249 c249_21 (rw_iload_n (pc' := 22) (z := z1671) rfl rfl ?_)
        refine wp_of e249 c249_22 (xc_V (pc' := 25) (r := r0) (as := [vI z1671]) (st := []) (lm_9_54) rfl rfl (Nat.le_of_ble_eq_true rfl) w1669 g0 sh_42 (by decide) rfl (by decide) (u_170  w1669 g0 ⟨by omega, by omega⟩) (fun R1987 T1988 H1989 p1990 => ?_))
        obtain ⟨e1991, w1993, f1994, z1995, e1992, b1996, p1997⟩ := p1990
        subst e1991
        subst e1992
        obtain ⟨a1998, a1999, a2000⟩ := p1997
        have f2001 := f1985.tr f1994 rfl
        show wp _ _ 249 25 [(3, vI z1671), (0, .ref r0), (1, vI a1), (2, vI a2)] [vI z1995] _ H1989 _
        have k2002 : wKI H1989 r0 = wKI H1665 r0 := (wKI_fr w1669 g0 f1994 rfl)
        have h2003 : KNN T H1989 r0 e d := (KNN_fr w1669 g0 f1994 rfl a1689)
        exact wp_ireturn e249 c249_25 rfl ⟨rfl, w1993, f2001, z1995, rfl, ⟨by omega, by omega⟩, (Or.inl ⟨by omega, by omega, by omega, h2003⟩)⟩
  · show wp _ _ 249 12 [(0, .ref r0), (1, vI a1), (2, vI a2)] [vI z1653, .ref r0] _ H1640 _
    have k2004 : H1640 r0 3 = H r0 3 := (wq_u_j e1641 rfl)
    have k2005 : wKI H1640 r0 = wKI H r0 := (wKI_fr hW g0 ((wfr.rf (l := [(42, 0)])).put' e1641 g0 rfl) rfl)
    have h2006 : KNN T H1640 r0 e d := (KNN_fr hW g0 ((wfr.rf (l := [(42, 0)])).put' e1641 g0 rfl) rfl hKNN_r0)
    refine wp_of e249 c249_12 (xc_V (pc' := 15) (r := r0) (as := [vI z1653]) (st := []) (lm_9_433) rfl rfl (Nat.le_of_ble_eq_true rfl) w1642 g0 sh_42 (by decide) rfl (by decide) (u_241 (e := e) (d := d) w1642 g0 ⟨by omega, by omega⟩ (by omega) (by omega) (by assumption) (by assumption) (by assumption) (by assumption) h1645 h2006) (fun R2007 T2008 H2009 p2010 => ?_))
    obtain ⟨e2011, w2013, f2014, z2015, e2012, b2016, p2017⟩ := p2010
    subst e2011
    subst e2012
    rcases p2017 with ⟨a2018, a2019, a2020, a2021, a2022, a2023, a2024, a2025, a2026⟩ | ⟨a2027, a2028, a2029, a2030, a2031, a2032, a2033⟩
    · have f2034 := f1643.tr f2014 rfl
      show wp _ _ 249 15 [(0, .ref r0), (1, vI a1), (2, vI a2)] [vI z2015] _ H2009 _
      refine wp_of e249 c249_15 (rw_istore_n (pc' := 16) (z := z2015) (L' := [(3, vI z2015), (0, .ref r0), (1, vI a1), (2, vI a2)]) rfl rfl rfl ?_)
      refine wp_of e249 c249_16 (rw_iload_n (pc' := 17) (z := z2015) rfl rfl ?_)
      obtain ⟨r2035, q2036, g2037⟩ := (w2013.opt g0 (t' := 54) (n := 33) (j := 3) (p := 0) (q := 0) rfl (by decide) rfl).resolve_left (by omega)
      have h2038 : RB T H2009 r0 e d := (RB_fr w1642 g0 f2014 rfl h1645)
      have _kbb := a2026
      have _kb := _kbb.1
      have _n3 : H2009 r0 3 ≠ -1 := by omega
      have _rp := RB_at h2038 q2036
      have _k := RP_k _rp
      have _nb := xcn_b (f := xwf e d) (xlots d).toNat
      have h2039 : KL T H2009 r0 (xwf e d) (xlots d).toNat := _kbb.2
      refine wp_of e249 c249_17 (rw_if_le (p1 := 26) (p2 := 20) (by decide) rfl ⟨by omega, by omega⟩ (fun c2040 => ?_) (fun c2040 => ?_))
      · refine wp_of e249 c249_26 (rw_iconst (pc' := 27) rfl ?_)
        refine wp_of e249 c249_27 (rw_istore (pc' := 29) (z := 0) (L' := [(4, vI 0), (3, vI z2015), (0, .ref r0), (1, vI a1), (2, vI a2)]) rfl rfl rfl ?_)
        refine wp_of e249 c249_29 (rw_iconst (pc' := 30) rfl ?_)
        refine wp_of e249 c249_30 (rw_istore (pc' := 32) (z := 0) (L' := [(5, vI 0), (4, vI 0), (3, vI z2015), (0, .ref r0), (1, vI a1), (2, vI a2)]) rfl rfl rfl ?_)
        have b2264 : 0 ≤ H2009 r0 29 ∧ H2009 r0 29 ≤ 20000 := w2013.box g0 (n := 33) rfl (by decide) rfl
        have lp2257 : ∀ (n2258 : Nat) (v2260 : Int) (v2261 : Int) (H2262 : wq_H) (u2263 : Nat), WT T H2262 → wfr [(51, 999)] T H2009 H2262 → (0 ≤ v2260 ∧ v2260 ≤ 20000) → (0 ≤ v2261 ∧ v2261 ≤ 20000) → KL T H2262 r0 (xwf e d) (xlots d).toNat → (v2260 ≤ H2262 r0 29) → (u2263 ≤ (xlots d).toNat) → (xcn (xwf e d) u2263 = v2260) → (v2261 ≤ v2260) → (v2261 = wsm (xwf e d) (fun n => if (xlot d ((n : Nat) : Int) (a1).toNat).toNat = (a2).toNat then (1 : Int) else 0) u2263) → (20000 - v2260).toNat = n2258 → wp kt 7 249 32 [(5, vI v2260), (4, vI v2261), (0, .ref r0), (1, vI a1), (2, vI a2)] [] T H2262 (uq_249 r0 a1 a2 e d T H) := by
          intro n2258
          induction n2258 using Nat.strongRecOn with
          | _ n2258 ih2259 =>
            intro v2260 v2261 H2262 u2263 w2265 f2266 b2267 b2268 h2270 x2271 x2272 x2273 x2274 x2275 m2269
            have f2276 := f2034.tr f2266 rfl
            have k2277 : H2262 r0 29 = H2009 r0 29 := (f2266 r0 29 _ g0 rfl)
            refine wp_of e249 c249_32 (rw_iload (pc' := 34) (z := v2260) rfl rfl ?_)
            refine wp_of e249 c249_34 (rw_aload_n (pc' := 35) (v := .ref r0) rfl rfl rfl ?_)
            refine wp_of e249 c249_35 (xg_I (pc' := 38) lf_9_422 w2265 g0 sh_42 (by decide) (by decide) ty_42_29 rfl rfl (fun b2278 b2279 => ?_))
            refine wp_of e249 c249_38 (rw_icmp_ge (p1 := 78) (p2 := 41) (by decide) rfl ⟨by omega, by omega⟩ ⟨by omega, by omega⟩ (fun c2280 => ?_) (fun c2280 => ?_))
            · refine wp_of e249 c249_78 (rw_aload_n (pc' := 79) (v := .ref r0) rfl rfl rfl ?_)
              refine wp_of e249 c249_79 (rw_iload (pc' := 81) (z := v2261) rfl rfl ?_)
              refine wp_of e249 c249_81 (xc_V (pc' := 84) (r := r0) (as := [vI v2261]) (st := []) (lm_9_58) rfl rfl (Nat.le_of_ble_eq_true rfl) w2265 g0 sh_42 (by decide) rfl (by decide) (u_209  w2265 g0 ⟨by omega, by omega⟩) (fun R2281 T2282 H2283 p2284 => ?_))
              obtain ⟨e2285, w2287, f2288, z2289, e2286, b2290, p2291⟩ := p2284
              subst e2285
              subst e2286
              obtain ⟨a2292, a2293, a2294⟩ := p2291
              have f2295 := f2276.tr f2288 rfl
              show wp _ _ 249 84 [(5, vI v2260), (4, vI v2261), (0, .ref r0), (1, vI a1), (2, vI a2)] [vI z2289] _ H2283 _
              have k2296 : wKI H2283 r0 = wKI H2009 r0 := ((wKI_fr w2265 g0 f2288 rfl).trans (wKI_fr w2013 g0 f2266 rfl))
              have h2297 : KNN T H2283 r0 e d := (KNN_fr w2265 g0 f2288 rfl (KNN_fr w2013 g0 f2266 rfl a2025))
              exact wp_ireturn e249 c249_84 rfl ⟨rfl, w2287, f2295, z2289, rfl, ⟨by omega, by omega⟩, (Or.inr ⟨by omega, by omega, by
                show _ = wsm (xwf e d) (fun n => if (xlot d ((n : Nat) : Int) (a1).toNat).toNat = (a2).toNat then (1 : Int) else 0) (xlots d).toNat
                rw [wsm_end (u := u2263) (by omega) (by omega)]
                assumption, h2297⟩)⟩
            · obtain ⟨h9, _a, _b, _c, _e, _f⟩ := xcn_nx (f := xwf e d) (u := u2263) (xlots d).toNat (by omega) (by omega)
              have _n9 : xcn (xwf e d) (h9 + 1) = xcn (xwf e d) h9 + 1 := by
                show xcn (xwf e d) h9 + (if xwf e d h9 > 0 then 1 else 0) = _
                rw [if_pos _c]
              refine wp_of e249 c249_41 (rw_aload_n (pc' := 42) (v := .ref r0) rfl rfl rfl ?_)
              refine wp_of e249 c249_42 (rw_aload_n (pc' := 43) (v := .ref r0) rfl rfl rfl ?_)
              refine wp_of e249 c249_43 (xg_R (pc' := 46) lf_9_42 w2265 g0 sh_42 (by decide) (by decide) ty_42_30 rfl rfl (fun r2298 q2299 g2300 => ?_))
              refine wp_of e249 c249_46 (rw_iload (pc' := 48) (z := v2260) rfl rfl ?_)
              refine wp_of e249 c249_48 (xa_I (so := 0) (pc' := 49) w2265 g2300 sh_52 (by decide) (ty_52 _) (by omega) (by omega) rfl (fun b2301 b2302 => ?_))
              have _kl := KL_at h2270 q2299 (n := h9) (s := (v2260).toNat) (by omega) _c (by omega)
              have _t9 : H2262 r2298 (v2260.toNat) = ((h9 : Nat) : Int) := by omega
              have _slw : SL d (xlot d ((h9 : Nat) : Int)) := SL_lot _xw.1 (by omega) (by omega)
              have k2303 : H2262 r0 3 = H2009 r0 3 := (f2266 r0 3 _ g0 rfl)
              have q2304 : H2262 r0 3 = (r2035 : Int) := k2303.trans q2036
              have h2305 : RB T H2262 r0 e d := (RB_fr w2013 g0 f2266 rfl h2038)
              refine wp_of e249 c249_49 (xc_V (pc' := 52) (r := r0) (as := [vI (H2262 r2298 (v2260.toNat))]) (st := []) (lm_9_425) rfl rfl (Nat.le_of_ble_eq_true rfl) w2265 g0 sh_42 (by decide) rfl (by decide) (u_243 (e := e) (d := d) w2265 g0 ⟨by omega, by omega⟩ q2304 g2037 (by omega) h2305) (fun R2306 T2307 H2308 p2309 => ?_))
              obtain ⟨e2310, w2312, f2313, e2311, p2314⟩ := p2309
              subst e2310
              subst e2311
              have f2316 := f2276.tr f2313 rfl
              have f2317 := f2266.tr f2313 rfl
              show wp _ _ 249 52 [(5, vI v2260), (4, vI v2261), (0, .ref r0), (1, vI a1), (2, vI a2)] [] _ H2308 _
              have h2318 : LQ27 T H2308 r0 0 (d 0 3) (xlot d ((h9 : Nat) : Int)) := by rw [← _t9]; exact p2314
              refine wp_of e249 c249_52 (rw_iload (pc' := 54) (z := v2261) rfl rfl ?_)
              refine wp_of e249 c249_54 (rw_aload_n (pc' := 55) (v := .ref r0) rfl rfl rfl ?_)
              refine wp_of e249 c249_55 (xg_R (pc' := 58) lf_9_39 w2312 g0 sh_42 (by decide) (by decide) ty_42_27 rfl rfl (fun r2319 q2320 g2321 => ?_))
              refine wp_of e249 c249_58 (rw_iload_n (pc' := 59) (z := a1) rfl rfl ?_)
              refine wp_of e249 c249_59 (xa_I (so := 0) (pc' := 60) w2312 g2321 sh_51 (by decide) (ty_51 _) (by omega) (by omega) rfl (fun b2322 b2323 => ?_))
              have := LR_at h2318 q2320 (k := (a1.toNat)) (by omega) (by omega)
              refine wp_of e249 c249_60 (rw_iload_n (pc' := 61) (z := a2) rfl rfl ?_)
              refine wp_of e249 c249_61 (rw_icmp_ne (p1 := 68) (p2 := 64) (by decide) rfl ⟨by omega, by omega⟩ ⟨by omega, by omega⟩ (fun c2324 => ?_) (fun c2324 => ?_))
              · refine wp_of e249 c249_68 (rw_iconst (pc' := 69) rfl ?_)
                refine wp_of e249 c249_69 (rw_iadd (pc' := 70) rfl ?_)
                refine wp_of e249 c249_70 (rw_istore (pc' := 72) (z := v2261 + 0) (L' := [(4, vI (v2261 + 0)), (5, vI v2260), (0, .ref r0), (1, vI a1), (2, vI a2)]) rfl rfl rfl ?_)
                have _gp : wsm (xwf e d) (fun n => if (xlot d ((n : Nat) : Int) (a1).toNat).toNat = (a2).toNat then (1 : Int) else 0) h9 = v2261 := by
                  rw [wsm_gap _a _f]
                  exact (‹v2261 = wsm (xwf e d) (fun n => if (xlot d ((n : Nat) : Int) (a1).toNat).toNat = (a2).toNat then (1 : Int) else 0) u2263›).symm
                have _q : (v2261 + 0) = wsm (xwf e d) (fun n => if (xlot d ((n : Nat) : Int) (a1).toNat).toNat = (a2).toNat then (1 : Int) else 0) (h9 + 1) := by
                  rw [wsm_y _c, _gp]
                  have _sx := _slw (a1).toNat (by omega)
                  show (v2261 + 0) = v2261 + (if (xlot d ((h9 : Nat) : Int) (a1).toNat).toNat = (a2).toNat then (1 : Int) else 0)
                  first
                  | (rw [if_pos (by omega)]; omega)
                  | (rw [if_neg (by omega)]; omega)
                refine wp_of e249 c249_72 (rw_iinc (pc' := 75) (z := v2260) (L' := [(5, vI (v2260 + 1)), (4, vI (v2261 + 0)), (0, .ref r0), (1, vI a1), (2, vI a2)]) rfl rfl rfl rfl ?_)
                refine wp_of e249 c249_75 (rw_goto (p1 := 32) (by decide) ?_)
                have k2325 : H2308 r0 29 = H2262 r0 29 := (f2313 r0 29 _ g0 rfl)
                have h2326 : KL T H2308 r0 (xwf e d) (xlots d).toNat := (KL_fr w2265 g0 f2313 rfl h2270)
                exact wp_lc (ks := [5, 4, 0, 1, 2]) (wl_c rfl (wl_c rfl (wl_c rfl (wl_c rfl (wl_c rfl wl_n))))) rfl (by decide) (ih2259 _ (by omega) (v2260 + 1) (v2261 + 0) H2308 ((h9 + 1)) w2312 f2317 ⟨by omega, by omega⟩ ⟨by omega, by omega⟩ h2326 (by omega) (by omega) (by omega) (by omega) (_q) rfl)
              · refine wp_of e249 c249_64 (rw_iconst (pc' := 65) rfl ?_)
                refine wp_of e249 c249_65 (rw_goto (p1 := 69) (by decide) ?_)
                refine wp_of e249 c249_69 (rw_iadd (pc' := 70) rfl ?_)
                refine wp_of e249 c249_70 (rw_istore (pc' := 72) (z := v2261 + 1) (L' := [(4, vI (v2261 + 1)), (5, vI v2260), (0, .ref r0), (1, vI a1), (2, vI a2)]) rfl rfl rfl ?_)
                have _gp : wsm (xwf e d) (fun n => if (xlot d ((n : Nat) : Int) (a1).toNat).toNat = (a2).toNat then (1 : Int) else 0) h9 = v2261 := by
                  rw [wsm_gap _a _f]
                  exact (‹v2261 = wsm (xwf e d) (fun n => if (xlot d ((n : Nat) : Int) (a1).toNat).toNat = (a2).toNat then (1 : Int) else 0) u2263›).symm
                have _q : (v2261 + 1) = wsm (xwf e d) (fun n => if (xlot d ((n : Nat) : Int) (a1).toNat).toNat = (a2).toNat then (1 : Int) else 0) (h9 + 1) := by
                  rw [wsm_y _c, _gp]
                  have _sx := _slw (a1).toNat (by omega)
                  show (v2261 + 1) = v2261 + (if (xlot d ((h9 : Nat) : Int) (a1).toNat).toNat = (a2).toNat then (1 : Int) else 0)
                  first
                  | (rw [if_pos (by omega)]; omega)
                  | (rw [if_neg (by omega)]; omega)
                refine wp_of e249 c249_72 (rw_iinc (pc' := 75) (z := v2260) (L' := [(5, vI (v2260 + 1)), (4, vI (v2261 + 1)), (0, .ref r0), (1, vI a1), (2, vI a2)]) rfl rfl rfl rfl ?_)
                refine wp_of e249 c249_75 (rw_goto (p1 := 32) (by decide) ?_)
                have k2327 : H2308 r0 29 = H2262 r0 29 := (f2313 r0 29 _ g0 rfl)
                have h2328 : KL T H2308 r0 (xwf e d) (xlots d).toNat := (KL_fr w2265 g0 f2313 rfl h2270)
                exact wp_lc (ks := [5, 4, 0, 1, 2]) (wl_c rfl (wl_c rfl (wl_c rfl (wl_c rfl (wl_c rfl wl_n))))) rfl (by decide) (ih2259 _ (by omega) (v2260 + 1) (v2261 + 1) H2308 ((h9 + 1)) w2312 f2317 ⟨by omega, by omega⟩ ⟨by omega, by omega⟩ h2328 (by omega) (by omega) (by omega) (by omega) (_q) rfl)
        exact wp_lc (ks := [5, 4, 3, 0, 1, 2]) (wl_c rfl (wl_c rfl (wl_c rfl (wl_c rfl (wl_c rfl wl_n))))) rfl (by decide) (lp2257 _ 0 0 H2009 0 w2013 wfr.rf ⟨by omega, by omega⟩ ⟨by omega, by omega⟩ h2039 (by omega) (by omega) (rfl) (by omega) (rfl) rfl)
      · exfalso
        omega
    · have f2329 := f1643.tr f2014 rfl
      show wp _ _ 249 15 [(0, .ref r0), (1, vI a1), (2, vI a2)] [vI z2015] _ H2009 _
      refine wp_of e249 c249_15 (rw_istore_n (pc' := 16) (z := z2015) (L' := [(3, vI z2015), (0, .ref r0), (1, vI a1), (2, vI a2)]) rfl rfl rfl ?_)
      refine wp_of e249 c249_16 (rw_iload_n (pc' := 17) (z := z2015) rfl rfl ?_)
      refine wp_of e249 c249_17 (rw_if_le (p1 := 26) (p2 := 20) (by decide) rfl ⟨by omega, by omega⟩ (fun c2330 => ?_) (fun c2330 => ?_))
      · exfalso
        omega
      · refine wp_of e249 c249_20 (rw_aload_n (pc' := 21) (v := .ref r0) rfl rfl rfl ?_)
        refine wp_of e249 c249_21 (rw_iload_n (pc' := 22) (z := z2015) rfl rfl ?_)
        refine wp_of e249 c249_22 (xc_V (pc' := 25) (r := r0) (as := [vI z2015]) (st := []) (lm_9_54) rfl rfl (Nat.le_of_ble_eq_true rfl) w2013 g0 sh_42 (by decide) rfl (by decide) (u_170  w2013 g0 ⟨by omega, by omega⟩) (fun R2331 T2332 H2333 p2334 => ?_))
        obtain ⟨e2335, w2337, f2338, z2339, e2336, b2340, p2341⟩ := p2334
        subst e2335
        subst e2336
        obtain ⟨a2342, a2343, a2344⟩ := p2341
        have f2345 := f2329.tr f2338 rfl
        show wp _ _ 249 25 [(3, vI z2015), (0, .ref r0), (1, vI a1), (2, vI a2)] [vI z2339] _ H2333 _
        have k2346 : wKI H2333 r0 = wKI H2009 r0 := (wKI_fr w2013 g0 f2338 rfl)
        have h2347 : KNN T H2333 r0 e d := (KNN_fr w2013 g0 f2338 rfl a2033)
        exact wp_ireturn e249 c249_25 rfl ⟨rfl, w2337, f2345, z2339, rfl, ⟨by omega, by omega⟩, (Or.inl ⟨by omega, by omega, by omega, h2347⟩)⟩
/-! StrikeAwakeModel.times(II)I  -/
abbrev uq_250 (r0 : Nat) (a1 : Int) (a2 : Int) (e : xD) (d : xD) (T : wq_T) (H : wq_H) : Option Value → wq_T → wq_H → Prop := fun r T' H' => T = T' ∧ WT T H' ∧ wfr [(42, 0), (42, 1), (42, 2), (42, 28), (42, 29), (51, 999), (52, 999)] T H H' ∧ ∃ z : Int, some (vI z) = r ∧ ((-2147483648) ≤ z ∧ z ≤ 2147483647) ∧ (((z = -1) ∧ (wKI H' r0 = 1) ∧ (((a1 < 0 ∨ d 0 3 ≤ a1) ∨ a2 < 0 ∨ d 0 0 ≤ a2) ∨ 20000 < xlots d) ∧ KNN T H' r0 e d) ∨ ((wKI H' r0 = 1) ∧ (((0 ≤ a1 ∧ a1 < d 0 3) ∧ 0 ≤ a2 ∧ a2 < d 0 0) ∧ xlots d ≤ 20000) ∧ (z = xta e d (a1).toNat (a2).toNat) ∧ KNN T H' r0 e d))
set_option maxHeartbeats 4000000 in
theorem u_250 {kt : Nat → Option mc_E} {T : wq_T} {H : wq_H} {r0 : Nat} {a1 : Int} {a2 : Int} {e : xD} {d : xD} (hW : WT T H) (g0 : T.2.2.2 r0 = some 42) (i1 : (-2147483648) ≤ a1 ∧ a1 ≤ 2147483647) (i2 : (-2147483648) ≤ a2 ∧ a2 ≤ 2147483647) (p0 : wKI H r0 = 1) (p1 : XW d) (p2 : ∀ h : Nat, d 0 0 ≤ (h : Int) → h < 24 → e 13 h = 0) (p3 : XN d) (p4 : ∀ h : Nat, h < 24 → 0 ≤ e 13 h ∧ e 13 h ≤ 100) (hRB_r0 : RB T H r0 e d) (hKNN_r0 : KNN T H r0 e d) : wpc kt 8 250 [.ref r0, vI a1, vI a2] T H (uq_250 r0 a1 a2 e d T H) := by
  refine wp_enter e250 (Nat.le_of_ble_eq_true rfl) rfl ?_
  have f0 : wfr [(42, 0), (42, 1), (42, 2), (42, 28), (42, 29), (51, 999), (52, 999)] T H H := wfr.rf
  show wp _ _ 250 0 [(0, .ref r0), (1, vI a1), (2, vI a2)] [] _ H _
  have _b := RB_b hW hRB_r0
  have _nu := RB_n3 hRB_r0
  have _lm := RB_lm hRB_r0
  have _xw := (by assumption : XW d)
  refine wp_of e250 c250_0 (rw_aload_n (pc' := 1) (v := .ref r0) rfl rfl rfl ?_)
  refine wp_of e250 c250_1 (rw_iconst (pc' := 2) rfl ?_)
  refine wp_of e250 c250_2 (xp_I (pc' := 5) lf_9_48 hW g0 sh_42 (by decide) (by decide) ty_42_0 rfl rfl (by omega) (by omega) ⟨by omega, by omega⟩ rfl (fun H1275 e1276 w1277 => ?_))
  have f1278 := f0.put' e1276 g0 rfl
  have k1279 : H1275 r0 0 = 0 := wq_u_s e1276
  refine wp_of e250 c250_5 (rw_aload_n (pc' := 6) (v := .ref r0) rfl rfl rfl ?_)
  refine wp_of e250 c250_6 (rw_aload_n (pc' := 7) (v := .ref r0) rfl rfl rfl ?_)
  refine wp_of e250 c250_7 (rw_iload_n (pc' := 8) (z := a1) rfl rfl ?_)
  have h1280 : RB T H1275 r0 e d := (RB_fr hW g0 ((wfr.rf (l := [(42, 0)])).put' e1276 g0 rfl) rfl hRB_r0)
  refine wp_of e250 c250_8 (xc_V (pc' := 11) (r := r0) (as := [vI a1]) (st := [.ref r0]) (lm_9_364) rfl rfl (Nat.le_of_ble_eq_true rfl) w1277 g0 sh_42 (by decide) rfl (by decide) (u_213 (e := e) (d := d) w1277 g0 ⟨by omega, by omega⟩ h1280) (fun R1281 T1282 H1283 p1284 => ?_))
  obtain ⟨e1285, e1287, z1288, e1286, b1289, p1290⟩ := p1284
  subst e1285
  subst e1286
  subst e1287
  rcases p1290 with ⟨a1291, a1292⟩ | ⟨a1293, a1294⟩
  · show wp _ _ 250 11 [(0, .ref r0), (1, vI a1), (2, vI a2)] [vI z1288, .ref r0] _ H1275 _
    refine wp_of e250 c250_11 (rw_if_eq (p1 := 26) (p2 := 14) (by decide) rfl ⟨by omega, by omega⟩ (fun c1295 => ?_) (fun c1295 => ?_))
    · exfalso
      omega
    · refine wp_of e250 c250_14 (rw_aload_n (pc' := 15) (v := .ref r0) rfl rfl rfl ?_)
      refine wp_of e250 c250_15 (rw_iload_n (pc' := 16) (z := a2) rfl rfl ?_)
      refine wp_of e250 c250_16 (xc_V (pc' := 19) (r := r0) (as := [vI a2]) (st := [.ref r0]) (lm_9_373) rfl rfl (Nat.le_of_ble_eq_true rfl) w1277 g0 sh_42 (by decide) rfl (by decide) (u_218 (e := e) (d := d) w1277 g0 ⟨by omega, by omega⟩ h1280) (fun R1296 T1297 H1298 p1299 => ?_))
      obtain ⟨e1300, e1302, z1303, e1301, b1304, p1305⟩ := p1299
      subst e1300
      subst e1301
      subst e1302
      rcases p1305 with ⟨a1306, a1307⟩ | ⟨a1308, a1309⟩
      · show wp _ _ 250 19 [(0, .ref r0), (1, vI a1), (2, vI a2)] [vI z1303, .ref r0] _ H1275 _
        refine wp_of e250 c250_19 (rw_if_eq (p1 := 26) (p2 := 22) (by decide) rfl ⟨by omega, by omega⟩ (fun c1310 => ?_) (fun c1310 => ?_))
        · exfalso
          omega
        · refine wp_of e250 c250_22 (rw_iconst (pc' := 23) rfl ?_)
          refine wp_of e250 c250_23 (rw_goto (p1 := 27) (by decide) ?_)
          have k1311 : H1275 r0 3 = H r0 3 := (wq_u_j e1276 rfl)
          have k1312 : wKI H1275 r0 = wKI H r0 := (wKI_fr hW g0 ((wfr.rf (l := [(42, 0)])).put' e1276 g0 rfl) rfl)
          have h1313 : KNN T H1275 r0 e d := (KNN_fr hW g0 ((wfr.rf (l := [(42, 0)])).put' e1276 g0 rfl) rfl hKNN_r0)
          refine wp_of e250 c250_27 (xc_V (pc' := 30) (r := r0) (as := [vI 1]) (st := []) (lm_9_433) rfl rfl (Nat.le_of_ble_eq_true rfl) w1277 g0 sh_42 (by decide) rfl (by decide) (u_241 (e := e) (d := d) w1277 g0 ⟨by omega, by omega⟩ (by omega) (by omega) (by assumption) (by assumption) (by assumption) (by assumption) h1280 h1313) (fun R1314 T1315 H1316 p1317 => ?_))
          obtain ⟨e1318, w1320, f1321, z1322, e1319, b1323, p1324⟩ := p1317
          subst e1318
          subst e1319
          rcases p1324 with ⟨a1325, a1326, a1327, a1328, a1329, a1330, a1331, a1332, a1333⟩ | ⟨a1334, a1335, a1336, a1337, a1338, a1339, a1340⟩
          · have f1341 := f1278.tr f1321 rfl
            show wp _ _ 250 30 [(0, .ref r0), (1, vI a1), (2, vI a2)] [vI z1322] _ H1316 _
            refine wp_of e250 c250_30 (rw_istore_n (pc' := 31) (z := z1322) (L' := [(3, vI z1322), (0, .ref r0), (1, vI a1), (2, vI a2)]) rfl rfl rfl ?_)
            refine wp_of e250 c250_31 (rw_iload_n (pc' := 32) (z := z1322) rfl rfl ?_)
            obtain ⟨r1342, q1343, g1344⟩ := (w1320.opt g0 (t' := 54) (n := 33) (j := 3) (p := 0) (q := 0) rfl (by decide) rfl).resolve_left (by omega)
            have h1345 : RB T H1316 r0 e d := (RB_fr w1277 g0 f1321 rfl h1280)
            have _kbb := a1333
            have _kb := _kbb.1
            have _n3 : H1316 r0 3 ≠ -1 := by omega
            have _rp := RB_at h1345 q1343
            have _k := RP_k _rp
            have _nb := xcn_b (f := xwf e d) (xlots d).toNat
            have h1346 : KL T H1316 r0 (xwf e d) (xlots d).toNat := _kbb.2
            refine wp_of e250 c250_32 (rw_if_le (p1 := 43) (p2 := 35) (by decide) rfl ⟨by omega, by omega⟩ (fun c1347 => ?_) (fun c1347 => ?_))
            · refine wp_of e250 c250_43 (rw_aload_n (pc' := 44) (v := .ref r0) rfl rfl rfl ?_)
              refine wp_of e250 c250_44 (rw_aload_n (pc' := 45) (v := .ref r0) rfl rfl rfl ?_)
              refine wp_of e250 c250_45 (rw_iload_n (pc' := 46) (z := a1) rfl rfl ?_)
              refine wp_of e250 c250_46 (rw_iload_n (pc' := 47) (z := a2) rfl rfl ?_)
              refine wp_of e250 c250_47 (xc_V (pc' := 50) (r := r0) (as := [vI a1, vI a2]) (st := [.ref r0]) (lm_9_444) rfl rfl (Nat.le_of_ble_eq_true rfl) w1320 g0 sh_42 (by decide) rfl (by decide) (u_251 (e := e) (d := d) w1320 g0 ⟨by omega, by omega⟩ ⟨by omega, by omega⟩ q1343 g1344 (by assumption) (by omega) (by omega) (by omega) h1345 a1333) (fun R1348 T1349 H1350 p1351 => ?_))
              obtain ⟨e1352, w1354, f1355, z1356, e1353, b1357, p1358⟩ := p1351
              subst e1352
              subst e1353
              have f1360 := f1341.tr f1355 rfl
              show wp _ _ 250 50 [(3, vI z1322), (0, .ref r0), (1, vI a1), (2, vI a2)] [vI z1356, .ref r0] _ H1350 _
              refine wp_of e250 c250_50 (xc_V (pc' := 53) (r := r0) (as := [vI z1356]) (st := []) (lm_9_58) rfl rfl (Nat.le_of_ble_eq_true rfl) w1354 g0 sh_42 (by decide) rfl (by decide) (u_209  w1354 g0 ⟨by omega, by omega⟩) (fun R1361 T1362 H1363 p1364 => ?_))
              obtain ⟨e1365, w1367, f1368, z1369, e1366, b1370, p1371⟩ := p1364
              subst e1365
              subst e1366
              obtain ⟨a1372, a1373, a1374⟩ := p1371
              have f1375 := f1360.tr f1368 rfl
              show wp _ _ 250 53 [(3, vI z1322), (0, .ref r0), (1, vI a1), (2, vI a2)] [vI z1369] _ H1363 _
              have k1376 : wKI H1363 r0 = wKI H1316 r0 := ((wKI_fr w1354 g0 f1368 rfl).trans (wKI_fr w1320 g0 f1355 rfl))
              have h1377 : KNN T H1363 r0 e d := (KNN_fr w1354 g0 f1368 rfl (KNN_fr w1320 g0 f1355 rfl a1332))
              exact wp_ireturn e250 c250_53 rfl ⟨rfl, w1367, f1375, z1369, rfl, ⟨by omega, by omega⟩, (Or.inr ⟨by omega, by omega, by omega, h1377⟩)⟩
            · exfalso
              omega
          · have f1378 := f1278.tr f1321 rfl
            show wp _ _ 250 30 [(0, .ref r0), (1, vI a1), (2, vI a2)] [vI z1322] _ H1316 _
            refine wp_of e250 c250_30 (rw_istore_n (pc' := 31) (z := z1322) (L' := [(3, vI z1322), (0, .ref r0), (1, vI a1), (2, vI a2)]) rfl rfl rfl ?_)
            refine wp_of e250 c250_31 (rw_iload_n (pc' := 32) (z := z1322) rfl rfl ?_)
            refine wp_of e250 c250_32 (rw_if_le (p1 := 43) (p2 := 35) (by decide) rfl ⟨by omega, by omega⟩ (fun c1379 => ?_) (fun c1379 => ?_))
            · exfalso
              omega
            · refine wp_of e250 c250_35 (rw_aload_n (pc' := 36) (v := .ref r0) rfl rfl rfl ?_)
              refine wp_of e250 c250_36 (rw_iload_n (pc' := 37) (z := z1322) rfl rfl ?_)
              refine wp_of e250 c250_37 (xc_V (pc' := 40) (r := r0) (as := [vI z1322]) (st := []) (lm_9_54) rfl rfl (Nat.le_of_ble_eq_true rfl) w1320 g0 sh_42 (by decide) rfl (by decide) (u_170  w1320 g0 ⟨by omega, by omega⟩) (fun R1380 T1381 H1382 p1383 => ?_))
              obtain ⟨e1384, w1386, f1387, z1388, e1385, b1389, p1390⟩ := p1383
              subst e1384
              subst e1385
              obtain ⟨a1391, a1392, a1393⟩ := p1390
              have f1394 := f1378.tr f1387 rfl
              show wp _ _ 250 40 [(3, vI z1322), (0, .ref r0), (1, vI a1), (2, vI a2)] [vI z1388] _ H1382 _
              refine wp_of e250 c250_40 (rw_goto (p1 := 53) (by decide) ?_)
              have k1395 : wKI H1382 r0 = wKI H1316 r0 := (wKI_fr w1320 g0 f1387 rfl)
              have h1396 : KNN T H1382 r0 e d := (KNN_fr w1320 g0 f1387 rfl a1340)
              exact wp_ireturn e250 c250_53 rfl ⟨rfl, w1386, f1394, z1388, rfl, ⟨by omega, by omega⟩, (Or.inl ⟨by omega, by omega, by omega, h1396⟩)⟩
      · show wp _ _ 250 19 [(0, .ref r0), (1, vI a1), (2, vI a2)] [vI z1303, .ref r0] _ H1275 _
        refine wp_of e250 c250_19 (rw_if_eq (p1 := 26) (p2 := 22) (by decide) rfl ⟨by omega, by omega⟩ (fun c1397 => ?_) (fun c1397 => ?_))
        · refine wp_of e250 c250_26 (rw_iconst (pc' := 27) rfl ?_)
          have k1398 : H1275 r0 3 = H r0 3 := (wq_u_j e1276 rfl)
          have k1399 : wKI H1275 r0 = wKI H r0 := (wKI_fr hW g0 ((wfr.rf (l := [(42, 0)])).put' e1276 g0 rfl) rfl)
          have h1400 : KNN T H1275 r0 e d := (KNN_fr hW g0 ((wfr.rf (l := [(42, 0)])).put' e1276 g0 rfl) rfl hKNN_r0)
          refine wp_of e250 c250_27 (xc_V (pc' := 30) (r := r0) (as := [vI 0]) (st := []) (lm_9_433) rfl rfl (Nat.le_of_ble_eq_true rfl) w1277 g0 sh_42 (by decide) rfl (by decide) (u_241 (e := e) (d := d) w1277 g0 ⟨by omega, by omega⟩ (by omega) (by omega) (by assumption) (by assumption) (by assumption) (by assumption) h1280 h1400) (fun R1401 T1402 H1403 p1404 => ?_))
          obtain ⟨e1405, w1407, f1408, z1409, e1406, b1410, p1411⟩ := p1404
          subst e1405
          subst e1406
          rcases p1411 with ⟨a1412, a1413, a1414, a1415, a1416, a1417, a1418, a1419, a1420⟩ | ⟨a1421, a1422, a1423, a1424, a1425, a1426, a1427⟩
          · have f1428 := f1278.tr f1408 rfl
            show wp _ _ 250 30 [(0, .ref r0), (1, vI a1), (2, vI a2)] [vI z1409] _ H1403 _
            refine wp_of e250 c250_30 (rw_istore_n (pc' := 31) (z := z1409) (L' := [(3, vI z1409), (0, .ref r0), (1, vI a1), (2, vI a2)]) rfl rfl rfl ?_)
            refine wp_of e250 c250_31 (rw_iload_n (pc' := 32) (z := z1409) rfl rfl ?_)
            obtain ⟨r1429, q1430, g1431⟩ := (w1407.opt g0 (t' := 54) (n := 33) (j := 3) (p := 0) (q := 0) rfl (by decide) rfl).resolve_left (by omega)
            have h1432 : RB T H1403 r0 e d := (RB_fr w1277 g0 f1408 rfl h1280)
            have _kbb := a1420
            have _kb := _kbb.1
            have _n3 : H1403 r0 3 ≠ -1 := by omega
            have _rp := RB_at h1432 q1430
            have _k := RP_k _rp
            have _nb := xcn_b (f := xwf e d) (xlots d).toNat
            have h1433 : KL T H1403 r0 (xwf e d) (xlots d).toNat := _kbb.2
            refine wp_of e250 c250_32 (rw_if_le (p1 := 43) (p2 := 35) (by decide) rfl ⟨by omega, by omega⟩ (fun c1434 => ?_) (fun c1434 => ?_))
            · refine wp_of e250 c250_43 (rw_aload_n (pc' := 44) (v := .ref r0) rfl rfl rfl ?_)
              refine wp_of e250 c250_44 (rw_aload_n (pc' := 45) (v := .ref r0) rfl rfl rfl ?_)
              refine wp_of e250 c250_45 (rw_iload_n (pc' := 46) (z := a1) rfl rfl ?_)
              refine wp_of e250 c250_46 (rw_iload_n (pc' := 47) (z := a2) rfl rfl ?_)
              refine wp_of e250 c250_47 (xc_V (pc' := 50) (r := r0) (as := [vI a1, vI a2]) (st := [.ref r0]) (lm_9_444) rfl rfl (Nat.le_of_ble_eq_true rfl) w1407 g0 sh_42 (by decide) rfl (by decide) (u_251 (e := e) (d := d) w1407 g0 ⟨by omega, by omega⟩ ⟨by omega, by omega⟩ q1430 g1431 (by assumption) (by omega) (by omega) (by omega) h1432 a1420) (fun R1435 T1436 H1437 p1438 => ?_))
              obtain ⟨e1439, w1441, f1442, z1443, e1440, b1444, p1445⟩ := p1438
              subst e1439
              subst e1440
              have f1447 := f1428.tr f1442 rfl
              show wp _ _ 250 50 [(3, vI z1409), (0, .ref r0), (1, vI a1), (2, vI a2)] [vI z1443, .ref r0] _ H1437 _
              refine wp_of e250 c250_50 (xc_V (pc' := 53) (r := r0) (as := [vI z1443]) (st := []) (lm_9_58) rfl rfl (Nat.le_of_ble_eq_true rfl) w1441 g0 sh_42 (by decide) rfl (by decide) (u_209  w1441 g0 ⟨by omega, by omega⟩) (fun R1448 T1449 H1450 p1451 => ?_))
              obtain ⟨e1452, w1454, f1455, z1456, e1453, b1457, p1458⟩ := p1451
              subst e1452
              subst e1453
              obtain ⟨a1459, a1460, a1461⟩ := p1458
              have f1462 := f1447.tr f1455 rfl
              show wp _ _ 250 53 [(3, vI z1409), (0, .ref r0), (1, vI a1), (2, vI a2)] [vI z1456] _ H1450 _
              have k1463 : wKI H1450 r0 = wKI H1403 r0 := ((wKI_fr w1441 g0 f1455 rfl).trans (wKI_fr w1407 g0 f1442 rfl))
              have h1464 : KNN T H1450 r0 e d := (KNN_fr w1441 g0 f1455 rfl (KNN_fr w1407 g0 f1442 rfl a1419))
              exact wp_ireturn e250 c250_53 rfl ⟨rfl, w1454, f1462, z1456, rfl, ⟨by omega, by omega⟩, (Or.inr ⟨by omega, by omega, by omega, h1464⟩)⟩
            · exfalso
              omega
          · have f1465 := f1278.tr f1408 rfl
            show wp _ _ 250 30 [(0, .ref r0), (1, vI a1), (2, vI a2)] [vI z1409] _ H1403 _
            refine wp_of e250 c250_30 (rw_istore_n (pc' := 31) (z := z1409) (L' := [(3, vI z1409), (0, .ref r0), (1, vI a1), (2, vI a2)]) rfl rfl rfl ?_)
            refine wp_of e250 c250_31 (rw_iload_n (pc' := 32) (z := z1409) rfl rfl ?_)
            refine wp_of e250 c250_32 (rw_if_le (p1 := 43) (p2 := 35) (by decide) rfl ⟨by omega, by omega⟩ (fun c1466 => ?_) (fun c1466 => ?_))
            · exfalso
              omega
            · refine wp_of e250 c250_35 (rw_aload_n (pc' := 36) (v := .ref r0) rfl rfl rfl ?_)
              refine wp_of e250 c250_36 (rw_iload_n (pc' := 37) (z := z1409) rfl rfl ?_)
              refine wp_of e250 c250_37 (xc_V (pc' := 40) (r := r0) (as := [vI z1409]) (st := []) (lm_9_54) rfl rfl (Nat.le_of_ble_eq_true rfl) w1407 g0 sh_42 (by decide) rfl (by decide) (u_170  w1407 g0 ⟨by omega, by omega⟩) (fun R1467 T1468 H1469 p1470 => ?_))
              obtain ⟨e1471, w1473, f1474, z1475, e1472, b1476, p1477⟩ := p1470
              subst e1471
              subst e1472
              obtain ⟨a1478, a1479, a1480⟩ := p1477
              have f1481 := f1465.tr f1474 rfl
              show wp _ _ 250 40 [(3, vI z1409), (0, .ref r0), (1, vI a1), (2, vI a2)] [vI z1475] _ H1469 _
              refine wp_of e250 c250_40 (rw_goto (p1 := 53) (by decide) ?_)
              have k1482 : wKI H1469 r0 = wKI H1403 r0 := (wKI_fr w1407 g0 f1474 rfl)
              have h1483 : KNN T H1469 r0 e d := (KNN_fr w1407 g0 f1474 rfl a1427)
              exact wp_ireturn e250 c250_53 rfl ⟨rfl, w1473, f1481, z1475, rfl, ⟨by omega, by omega⟩, (Or.inl ⟨by omega, by omega, by omega, h1483⟩)⟩
        · exfalso
          omega
  · show wp _ _ 250 11 [(0, .ref r0), (1, vI a1), (2, vI a2)] [vI z1288, .ref r0] _ H1275 _
    refine wp_of e250 c250_11 (rw_if_eq (p1 := 26) (p2 := 14) (by decide) rfl ⟨by omega, by omega⟩ (fun c1484 => ?_) (fun c1484 => ?_))
    · refine wp_of e250 c250_26 (rw_iconst (pc' := 27) rfl ?_)
      have k1485 : H1275 r0 3 = H r0 3 := (wq_u_j e1276 rfl)
      have k1486 : wKI H1275 r0 = wKI H r0 := (wKI_fr hW g0 ((wfr.rf (l := [(42, 0)])).put' e1276 g0 rfl) rfl)
      have h1487 : KNN T H1275 r0 e d := (KNN_fr hW g0 ((wfr.rf (l := [(42, 0)])).put' e1276 g0 rfl) rfl hKNN_r0)
      refine wp_of e250 c250_27 (xc_V (pc' := 30) (r := r0) (as := [vI 0]) (st := []) (lm_9_433) rfl rfl (Nat.le_of_ble_eq_true rfl) w1277 g0 sh_42 (by decide) rfl (by decide) (u_241 (e := e) (d := d) w1277 g0 ⟨by omega, by omega⟩ (by omega) (by omega) (by assumption) (by assumption) (by assumption) (by assumption) h1280 h1487) (fun R1488 T1489 H1490 p1491 => ?_))
      obtain ⟨e1492, w1494, f1495, z1496, e1493, b1497, p1498⟩ := p1491
      subst e1492
      subst e1493
      rcases p1498 with ⟨a1499, a1500, a1501, a1502, a1503, a1504, a1505, a1506, a1507⟩ | ⟨a1508, a1509, a1510, a1511, a1512, a1513, a1514⟩
      · have f1515 := f1278.tr f1495 rfl
        show wp _ _ 250 30 [(0, .ref r0), (1, vI a1), (2, vI a2)] [vI z1496] _ H1490 _
        refine wp_of e250 c250_30 (rw_istore_n (pc' := 31) (z := z1496) (L' := [(3, vI z1496), (0, .ref r0), (1, vI a1), (2, vI a2)]) rfl rfl rfl ?_)
        refine wp_of e250 c250_31 (rw_iload_n (pc' := 32) (z := z1496) rfl rfl ?_)
        obtain ⟨r1516, q1517, g1518⟩ := (w1494.opt g0 (t' := 54) (n := 33) (j := 3) (p := 0) (q := 0) rfl (by decide) rfl).resolve_left (by omega)
        have h1519 : RB T H1490 r0 e d := (RB_fr w1277 g0 f1495 rfl h1280)
        have _kbb := a1507
        have _kb := _kbb.1
        have _n3 : H1490 r0 3 ≠ -1 := by omega
        have _rp := RB_at h1519 q1517
        have _k := RP_k _rp
        have _nb := xcn_b (f := xwf e d) (xlots d).toNat
        have h1520 : KL T H1490 r0 (xwf e d) (xlots d).toNat := _kbb.2
        refine wp_of e250 c250_32 (rw_if_le (p1 := 43) (p2 := 35) (by decide) rfl ⟨by omega, by omega⟩ (fun c1521 => ?_) (fun c1521 => ?_))
        · refine wp_of e250 c250_43 (rw_aload_n (pc' := 44) (v := .ref r0) rfl rfl rfl ?_)
          refine wp_of e250 c250_44 (rw_aload_n (pc' := 45) (v := .ref r0) rfl rfl rfl ?_)
          refine wp_of e250 c250_45 (rw_iload_n (pc' := 46) (z := a1) rfl rfl ?_)
          refine wp_of e250 c250_46 (rw_iload_n (pc' := 47) (z := a2) rfl rfl ?_)
          refine wp_of e250 c250_47 (xc_V (pc' := 50) (r := r0) (as := [vI a1, vI a2]) (st := [.ref r0]) (lm_9_444) rfl rfl (Nat.le_of_ble_eq_true rfl) w1494 g0 sh_42 (by decide) rfl (by decide) (u_251 (e := e) (d := d) w1494 g0 ⟨by omega, by omega⟩ ⟨by omega, by omega⟩ q1517 g1518 (by assumption) (by omega) (by omega) (by omega) h1519 a1507) (fun R1522 T1523 H1524 p1525 => ?_))
          obtain ⟨e1526, w1528, f1529, z1530, e1527, b1531, p1532⟩ := p1525
          subst e1526
          subst e1527
          have f1534 := f1515.tr f1529 rfl
          show wp _ _ 250 50 [(3, vI z1496), (0, .ref r0), (1, vI a1), (2, vI a2)] [vI z1530, .ref r0] _ H1524 _
          refine wp_of e250 c250_50 (xc_V (pc' := 53) (r := r0) (as := [vI z1530]) (st := []) (lm_9_58) rfl rfl (Nat.le_of_ble_eq_true rfl) w1528 g0 sh_42 (by decide) rfl (by decide) (u_209  w1528 g0 ⟨by omega, by omega⟩) (fun R1535 T1536 H1537 p1538 => ?_))
          obtain ⟨e1539, w1541, f1542, z1543, e1540, b1544, p1545⟩ := p1538
          subst e1539
          subst e1540
          obtain ⟨a1546, a1547, a1548⟩ := p1545
          have f1549 := f1534.tr f1542 rfl
          show wp _ _ 250 53 [(3, vI z1496), (0, .ref r0), (1, vI a1), (2, vI a2)] [vI z1543] _ H1537 _
          have k1550 : wKI H1537 r0 = wKI H1490 r0 := ((wKI_fr w1528 g0 f1542 rfl).trans (wKI_fr w1494 g0 f1529 rfl))
          have h1551 : KNN T H1537 r0 e d := (KNN_fr w1528 g0 f1542 rfl (KNN_fr w1494 g0 f1529 rfl a1506))
          exact wp_ireturn e250 c250_53 rfl ⟨rfl, w1541, f1549, z1543, rfl, ⟨by omega, by omega⟩, (Or.inr ⟨by omega, by omega, by omega, h1551⟩)⟩
        · exfalso
          omega
      · have f1552 := f1278.tr f1495 rfl
        show wp _ _ 250 30 [(0, .ref r0), (1, vI a1), (2, vI a2)] [vI z1496] _ H1490 _
        refine wp_of e250 c250_30 (rw_istore_n (pc' := 31) (z := z1496) (L' := [(3, vI z1496), (0, .ref r0), (1, vI a1), (2, vI a2)]) rfl rfl rfl ?_)
        refine wp_of e250 c250_31 (rw_iload_n (pc' := 32) (z := z1496) rfl rfl ?_)
        refine wp_of e250 c250_32 (rw_if_le (p1 := 43) (p2 := 35) (by decide) rfl ⟨by omega, by omega⟩ (fun c1553 => ?_) (fun c1553 => ?_))
        · exfalso
          omega
        · refine wp_of e250 c250_35 (rw_aload_n (pc' := 36) (v := .ref r0) rfl rfl rfl ?_)
          refine wp_of e250 c250_36 (rw_iload_n (pc' := 37) (z := z1496) rfl rfl ?_)
          refine wp_of e250 c250_37 (xc_V (pc' := 40) (r := r0) (as := [vI z1496]) (st := []) (lm_9_54) rfl rfl (Nat.le_of_ble_eq_true rfl) w1494 g0 sh_42 (by decide) rfl (by decide) (u_170  w1494 g0 ⟨by omega, by omega⟩) (fun R1554 T1555 H1556 p1557 => ?_))
          obtain ⟨e1558, w1560, f1561, z1562, e1559, b1563, p1564⟩ := p1557
          subst e1558
          subst e1559
          obtain ⟨a1565, a1566, a1567⟩ := p1564
          have f1568 := f1552.tr f1561 rfl
          show wp _ _ 250 40 [(3, vI z1496), (0, .ref r0), (1, vI a1), (2, vI a2)] [vI z1562] _ H1556 _
          refine wp_of e250 c250_40 (rw_goto (p1 := 53) (by decide) ?_)
          have k1569 : wKI H1556 r0 = wKI H1490 r0 := (wKI_fr w1494 g0 f1561 rfl)
          have h1570 : KNN T H1556 r0 e d := (KNN_fr w1494 g0 f1561 rfl a1514)
          exact wp_ireturn e250 c250_53 rfl ⟨rfl, w1560, f1568, z1562, rfl, ⟨by omega, by omega⟩, (Or.inl ⟨by omega, by omega, by omega, h1570⟩)⟩
    · exfalso
      omega
/-! StrikeAwakeModel.sure(II)I  -/
abbrev uq_252 (r0 : Nat) (a1 : Int) (a2 : Int) (e : xD) (d : xD) (T : wq_T) (H : wq_H) : Option Value → wq_T → wq_H → Prop := fun r T' H' => T = T' ∧ WT T H' ∧ wfr [(42, 0), (42, 1), (42, 2), (42, 28), (42, 29), (51, 999), (52, 999)] T H H' ∧ ∃ z : Int, some (vI z) = r ∧ ((-2147483648) ≤ z ∧ z ≤ 2147483647) ∧ (((z = -1) ∧ (wKI H' r0 = 1) ∧ (((a1 < 0 ∨ d 0 3 ≤ a1) ∨ a2 < 0 ∨ d 0 0 ≤ a2) ∨ 20000 < xlots d ∨ xcn (xwf e d) (xlots d).toNat ≤ 0) ∧ KNN T H' r0 e d) ∨ ((wKI H' r0 = 1) ∧ (((0 ≤ a1 ∧ a1 < d 0 3) ∧ 0 ≤ a2 ∧ a2 < d 0 0) ∧ xlots d ≤ 20000 ∧ 0 < xcn (xwf e d) (xlots d).toNat) ∧ ((z = 0 ∧ xta e d (a1).toNat (a2).toNat = 0) ∨ (z = 2 ∧ xta e d (a1).toNat (a2).toNat ≠ 0 ∧ xta e d (a1).toNat (a2).toNat = xcn (xwf e d) (xlots d).toNat) ∨ (z = 1 ∧ xta e d (a1).toNat (a2).toNat ≠ 0 ∧ xta e d (a1).toNat (a2).toNat ≠ xcn (xwf e d) (xlots d).toNat)) ∧ KNN T H' r0 e d))
set_option maxHeartbeats 4000000 in
theorem u_252 {kt : Nat → Option mc_E} {T : wq_T} {H : wq_H} {r0 : Nat} {a1 : Int} {a2 : Int} {e : xD} {d : xD} (hW : WT T H) (g0 : T.2.2.2 r0 = some 42) (i1 : (-2147483648) ≤ a1 ∧ a1 ≤ 2147483647) (i2 : (-2147483648) ≤ a2 ∧ a2 ≤ 2147483647) (p0 : wKI H r0 = 1) (p1 : XW d) (p2 : ∀ h : Nat, d 0 0 ≤ (h : Int) → h < 24 → e 13 h = 0) (p3 : XN d) (p4 : ∀ h : Nat, h < 24 → 0 ≤ e 13 h ∧ e 13 h ≤ 100) (hRB_r0 : RB T H r0 e d) (hKNN_r0 : KNN T H r0 e d) : wpc kt 9 252 [.ref r0, vI a1, vI a2] T H (uq_252 r0 a1 a2 e d T H) := by
  refine wp_enter e252 (Nat.le_of_ble_eq_true rfl) rfl ?_
  have f0 : wfr [(42, 0), (42, 1), (42, 2), (42, 28), (42, 29), (51, 999), (52, 999)] T H H := wfr.rf
  show wp _ _ 252 0 [(0, .ref r0), (1, vI a1), (2, vI a2)] [] _ H _
  have _b := RB_b hW hRB_r0
  have _nu := RB_n3 hRB_r0
  have _lm := RB_lm hRB_r0
  have _xw := (by assumption : XW d)
  refine wp_of e252 c252_0 (rw_aload_n (pc' := 1) (v := .ref r0) rfl rfl rfl ?_)
  refine wp_of e252 c252_1 (rw_iconst (pc' := 2) rfl ?_)
  refine wp_of e252 c252_2 (xp_I (pc' := 5) lf_9_48 hW g0 sh_42 (by decide) (by decide) ty_42_0 rfl rfl (by omega) (by omega) ⟨by omega, by omega⟩ rfl (fun H1380 e1381 w1382 => ?_))
  have f1383 := f0.put' e1381 g0 rfl
  have k1384 : H1380 r0 0 = 0 := wq_u_s e1381
  refine wp_of e252 c252_5 (rw_aload_n (pc' := 6) (v := .ref r0) rfl rfl rfl ?_)
  refine wp_of e252 c252_6 (rw_aload_n (pc' := 7) (v := .ref r0) rfl rfl rfl ?_)
  refine wp_of e252 c252_7 (rw_iload_n (pc' := 8) (z := a1) rfl rfl ?_)
  have h1385 : RB T H1380 r0 e d := (RB_fr hW g0 ((wfr.rf (l := [(42, 0)])).put' e1381 g0 rfl) rfl hRB_r0)
  refine wp_of e252 c252_8 (xc_V (pc' := 11) (r := r0) (as := [vI a1]) (st := [.ref r0]) (lm_9_364) rfl rfl (Nat.le_of_ble_eq_true rfl) w1382 g0 sh_42 (by decide) rfl (by decide) (u_213 (e := e) (d := d) w1382 g0 ⟨by omega, by omega⟩ h1385) (fun R1386 T1387 H1388 p1389 => ?_))
  obtain ⟨e1390, e1392, z1393, e1391, b1394, p1395⟩ := p1389
  subst e1390
  subst e1391
  subst e1392
  rcases p1395 with ⟨a1396, a1397⟩ | ⟨a1398, a1399⟩
  · show wp _ _ 252 11 [(0, .ref r0), (1, vI a1), (2, vI a2)] [vI z1393, .ref r0] _ H1380 _
    refine wp_of e252 c252_11 (rw_if_eq (p1 := 26) (p2 := 14) (by decide) rfl ⟨by omega, by omega⟩ (fun c1400 => ?_) (fun c1400 => ?_))
    · exfalso
      omega
    · refine wp_of e252 c252_14 (rw_aload_n (pc' := 15) (v := .ref r0) rfl rfl rfl ?_)
      refine wp_of e252 c252_15 (rw_iload_n (pc' := 16) (z := a2) rfl rfl ?_)
      refine wp_of e252 c252_16 (xc_V (pc' := 19) (r := r0) (as := [vI a2]) (st := [.ref r0]) (lm_9_373) rfl rfl (Nat.le_of_ble_eq_true rfl) w1382 g0 sh_42 (by decide) rfl (by decide) (u_218 (e := e) (d := d) w1382 g0 ⟨by omega, by omega⟩ h1385) (fun R1401 T1402 H1403 p1404 => ?_))
      obtain ⟨e1405, e1407, z1408, e1406, b1409, p1410⟩ := p1404
      subst e1405
      subst e1406
      subst e1407
      rcases p1410 with ⟨a1411, a1412⟩ | ⟨a1413, a1414⟩
      · show wp _ _ 252 19 [(0, .ref r0), (1, vI a1), (2, vI a2)] [vI z1408, .ref r0] _ H1380 _
        refine wp_of e252 c252_19 (rw_if_eq (p1 := 26) (p2 := 22) (by decide) rfl ⟨by omega, by omega⟩ (fun c1415 => ?_) (fun c1415 => ?_))
        · exfalso
          omega
        · refine wp_of e252 c252_22 (rw_iconst (pc' := 23) rfl ?_)
          refine wp_of e252 c252_23 (rw_goto (p1 := 27) (by decide) ?_)
          have k1416 : H1380 r0 3 = H r0 3 := (wq_u_j e1381 rfl)
          have k1417 : wKI H1380 r0 = wKI H r0 := (wKI_fr hW g0 ((wfr.rf (l := [(42, 0)])).put' e1381 g0 rfl) rfl)
          have h1418 : KNN T H1380 r0 e d := (KNN_fr hW g0 ((wfr.rf (l := [(42, 0)])).put' e1381 g0 rfl) rfl hKNN_r0)
          refine wp_of e252 c252_27 (xc_V (pc' := 30) (r := r0) (as := [vI 1]) (st := []) (lm_9_447) rfl rfl (Nat.le_of_ble_eq_true rfl) w1382 g0 sh_42 (by decide) rfl (by decide) (u_253 (e := e) (d := d) w1382 g0 ⟨by omega, by omega⟩ (by omega) (by omega) (by assumption) (by assumption) (by assumption) (by assumption) h1385 h1418) (fun R1419 T1420 H1421 p1422 => ?_))
          obtain ⟨e1423, w1425, f1426, z1427, e1424, b1428, p1429⟩ := p1422
          subst e1423
          subst e1424
          rcases p1429 with ⟨a1430, a1431, a1432, a1433, a1434, a1435, a1436, a1437, a1438, a1439⟩ | ⟨a1440, a1441, a1442, a1443, a1444, a1445, a1446⟩
          · have f1447 := f1383.tr f1426 rfl
            show wp _ _ 252 30 [(0, .ref r0), (1, vI a1), (2, vI a2)] [vI z1427] _ H1421 _
            refine wp_of e252 c252_30 (rw_istore_n (pc' := 31) (z := z1427) (L' := [(3, vI z1427), (0, .ref r0), (1, vI a1), (2, vI a2)]) rfl rfl rfl ?_)
            refine wp_of e252 c252_31 (rw_iload_n (pc' := 32) (z := z1427) rfl rfl ?_)
            obtain ⟨r1448, q1449, g1450⟩ := (w1425.opt g0 (t' := 54) (n := 33) (j := 3) (p := 0) (q := 0) rfl (by decide) rfl).resolve_left (by omega)
            have h1451 : RB T H1421 r0 e d := (RB_fr w1382 g0 f1426 rfl h1385)
            have _kbb := a1439
            have _kb := _kbb.1
            have _n3 : H1421 r0 3 ≠ -1 := by omega
            have _rp := RB_at h1451 q1449
            have _k := RP_k _rp
            have _nb := xcn_b (f := xwf e d) (xlots d).toNat
            have h1452 : KL T H1421 r0 (xwf e d) (xlots d).toNat := _kbb.2
            refine wp_of e252 c252_32 (rw_if_le (p1 := 41) (p2 := 35) (by decide) rfl ⟨by omega, by omega⟩ (fun c1453 => ?_) (fun c1453 => ?_))
            · refine wp_of e252 c252_41 (rw_aload_n (pc' := 42) (v := .ref r0) rfl rfl rfl ?_)
              refine wp_of e252 c252_42 (rw_iload_n (pc' := 43) (z := a1) rfl rfl ?_)
              refine wp_of e252 c252_43 (rw_iload_n (pc' := 44) (z := a2) rfl rfl ?_)
              refine wp_of e252 c252_44 (xc_V (pc' := 47) (r := r0) (as := [vI a1, vI a2]) (st := []) (lm_9_444) rfl rfl (Nat.le_of_ble_eq_true rfl) w1425 g0 sh_42 (by decide) rfl (by decide) (u_251 (e := e) (d := d) w1425 g0 ⟨by omega, by omega⟩ ⟨by omega, by omega⟩ q1449 g1450 (by assumption) (by omega) (by omega) (by omega) h1451 a1439) (fun R1454 T1455 H1456 p1457 => ?_))
              obtain ⟨e1458, w1460, f1461, z1462, e1459, b1463, p1464⟩ := p1457
              subst e1458
              subst e1459
              have f1466 := f1447.tr f1461 rfl
              show wp _ _ 252 47 [(3, vI z1427), (0, .ref r0), (1, vI a1), (2, vI a2)] [vI z1462] _ H1456 _
              refine wp_of e252 c252_47 (rw_istore (pc' := 49) (z := z1462) (L' := [(4, vI z1462), (3, vI z1427), (0, .ref r0), (1, vI a1), (2, vI a2)]) rfl rfl rfl ?_)
              refine wp_of e252 c252_49 (rw_aload_n (pc' := 50) (v := .ref r0) rfl rfl rfl ?_)
              refine wp_of e252 c252_50 (rw_iload (pc' := 52) (z := z1462) rfl rfl ?_)
              refine wp_of e252 c252_52 (rw_aload_n (pc' := 53) (v := .ref r0) rfl rfl rfl ?_)
              refine wp_of e252 c252_53 (xg_I (pc' := 56) lf_9_422 w1460 g0 sh_42 (by decide) (by decide) ty_42_29 rfl rfl (fun b1467 b1468 => ?_))
              refine wp_of e252 c252_56 (rw_icmp_ne (p1 := 63) (p2 := 59) (by decide) rfl ⟨by omega, by omega⟩ ⟨by omega, by omega⟩ (fun c1469 => ?_) (fun c1469 => ?_))
              · refine wp_of e252 c252_63 (rw_iload (pc' := 65) (z := z1462) rfl rfl ?_)
                refine wp_of e252 c252_65 (rw_if_ne (p1 := 72) (p2 := 68) (by decide) rfl ⟨by omega, by omega⟩ (fun c1470 => ?_) (fun c1470 => ?_))
                · refine wp_of e252 c252_72 (rw_iconst (pc' := 73) rfl ?_)
                  refine wp_of e252 c252_73 (xc_V (pc' := 76) (r := r0) (as := [vI 1]) (st := []) (lm_9_58) rfl rfl (Nat.le_of_ble_eq_true rfl) w1460 g0 sh_42 (by decide) rfl (by decide) (u_209  w1460 g0 ⟨by omega, by omega⟩) (fun R1471 T1472 H1473 p1474 => ?_))
                  obtain ⟨e1475, w1477, f1478, z1479, e1476, b1480, p1481⟩ := p1474
                  subst e1475
                  subst e1476
                  obtain ⟨a1482, a1483, a1484⟩ := p1481
                  have f1485 := f1466.tr f1478 rfl
                  show wp _ _ 252 76 [(4, vI z1462), (3, vI z1427), (0, .ref r0), (1, vI a1), (2, vI a2)] [vI z1479] _ H1473 _
                  have k1486 : wKI H1473 r0 = wKI H1421 r0 := ((wKI_fr w1460 g0 f1478 rfl).trans (wKI_fr w1425 g0 f1461 rfl))
                  have h1487 : KNN T H1473 r0 e d := (KNN_fr w1460 g0 f1478 rfl (KNN_fr w1425 g0 f1461 rfl a1438))
                  exact wp_ireturn e252 c252_76 rfl ⟨rfl, w1477, f1485, z1479, rfl, ⟨by omega, by omega⟩, (Or.inr ⟨by omega, by omega, by omega, h1487⟩)⟩
                · refine wp_of e252 c252_68 (rw_iconst (pc' := 69) rfl ?_)
                  refine wp_of e252 c252_69 (rw_goto (p1 := 73) (by decide) ?_)
                  refine wp_of e252 c252_73 (xc_V (pc' := 76) (r := r0) (as := [vI 0]) (st := []) (lm_9_58) rfl rfl (Nat.le_of_ble_eq_true rfl) w1460 g0 sh_42 (by decide) rfl (by decide) (u_209  w1460 g0 ⟨by omega, by omega⟩) (fun R1488 T1489 H1490 p1491 => ?_))
                  obtain ⟨e1492, w1494, f1495, z1496, e1493, b1497, p1498⟩ := p1491
                  subst e1492
                  subst e1493
                  obtain ⟨a1499, a1500, a1501⟩ := p1498
                  have f1502 := f1466.tr f1495 rfl
                  show wp _ _ 252 76 [(4, vI z1462), (3, vI z1427), (0, .ref r0), (1, vI a1), (2, vI a2)] [vI z1496] _ H1490 _
                  have k1503 : wKI H1490 r0 = wKI H1421 r0 := ((wKI_fr w1460 g0 f1495 rfl).trans (wKI_fr w1425 g0 f1461 rfl))
                  have h1504 : KNN T H1490 r0 e d := (KNN_fr w1460 g0 f1495 rfl (KNN_fr w1425 g0 f1461 rfl a1438))
                  exact wp_ireturn e252 c252_76 rfl ⟨rfl, w1494, f1502, z1496, rfl, ⟨by omega, by omega⟩, (Or.inr ⟨by omega, by omega, by omega, h1504⟩)⟩
              · refine wp_of e252 c252_59 (rw_iconst (pc' := 60) rfl ?_)
                refine wp_of e252 c252_60 (rw_goto (p1 := 73) (by decide) ?_)
                refine wp_of e252 c252_73 (xc_V (pc' := 76) (r := r0) (as := [vI 2]) (st := []) (lm_9_58) rfl rfl (Nat.le_of_ble_eq_true rfl) w1460 g0 sh_42 (by decide) rfl (by decide) (u_209  w1460 g0 ⟨by omega, by omega⟩) (fun R1505 T1506 H1507 p1508 => ?_))
                obtain ⟨e1509, w1511, f1512, z1513, e1510, b1514, p1515⟩ := p1508
                subst e1509
                subst e1510
                obtain ⟨a1516, a1517, a1518⟩ := p1515
                have f1519 := f1466.tr f1512 rfl
                show wp _ _ 252 76 [(4, vI z1462), (3, vI z1427), (0, .ref r0), (1, vI a1), (2, vI a2)] [vI z1513] _ H1507 _
                have k1520 : wKI H1507 r0 = wKI H1421 r0 := ((wKI_fr w1460 g0 f1512 rfl).trans (wKI_fr w1425 g0 f1461 rfl))
                have h1521 : KNN T H1507 r0 e d := (KNN_fr w1460 g0 f1512 rfl (KNN_fr w1425 g0 f1461 rfl a1438))
                exact wp_ireturn e252 c252_76 rfl ⟨rfl, w1511, f1519, z1513, rfl, ⟨by omega, by omega⟩, (Or.inr ⟨by omega, by omega, by omega, h1521⟩)⟩
            · exfalso
              omega
          · have f1522 := f1383.tr f1426 rfl
            show wp _ _ 252 30 [(0, .ref r0), (1, vI a1), (2, vI a2)] [vI z1427] _ H1421 _
            refine wp_of e252 c252_30 (rw_istore_n (pc' := 31) (z := z1427) (L' := [(3, vI z1427), (0, .ref r0), (1, vI a1), (2, vI a2)]) rfl rfl rfl ?_)
            refine wp_of e252 c252_31 (rw_iload_n (pc' := 32) (z := z1427) rfl rfl ?_)
            refine wp_of e252 c252_32 (rw_if_le (p1 := 41) (p2 := 35) (by decide) rfl ⟨by omega, by omega⟩ (fun c1523 => ?_) (fun c1523 => ?_))
            · exfalso
              omega
            · refine wp_of e252 c252_35 (rw_aload_n (pc' := 36) (v := .ref r0) rfl rfl rfl ?_)
              refine wp_of e252 c252_36 (rw_iload_n (pc' := 37) (z := z1427) rfl rfl ?_)
              refine wp_of e252 c252_37 (xc_V (pc' := 40) (r := r0) (as := [vI z1427]) (st := []) (lm_9_54) rfl rfl (Nat.le_of_ble_eq_true rfl) w1425 g0 sh_42 (by decide) rfl (by decide) (u_170  w1425 g0 ⟨by omega, by omega⟩) (fun R1524 T1525 H1526 p1527 => ?_))
              obtain ⟨e1528, w1530, f1531, z1532, e1529, b1533, p1534⟩ := p1527
              subst e1528
              subst e1529
              obtain ⟨a1535, a1536, a1537⟩ := p1534
              have f1538 := f1522.tr f1531 rfl
              show wp _ _ 252 40 [(3, vI z1427), (0, .ref r0), (1, vI a1), (2, vI a2)] [vI z1532] _ H1526 _
              have k1539 : wKI H1526 r0 = wKI H1421 r0 := (wKI_fr w1425 g0 f1531 rfl)
              have h1540 : KNN T H1526 r0 e d := (KNN_fr w1425 g0 f1531 rfl a1446)
              exact wp_ireturn e252 c252_40 rfl ⟨rfl, w1530, f1538, z1532, rfl, ⟨by omega, by omega⟩, (Or.inl ⟨by omega, by omega, by omega, h1540⟩)⟩
      · show wp _ _ 252 19 [(0, .ref r0), (1, vI a1), (2, vI a2)] [vI z1408, .ref r0] _ H1380 _
        refine wp_of e252 c252_19 (rw_if_eq (p1 := 26) (p2 := 22) (by decide) rfl ⟨by omega, by omega⟩ (fun c1541 => ?_) (fun c1541 => ?_))
        · refine wp_of e252 c252_26 (rw_iconst (pc' := 27) rfl ?_)
          have k1542 : H1380 r0 3 = H r0 3 := (wq_u_j e1381 rfl)
          have k1543 : wKI H1380 r0 = wKI H r0 := (wKI_fr hW g0 ((wfr.rf (l := [(42, 0)])).put' e1381 g0 rfl) rfl)
          have h1544 : KNN T H1380 r0 e d := (KNN_fr hW g0 ((wfr.rf (l := [(42, 0)])).put' e1381 g0 rfl) rfl hKNN_r0)
          refine wp_of e252 c252_27 (xc_V (pc' := 30) (r := r0) (as := [vI 0]) (st := []) (lm_9_447) rfl rfl (Nat.le_of_ble_eq_true rfl) w1382 g0 sh_42 (by decide) rfl (by decide) (u_253 (e := e) (d := d) w1382 g0 ⟨by omega, by omega⟩ (by omega) (by omega) (by assumption) (by assumption) (by assumption) (by assumption) h1385 h1544) (fun R1545 T1546 H1547 p1548 => ?_))
          obtain ⟨e1549, w1551, f1552, z1553, e1550, b1554, p1555⟩ := p1548
          subst e1549
          subst e1550
          rcases p1555 with ⟨a1556, a1557, a1558, a1559, a1560, a1561, a1562, a1563, a1564, a1565⟩ | ⟨a1566, a1567, a1568, a1569, a1570, a1571, a1572⟩
          · have f1573 := f1383.tr f1552 rfl
            show wp _ _ 252 30 [(0, .ref r0), (1, vI a1), (2, vI a2)] [vI z1553] _ H1547 _
            refine wp_of e252 c252_30 (rw_istore_n (pc' := 31) (z := z1553) (L' := [(3, vI z1553), (0, .ref r0), (1, vI a1), (2, vI a2)]) rfl rfl rfl ?_)
            refine wp_of e252 c252_31 (rw_iload_n (pc' := 32) (z := z1553) rfl rfl ?_)
            obtain ⟨r1574, q1575, g1576⟩ := (w1551.opt g0 (t' := 54) (n := 33) (j := 3) (p := 0) (q := 0) rfl (by decide) rfl).resolve_left (by omega)
            have h1577 : RB T H1547 r0 e d := (RB_fr w1382 g0 f1552 rfl h1385)
            have _kbb := a1565
            have _kb := _kbb.1
            have _n3 : H1547 r0 3 ≠ -1 := by omega
            have _rp := RB_at h1577 q1575
            have _k := RP_k _rp
            have _nb := xcn_b (f := xwf e d) (xlots d).toNat
            have h1578 : KL T H1547 r0 (xwf e d) (xlots d).toNat := _kbb.2
            refine wp_of e252 c252_32 (rw_if_le (p1 := 41) (p2 := 35) (by decide) rfl ⟨by omega, by omega⟩ (fun c1579 => ?_) (fun c1579 => ?_))
            · refine wp_of e252 c252_41 (rw_aload_n (pc' := 42) (v := .ref r0) rfl rfl rfl ?_)
              refine wp_of e252 c252_42 (rw_iload_n (pc' := 43) (z := a1) rfl rfl ?_)
              refine wp_of e252 c252_43 (rw_iload_n (pc' := 44) (z := a2) rfl rfl ?_)
              refine wp_of e252 c252_44 (xc_V (pc' := 47) (r := r0) (as := [vI a1, vI a2]) (st := []) (lm_9_444) rfl rfl (Nat.le_of_ble_eq_true rfl) w1551 g0 sh_42 (by decide) rfl (by decide) (u_251 (e := e) (d := d) w1551 g0 ⟨by omega, by omega⟩ ⟨by omega, by omega⟩ q1575 g1576 (by assumption) (by omega) (by omega) (by omega) h1577 a1565) (fun R1580 T1581 H1582 p1583 => ?_))
              obtain ⟨e1584, w1586, f1587, z1588, e1585, b1589, p1590⟩ := p1583
              subst e1584
              subst e1585
              have f1592 := f1573.tr f1587 rfl
              show wp _ _ 252 47 [(3, vI z1553), (0, .ref r0), (1, vI a1), (2, vI a2)] [vI z1588] _ H1582 _
              refine wp_of e252 c252_47 (rw_istore (pc' := 49) (z := z1588) (L' := [(4, vI z1588), (3, vI z1553), (0, .ref r0), (1, vI a1), (2, vI a2)]) rfl rfl rfl ?_)
              refine wp_of e252 c252_49 (rw_aload_n (pc' := 50) (v := .ref r0) rfl rfl rfl ?_)
              refine wp_of e252 c252_50 (rw_iload (pc' := 52) (z := z1588) rfl rfl ?_)
              refine wp_of e252 c252_52 (rw_aload_n (pc' := 53) (v := .ref r0) rfl rfl rfl ?_)
              refine wp_of e252 c252_53 (xg_I (pc' := 56) lf_9_422 w1586 g0 sh_42 (by decide) (by decide) ty_42_29 rfl rfl (fun b1593 b1594 => ?_))
              refine wp_of e252 c252_56 (rw_icmp_ne (p1 := 63) (p2 := 59) (by decide) rfl ⟨by omega, by omega⟩ ⟨by omega, by omega⟩ (fun c1595 => ?_) (fun c1595 => ?_))
              · refine wp_of e252 c252_63 (rw_iload (pc' := 65) (z := z1588) rfl rfl ?_)
                refine wp_of e252 c252_65 (rw_if_ne (p1 := 72) (p2 := 68) (by decide) rfl ⟨by omega, by omega⟩ (fun c1596 => ?_) (fun c1596 => ?_))
                · refine wp_of e252 c252_72 (rw_iconst (pc' := 73) rfl ?_)
                  refine wp_of e252 c252_73 (xc_V (pc' := 76) (r := r0) (as := [vI 1]) (st := []) (lm_9_58) rfl rfl (Nat.le_of_ble_eq_true rfl) w1586 g0 sh_42 (by decide) rfl (by decide) (u_209  w1586 g0 ⟨by omega, by omega⟩) (fun R1597 T1598 H1599 p1600 => ?_))
                  obtain ⟨e1601, w1603, f1604, z1605, e1602, b1606, p1607⟩ := p1600
                  subst e1601
                  subst e1602
                  obtain ⟨a1608, a1609, a1610⟩ := p1607
                  have f1611 := f1592.tr f1604 rfl
                  show wp _ _ 252 76 [(4, vI z1588), (3, vI z1553), (0, .ref r0), (1, vI a1), (2, vI a2)] [vI z1605] _ H1599 _
                  have k1612 : wKI H1599 r0 = wKI H1547 r0 := ((wKI_fr w1586 g0 f1604 rfl).trans (wKI_fr w1551 g0 f1587 rfl))
                  have h1613 : KNN T H1599 r0 e d := (KNN_fr w1586 g0 f1604 rfl (KNN_fr w1551 g0 f1587 rfl a1564))
                  exact wp_ireturn e252 c252_76 rfl ⟨rfl, w1603, f1611, z1605, rfl, ⟨by omega, by omega⟩, (Or.inr ⟨by omega, by omega, by omega, h1613⟩)⟩
                · refine wp_of e252 c252_68 (rw_iconst (pc' := 69) rfl ?_)
                  refine wp_of e252 c252_69 (rw_goto (p1 := 73) (by decide) ?_)
                  refine wp_of e252 c252_73 (xc_V (pc' := 76) (r := r0) (as := [vI 0]) (st := []) (lm_9_58) rfl rfl (Nat.le_of_ble_eq_true rfl) w1586 g0 sh_42 (by decide) rfl (by decide) (u_209  w1586 g0 ⟨by omega, by omega⟩) (fun R1614 T1615 H1616 p1617 => ?_))
                  obtain ⟨e1618, w1620, f1621, z1622, e1619, b1623, p1624⟩ := p1617
                  subst e1618
                  subst e1619
                  obtain ⟨a1625, a1626, a1627⟩ := p1624
                  have f1628 := f1592.tr f1621 rfl
                  show wp _ _ 252 76 [(4, vI z1588), (3, vI z1553), (0, .ref r0), (1, vI a1), (2, vI a2)] [vI z1622] _ H1616 _
                  have k1629 : wKI H1616 r0 = wKI H1547 r0 := ((wKI_fr w1586 g0 f1621 rfl).trans (wKI_fr w1551 g0 f1587 rfl))
                  have h1630 : KNN T H1616 r0 e d := (KNN_fr w1586 g0 f1621 rfl (KNN_fr w1551 g0 f1587 rfl a1564))
                  exact wp_ireturn e252 c252_76 rfl ⟨rfl, w1620, f1628, z1622, rfl, ⟨by omega, by omega⟩, (Or.inr ⟨by omega, by omega, by omega, h1630⟩)⟩
              · refine wp_of e252 c252_59 (rw_iconst (pc' := 60) rfl ?_)
                refine wp_of e252 c252_60 (rw_goto (p1 := 73) (by decide) ?_)
                refine wp_of e252 c252_73 (xc_V (pc' := 76) (r := r0) (as := [vI 2]) (st := []) (lm_9_58) rfl rfl (Nat.le_of_ble_eq_true rfl) w1586 g0 sh_42 (by decide) rfl (by decide) (u_209  w1586 g0 ⟨by omega, by omega⟩) (fun R1631 T1632 H1633 p1634 => ?_))
                obtain ⟨e1635, w1637, f1638, z1639, e1636, b1640, p1641⟩ := p1634
                subst e1635
                subst e1636
                obtain ⟨a1642, a1643, a1644⟩ := p1641
                have f1645 := f1592.tr f1638 rfl
                show wp _ _ 252 76 [(4, vI z1588), (3, vI z1553), (0, .ref r0), (1, vI a1), (2, vI a2)] [vI z1639] _ H1633 _
                have k1646 : wKI H1633 r0 = wKI H1547 r0 := ((wKI_fr w1586 g0 f1638 rfl).trans (wKI_fr w1551 g0 f1587 rfl))
                have h1647 : KNN T H1633 r0 e d := (KNN_fr w1586 g0 f1638 rfl (KNN_fr w1551 g0 f1587 rfl a1564))
                exact wp_ireturn e252 c252_76 rfl ⟨rfl, w1637, f1645, z1639, rfl, ⟨by omega, by omega⟩, (Or.inr ⟨by omega, by omega, by omega, h1647⟩)⟩
            · exfalso
              omega
          · have f1648 := f1383.tr f1552 rfl
            show wp _ _ 252 30 [(0, .ref r0), (1, vI a1), (2, vI a2)] [vI z1553] _ H1547 _
            refine wp_of e252 c252_30 (rw_istore_n (pc' := 31) (z := z1553) (L' := [(3, vI z1553), (0, .ref r0), (1, vI a1), (2, vI a2)]) rfl rfl rfl ?_)
            refine wp_of e252 c252_31 (rw_iload_n (pc' := 32) (z := z1553) rfl rfl ?_)
            refine wp_of e252 c252_32 (rw_if_le (p1 := 41) (p2 := 35) (by decide) rfl ⟨by omega, by omega⟩ (fun c1649 => ?_) (fun c1649 => ?_))
            · exfalso
              omega
            · refine wp_of e252 c252_35 (rw_aload_n (pc' := 36) (v := .ref r0) rfl rfl rfl ?_)
              refine wp_of e252 c252_36 (rw_iload_n (pc' := 37) (z := z1553) rfl rfl ?_)
              refine wp_of e252 c252_37 (xc_V (pc' := 40) (r := r0) (as := [vI z1553]) (st := []) (lm_9_54) rfl rfl (Nat.le_of_ble_eq_true rfl) w1551 g0 sh_42 (by decide) rfl (by decide) (u_170  w1551 g0 ⟨by omega, by omega⟩) (fun R1650 T1651 H1652 p1653 => ?_))
              obtain ⟨e1654, w1656, f1657, z1658, e1655, b1659, p1660⟩ := p1653
              subst e1654
              subst e1655
              obtain ⟨a1661, a1662, a1663⟩ := p1660
              have f1664 := f1648.tr f1657 rfl
              show wp _ _ 252 40 [(3, vI z1553), (0, .ref r0), (1, vI a1), (2, vI a2)] [vI z1658] _ H1652 _
              have k1665 : wKI H1652 r0 = wKI H1547 r0 := (wKI_fr w1551 g0 f1657 rfl)
              have h1666 : KNN T H1652 r0 e d := (KNN_fr w1551 g0 f1657 rfl a1572)
              exact wp_ireturn e252 c252_40 rfl ⟨rfl, w1656, f1664, z1658, rfl, ⟨by omega, by omega⟩, (Or.inl ⟨by omega, by omega, by omega, h1666⟩)⟩
        · exfalso
          omega
  · show wp _ _ 252 11 [(0, .ref r0), (1, vI a1), (2, vI a2)] [vI z1393, .ref r0] _ H1380 _
    refine wp_of e252 c252_11 (rw_if_eq (p1 := 26) (p2 := 14) (by decide) rfl ⟨by omega, by omega⟩ (fun c1667 => ?_) (fun c1667 => ?_))
    · refine wp_of e252 c252_26 (rw_iconst (pc' := 27) rfl ?_)
      have k1668 : H1380 r0 3 = H r0 3 := (wq_u_j e1381 rfl)
      have k1669 : wKI H1380 r0 = wKI H r0 := (wKI_fr hW g0 ((wfr.rf (l := [(42, 0)])).put' e1381 g0 rfl) rfl)
      have h1670 : KNN T H1380 r0 e d := (KNN_fr hW g0 ((wfr.rf (l := [(42, 0)])).put' e1381 g0 rfl) rfl hKNN_r0)
      refine wp_of e252 c252_27 (xc_V (pc' := 30) (r := r0) (as := [vI 0]) (st := []) (lm_9_447) rfl rfl (Nat.le_of_ble_eq_true rfl) w1382 g0 sh_42 (by decide) rfl (by decide) (u_253 (e := e) (d := d) w1382 g0 ⟨by omega, by omega⟩ (by omega) (by omega) (by assumption) (by assumption) (by assumption) (by assumption) h1385 h1670) (fun R1671 T1672 H1673 p1674 => ?_))
      obtain ⟨e1675, w1677, f1678, z1679, e1676, b1680, p1681⟩ := p1674
      subst e1675
      subst e1676
      rcases p1681 with ⟨a1682, a1683, a1684, a1685, a1686, a1687, a1688, a1689, a1690, a1691⟩ | ⟨a1692, a1693, a1694, a1695, a1696, a1697, a1698⟩
      · have f1699 := f1383.tr f1678 rfl
        show wp _ _ 252 30 [(0, .ref r0), (1, vI a1), (2, vI a2)] [vI z1679] _ H1673 _
        refine wp_of e252 c252_30 (rw_istore_n (pc' := 31) (z := z1679) (L' := [(3, vI z1679), (0, .ref r0), (1, vI a1), (2, vI a2)]) rfl rfl rfl ?_)
        refine wp_of e252 c252_31 (rw_iload_n (pc' := 32) (z := z1679) rfl rfl ?_)
        obtain ⟨r1700, q1701, g1702⟩ := (w1677.opt g0 (t' := 54) (n := 33) (j := 3) (p := 0) (q := 0) rfl (by decide) rfl).resolve_left (by omega)
        have h1703 : RB T H1673 r0 e d := (RB_fr w1382 g0 f1678 rfl h1385)
        have _kbb := a1691
        have _kb := _kbb.1
        have _n3 : H1673 r0 3 ≠ -1 := by omega
        have _rp := RB_at h1703 q1701
        have _k := RP_k _rp
        have _nb := xcn_b (f := xwf e d) (xlots d).toNat
        have h1704 : KL T H1673 r0 (xwf e d) (xlots d).toNat := _kbb.2
        refine wp_of e252 c252_32 (rw_if_le (p1 := 41) (p2 := 35) (by decide) rfl ⟨by omega, by omega⟩ (fun c1705 => ?_) (fun c1705 => ?_))
        · refine wp_of e252 c252_41 (rw_aload_n (pc' := 42) (v := .ref r0) rfl rfl rfl ?_)
          refine wp_of e252 c252_42 (rw_iload_n (pc' := 43) (z := a1) rfl rfl ?_)
          refine wp_of e252 c252_43 (rw_iload_n (pc' := 44) (z := a2) rfl rfl ?_)
          refine wp_of e252 c252_44 (xc_V (pc' := 47) (r := r0) (as := [vI a1, vI a2]) (st := []) (lm_9_444) rfl rfl (Nat.le_of_ble_eq_true rfl) w1677 g0 sh_42 (by decide) rfl (by decide) (u_251 (e := e) (d := d) w1677 g0 ⟨by omega, by omega⟩ ⟨by omega, by omega⟩ q1701 g1702 (by assumption) (by omega) (by omega) (by omega) h1703 a1691) (fun R1706 T1707 H1708 p1709 => ?_))
          obtain ⟨e1710, w1712, f1713, z1714, e1711, b1715, p1716⟩ := p1709
          subst e1710
          subst e1711
          have f1718 := f1699.tr f1713 rfl
          show wp _ _ 252 47 [(3, vI z1679), (0, .ref r0), (1, vI a1), (2, vI a2)] [vI z1714] _ H1708 _
          refine wp_of e252 c252_47 (rw_istore (pc' := 49) (z := z1714) (L' := [(4, vI z1714), (3, vI z1679), (0, .ref r0), (1, vI a1), (2, vI a2)]) rfl rfl rfl ?_)
          refine wp_of e252 c252_49 (rw_aload_n (pc' := 50) (v := .ref r0) rfl rfl rfl ?_)
          refine wp_of e252 c252_50 (rw_iload (pc' := 52) (z := z1714) rfl rfl ?_)
          refine wp_of e252 c252_52 (rw_aload_n (pc' := 53) (v := .ref r0) rfl rfl rfl ?_)
          refine wp_of e252 c252_53 (xg_I (pc' := 56) lf_9_422 w1712 g0 sh_42 (by decide) (by decide) ty_42_29 rfl rfl (fun b1719 b1720 => ?_))
          refine wp_of e252 c252_56 (rw_icmp_ne (p1 := 63) (p2 := 59) (by decide) rfl ⟨by omega, by omega⟩ ⟨by omega, by omega⟩ (fun c1721 => ?_) (fun c1721 => ?_))
          · refine wp_of e252 c252_63 (rw_iload (pc' := 65) (z := z1714) rfl rfl ?_)
            refine wp_of e252 c252_65 (rw_if_ne (p1 := 72) (p2 := 68) (by decide) rfl ⟨by omega, by omega⟩ (fun c1722 => ?_) (fun c1722 => ?_))
            · refine wp_of e252 c252_72 (rw_iconst (pc' := 73) rfl ?_)
              refine wp_of e252 c252_73 (xc_V (pc' := 76) (r := r0) (as := [vI 1]) (st := []) (lm_9_58) rfl rfl (Nat.le_of_ble_eq_true rfl) w1712 g0 sh_42 (by decide) rfl (by decide) (u_209  w1712 g0 ⟨by omega, by omega⟩) (fun R1723 T1724 H1725 p1726 => ?_))
              obtain ⟨e1727, w1729, f1730, z1731, e1728, b1732, p1733⟩ := p1726
              subst e1727
              subst e1728
              obtain ⟨a1734, a1735, a1736⟩ := p1733
              have f1737 := f1718.tr f1730 rfl
              show wp _ _ 252 76 [(4, vI z1714), (3, vI z1679), (0, .ref r0), (1, vI a1), (2, vI a2)] [vI z1731] _ H1725 _
              have k1738 : wKI H1725 r0 = wKI H1673 r0 := ((wKI_fr w1712 g0 f1730 rfl).trans (wKI_fr w1677 g0 f1713 rfl))
              have h1739 : KNN T H1725 r0 e d := (KNN_fr w1712 g0 f1730 rfl (KNN_fr w1677 g0 f1713 rfl a1690))
              exact wp_ireturn e252 c252_76 rfl ⟨rfl, w1729, f1737, z1731, rfl, ⟨by omega, by omega⟩, (Or.inr ⟨by omega, by omega, by omega, h1739⟩)⟩
            · refine wp_of e252 c252_68 (rw_iconst (pc' := 69) rfl ?_)
              refine wp_of e252 c252_69 (rw_goto (p1 := 73) (by decide) ?_)
              refine wp_of e252 c252_73 (xc_V (pc' := 76) (r := r0) (as := [vI 0]) (st := []) (lm_9_58) rfl rfl (Nat.le_of_ble_eq_true rfl) w1712 g0 sh_42 (by decide) rfl (by decide) (u_209  w1712 g0 ⟨by omega, by omega⟩) (fun R1740 T1741 H1742 p1743 => ?_))
              obtain ⟨e1744, w1746, f1747, z1748, e1745, b1749, p1750⟩ := p1743
              subst e1744
              subst e1745
              obtain ⟨a1751, a1752, a1753⟩ := p1750
              have f1754 := f1718.tr f1747 rfl
              show wp _ _ 252 76 [(4, vI z1714), (3, vI z1679), (0, .ref r0), (1, vI a1), (2, vI a2)] [vI z1748] _ H1742 _
              have k1755 : wKI H1742 r0 = wKI H1673 r0 := ((wKI_fr w1712 g0 f1747 rfl).trans (wKI_fr w1677 g0 f1713 rfl))
              have h1756 : KNN T H1742 r0 e d := (KNN_fr w1712 g0 f1747 rfl (KNN_fr w1677 g0 f1713 rfl a1690))
              exact wp_ireturn e252 c252_76 rfl ⟨rfl, w1746, f1754, z1748, rfl, ⟨by omega, by omega⟩, (Or.inr ⟨by omega, by omega, by omega, h1756⟩)⟩
          · refine wp_of e252 c252_59 (rw_iconst (pc' := 60) rfl ?_)
            refine wp_of e252 c252_60 (rw_goto (p1 := 73) (by decide) ?_)
            refine wp_of e252 c252_73 (xc_V (pc' := 76) (r := r0) (as := [vI 2]) (st := []) (lm_9_58) rfl rfl (Nat.le_of_ble_eq_true rfl) w1712 g0 sh_42 (by decide) rfl (by decide) (u_209  w1712 g0 ⟨by omega, by omega⟩) (fun R1757 T1758 H1759 p1760 => ?_))
            obtain ⟨e1761, w1763, f1764, z1765, e1762, b1766, p1767⟩ := p1760
            subst e1761
            subst e1762
            obtain ⟨a1768, a1769, a1770⟩ := p1767
            have f1771 := f1718.tr f1764 rfl
            show wp _ _ 252 76 [(4, vI z1714), (3, vI z1679), (0, .ref r0), (1, vI a1), (2, vI a2)] [vI z1765] _ H1759 _
            have k1772 : wKI H1759 r0 = wKI H1673 r0 := ((wKI_fr w1712 g0 f1764 rfl).trans (wKI_fr w1677 g0 f1713 rfl))
            have h1773 : KNN T H1759 r0 e d := (KNN_fr w1712 g0 f1764 rfl (KNN_fr w1677 g0 f1713 rfl a1690))
            exact wp_ireturn e252 c252_76 rfl ⟨rfl, w1763, f1771, z1765, rfl, ⟨by omega, by omega⟩, (Or.inr ⟨by omega, by omega, by omega, h1773⟩)⟩
        · exfalso
          omega
      · have f1774 := f1383.tr f1678 rfl
        show wp _ _ 252 30 [(0, .ref r0), (1, vI a1), (2, vI a2)] [vI z1679] _ H1673 _
        refine wp_of e252 c252_30 (rw_istore_n (pc' := 31) (z := z1679) (L' := [(3, vI z1679), (0, .ref r0), (1, vI a1), (2, vI a2)]) rfl rfl rfl ?_)
        refine wp_of e252 c252_31 (rw_iload_n (pc' := 32) (z := z1679) rfl rfl ?_)
        refine wp_of e252 c252_32 (rw_if_le (p1 := 41) (p2 := 35) (by decide) rfl ⟨by omega, by omega⟩ (fun c1775 => ?_) (fun c1775 => ?_))
        · exfalso
          omega
        · refine wp_of e252 c252_35 (rw_aload_n (pc' := 36) (v := .ref r0) rfl rfl rfl ?_)
          refine wp_of e252 c252_36 (rw_iload_n (pc' := 37) (z := z1679) rfl rfl ?_)
          refine wp_of e252 c252_37 (xc_V (pc' := 40) (r := r0) (as := [vI z1679]) (st := []) (lm_9_54) rfl rfl (Nat.le_of_ble_eq_true rfl) w1677 g0 sh_42 (by decide) rfl (by decide) (u_170  w1677 g0 ⟨by omega, by omega⟩) (fun R1776 T1777 H1778 p1779 => ?_))
          obtain ⟨e1780, w1782, f1783, z1784, e1781, b1785, p1786⟩ := p1779
          subst e1780
          subst e1781
          obtain ⟨a1787, a1788, a1789⟩ := p1786
          have f1790 := f1774.tr f1783 rfl
          show wp _ _ 252 40 [(3, vI z1679), (0, .ref r0), (1, vI a1), (2, vI a2)] [vI z1784] _ H1778 _
          have k1791 : wKI H1778 r0 = wKI H1673 r0 := (wKI_fr w1677 g0 f1783 rfl)
          have h1792 : KNN T H1778 r0 e d := (KNN_fr w1677 g0 f1783 rfl a1698)
          exact wp_ireturn e252 c252_40 rfl ⟨rfl, w1782, f1790, z1784, rfl, ⟨by omega, by omega⟩, (Or.inl ⟨by omega, by omega, by omega, h1792⟩)⟩
    · exfalso
      omega
/-! StrikeAwakeModel.surely(IZ)I  -/
abbrev uq_254 (r0 : Nat) (a1 : Int) (a2 : Int) (e : xD) (d : xD) (T : wq_T) (H : wq_H) : Option Value → wq_T → wq_H → Prop := fun r T' H' => T = T' ∧ WT T H' ∧ wfr [(42, 0), (42, 1), (42, 2), (42, 28), (42, 29), (51, 999), (52, 999)] T H H' ∧ ∃ z : Int, some (vI z) = r ∧ ((-2147483648) ≤ z ∧ z ≤ 2147483647) ∧ (((wKI H' r0 = 1) ∧ KNN T H' r0 e d))
set_option maxHeartbeats 4000000 in
theorem u_254 {kt : Nat → Option mc_E} {T : wq_T} {H : wq_H} {r0 : Nat} {a1 : Int} {a2 : Int} {e : xD} {d : xD} (hW : WT T H) (g0 : T.2.2.2 r0 = some 42) (i1 : (-2147483648) ≤ a1 ∧ a1 ≤ 2147483647) (i2 : 0 ≤ a2 ∧ a2 ≤ 1) (p0 : wKI H r0 = 1) (p1 : XW d) (p2 : ∀ h : Nat, d 0 0 ≤ (h : Int) → h < 24 → e 13 h = 0) (p3 : XN d) (p4 : ∀ h : Nat, h < 24 → 0 ≤ e 13 h ∧ e 13 h ≤ 100) (hRB_r0 : RB T H r0 e d) (hKNN_r0 : KNN T H r0 e d) : wpc kt 9 254 [.ref r0, vI a1, vI a2] T H (uq_254 r0 a1 a2 e d T H) := by
  refine wp_enter e254 (Nat.le_of_ble_eq_true rfl) rfl ?_
  have f0 : wfr [(42, 0), (42, 1), (42, 2), (42, 28), (42, 29), (51, 999), (52, 999)] T H H := wfr.rf
  show wp _ _ 254 0 [(0, .ref r0), (1, vI a1), (2, vI a2)] [] _ H _
  have _b := RB_b hW hRB_r0
  have _nu := RB_n3 hRB_r0
  have _lm := RB_lm hRB_r0
  refine wp_of e254 c254_0 (rw_aload_n (pc' := 1) (v := .ref r0) rfl rfl rfl ?_)
  refine wp_of e254 c254_1 (rw_iconst (pc' := 2) rfl ?_)
  refine wp_of e254 c254_2 (xp_I (pc' := 5) lf_9_48 hW g0 sh_42 (by decide) (by decide) ty_42_0 rfl rfl (by omega) (by omega) ⟨by omega, by omega⟩ rfl (fun H1353 e1354 w1355 => ?_))
  have f1356 := f0.put' e1354 g0 rfl
  have k1357 : H1353 r0 0 = 0 := wq_u_s e1354
  refine wp_of e254 c254_5 (rw_aload_n (pc' := 6) (v := .ref r0) rfl rfl rfl ?_)
  refine wp_of e254 c254_6 (rw_aload_n (pc' := 7) (v := .ref r0) rfl rfl rfl ?_)
  refine wp_of e254 c254_7 (rw_iload_n (pc' := 8) (z := a1) rfl rfl ?_)
  refine wp_of e254 c254_8 (xc_V (pc' := 11) (r := r0) (as := [vI a1]) (st := [.ref r0]) (lm_9_373) rfl rfl (Nat.le_of_ble_eq_true rfl) w1355 g0 sh_42 (by decide) rfl (by decide) (s_218 w1355 g0 ⟨by omega, by omega⟩) (fun R1358 T1359 H1360 p1361 => ?_))
  obtain ⟨e1362, e1364, z1366, e1363, b1367, p1365⟩ := p1361
  subst e1362
  subst e1363
  subst e1364
  show wp _ _ 254 11 [(0, .ref r0), (1, vI a1), (2, vI a2)] [vI z1366, .ref r0] _ H1353 _
  have k1368 : H1353 r0 3 = H r0 3 := (wq_u_j e1354 rfl)
  have k1369 : wKI H1353 r0 = wKI H r0 := (wKI_fr hW g0 ((wfr.rf (l := [(42, 0)])).put' e1354 g0 rfl) rfl)
  have h1370 : RB T H1353 r0 e d := (RB_fr hW g0 ((wfr.rf (l := [(42, 0)])).put' e1354 g0 rfl) rfl hRB_r0)
  have h1371 : KNN T H1353 r0 e d := (KNN_fr hW g0 ((wfr.rf (l := [(42, 0)])).put' e1354 g0 rfl) rfl hKNN_r0)
  refine wp_of e254 c254_11 (xc_V (pc' := 14) (r := r0) (as := [vI z1366]) (st := []) (lm_9_447) rfl rfl (Nat.le_of_ble_eq_true rfl) w1355 g0 sh_42 (by decide) rfl (by decide) (u_253 (e := e) (d := d) w1355 g0 ⟨by omega, by omega⟩ (by omega) (by omega) (by assumption) (by assumption) (by assumption) (by assumption) h1370 h1371) (fun R1372 T1373 H1374 p1375 => ?_))
  obtain ⟨e1376, w1378, f1379, z1380, e1377, b1381, p1382⟩ := p1375
  subst e1376
  subst e1377
  rcases p1382 with ⟨a1383, a1384, a1385, a1386, a1387, a1388, a1389, a1390, a1391, a1392⟩ | ⟨a1393, a1394, a1395, a1396, a1397, a1398, a1399⟩
  · have f1400 := f1356.tr f1379 rfl
    show wp _ _ 254 14 [(0, .ref r0), (1, vI a1), (2, vI a2)] [vI z1380] _ H1374 _
    refine wp_of e254 c254_14 (rw_istore_n (pc' := 15) (z := z1380) (L' := [(3, vI z1380), (0, .ref r0), (1, vI a1), (2, vI a2)]) rfl rfl rfl ?_)
    refine wp_of e254 c254_15 (rw_iload_n (pc' := 16) (z := z1380) rfl rfl ?_)
    refine wp_of e254 c254_16 (rw_if_le (p1 := 25) (p2 := 19) (by decide) rfl ⟨by omega, by omega⟩ (fun c1401 => ?_) (fun c1401 => ?_))
    · refine wp_of e254 c254_25 (rw_iconst (pc' := 26) rfl ?_)
      refine wp_of e254 c254_26 (rw_istore (pc' := 28) (z := 0) (L' := [(4, vI 0), (3, vI z1380), (0, .ref r0), (1, vI a1), (2, vI a2)]) rfl rfl rfl ?_)
      refine wp_of e254 c254_28 (rw_iconst (pc' := 29) rfl ?_)
      refine wp_of e254 c254_29 (rw_istore (pc' := 31) (z := 0) (L' := [(5, vI 0), (4, vI 0), (3, vI z1380), (0, .ref r0), (1, vI a1), (2, vI a2)]) rfl rfl rfl ?_)
      have lp1647 : ∀ (n1648 : Nat) (v1650 : Int) (v1651 : Int) (H1652 : wq_H), WT T H1652 → wfr [(51, 999)] T H1374 H1652 → (0 ≤ v1650 ∧ v1650 ≤ 6) → (0 ≤ v1651 ∧ v1651 ≤ 16777215) → (6 - v1650).toNat = n1648 → wp kt 8 254 31 [(5, vI v1650), (4, vI v1651), (0, .ref r0), (1, vI a1), (2, vI a2)] [] T H1652 (uq_254 r0 a1 a2 e d T H) := by
        intro n1648
        induction n1648 using Nat.strongRecOn with
        | _ n1648 ih1649 =>
          intro v1650 v1651 H1652 w1653 f1654 b1655 b1656 m1657
          have f1658 := f1400.tr f1654 rfl
          refine wp_of e254 c254_31 (rw_iload (pc' := 33) (z := v1650) rfl rfl ?_)
          refine wp_of e254 c254_33 (rw_aload_n (pc' := 34) (v := .ref r0) rfl rfl rfl ?_)
          have k1659 : H1652 r0 3 = H1353 r0 3 := ((f1654 r0 3 _ g0 rfl).trans (f1379 r0 3 _ g0 rfl))
          refine wp_of e254 c254_34 (xg_O (pc' := 37) lf_9_337 w1653 g0 sh_42 (by decide) (by decide) ty_42_3 rfl rfl (fun q1661 => ?_) (fun r1660 q1661 g1662 => ?_))
          · exfalso
            omega
          · refine wp_of e254 c254_37 (xg_I (pc' := 40) lf_9_188 w1653 g1662 sh_54 (by decide) (by decide) ty_54_3 rfl rfl (fun b1663 b1664 => ?_))
            refine wp_of e254 c254_40 (rw_icmp_ge (p1 := 84) (p2 := 43) (by decide) rfl ⟨by omega, by omega⟩ ⟨by omega, by omega⟩ (fun c1665 => ?_) (fun c1665 => ?_))
            · refine wp_of e254 c254_84 (rw_aload_n (pc' := 85) (v := .ref r0) rfl rfl rfl ?_)
              refine wp_of e254 c254_85 (rw_iload (pc' := 87) (z := v1651) rfl rfl ?_)
              refine wp_of e254 c254_87 (xc_V (pc' := 90) (r := r0) (as := [vI v1651]) (st := []) (lm_9_58) rfl rfl (Nat.le_of_ble_eq_true rfl) w1653 g0 sh_42 (by decide) rfl (by decide) (s_209 w1653 g0 ⟨by omega, by omega⟩) (fun R1666 T1667 H1668 p1669 => ?_))
              obtain ⟨e1670, w1672, f1673, z1674, e1671, b1675⟩ := p1669
              subst e1670
              subst e1671
              have f1676 := f1658.tr f1673 rfl
              show wp _ _ 254 90 [(5, vI v1650), (4, vI v1651), (0, .ref r0), (1, vI a1), (2, vI a2)] [vI z1674] _ H1668 _
              have k1677 : wKI H1668 r0 = wKI H1374 r0 := ((wKI_fr w1653 g0 f1673 rfl).trans (wKI_fr w1378 g0 f1654 rfl))
              have h1678 : KNN T H1668 r0 e d := (KNN_fr w1653 g0 f1673 rfl (KNN_fr w1378 g0 f1654 rfl a1391))
              exact wp_ireturn e254 c254_90 rfl ⟨rfl, w1672, f1676, z1674, rfl, ⟨by omega, by omega⟩, ⟨by omega, h1678⟩⟩
            · refine wp_of e254 c254_43 (rw_iload (pc' := 45) (z := v1651) rfl rfl ?_)
              refine wp_of e254 c254_45 (rw_aload_n (pc' := 46) (v := .ref r0) rfl rfl rfl ?_)
              refine wp_of e254 c254_46 (rw_iload (pc' := 48) (z := v1650) rfl rfl ?_)
              refine wp_of e254 c254_48 (rw_iload_n (pc' := 49) (z := a1) rfl rfl ?_)
              refine wp_of e254 c254_49 (xc_V (pc' := 52) (r := r0) (as := [vI v1650, vI a1]) (st := [vI v1651]) (lm_9_444) rfl rfl (Nat.le_of_ble_eq_true rfl) w1653 g0 sh_42 (by decide) rfl (by decide) (s_251 w1653 g0 ⟨by omega, by omega⟩ ⟨by omega, by omega⟩ q1661 g1662 (by omega)) (fun R1679 T1680 H1681 p1682 => ?_))
              obtain ⟨e1683, w1685, f1686, z1687, e1684, b1688⟩ := p1682
              subst e1683
              subst e1684
              have f1689 := f1658.tr f1686 rfl
              have f1690 := f1654.tr f1686 rfl
              show wp _ _ 254 52 [(5, vI v1650), (4, vI v1651), (0, .ref r0), (1, vI a1), (2, vI a2)] [vI z1687, vI v1651] _ H1681 _
              refine wp_of e254 c254_52 (rw_iload_n (pc' := 53) (z := a2) rfl rfl ?_)
              refine wp_of e254 c254_53 (rw_if_eq (p1 := 63) (p2 := 56) (by decide) rfl ⟨by omega, by omega⟩ (fun c1691 => ?_) (fun c1691 => ?_))
              · refine wp_of e254 c254_63 (rw_iconst (pc' := 64) rfl ?_)
                refine wp_of e254 c254_64 (rw_icmp_ne (p1 := 74) (p2 := 67) (by decide) rfl ⟨by omega, by omega⟩ ⟨by omega, by omega⟩ (fun c1692 => ?_) (fun c1692 => ?_))
                · refine wp_of e254 c254_74 (rw_iconst (pc' := 75) rfl ?_)
                  refine wp_of e254 c254_75 (rw_ior (pc' := 76) rfl ?_)
                  obtain ⟨v1693, e1694⟩ : ∃ x : Int, x = wq_or v1651 0 := ⟨_, rfl⟩
                  rw [← e1694]
                  have b1695 : 0 ≤ v1693 ∧ v1693 ≤ 16777215 := by
                    rw [e1694]
                    exact wq_or_24 ⟨by omega, by omega⟩ ⟨by omega, by omega⟩
                  refine wp_of e254 c254_76 (rw_istore (pc' := 78) (z := v1693) (L' := [(4, vI v1693), (5, vI v1650), (0, .ref r0), (1, vI a1), (2, vI a2)]) rfl rfl rfl ?_)
                  refine wp_of e254 c254_78 (rw_iinc (pc' := 81) (z := v1650) (L' := [(5, vI (v1650 + 1)), (4, vI v1693), (0, .ref r0), (1, vI a1), (2, vI a2)]) rfl rfl rfl rfl ?_)
                  refine wp_of e254 c254_81 (rw_goto (p1 := 31) (by decide) ?_)
                  exact wp_lc (ks := [5, 4, 0, 1, 2]) (wl_c rfl (wl_c rfl (wl_c rfl (wl_c rfl (wl_c rfl wl_n))))) rfl (by decide) (ih1649 _ (by omega) (v1650 + 1) v1693 H1681 w1685 f1690 ⟨by omega, by omega⟩ ⟨by omega, by omega⟩ rfl)
                · refine wp_of e254 c254_67 (rw_iconst (pc' := 68) rfl ?_)
                  refine wp_of e254 c254_68 (rw_iload (pc' := 70) (z := v1650) rfl rfl ?_)
                  refine wp_of e254 c254_70 (rw_ishl (pc' := 71) rfl ?_)
                  obtain ⟨v1696, e1697⟩ : ∃ x : Int, x = wq_shl 1 v1650 := ⟨_, rfl⟩
                  rw [← e1697]
                  have b1698 : 1 ≤ v1696 ∧ v1696 ≤ 64 := by
                    rw [e1697]
                    exact wq_shl1_6 ⟨by omega, by omega⟩
                  refine wp_of e254 c254_71 (rw_goto (p1 := 75) (by decide) ?_)
                  refine wp_of e254 c254_75 (rw_ior (pc' := 76) rfl ?_)
                  obtain ⟨v1699, e1700⟩ : ∃ x : Int, x = wq_or v1651 v1696 := ⟨_, rfl⟩
                  rw [← e1700]
                  have b1701 : 0 ≤ v1699 ∧ v1699 ≤ 16777215 := by
                    rw [e1700]
                    exact wq_or_24 ⟨by omega, by omega⟩ ⟨by omega, by omega⟩
                  refine wp_of e254 c254_76 (rw_istore (pc' := 78) (z := v1699) (L' := [(4, vI v1699), (5, vI v1650), (0, .ref r0), (1, vI a1), (2, vI a2)]) rfl rfl rfl ?_)
                  refine wp_of e254 c254_78 (rw_iinc (pc' := 81) (z := v1650) (L' := [(5, vI (v1650 + 1)), (4, vI v1699), (0, .ref r0), (1, vI a1), (2, vI a2)]) rfl rfl rfl rfl ?_)
                  refine wp_of e254 c254_81 (rw_goto (p1 := 31) (by decide) ?_)
                  exact wp_lc (ks := [5, 4, 0, 1, 2]) (wl_c rfl (wl_c rfl (wl_c rfl (wl_c rfl (wl_c rfl wl_n))))) rfl (by decide) (ih1649 _ (by omega) (v1650 + 1) v1699 H1681 w1685 f1690 ⟨by omega, by omega⟩ ⟨by omega, by omega⟩ rfl)
              · refine wp_of e254 c254_56 (rw_aload_n (pc' := 57) (v := .ref r0) rfl rfl rfl ?_)
                refine wp_of e254 c254_57 (xg_I (pc' := 60) lf_9_422 w1685 g0 sh_42 (by decide) (by decide) ty_42_29 rfl rfl (fun b1702 b1703 => ?_))
                refine wp_of e254 c254_60 (rw_goto (p1 := 64) (by decide) ?_)
                refine wp_of e254 c254_64 (rw_icmp_ne (p1 := 74) (p2 := 67) (by decide) rfl ⟨by omega, by omega⟩ ⟨by omega, by omega⟩ (fun c1704 => ?_) (fun c1704 => ?_))
                · refine wp_of e254 c254_74 (rw_iconst (pc' := 75) rfl ?_)
                  refine wp_of e254 c254_75 (rw_ior (pc' := 76) rfl ?_)
                  obtain ⟨v1705, e1706⟩ : ∃ x : Int, x = wq_or v1651 0 := ⟨_, rfl⟩
                  rw [← e1706]
                  have b1707 : 0 ≤ v1705 ∧ v1705 ≤ 16777215 := by
                    rw [e1706]
                    exact wq_or_24 ⟨by omega, by omega⟩ ⟨by omega, by omega⟩
                  refine wp_of e254 c254_76 (rw_istore (pc' := 78) (z := v1705) (L' := [(4, vI v1705), (5, vI v1650), (0, .ref r0), (1, vI a1), (2, vI a2)]) rfl rfl rfl ?_)
                  refine wp_of e254 c254_78 (rw_iinc (pc' := 81) (z := v1650) (L' := [(5, vI (v1650 + 1)), (4, vI v1705), (0, .ref r0), (1, vI a1), (2, vI a2)]) rfl rfl rfl rfl ?_)
                  refine wp_of e254 c254_81 (rw_goto (p1 := 31) (by decide) ?_)
                  exact wp_lc (ks := [5, 4, 0, 1, 2]) (wl_c rfl (wl_c rfl (wl_c rfl (wl_c rfl (wl_c rfl wl_n))))) rfl (by decide) (ih1649 _ (by omega) (v1650 + 1) v1705 H1681 w1685 f1690 ⟨by omega, by omega⟩ ⟨by omega, by omega⟩ rfl)
                · refine wp_of e254 c254_67 (rw_iconst (pc' := 68) rfl ?_)
                  refine wp_of e254 c254_68 (rw_iload (pc' := 70) (z := v1650) rfl rfl ?_)
                  refine wp_of e254 c254_70 (rw_ishl (pc' := 71) rfl ?_)
                  obtain ⟨v1708, e1709⟩ : ∃ x : Int, x = wq_shl 1 v1650 := ⟨_, rfl⟩
                  rw [← e1709]
                  have b1710 : 1 ≤ v1708 ∧ v1708 ≤ 64 := by
                    rw [e1709]
                    exact wq_shl1_6 ⟨by omega, by omega⟩
                  refine wp_of e254 c254_71 (rw_goto (p1 := 75) (by decide) ?_)
                  refine wp_of e254 c254_75 (rw_ior (pc' := 76) rfl ?_)
                  obtain ⟨v1711, e1712⟩ : ∃ x : Int, x = wq_or v1651 v1708 := ⟨_, rfl⟩
                  rw [← e1712]
                  have b1713 : 0 ≤ v1711 ∧ v1711 ≤ 16777215 := by
                    rw [e1712]
                    exact wq_or_24 ⟨by omega, by omega⟩ ⟨by omega, by omega⟩
                  refine wp_of e254 c254_76 (rw_istore (pc' := 78) (z := v1711) (L' := [(4, vI v1711), (5, vI v1650), (0, .ref r0), (1, vI a1), (2, vI a2)]) rfl rfl rfl ?_)
                  refine wp_of e254 c254_78 (rw_iinc (pc' := 81) (z := v1650) (L' := [(5, vI (v1650 + 1)), (4, vI v1711), (0, .ref r0), (1, vI a1), (2, vI a2)]) rfl rfl rfl rfl ?_)
                  refine wp_of e254 c254_81 (rw_goto (p1 := 31) (by decide) ?_)
                  exact wp_lc (ks := [5, 4, 0, 1, 2]) (wl_c rfl (wl_c rfl (wl_c rfl (wl_c rfl (wl_c rfl wl_n))))) rfl (by decide) (ih1649 _ (by omega) (v1650 + 1) v1711 H1681 w1685 f1690 ⟨by omega, by omega⟩ ⟨by omega, by omega⟩ rfl)
      exact wp_lc (ks := [5, 4, 3, 0, 1, 2]) (wl_c rfl (wl_c rfl (wl_c rfl (wl_c rfl (wl_c rfl wl_n))))) rfl (by decide) (lp1647 _ 0 0 H1374 w1378 wfr.rf ⟨by omega, by omega⟩ ⟨by omega, by omega⟩ rfl)
    · exfalso
      omega
  · have f1714 := f1356.tr f1379 rfl
    show wp _ _ 254 14 [(0, .ref r0), (1, vI a1), (2, vI a2)] [vI z1380] _ H1374 _
    refine wp_of e254 c254_14 (rw_istore_n (pc' := 15) (z := z1380) (L' := [(3, vI z1380), (0, .ref r0), (1, vI a1), (2, vI a2)]) rfl rfl rfl ?_)
    refine wp_of e254 c254_15 (rw_iload_n (pc' := 16) (z := z1380) rfl rfl ?_)
    refine wp_of e254 c254_16 (rw_if_le (p1 := 25) (p2 := 19) (by decide) rfl ⟨by omega, by omega⟩ (fun c1715 => ?_) (fun c1715 => ?_))
    · exfalso
      omega
    · refine wp_of e254 c254_19 (rw_aload_n (pc' := 20) (v := .ref r0) rfl rfl rfl ?_)
      refine wp_of e254 c254_20 (rw_iload_n (pc' := 21) (z := z1380) rfl rfl ?_)
      refine wp_of e254 c254_21 (xc_V (pc' := 24) (r := r0) (as := [vI z1380]) (st := []) (lm_9_54) rfl rfl (Nat.le_of_ble_eq_true rfl) w1378 g0 sh_42 (by decide) rfl (by decide) (s_170 w1378 g0 ⟨by omega, by omega⟩) (fun R1716 T1717 H1718 p1719 => ?_))
      obtain ⟨e1720, w1722, f1723, z1724, e1721, b1725⟩ := p1719
      subst e1720
      subst e1721
      have f1726 := f1714.tr f1723 rfl
      show wp _ _ 254 24 [(3, vI z1380), (0, .ref r0), (1, vI a1), (2, vI a2)] [vI z1724] _ H1718 _
      have k1727 : wKI H1718 r0 = wKI H1374 r0 := (wKI_fr w1378 g0 f1723 rfl)
      have h1728 : KNN T H1718 r0 e d := (KNN_fr w1378 g0 f1723 rfl a1399)
      exact wp_ireturn e254 c254_24 rfl ⟨rfl, w1722, f1726, z1724, rfl, ⟨by omega, by omega⟩, ⟨by omega, h1728⟩⟩
/-! StrikeAwakeModel.chance(II)I  -/
abbrev uq_255 (r0 : Nat) (a1 : Int) (a2 : Int) (e : xD) (d : xD) (T : wq_T) (H : wq_H) : Option Value → wq_T → wq_H → Prop := fun r T' H' => T = T' ∧ WT T H' ∧ wfr [(42, 0), (42, 1), (42, 2), (42, 28), (42, 29), (51, 999), (52, 999)] T H H' ∧ ∃ z : Int, some (vI z) = r ∧ ((-2147483648) ≤ z ∧ z ≤ 2147483647) ∧ (((z = -1) ∧ (wKI H' r0 = 1) ∧ (((a1 < 0 ∨ d 0 3 ≤ a1) ∨ a2 < 0 ∨ d 0 0 ≤ a2) ∨ 20000 < xlots d ∨ xcn (xwf e d) (xlots d).toNat ≤ 0) ∧ KNN T H' r0 e d) ∨ ((wKI H' r0 = 1) ∧ (((0 ≤ a1 ∧ a1 < d 0 3) ∧ 0 ≤ a2 ∧ a2 < d 0 0) ∧ xlots d ≤ 20000 ∧ 0 < xcn (xwf e d) (xlots d).toNat) ∧ (z = (100 * xtw e d (a1).toNat (a2).toNat) / xsW e d (xlots d).toNat) ∧ KNN T H' r0 e d))
set_option maxHeartbeats 4000000 in
theorem u_255 {kt : Nat → Option mc_E} {T : wq_T} {H : wq_H} {r0 : Nat} {a1 : Int} {a2 : Int} {e : xD} {d : xD} (hW : WT T H) (g0 : T.2.2.2 r0 = some 42) (i1 : (-2147483648) ≤ a1 ∧ a1 ≤ 2147483647) (i2 : (-2147483648) ≤ a2 ∧ a2 ≤ 2147483647) (p0 : wKI H r0 = 1) (p1 : XW d) (p2 : ∀ h : Nat, d 0 0 ≤ (h : Int) → h < 24 → e 13 h = 0) (p3 : XN d) (p4 : ∀ h : Nat, h < 24 → 0 ≤ e 13 h ∧ e 13 h ≤ 100) (hRB_r0 : RB T H r0 e d) (hKNN_r0 : KNN T H r0 e d) : wpc kt 9 255 [.ref r0, vI a1, vI a2] T H (uq_255 r0 a1 a2 e d T H) := by
  refine wp_enter e255 (Nat.le_of_ble_eq_true rfl) rfl ?_
  have f0 : wfr [(42, 0), (42, 1), (42, 2), (42, 28), (42, 29), (51, 999), (52, 999)] T H H := wfr.rf
  show wp _ _ 255 0 [(0, .ref r0), (1, vI a1), (2, vI a2)] [] _ H _
  have _b := RB_b hW hRB_r0
  have _nu := RB_n3 hRB_r0
  have _lm := RB_lm hRB_r0
  have _xw := (by assumption : XW d)
  refine wp_of e255 c255_0 (rw_aload_n (pc' := 1) (v := .ref r0) rfl rfl rfl ?_)
  refine wp_of e255 c255_1 (rw_iconst (pc' := 2) rfl ?_)
  refine wp_of e255 c255_2 (xp_I (pc' := 5) lf_9_48 hW g0 sh_42 (by decide) (by decide) ty_42_0 rfl rfl (by omega) (by omega) ⟨by omega, by omega⟩ rfl (fun H1335 e1336 w1337 => ?_))
  have f1338 := f0.put' e1336 g0 rfl
  have k1339 : H1335 r0 0 = 0 := wq_u_s e1336
  refine wp_of e255 c255_5 (rw_aload_n (pc' := 6) (v := .ref r0) rfl rfl rfl ?_)
  refine wp_of e255 c255_6 (rw_aload_n (pc' := 7) (v := .ref r0) rfl rfl rfl ?_)
  refine wp_of e255 c255_7 (rw_iload_n (pc' := 8) (z := a1) rfl rfl ?_)
  have h1340 : RB T H1335 r0 e d := (RB_fr hW g0 ((wfr.rf (l := [(42, 0)])).put' e1336 g0 rfl) rfl hRB_r0)
  refine wp_of e255 c255_8 (xc_V (pc' := 11) (r := r0) (as := [vI a1]) (st := [.ref r0]) (lm_9_364) rfl rfl (Nat.le_of_ble_eq_true rfl) w1337 g0 sh_42 (by decide) rfl (by decide) (u_213 (e := e) (d := d) w1337 g0 ⟨by omega, by omega⟩ h1340) (fun R1341 T1342 H1343 p1344 => ?_))
  obtain ⟨e1345, e1347, z1348, e1346, b1349, p1350⟩ := p1344
  subst e1345
  subst e1346
  subst e1347
  rcases p1350 with ⟨a1351, a1352⟩ | ⟨a1353, a1354⟩
  · show wp _ _ 255 11 [(0, .ref r0), (1, vI a1), (2, vI a2)] [vI z1348, .ref r0] _ H1335 _
    refine wp_of e255 c255_11 (rw_if_eq (p1 := 26) (p2 := 14) (by decide) rfl ⟨by omega, by omega⟩ (fun c1355 => ?_) (fun c1355 => ?_))
    · exfalso
      omega
    · refine wp_of e255 c255_14 (rw_aload_n (pc' := 15) (v := .ref r0) rfl rfl rfl ?_)
      refine wp_of e255 c255_15 (rw_iload_n (pc' := 16) (z := a2) rfl rfl ?_)
      refine wp_of e255 c255_16 (xc_V (pc' := 19) (r := r0) (as := [vI a2]) (st := [.ref r0]) (lm_9_373) rfl rfl (Nat.le_of_ble_eq_true rfl) w1337 g0 sh_42 (by decide) rfl (by decide) (u_218 (e := e) (d := d) w1337 g0 ⟨by omega, by omega⟩ h1340) (fun R1356 T1357 H1358 p1359 => ?_))
      obtain ⟨e1360, e1362, z1363, e1361, b1364, p1365⟩ := p1359
      subst e1360
      subst e1361
      subst e1362
      rcases p1365 with ⟨a1366, a1367⟩ | ⟨a1368, a1369⟩
      · show wp _ _ 255 19 [(0, .ref r0), (1, vI a1), (2, vI a2)] [vI z1363, .ref r0] _ H1335 _
        refine wp_of e255 c255_19 (rw_if_eq (p1 := 26) (p2 := 22) (by decide) rfl ⟨by omega, by omega⟩ (fun c1370 => ?_) (fun c1370 => ?_))
        · exfalso
          omega
        · refine wp_of e255 c255_22 (rw_iconst (pc' := 23) rfl ?_)
          refine wp_of e255 c255_23 (rw_goto (p1 := 27) (by decide) ?_)
          have k1371 : H1335 r0 3 = H r0 3 := (wq_u_j e1336 rfl)
          have k1372 : wKI H1335 r0 = wKI H r0 := (wKI_fr hW g0 ((wfr.rf (l := [(42, 0)])).put' e1336 g0 rfl) rfl)
          have h1373 : KNN T H1335 r0 e d := (KNN_fr hW g0 ((wfr.rf (l := [(42, 0)])).put' e1336 g0 rfl) rfl hKNN_r0)
          refine wp_of e255 c255_27 (xc_V (pc' := 30) (r := r0) (as := [vI 1]) (st := []) (lm_9_447) rfl rfl (Nat.le_of_ble_eq_true rfl) w1337 g0 sh_42 (by decide) rfl (by decide) (u_253 (e := e) (d := d) w1337 g0 ⟨by omega, by omega⟩ (by omega) (by omega) (by assumption) (by assumption) (by assumption) (by assumption) h1340 h1373) (fun R1374 T1375 H1376 p1377 => ?_))
          obtain ⟨e1378, w1380, f1381, z1382, e1379, b1383, p1384⟩ := p1377
          subst e1378
          subst e1379
          rcases p1384 with ⟨a1385, a1386, a1387, a1388, a1389, a1390, a1391, a1392, a1393, a1394⟩ | ⟨a1395, a1396, a1397, a1398, a1399, a1400, a1401⟩
          · have f1402 := f1338.tr f1381 rfl
            show wp _ _ 255 30 [(0, .ref r0), (1, vI a1), (2, vI a2)] [vI z1382] _ H1376 _
            refine wp_of e255 c255_30 (rw_istore_n (pc' := 31) (z := z1382) (L' := [(3, vI z1382), (0, .ref r0), (1, vI a1), (2, vI a2)]) rfl rfl rfl ?_)
            refine wp_of e255 c255_31 (rw_iload_n (pc' := 32) (z := z1382) rfl rfl ?_)
            obtain ⟨r1403, q1404, g1405⟩ := (w1380.opt g0 (t' := 54) (n := 33) (j := 3) (p := 0) (q := 0) rfl (by decide) rfl).resolve_left (by omega)
            have h1406 : RB T H1376 r0 e d := (RB_fr w1337 g0 f1381 rfl h1340)
            have _kbb := a1394
            have _kb := _kbb.1
            have _n3 : H1376 r0 3 ≠ -1 := by omega
            have _rp := RB_at h1406 q1404
            have _k := RP_k _rp
            have _nb := xcn_b (f := xwf e d) (xlots d).toNat
            have h1407 : KL T H1376 r0 (xwf e d) (xlots d).toNat := _kbb.2
            refine wp_of e255 c255_32 (rw_if_le (p1 := 43) (p2 := 35) (by decide) rfl ⟨by omega, by omega⟩ (fun c1408 => ?_) (fun c1408 => ?_))
            · refine wp_of e255 c255_43 (rw_aload_n (pc' := 44) (v := .ref r0) rfl rfl rfl ?_)
              refine wp_of e255 c255_44 (rw_ldc2 (pc' := 47) (z := 100) rfl rfl rfl ?_)
              refine wp_of e255 c255_47 (rw_aload_n (pc' := 48) (v := .ref r0) rfl rfl rfl ?_)
              refine wp_of e255 c255_48 (rw_iload_n (pc' := 49) (z := a1) rfl rfl ?_)
              refine wp_of e255 c255_49 (rw_iload_n (pc' := 50) (z := a2) rfl rfl ?_)
              refine wp_of e255 c255_50 (xc_V (pc' := 53) (r := r0) (as := [vI a1, vI a2]) (st := [vL 100, .ref r0]) (lm_9_440) rfl rfl (Nat.le_of_ble_eq_true rfl) w1380 g0 sh_42 (by decide) rfl (by decide) (u_247 (e := e) (d := d) w1380 g0 ⟨by omega, by omega⟩ ⟨by omega, by omega⟩ q1404 g1405 (by assumption) (by omega) (by omega) (by omega) h1406 a1394) (fun R1409 T1410 H1411 p1412 => ?_))
              obtain ⟨e1413, w1415, f1416, z1417, e1414, b1418, p1419⟩ := p1412
              subst e1413
              subst e1414
              have f1421 := f1402.tr f1416 rfl
              show wp _ _ 255 53 [(3, vI z1382), (0, .ref r0), (1, vI a1), (2, vI a2)] [vL z1417, vL 100, .ref r0] _ H1411 _
              have _a9 : z1417 = wsm (xwf e d) (fun n => if a1 = -1 ∨ hb (xwb d (xlot d ((n : Nat) : Int)) (a1).toNat) (a2).toNat = 1 then xlW d n else 0) (xlots d).toNat := by assumption
              refine wp_of e255 c255_53 (rw_lmul (pc' := 54) rfl ?_)
              refine wp_of e255 c255_54 (rw_aload_n (pc' := 55) (v := .ref r0) rfl rfl rfl ?_)
              refine wp_of e255 c255_55 (rw_iconst (pc' := 56) rfl ?_)
              refine wp_of e255 c255_56 (rw_iconst (pc' := 57) rfl ?_)
              have k1422 : H1411 r0 3 = H1376 r0 3 := (f1416 r0 3 _ g0 rfl)
              have q1423 : H1411 r0 3 = (r1403 : Int) := k1422.trans q1404
              have h1424 : RB T H1411 r0 e d := (RB_fr w1380 g0 f1416 rfl h1406)
              have h1425 : KNB T H1411 r0 e d (xlots d).toNat := (KNB_fr w1380 g0 f1416 rfl a1394)
              refine wp_of e255 c255_57 (xc_V (pc' := 60) (r := r0) (as := [vI (-1), vI 0]) (st := [vL (100 * z1417), .ref r0]) (lm_9_440) rfl rfl (Nat.le_of_ble_eq_true rfl) w1415 g0 sh_42 (by decide) rfl (by decide) (u_247 (e := e) (d := d) w1415 g0 ⟨by omega, by omega⟩ ⟨by omega, by omega⟩ q1423 g1405 (by assumption) (by omega) (by omega) (by omega) h1424 h1425) (fun R1426 T1427 H1428 p1429 => ?_))
              obtain ⟨e1430, w1432, f1433, z1434, e1431, b1435, p1436⟩ := p1429
              subst e1430
              subst e1431
              have f1438 := f1421.tr f1433 rfl
              show wp _ _ 255 60 [(3, vI z1382), (0, .ref r0), (1, vI a1), (2, vI a2)] [vL z1434, vL (100 * z1417), .ref r0] _ H1428 _
              have _b9 : z1434 = wsm (xwf e d) (fun n => if (-1 : Int) = -1 ∨ hb (xwb d (xlot d ((n : Nat) : Int)) ((-1 : Int)).toNat) ((0 : Int)).toNat = 1 then xlW d n else 0) (xlots d).toNat := by assumption
              refine wp_of e255 c255_60 (rw_ldiv (pc' := 61) rfl ⟨by omega, by omega⟩ (by omega) ?_)
              obtain ⟨v1439, e1440⟩ : ∃ x : Int, x = wl_div (100 * z1417) z1434 := ⟨_, rfl⟩
              rw [← e1440]
              have b1441 : 0 ≤ v1439 ∧ v1439 ≤ (100 * z1417) := by
                rw [e1440]
                rw [wl_div_e ⟨by omega, by omega⟩ ⟨by omega, by omega⟩]; exact ⟨Int.ediv_nonneg (by omega) (by omega), Int.ediv_le_self _ (by omega)⟩
              refine wp_of e255 c255_61 (rw_l2i (pc' := 62) rfl ?_)
              obtain ⟨v1442, e1443⟩ : ∃ x : Int, x = wq_w v1439 := ⟨_, rfl⟩
              rw [← e1443]
              have b1444 : -2147483648 ≤ v1442 ∧ v1442 ≤ 2147483647 := by
                rw [e1443]
                exact wI_w _
              have b1445 : (-2147483648 ≤ v1439 ∧ v1439 ≤ 2147483647) → v1442 = v1439 := by
                rw [e1443]
                exact fun h => wq_w_id h
              have _p1 := wsm_p1 e d (a := a1) (a2).toNat (by omega)
              have _m1 := wsm_m1 e d (0 : Int).toNat
              have _tb := xtw_b (e := e) (d := d) (p := (a1).toNat) (h := (a2).toNat) (by omega)
              have _wb := xsW_b (e := e) (d := d) (by omega) (xlots d).toNat
              have _wp := xsW_p e d (by omega) (xlots d).toNat (by omega)
              have _z : v1442 = (100 * xtw e d (a1).toNat (a2).toNat) / xsW e d (xlots d).toNat := chz _tb _wp (_a9.trans _p1) (_b9.trans _m1) (by omega) e1440 (by omega) (by assumption)
              refine wp_of e255 c255_62 (xc_V (pc' := 65) (r := r0) (as := [vI v1442]) (st := []) (lm_9_58) rfl rfl (Nat.le_of_ble_eq_true rfl) w1432 g0 sh_42 (by decide) rfl (by decide) (u_209  w1432 g0 ⟨by omega, by omega⟩) (fun R1446 T1447 H1448 p1449 => ?_))
              obtain ⟨e1450, w1452, f1453, z1454, e1451, b1455, p1456⟩ := p1449
              subst e1450
              subst e1451
              obtain ⟨a1457, a1458, a1459⟩ := p1456
              have f1460 := f1438.tr f1453 rfl
              show wp _ _ 255 65 [(3, vI z1382), (0, .ref r0), (1, vI a1), (2, vI a2)] [vI z1454] _ H1448 _
              have k1461 : wKI H1448 r0 = wKI H1376 r0 := ((wKI_fr w1432 g0 f1453 rfl).trans ((wKI_fr w1415 g0 f1433 rfl).trans (wKI_fr w1380 g0 f1416 rfl)))
              have h1462 : KNN T H1448 r0 e d := (KNN_fr w1432 g0 f1453 rfl (KNN_fr w1415 g0 f1433 rfl (KNN_fr w1380 g0 f1416 rfl a1393)))
              exact wp_ireturn e255 c255_65 rfl ⟨rfl, w1452, f1460, z1454, rfl, ⟨by omega, by omega⟩, (Or.inr ⟨by omega, by omega, by omega, h1462⟩)⟩
            · exfalso
              omega
          · have f1463 := f1338.tr f1381 rfl
            show wp _ _ 255 30 [(0, .ref r0), (1, vI a1), (2, vI a2)] [vI z1382] _ H1376 _
            refine wp_of e255 c255_30 (rw_istore_n (pc' := 31) (z := z1382) (L' := [(3, vI z1382), (0, .ref r0), (1, vI a1), (2, vI a2)]) rfl rfl rfl ?_)
            refine wp_of e255 c255_31 (rw_iload_n (pc' := 32) (z := z1382) rfl rfl ?_)
            refine wp_of e255 c255_32 (rw_if_le (p1 := 43) (p2 := 35) (by decide) rfl ⟨by omega, by omega⟩ (fun c1464 => ?_) (fun c1464 => ?_))
            · exfalso
              omega
            · refine wp_of e255 c255_35 (rw_aload_n (pc' := 36) (v := .ref r0) rfl rfl rfl ?_)
              refine wp_of e255 c255_36 (rw_iload_n (pc' := 37) (z := z1382) rfl rfl ?_)
              refine wp_of e255 c255_37 (xc_V (pc' := 40) (r := r0) (as := [vI z1382]) (st := []) (lm_9_54) rfl rfl (Nat.le_of_ble_eq_true rfl) w1380 g0 sh_42 (by decide) rfl (by decide) (u_170  w1380 g0 ⟨by omega, by omega⟩) (fun R1465 T1466 H1467 p1468 => ?_))
              obtain ⟨e1469, w1471, f1472, z1473, e1470, b1474, p1475⟩ := p1468
              subst e1469
              subst e1470
              obtain ⟨a1476, a1477, a1478⟩ := p1475
              have f1479 := f1463.tr f1472 rfl
              show wp _ _ 255 40 [(3, vI z1382), (0, .ref r0), (1, vI a1), (2, vI a2)] [vI z1473] _ H1467 _
              refine wp_of e255 c255_40 (rw_goto (p1 := 65) (by decide) ?_)
              have k1480 : wKI H1467 r0 = wKI H1376 r0 := (wKI_fr w1380 g0 f1472 rfl)
              have h1481 : KNN T H1467 r0 e d := (KNN_fr w1380 g0 f1472 rfl a1401)
              exact wp_ireturn e255 c255_65 rfl ⟨rfl, w1471, f1479, z1473, rfl, ⟨by omega, by omega⟩, (Or.inl ⟨by omega, by omega, by omega, h1481⟩)⟩
      · show wp _ _ 255 19 [(0, .ref r0), (1, vI a1), (2, vI a2)] [vI z1363, .ref r0] _ H1335 _
        refine wp_of e255 c255_19 (rw_if_eq (p1 := 26) (p2 := 22) (by decide) rfl ⟨by omega, by omega⟩ (fun c1482 => ?_) (fun c1482 => ?_))
        · refine wp_of e255 c255_26 (rw_iconst (pc' := 27) rfl ?_)
          have k1483 : H1335 r0 3 = H r0 3 := (wq_u_j e1336 rfl)
          have k1484 : wKI H1335 r0 = wKI H r0 := (wKI_fr hW g0 ((wfr.rf (l := [(42, 0)])).put' e1336 g0 rfl) rfl)
          have h1485 : KNN T H1335 r0 e d := (KNN_fr hW g0 ((wfr.rf (l := [(42, 0)])).put' e1336 g0 rfl) rfl hKNN_r0)
          refine wp_of e255 c255_27 (xc_V (pc' := 30) (r := r0) (as := [vI 0]) (st := []) (lm_9_447) rfl rfl (Nat.le_of_ble_eq_true rfl) w1337 g0 sh_42 (by decide) rfl (by decide) (u_253 (e := e) (d := d) w1337 g0 ⟨by omega, by omega⟩ (by omega) (by omega) (by assumption) (by assumption) (by assumption) (by assumption) h1340 h1485) (fun R1486 T1487 H1488 p1489 => ?_))
          obtain ⟨e1490, w1492, f1493, z1494, e1491, b1495, p1496⟩ := p1489
          subst e1490
          subst e1491
          rcases p1496 with ⟨a1497, a1498, a1499, a1500, a1501, a1502, a1503, a1504, a1505, a1506⟩ | ⟨a1507, a1508, a1509, a1510, a1511, a1512, a1513⟩
          · have f1514 := f1338.tr f1493 rfl
            show wp _ _ 255 30 [(0, .ref r0), (1, vI a1), (2, vI a2)] [vI z1494] _ H1488 _
            refine wp_of e255 c255_30 (rw_istore_n (pc' := 31) (z := z1494) (L' := [(3, vI z1494), (0, .ref r0), (1, vI a1), (2, vI a2)]) rfl rfl rfl ?_)
            refine wp_of e255 c255_31 (rw_iload_n (pc' := 32) (z := z1494) rfl rfl ?_)
            obtain ⟨r1515, q1516, g1517⟩ := (w1492.opt g0 (t' := 54) (n := 33) (j := 3) (p := 0) (q := 0) rfl (by decide) rfl).resolve_left (by omega)
            have h1518 : RB T H1488 r0 e d := (RB_fr w1337 g0 f1493 rfl h1340)
            have _kbb := a1506
            have _kb := _kbb.1
            have _n3 : H1488 r0 3 ≠ -1 := by omega
            have _rp := RB_at h1518 q1516
            have _k := RP_k _rp
            have _nb := xcn_b (f := xwf e d) (xlots d).toNat
            have h1519 : KL T H1488 r0 (xwf e d) (xlots d).toNat := _kbb.2
            refine wp_of e255 c255_32 (rw_if_le (p1 := 43) (p2 := 35) (by decide) rfl ⟨by omega, by omega⟩ (fun c1520 => ?_) (fun c1520 => ?_))
            · refine wp_of e255 c255_43 (rw_aload_n (pc' := 44) (v := .ref r0) rfl rfl rfl ?_)
              refine wp_of e255 c255_44 (rw_ldc2 (pc' := 47) (z := 100) rfl rfl rfl ?_)
              refine wp_of e255 c255_47 (rw_aload_n (pc' := 48) (v := .ref r0) rfl rfl rfl ?_)
              refine wp_of e255 c255_48 (rw_iload_n (pc' := 49) (z := a1) rfl rfl ?_)
              refine wp_of e255 c255_49 (rw_iload_n (pc' := 50) (z := a2) rfl rfl ?_)
              refine wp_of e255 c255_50 (xc_V (pc' := 53) (r := r0) (as := [vI a1, vI a2]) (st := [vL 100, .ref r0]) (lm_9_440) rfl rfl (Nat.le_of_ble_eq_true rfl) w1492 g0 sh_42 (by decide) rfl (by decide) (u_247 (e := e) (d := d) w1492 g0 ⟨by omega, by omega⟩ ⟨by omega, by omega⟩ q1516 g1517 (by assumption) (by omega) (by omega) (by omega) h1518 a1506) (fun R1521 T1522 H1523 p1524 => ?_))
              obtain ⟨e1525, w1527, f1528, z1529, e1526, b1530, p1531⟩ := p1524
              subst e1525
              subst e1526
              have f1533 := f1514.tr f1528 rfl
              show wp _ _ 255 53 [(3, vI z1494), (0, .ref r0), (1, vI a1), (2, vI a2)] [vL z1529, vL 100, .ref r0] _ H1523 _
              have _a9 : z1529 = wsm (xwf e d) (fun n => if a1 = -1 ∨ hb (xwb d (xlot d ((n : Nat) : Int)) (a1).toNat) (a2).toNat = 1 then xlW d n else 0) (xlots d).toNat := by assumption
              refine wp_of e255 c255_53 (rw_lmul (pc' := 54) rfl ?_)
              refine wp_of e255 c255_54 (rw_aload_n (pc' := 55) (v := .ref r0) rfl rfl rfl ?_)
              refine wp_of e255 c255_55 (rw_iconst (pc' := 56) rfl ?_)
              refine wp_of e255 c255_56 (rw_iconst (pc' := 57) rfl ?_)
              have k1534 : H1523 r0 3 = H1488 r0 3 := (f1528 r0 3 _ g0 rfl)
              have q1535 : H1523 r0 3 = (r1515 : Int) := k1534.trans q1516
              have h1536 : RB T H1523 r0 e d := (RB_fr w1492 g0 f1528 rfl h1518)
              have h1537 : KNB T H1523 r0 e d (xlots d).toNat := (KNB_fr w1492 g0 f1528 rfl a1506)
              refine wp_of e255 c255_57 (xc_V (pc' := 60) (r := r0) (as := [vI (-1), vI 0]) (st := [vL (100 * z1529), .ref r0]) (lm_9_440) rfl rfl (Nat.le_of_ble_eq_true rfl) w1527 g0 sh_42 (by decide) rfl (by decide) (u_247 (e := e) (d := d) w1527 g0 ⟨by omega, by omega⟩ ⟨by omega, by omega⟩ q1535 g1517 (by assumption) (by omega) (by omega) (by omega) h1536 h1537) (fun R1538 T1539 H1540 p1541 => ?_))
              obtain ⟨e1542, w1544, f1545, z1546, e1543, b1547, p1548⟩ := p1541
              subst e1542
              subst e1543
              have f1550 := f1533.tr f1545 rfl
              show wp _ _ 255 60 [(3, vI z1494), (0, .ref r0), (1, vI a1), (2, vI a2)] [vL z1546, vL (100 * z1529), .ref r0] _ H1540 _
              have _b9 : z1546 = wsm (xwf e d) (fun n => if (-1 : Int) = -1 ∨ hb (xwb d (xlot d ((n : Nat) : Int)) ((-1 : Int)).toNat) ((0 : Int)).toNat = 1 then xlW d n else 0) (xlots d).toNat := by assumption
              refine wp_of e255 c255_60 (rw_ldiv (pc' := 61) rfl ⟨by omega, by omega⟩ (by omega) ?_)
              obtain ⟨v1551, e1552⟩ : ∃ x : Int, x = wl_div (100 * z1529) z1546 := ⟨_, rfl⟩
              rw [← e1552]
              have b1553 : 0 ≤ v1551 ∧ v1551 ≤ (100 * z1529) := by
                rw [e1552]
                rw [wl_div_e ⟨by omega, by omega⟩ ⟨by omega, by omega⟩]; exact ⟨Int.ediv_nonneg (by omega) (by omega), Int.ediv_le_self _ (by omega)⟩
              refine wp_of e255 c255_61 (rw_l2i (pc' := 62) rfl ?_)
              obtain ⟨v1554, e1555⟩ : ∃ x : Int, x = wq_w v1551 := ⟨_, rfl⟩
              rw [← e1555]
              have b1556 : -2147483648 ≤ v1554 ∧ v1554 ≤ 2147483647 := by
                rw [e1555]
                exact wI_w _
              have b1557 : (-2147483648 ≤ v1551 ∧ v1551 ≤ 2147483647) → v1554 = v1551 := by
                rw [e1555]
                exact fun h => wq_w_id h
              have _p1 := wsm_p1 e d (a := a1) (a2).toNat (by omega)
              have _m1 := wsm_m1 e d (0 : Int).toNat
              have _tb := xtw_b (e := e) (d := d) (p := (a1).toNat) (h := (a2).toNat) (by omega)
              have _wb := xsW_b (e := e) (d := d) (by omega) (xlots d).toNat
              have _wp := xsW_p e d (by omega) (xlots d).toNat (by omega)
              have _z : v1554 = (100 * xtw e d (a1).toNat (a2).toNat) / xsW e d (xlots d).toNat := chz _tb _wp (_a9.trans _p1) (_b9.trans _m1) (by omega) e1552 (by omega) (by assumption)
              refine wp_of e255 c255_62 (xc_V (pc' := 65) (r := r0) (as := [vI v1554]) (st := []) (lm_9_58) rfl rfl (Nat.le_of_ble_eq_true rfl) w1544 g0 sh_42 (by decide) rfl (by decide) (u_209  w1544 g0 ⟨by omega, by omega⟩) (fun R1558 T1559 H1560 p1561 => ?_))
              obtain ⟨e1562, w1564, f1565, z1566, e1563, b1567, p1568⟩ := p1561
              subst e1562
              subst e1563
              obtain ⟨a1569, a1570, a1571⟩ := p1568
              have f1572 := f1550.tr f1565 rfl
              show wp _ _ 255 65 [(3, vI z1494), (0, .ref r0), (1, vI a1), (2, vI a2)] [vI z1566] _ H1560 _
              have k1573 : wKI H1560 r0 = wKI H1488 r0 := ((wKI_fr w1544 g0 f1565 rfl).trans ((wKI_fr w1527 g0 f1545 rfl).trans (wKI_fr w1492 g0 f1528 rfl)))
              have h1574 : KNN T H1560 r0 e d := (KNN_fr w1544 g0 f1565 rfl (KNN_fr w1527 g0 f1545 rfl (KNN_fr w1492 g0 f1528 rfl a1505)))
              exact wp_ireturn e255 c255_65 rfl ⟨rfl, w1564, f1572, z1566, rfl, ⟨by omega, by omega⟩, (Or.inr ⟨by omega, by omega, by omega, h1574⟩)⟩
            · exfalso
              omega
          · have f1575 := f1338.tr f1493 rfl
            show wp _ _ 255 30 [(0, .ref r0), (1, vI a1), (2, vI a2)] [vI z1494] _ H1488 _
            refine wp_of e255 c255_30 (rw_istore_n (pc' := 31) (z := z1494) (L' := [(3, vI z1494), (0, .ref r0), (1, vI a1), (2, vI a2)]) rfl rfl rfl ?_)
            refine wp_of e255 c255_31 (rw_iload_n (pc' := 32) (z := z1494) rfl rfl ?_)
            refine wp_of e255 c255_32 (rw_if_le (p1 := 43) (p2 := 35) (by decide) rfl ⟨by omega, by omega⟩ (fun c1576 => ?_) (fun c1576 => ?_))
            · exfalso
              omega
            · refine wp_of e255 c255_35 (rw_aload_n (pc' := 36) (v := .ref r0) rfl rfl rfl ?_)
              refine wp_of e255 c255_36 (rw_iload_n (pc' := 37) (z := z1494) rfl rfl ?_)
              refine wp_of e255 c255_37 (xc_V (pc' := 40) (r := r0) (as := [vI z1494]) (st := []) (lm_9_54) rfl rfl (Nat.le_of_ble_eq_true rfl) w1492 g0 sh_42 (by decide) rfl (by decide) (u_170  w1492 g0 ⟨by omega, by omega⟩) (fun R1577 T1578 H1579 p1580 => ?_))
              obtain ⟨e1581, w1583, f1584, z1585, e1582, b1586, p1587⟩ := p1580
              subst e1581
              subst e1582
              obtain ⟨a1588, a1589, a1590⟩ := p1587
              have f1591 := f1575.tr f1584 rfl
              show wp _ _ 255 40 [(3, vI z1494), (0, .ref r0), (1, vI a1), (2, vI a2)] [vI z1585] _ H1579 _
              refine wp_of e255 c255_40 (rw_goto (p1 := 65) (by decide) ?_)
              have k1592 : wKI H1579 r0 = wKI H1488 r0 := (wKI_fr w1492 g0 f1584 rfl)
              have h1593 : KNN T H1579 r0 e d := (KNN_fr w1492 g0 f1584 rfl a1513)
              exact wp_ireturn e255 c255_65 rfl ⟨rfl, w1583, f1591, z1585, rfl, ⟨by omega, by omega⟩, (Or.inl ⟨by omega, by omega, by omega, h1593⟩)⟩
        · exfalso
          omega
  · show wp _ _ 255 11 [(0, .ref r0), (1, vI a1), (2, vI a2)] [vI z1348, .ref r0] _ H1335 _
    refine wp_of e255 c255_11 (rw_if_eq (p1 := 26) (p2 := 14) (by decide) rfl ⟨by omega, by omega⟩ (fun c1594 => ?_) (fun c1594 => ?_))
    · refine wp_of e255 c255_26 (rw_iconst (pc' := 27) rfl ?_)
      have k1595 : H1335 r0 3 = H r0 3 := (wq_u_j e1336 rfl)
      have k1596 : wKI H1335 r0 = wKI H r0 := (wKI_fr hW g0 ((wfr.rf (l := [(42, 0)])).put' e1336 g0 rfl) rfl)
      have h1597 : KNN T H1335 r0 e d := (KNN_fr hW g0 ((wfr.rf (l := [(42, 0)])).put' e1336 g0 rfl) rfl hKNN_r0)
      refine wp_of e255 c255_27 (xc_V (pc' := 30) (r := r0) (as := [vI 0]) (st := []) (lm_9_447) rfl rfl (Nat.le_of_ble_eq_true rfl) w1337 g0 sh_42 (by decide) rfl (by decide) (u_253 (e := e) (d := d) w1337 g0 ⟨by omega, by omega⟩ (by omega) (by omega) (by assumption) (by assumption) (by assumption) (by assumption) h1340 h1597) (fun R1598 T1599 H1600 p1601 => ?_))
      obtain ⟨e1602, w1604, f1605, z1606, e1603, b1607, p1608⟩ := p1601
      subst e1602
      subst e1603
      rcases p1608 with ⟨a1609, a1610, a1611, a1612, a1613, a1614, a1615, a1616, a1617, a1618⟩ | ⟨a1619, a1620, a1621, a1622, a1623, a1624, a1625⟩
      · have f1626 := f1338.tr f1605 rfl
        show wp _ _ 255 30 [(0, .ref r0), (1, vI a1), (2, vI a2)] [vI z1606] _ H1600 _
        refine wp_of e255 c255_30 (rw_istore_n (pc' := 31) (z := z1606) (L' := [(3, vI z1606), (0, .ref r0), (1, vI a1), (2, vI a2)]) rfl rfl rfl ?_)
        refine wp_of e255 c255_31 (rw_iload_n (pc' := 32) (z := z1606) rfl rfl ?_)
        obtain ⟨r1627, q1628, g1629⟩ := (w1604.opt g0 (t' := 54) (n := 33) (j := 3) (p := 0) (q := 0) rfl (by decide) rfl).resolve_left (by omega)
        have h1630 : RB T H1600 r0 e d := (RB_fr w1337 g0 f1605 rfl h1340)
        have _kbb := a1618
        have _kb := _kbb.1
        have _n3 : H1600 r0 3 ≠ -1 := by omega
        have _rp := RB_at h1630 q1628
        have _k := RP_k _rp
        have _nb := xcn_b (f := xwf e d) (xlots d).toNat
        have h1631 : KL T H1600 r0 (xwf e d) (xlots d).toNat := _kbb.2
        refine wp_of e255 c255_32 (rw_if_le (p1 := 43) (p2 := 35) (by decide) rfl ⟨by omega, by omega⟩ (fun c1632 => ?_) (fun c1632 => ?_))
        · refine wp_of e255 c255_43 (rw_aload_n (pc' := 44) (v := .ref r0) rfl rfl rfl ?_)
          refine wp_of e255 c255_44 (rw_ldc2 (pc' := 47) (z := 100) rfl rfl rfl ?_)
          refine wp_of e255 c255_47 (rw_aload_n (pc' := 48) (v := .ref r0) rfl rfl rfl ?_)
          refine wp_of e255 c255_48 (rw_iload_n (pc' := 49) (z := a1) rfl rfl ?_)
          refine wp_of e255 c255_49 (rw_iload_n (pc' := 50) (z := a2) rfl rfl ?_)
          refine wp_of e255 c255_50 (xc_V (pc' := 53) (r := r0) (as := [vI a1, vI a2]) (st := [vL 100, .ref r0]) (lm_9_440) rfl rfl (Nat.le_of_ble_eq_true rfl) w1604 g0 sh_42 (by decide) rfl (by decide) (u_247 (e := e) (d := d) w1604 g0 ⟨by omega, by omega⟩ ⟨by omega, by omega⟩ q1628 g1629 (by assumption) (by omega) (by omega) (by omega) h1630 a1618) (fun R1633 T1634 H1635 p1636 => ?_))
          obtain ⟨e1637, w1639, f1640, z1641, e1638, b1642, p1643⟩ := p1636
          subst e1637
          subst e1638
          have f1645 := f1626.tr f1640 rfl
          show wp _ _ 255 53 [(3, vI z1606), (0, .ref r0), (1, vI a1), (2, vI a2)] [vL z1641, vL 100, .ref r0] _ H1635 _
          have _a9 : z1641 = wsm (xwf e d) (fun n => if a1 = -1 ∨ hb (xwb d (xlot d ((n : Nat) : Int)) (a1).toNat) (a2).toNat = 1 then xlW d n else 0) (xlots d).toNat := by assumption
          refine wp_of e255 c255_53 (rw_lmul (pc' := 54) rfl ?_)
          refine wp_of e255 c255_54 (rw_aload_n (pc' := 55) (v := .ref r0) rfl rfl rfl ?_)
          refine wp_of e255 c255_55 (rw_iconst (pc' := 56) rfl ?_)
          refine wp_of e255 c255_56 (rw_iconst (pc' := 57) rfl ?_)
          have k1646 : H1635 r0 3 = H1600 r0 3 := (f1640 r0 3 _ g0 rfl)
          have q1647 : H1635 r0 3 = (r1627 : Int) := k1646.trans q1628
          have h1648 : RB T H1635 r0 e d := (RB_fr w1604 g0 f1640 rfl h1630)
          have h1649 : KNB T H1635 r0 e d (xlots d).toNat := (KNB_fr w1604 g0 f1640 rfl a1618)
          refine wp_of e255 c255_57 (xc_V (pc' := 60) (r := r0) (as := [vI (-1), vI 0]) (st := [vL (100 * z1641), .ref r0]) (lm_9_440) rfl rfl (Nat.le_of_ble_eq_true rfl) w1639 g0 sh_42 (by decide) rfl (by decide) (u_247 (e := e) (d := d) w1639 g0 ⟨by omega, by omega⟩ ⟨by omega, by omega⟩ q1647 g1629 (by assumption) (by omega) (by omega) (by omega) h1648 h1649) (fun R1650 T1651 H1652 p1653 => ?_))
          obtain ⟨e1654, w1656, f1657, z1658, e1655, b1659, p1660⟩ := p1653
          subst e1654
          subst e1655
          have f1662 := f1645.tr f1657 rfl
          show wp _ _ 255 60 [(3, vI z1606), (0, .ref r0), (1, vI a1), (2, vI a2)] [vL z1658, vL (100 * z1641), .ref r0] _ H1652 _
          have _b9 : z1658 = wsm (xwf e d) (fun n => if (-1 : Int) = -1 ∨ hb (xwb d (xlot d ((n : Nat) : Int)) ((-1 : Int)).toNat) ((0 : Int)).toNat = 1 then xlW d n else 0) (xlots d).toNat := by assumption
          refine wp_of e255 c255_60 (rw_ldiv (pc' := 61) rfl ⟨by omega, by omega⟩ (by omega) ?_)
          obtain ⟨v1663, e1664⟩ : ∃ x : Int, x = wl_div (100 * z1641) z1658 := ⟨_, rfl⟩
          rw [← e1664]
          have b1665 : 0 ≤ v1663 ∧ v1663 ≤ (100 * z1641) := by
            rw [e1664]
            rw [wl_div_e ⟨by omega, by omega⟩ ⟨by omega, by omega⟩]; exact ⟨Int.ediv_nonneg (by omega) (by omega), Int.ediv_le_self _ (by omega)⟩
          refine wp_of e255 c255_61 (rw_l2i (pc' := 62) rfl ?_)
          obtain ⟨v1666, e1667⟩ : ∃ x : Int, x = wq_w v1663 := ⟨_, rfl⟩
          rw [← e1667]
          have b1668 : -2147483648 ≤ v1666 ∧ v1666 ≤ 2147483647 := by
            rw [e1667]
            exact wI_w _
          have b1669 : (-2147483648 ≤ v1663 ∧ v1663 ≤ 2147483647) → v1666 = v1663 := by
            rw [e1667]
            exact fun h => wq_w_id h
          have _p1 := wsm_p1 e d (a := a1) (a2).toNat (by omega)
          have _m1 := wsm_m1 e d (0 : Int).toNat
          have _tb := xtw_b (e := e) (d := d) (p := (a1).toNat) (h := (a2).toNat) (by omega)
          have _wb := xsW_b (e := e) (d := d) (by omega) (xlots d).toNat
          have _wp := xsW_p e d (by omega) (xlots d).toNat (by omega)
          have _z : v1666 = (100 * xtw e d (a1).toNat (a2).toNat) / xsW e d (xlots d).toNat := chz _tb _wp (_a9.trans _p1) (_b9.trans _m1) (by omega) e1664 (by omega) (by assumption)
          refine wp_of e255 c255_62 (xc_V (pc' := 65) (r := r0) (as := [vI v1666]) (st := []) (lm_9_58) rfl rfl (Nat.le_of_ble_eq_true rfl) w1656 g0 sh_42 (by decide) rfl (by decide) (u_209  w1656 g0 ⟨by omega, by omega⟩) (fun R1670 T1671 H1672 p1673 => ?_))
          obtain ⟨e1674, w1676, f1677, z1678, e1675, b1679, p1680⟩ := p1673
          subst e1674
          subst e1675
          obtain ⟨a1681, a1682, a1683⟩ := p1680
          have f1684 := f1662.tr f1677 rfl
          show wp _ _ 255 65 [(3, vI z1606), (0, .ref r0), (1, vI a1), (2, vI a2)] [vI z1678] _ H1672 _
          have k1685 : wKI H1672 r0 = wKI H1600 r0 := ((wKI_fr w1656 g0 f1677 rfl).trans ((wKI_fr w1639 g0 f1657 rfl).trans (wKI_fr w1604 g0 f1640 rfl)))
          have h1686 : KNN T H1672 r0 e d := (KNN_fr w1656 g0 f1677 rfl (KNN_fr w1639 g0 f1657 rfl (KNN_fr w1604 g0 f1640 rfl a1617)))
          exact wp_ireturn e255 c255_65 rfl ⟨rfl, w1676, f1684, z1678, rfl, ⟨by omega, by omega⟩, (Or.inr ⟨by omega, by omega, by omega, h1686⟩)⟩
        · exfalso
          omega
      · have f1687 := f1338.tr f1605 rfl
        show wp _ _ 255 30 [(0, .ref r0), (1, vI a1), (2, vI a2)] [vI z1606] _ H1600 _
        refine wp_of e255 c255_30 (rw_istore_n (pc' := 31) (z := z1606) (L' := [(3, vI z1606), (0, .ref r0), (1, vI a1), (2, vI a2)]) rfl rfl rfl ?_)
        refine wp_of e255 c255_31 (rw_iload_n (pc' := 32) (z := z1606) rfl rfl ?_)
        refine wp_of e255 c255_32 (rw_if_le (p1 := 43) (p2 := 35) (by decide) rfl ⟨by omega, by omega⟩ (fun c1688 => ?_) (fun c1688 => ?_))
        · exfalso
          omega
        · refine wp_of e255 c255_35 (rw_aload_n (pc' := 36) (v := .ref r0) rfl rfl rfl ?_)
          refine wp_of e255 c255_36 (rw_iload_n (pc' := 37) (z := z1606) rfl rfl ?_)
          refine wp_of e255 c255_37 (xc_V (pc' := 40) (r := r0) (as := [vI z1606]) (st := []) (lm_9_54) rfl rfl (Nat.le_of_ble_eq_true rfl) w1604 g0 sh_42 (by decide) rfl (by decide) (u_170  w1604 g0 ⟨by omega, by omega⟩) (fun R1689 T1690 H1691 p1692 => ?_))
          obtain ⟨e1693, w1695, f1696, z1697, e1694, b1698, p1699⟩ := p1692
          subst e1693
          subst e1694
          obtain ⟨a1700, a1701, a1702⟩ := p1699
          have f1703 := f1687.tr f1696 rfl
          show wp _ _ 255 40 [(3, vI z1606), (0, .ref r0), (1, vI a1), (2, vI a2)] [vI z1697] _ H1691 _
          refine wp_of e255 c255_40 (rw_goto (p1 := 65) (by decide) ?_)
          have k1704 : wKI H1691 r0 = wKI H1600 r0 := (wKI_fr w1604 g0 f1696 rfl)
          have h1705 : KNN T H1691 r0 e d := (KNN_fr w1604 g0 f1696 rfl a1625)
          exact wp_ireturn e255 c255_65 rfl ⟨rfl, w1695, f1703, z1697, rfl, ⟨by omega, by omega⟩, (Or.inl ⟨by omega, by omega, by omega, h1705⟩)⟩
    · exfalso
      omega
