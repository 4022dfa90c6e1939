/-! what methods do (own work, written by wip/gen3/sx3.py) -/
/-! StrikeAwakeModel.lie(I)I  -/
abbrev uq_272 (r0 : Nat) (a1 : Int) (e : xD) (d : xD) (T : wq_T) (H : wq_H) : Option Value → wq_T → wq_H → Prop := fun r T' H' => T = T' ∧ WT T H' ∧ wfr [(42, 0), (42, 1), (42, 2), (42, 28), (42, 29), (51, 999), (52, 999)] T H H' ∧ ∃ z : Int, some (vI z) = r ∧ ((-2147483648) ≤ z ∧ z ≤ 2147483647) ∧ (((z = -1) ∧ (wKI H' r0 = 1) ∧ ((a1 < 0 ∨ d 0 6 ≤ a1) ∨ 20000 < xlots d) ∧ KNN T H' r0 e d) ∨ ((wKI H' r0 = 1) ∧ ((0 ≤ a1 ∧ a1 < d 0 6) ∧ xlots d ≤ 20000) ∧ (XLZ e d (a1).toNat (xlots d).toNat z) ∧ KNN T H' r0 e d))
set_option maxHeartbeats 4000000 in
theorem u_272 {kt : Nat → Option mc_E} {T : wq_T} {H : wq_H} {r0 : Nat} {a1 : Int} {e : xD} {d : xD} (hW : WT T H) (g0 : T.2.2.2 r0 = some 42) (i1 : (-2147483648) ≤ a1 ∧ a1 ≤ 2147483647) (p0 : wKI H r0 = 1) (p1 : XW d) (p2 : ∀ h : Nat, d 0 0 ≤ (h : Int) → h < 24 → e 13 h = 0) (p3 : XN d) (p4 : ∀ h : Nat, h < 24 → 0 ≤ e 13 h ∧ e 13 h ≤ 100) (hRB_r0 : RB T H r0 e d) (hKNN_r0 : KNN T H r0 e d) : wpc kt 8 272 [.ref r0, vI a1] T H (uq_272 r0 a1 e d T H) := by
  refine wp_enter e272 (Nat.le_of_ble_eq_true rfl) rfl ?_
  have f0 : wfr [(42, 0), (42, 1), (42, 2), (42, 28), (42, 29), (51, 999), (52, 999)] T H H := wfr.rf
  show wp _ _ 272 0 [(0, .ref r0), (1, vI a1)] [] _ H _
  have _b := RB_b hW hRB_r0
  have _nu := RB_n3 hRB_r0
  have _lm := RB_lm hRB_r0
  have _xw := (by assumption : XW d)
  refine wp_of e272 c272_0 (rw_aload_n (pc' := 1) (v := .ref r0) rfl rfl rfl ?_)
  refine wp_of e272 c272_1 (rw_iconst (pc' := 2) rfl ?_)
  refine wp_of e272 c272_2 (xp_I (pc' := 5) lf_9_48 hW g0 sh_42 (by decide) (by decide) ty_42_0 rfl rfl (by decide) (by decide) ⟨by decide, by decide⟩ rfl (fun H1212 e1213 w1214 => ?_))
  have f1215 := f0.put' e1213 g0 rfl
  have k1216 : H1212 r0 0 = 0 := wq_u_s e1213
  refine wp_of e272 c272_5 (rw_aload_n (pc' := 6) (v := .ref r0) rfl rfl rfl ?_)
  refine wp_of e272 c272_6 (rw_aload_n (pc' := 7) (v := .ref r0) rfl rfl rfl ?_)
  refine wp_of e272 c272_7 (rw_iload_n (pc' := 8) (z := a1) rfl rfl ?_)
  have h1217 : RB T H1212 r0 e d := (RB_fr hW g0 ((wfr.rf (l := [(42, 0)])).put' e1213 g0 rfl) rfl hRB_r0)
  refine wp_of e272 c272_8 (xc_V (pc' := 11) (r := r0) (as := [vI a1]) (st := [.ref r0]) (lm_9_473) rfl rfl (Nat.le_of_ble_eq_true rfl) w1214 g0 sh_42 (by decide) rfl (by decide) (u_273 (e := e) (d := d) w1214 g0 ⟨i1.1, i1.2⟩ h1217) (fun R1218 T1219 H1220 p1221 => ?_))
  obtain ⟨e1222, e1224, z1225, e1223, b1226, p1227⟩ := p1221
  subst e1222
  subst e1223
  subst e1224
  rcases p1227 with ⟨a1228, a1229⟩ | ⟨a1230, a1231⟩
  · show wp _ _ 272 11 [(0, .ref r0), (1, vI a1)] [vI z1225, .ref r0] _ H1212 _
    have k1232 : H1212 r0 3 = H r0 3 := (wq_u_j e1213 rfl)
    have k1233 : wKI H1212 r0 = wKI H r0 := (wKI_fr hW g0 ((wfr.rf (l := [(42, 0)])).put' e1213 g0 rfl) rfl)
    have h1234 : KNN T H1212 r0 e d := (KNN_fr hW g0 ((wfr.rf (l := [(42, 0)])).put' e1213 g0 rfl) rfl hKNN_r0)
    refine wp_of e272 c272_11 (xc_V (pc' := 14) (r := r0) (as := [vI z1225]) (st := []) (lm_9_433) rfl rfl (Nat.le_of_ble_eq_true rfl) w1214 g0 sh_42 (by decide) rfl (by decide) (u_241 (e := e) (d := d) w1214 g0 ⟨b1226.1, b1226.2⟩ (by omega) (by omega) (by assumption) (by assumption) (by assumption) (by assumption) h1217 h1234) (fun R1235 T1236 H1237 p1238 => ?_))
    obtain ⟨e1239, w1241, f1242, z1243, e1240, b1244, p1245⟩ := p1238
    subst e1239
    subst e1240
    rcases p1245 with ⟨a1246, a1247, a1248, a1249, a1250, a1251, a1252, a1253, a1254⟩ | ⟨a1255, a1256, a1257, a1258, a1259, a1260, a1261⟩
    · have f1262 := f1215.tr f1242 rfl
      show wp _ _ 272 14 [(0, .ref r0), (1, vI a1)] [vI z1243] _ H1237 _
      refine wp_of e272 c272_14 (rw_istore_n (pc' := 15) (z := z1243) (L' := [(2, vI z1243), (0, .ref r0), (1, vI a1)]) rfl rfl rfl ?_)
      refine wp_of e272 c272_15 (rw_iload_n (pc' := 16) (z := z1243) rfl rfl ?_)
      refine wp_of e272 c272_16 (rw_if_le (p1 := 27) (p2 := 19) (by decide) rfl ⟨Int.le_trans (by decide) b1244.1, Int.le_trans b1244.2 (by decide)⟩ (fun c1263 => ?_) (fun c1263 => ?_))
      · have k1264 : H1237 r0 3 = H1212 r0 3 := (f1242 r0 3 _ g0 rfl)
        obtain ⟨r1265, q1266, g1267⟩ := (w1241.opt g0 (t' := 54) (n := 33) (j := 3) (p := 0) (q := 0) rfl (by decide) rfl).resolve_left (by omega)
        have h1268 : RB T H1237 r0 e d := (RB_fr w1214 g0 f1242 rfl h1217)
        have _kbb := a1254
        have _kb := _kbb.1
        have _n3 : H1237 r0 3 ≠ -1 := by omega
        have _rp := RB_at h1268 q1266
        have _k := RP_k _rp
        have _nb := xcn_b (f := xwf e d) (xlots d).toNat
        have h1269 : KL T H1237 r0 (xwf e d) (xlots d).toNat := _kbb.2
        refine wp_of e272 c272_27 (rw_aload_n (pc' := 28) (v := .ref r0) rfl rfl rfl ?_)
        refine wp_of e272 c272_28 (rw_aload_n (pc' := 29) (v := .ref r0) rfl rfl rfl ?_)
        refine wp_of e272 c272_29 (rw_iload_n (pc' := 30) (z := a1) rfl rfl ?_)
        refine wp_of e272 c272_30 (xc_V (pc' := 33) (r := r0) (as := [vI a1]) (st := [.ref r0]) (lm_9_476) rfl rfl (Nat.le_of_ble_eq_true rfl) w1241 g0 sh_42 (by decide) rfl (by decide) (u_274 (e := e) (d := d) w1241 g0 ⟨by omega, by omega⟩ q1266 g1267 (by assumption) (by assumption) (by assumption) (by assumption) (by omega) (by omega) h1268) (fun R1270 T1271 H1272 p1273 => ?_))
        obtain ⟨e1274, w1276, f1277, z1278, e1275, b1279, p1280⟩ := p1273
        subst e1274
        subst e1275
        have f1282 := f1262.tr f1277 rfl
        show wp _ _ 272 33 [(2, vI z1243), (0, .ref r0), (1, vI a1)] [vI z1278, .ref r0] _ H1272 _
        refine wp_of e272 c272_33 (rw_bipush (pc' := 35) (z := 24) rfl (by decide) ?_)
        refine wp_of e272 c272_35 (rw_icmp_ne (p1 := 42) (p2 := 38) (by decide) rfl ⟨Int.le_trans (by decide) b1279.1, Int.le_trans b1279.2 (by decide)⟩ ⟨by decide, by decide⟩ (fun c1283 => ?_) (fun c1283 => ?_))
        · refine wp_of e272 c272_42 (rw_iconst (pc' := 43) rfl ?_)
          have _z : XLZ e d (a1).toNat (xlots d).toNat 1 := XLZ_b (w := z1278) (by assumption) (by omega)
          refine wp_of e272 c272_43 (xc_V (pc' := 46) (r := r0) (as := [vI 1]) (st := []) (lm_9_58) rfl rfl (Nat.le_of_ble_eq_true rfl) w1276 g0 sh_42 (by decide) rfl (by decide) (u_209  w1276 g0 ⟨by decide, by decide⟩) (fun R1284 T1285 H1286 p1287 => ?_))
          obtain ⟨e1288, w1290, f1291, z1292, e1289, b1293, p1294⟩ := p1287
          subst e1288
          subst e1289
          obtain ⟨a1295, a1296, a1297⟩ := p1294
          have f1298 := f1282.tr f1291 rfl
          show wp _ _ 272 46 [(2, vI z1243), (0, .ref r0), (1, vI a1)] [vI z1292] _ H1286 _
          have k1299 : wKI H1286 r0 = wKI H1237 r0 := ((wKI_fr w1276 g0 f1291 rfl).trans (wKI_fr w1241 g0 f1277 rfl))
          have h1300 : KNN T H1286 r0 e d := (KNN_fr w1276 g0 f1291 rfl (KNN_fr w1241 g0 f1277 rfl a1253))
          exact wp_ireturn e272 c272_46 rfl ⟨rfl, w1290, f1298, z1292, rfl, ⟨b1293.1, b1293.2⟩, (Or.inr ⟨by omega, by omega, XLZ_z _z (by omega), h1300⟩)⟩
        · refine wp_of e272 c272_38 (rw_iconst (pc' := 39) rfl ?_)
          refine wp_of e272 c272_39 (rw_goto (p1 := 43) (by decide) ?_)
          have _z : XLZ e d (a1).toNat (xlots d).toNat 0 := XLZ_b (w := z1278) (by assumption) (by omega)
          refine wp_of e272 c272_43 (xc_V (pc' := 46) (r := r0) (as := [vI 0]) (st := []) (lm_9_58) rfl rfl (Nat.le_of_ble_eq_true rfl) w1276 g0 sh_42 (by decide) rfl (by decide) (u_209  w1276 g0 ⟨by decide, by decide⟩) (fun R1301 T1302 H1303 p1304 => ?_))
          obtain ⟨e1305, w1307, f1308, z1309, e1306, b1310, p1311⟩ := p1304
          subst e1305
          subst e1306
          obtain ⟨a1312, a1313, a1314⟩ := p1311
          have f1315 := f1282.tr f1308 rfl
          show wp _ _ 272 46 [(2, vI z1243), (0, .ref r0), (1, vI a1)] [vI z1309] _ H1303 _
          have k1316 : wKI H1303 r0 = wKI H1237 r0 := ((wKI_fr w1276 g0 f1308 rfl).trans (wKI_fr w1241 g0 f1277 rfl))
          have h1317 : KNN T H1303 r0 e d := (KNN_fr w1276 g0 f1308 rfl (KNN_fr w1241 g0 f1277 rfl a1253))
          exact wp_ireturn e272 c272_46 rfl ⟨rfl, w1307, f1315, z1309, rfl, ⟨b1310.1, b1310.2⟩, (Or.inr ⟨by omega, by omega, XLZ_z _z (by omega), h1317⟩)⟩
      · exfalso
        omega
    · have f1318 := f1215.tr f1242 rfl
      show wp _ _ 272 14 [(0, .ref r0), (1, vI a1)] [vI z1243] _ H1237 _
      refine wp_of e272 c272_14 (rw_istore_n (pc' := 15) (z := z1243) (L' := [(2, vI z1243), (0, .ref r0), (1, vI a1)]) rfl rfl rfl ?_)
      refine wp_of e272 c272_15 (rw_iload_n (pc' := 16) (z := z1243) rfl rfl ?_)
      refine wp_of e272 c272_16 (rw_if_le (p1 := 27) (p2 := 19) (by decide) rfl ⟨Int.le_trans (by decide) b1244.1, Int.le_trans b1244.2 (by decide)⟩ (fun c1319 => ?_) (fun c1319 => ?_))
      · exfalso
        omega
      · refine wp_of e272 c272_19 (rw_aload_n (pc' := 20) (v := .ref r0) rfl rfl rfl ?_)
        refine wp_of e272 c272_20 (rw_iload_n (pc' := 21) (z := z1243) rfl rfl ?_)
        refine wp_of e272 c272_21 (xc_V (pc' := 24) (r := r0) (as := [vI z1243]) (st := []) (lm_9_54) rfl rfl (Nat.le_of_ble_eq_true rfl) w1241 g0 sh_42 (by decide) rfl (by decide) (u_170  w1241 g0 ⟨Int.le_trans (by decide) b1244.1, Int.le_trans b1244.2 (by decide)⟩) (fun R1320 T1321 H1322 p1323 => ?_))
        obtain ⟨e1324, w1326, f1327, z1328, e1325, b1329, p1330⟩ := p1323
        subst e1324
        subst e1325
        obtain ⟨a1331, a1332, a1333⟩ := p1330
        have f1334 := f1318.tr f1327 rfl
        show wp _ _ 272 24 [(2, vI z1243), (0, .ref r0), (1, vI a1)] [vI z1328] _ H1322 _
        refine wp_of e272 c272_24 (rw_goto (p1 := 46) (by decide) ?_)
        have k1335 : wKI H1322 r0 = wKI H1237 r0 := (wKI_fr w1241 g0 f1327 rfl)
        have h1336 : KNN T H1322 r0 e d := (KNN_fr w1241 g0 f1327 rfl a1261)
        exact wp_ireturn e272 c272_46 rfl ⟨rfl, w1326, f1334, z1328, rfl, ⟨b1329.1, b1329.2⟩, (Or.inl ⟨by omega, by omega, by omega, h1336⟩)⟩
  · show wp _ _ 272 11 [(0, .ref r0), (1, vI a1)] [vI z1225, .ref r0] _ H1212 _
    have k1337 : H1212 r0 3 = H r0 3 := (wq_u_j e1213 rfl)
    have k1338 : wKI H1212 r0 = wKI H r0 := (wKI_fr hW g0 ((wfr.rf (l := [(42, 0)])).put' e1213 g0 rfl) rfl)
    have h1339 : KNN T H1212 r0 e d := (KNN_fr hW g0 ((wfr.rf (l := [(42, 0)])).put' e1213 g0 rfl) rfl hKNN_r0)
    refine wp_of e272 c272_11 (xc_V (pc' := 14) (r := r0) (as := [vI z1225]) (st := []) (lm_9_433) rfl rfl (Nat.le_of_ble_eq_true rfl) w1214 g0 sh_42 (by decide) rfl (by decide) (u_241 (e := e) (d := d) w1214 g0 ⟨b1226.1, b1226.2⟩ (by omega) (by omega) (by assumption) (by assumption) (by assumption) (by assumption) h1217 h1339) (fun R1340 T1341 H1342 p1343 => ?_))
    obtain ⟨e1344, w1346, f1347, z1348, e1345, b1349, p1350⟩ := p1343
    subst e1344
    subst e1345
    rcases p1350 with ⟨a1351, a1352, a1353, a1354, a1355, a1356, a1357, a1358, a1359⟩ | ⟨a1360, a1361, a1362, a1363, a1364, a1365, a1366⟩
    · have f1367 := f1215.tr f1347 rfl
      show wp _ _ 272 14 [(0, .ref r0), (1, vI a1)] [vI z1348] _ H1342 _
      refine wp_of e272 c272_14 (rw_istore_n (pc' := 15) (z := z1348) (L' := [(2, vI z1348), (0, .ref r0), (1, vI a1)]) rfl rfl rfl ?_)
      refine wp_of e272 c272_15 (rw_iload_n (pc' := 16) (z := z1348) rfl rfl ?_)
      refine wp_of e272 c272_16 (rw_if_le (p1 := 27) (p2 := 19) (by decide) rfl ⟨Int.le_trans (by decide) b1349.1, Int.le_trans b1349.2 (by decide)⟩ (fun c1368 => ?_) (fun c1368 => ?_))
      · have k1369 : H1342 r0 3 = H1212 r0 3 := (f1347 r0 3 _ g0 rfl)
        obtain ⟨r1370, q1371, g1372⟩ := (w1346.opt g0 (t' := 54) (n := 33) (j := 3) (p := 0) (q := 0) rfl (by decide) rfl).resolve_left (by omega)
        have h1373 : RB T H1342 r0 e d := (RB_fr w1214 g0 f1347 rfl h1217)
        have _kbb := a1359
        have _kb := _kbb.1
        have _n3 : H1342 r0 3 ≠ -1 := by omega
        have _rp := RB_at h1373 q1371
        have _k := RP_k _rp
        have _nb := xcn_b (f := xwf e d) (xlots d).toNat
        have h1374 : KL T H1342 r0 (xwf e d) (xlots d).toNat := _kbb.2
        refine wp_of e272 c272_27 (rw_aload_n (pc' := 28) (v := .ref r0) rfl rfl rfl ?_)
        refine wp_of e272 c272_28 (rw_aload_n (pc' := 29) (v := .ref r0) rfl rfl rfl ?_)
        refine wp_of e272 c272_29 (rw_iload_n (pc' := 30) (z := a1) rfl rfl ?_)
        refine wp_of e272 c272_30 (xc_V (pc' := 33) (r := r0) (as := [vI a1]) (st := [.ref r0]) (lm_9_476) rfl rfl (Nat.le_of_ble_eq_true rfl) w1346 g0 sh_42 (by decide) rfl (by decide) (u_274 (e := e) (d := d) w1346 g0 ⟨by omega, by omega⟩ q1371 g1372 (by assumption) (by assumption) (by assumption) (by assumption) (by omega) (by omega) h1373) (fun R1375 T1376 H1377 p1378 => ?_))
        obtain ⟨e1379, w1381, f1382, z1383, e1380, b1384, p1385⟩ := p1378
        subst e1379
        subst e1380
        have f1387 := f1367.tr f1382 rfl
        show wp _ _ 272 33 [(2, vI z1348), (0, .ref r0), (1, vI a1)] [vI z1383, .ref r0] _ H1377 _
        refine wp_of e272 c272_33 (rw_bipush (pc' := 35) (z := 24) rfl (by decide) ?_)
        refine wp_of e272 c272_35 (rw_icmp_ne (p1 := 42) (p2 := 38) (by decide) rfl ⟨Int.le_trans (by decide) b1384.1, Int.le_trans b1384.2 (by decide)⟩ ⟨by decide, by decide⟩ (fun c1388 => ?_) (fun c1388 => ?_))
        · refine wp_of e272 c272_42 (rw_iconst (pc' := 43) rfl ?_)
          have _z : XLZ e d (a1).toNat (xlots d).toNat 1 := XLZ_b (w := z1383) (by assumption) (by omega)
          refine wp_of e272 c272_43 (xc_V (pc' := 46) (r := r0) (as := [vI 1]) (st := []) (lm_9_58) rfl rfl (Nat.le_of_ble_eq_true rfl) w1381 g0 sh_42 (by decide) rfl (by decide) (u_209  w1381 g0 ⟨by decide, by decide⟩) (fun R1389 T1390 H1391 p1392 => ?_))
          obtain ⟨e1393, w1395, f1396, z1397, e1394, b1398, p1399⟩ := p1392
          subst e1393
          subst e1394
          obtain ⟨a1400, a1401, a1402⟩ := p1399
          have f1403 := f1387.tr f1396 rfl
          show wp _ _ 272 46 [(2, vI z1348), (0, .ref r0), (1, vI a1)] [vI z1397] _ H1391 _
          have k1404 : wKI H1391 r0 = wKI H1342 r0 := ((wKI_fr w1381 g0 f1396 rfl).trans (wKI_fr w1346 g0 f1382 rfl))
          have h1405 : KNN T H1391 r0 e d := (KNN_fr w1381 g0 f1396 rfl (KNN_fr w1346 g0 f1382 rfl a1358))
          exact wp_ireturn e272 c272_46 rfl ⟨rfl, w1395, f1403, z1397, rfl, ⟨b1398.1, b1398.2⟩, (Or.inr ⟨by omega, by omega, XLZ_z _z (by omega), h1405⟩)⟩
        · refine wp_of e272 c272_38 (rw_iconst (pc' := 39) rfl ?_)
          refine wp_of e272 c272_39 (rw_goto (p1 := 43) (by decide) ?_)
          have _z : XLZ e d (a1).toNat (xlots d).toNat 0 := XLZ_b (w := z1383) (by assumption) (by omega)
          refine wp_of e272 c272_43 (xc_V (pc' := 46) (r := r0) (as := [vI 0]) (st := []) (lm_9_58) rfl rfl (Nat.le_of_ble_eq_true rfl) w1381 g0 sh_42 (by decide) rfl (by decide) (u_209  w1381 g0 ⟨by decide, by decide⟩) (fun R1406 T1407 H1408 p1409 => ?_))
          obtain ⟨e1410, w1412, f1413, z1414, e1411, b1415, p1416⟩ := p1409
          subst e1410
          subst e1411
          obtain ⟨a1417, a1418, a1419⟩ := p1416
          have f1420 := f1387.tr f1413 rfl
          show wp _ _ 272 46 [(2, vI z1348), (0, .ref r0), (1, vI a1)] [vI z1414] _ H1408 _
          have k1421 : wKI H1408 r0 = wKI H1342 r0 := ((wKI_fr w1381 g0 f1413 rfl).trans (wKI_fr w1346 g0 f1382 rfl))
          have h1422 : KNN T H1408 r0 e d := (KNN_fr w1381 g0 f1413 rfl (KNN_fr w1346 g0 f1382 rfl a1358))
          exact wp_ireturn e272 c272_46 rfl ⟨rfl, w1412, f1420, z1414, rfl, ⟨b1415.1, b1415.2⟩, (Or.inr ⟨by omega, by omega, XLZ_z _z (by omega), h1422⟩)⟩
      · exfalso
        omega
    · have f1423 := f1215.tr f1347 rfl
      show wp _ _ 272 14 [(0, .ref r0), (1, vI a1)] [vI z1348] _ H1342 _
      refine wp_of e272 c272_14 (rw_istore_n (pc' := 15) (z := z1348) (L' := [(2, vI z1348), (0, .ref r0), (1, vI a1)]) rfl rfl rfl ?_)
      refine wp_of e272 c272_15 (rw_iload_n (pc' := 16) (z := z1348) rfl rfl ?_)
      refine wp_of e272 c272_16 (rw_if_le (p1 := 27) (p2 := 19) (by decide) rfl ⟨Int.le_trans (by decide) b1349.1, Int.le_trans b1349.2 (by decide)⟩ (fun c1424 => ?_) (fun c1424 => ?_))
      · exfalso
        omega
      · refine wp_of e272 c272_19 (rw_aload_n (pc' := 20) (v := .ref r0) rfl rfl rfl ?_)
        refine wp_of e272 c272_20 (rw_iload_n (pc' := 21) (z := z1348) rfl rfl ?_)
        refine wp_of e272 c272_21 (xc_V (pc' := 24) (r := r0) (as := [vI z1348]) (st := []) (lm_9_54) rfl rfl (Nat.le_of_ble_eq_true rfl) w1346 g0 sh_42 (by decide) rfl (by decide) (u_170  w1346 g0 ⟨Int.le_trans (by decide) b1349.1, Int.le_trans b1349.2 (by decide)⟩) (fun R1425 T1426 H1427 p1428 => ?_))
        obtain ⟨e1429, w1431, f1432, z1433, e1430, b1434, p1435⟩ := p1428
        subst e1429
        subst e1430
        obtain ⟨a1436, a1437, a1438⟩ := p1435
        have f1439 := f1423.tr f1432 rfl
        show wp _ _ 272 24 [(2, vI z1348), (0, .ref r0), (1, vI a1)] [vI z1433] _ H1427 _
        refine wp_of e272 c272_24 (rw_goto (p1 := 46) (by decide) ?_)
        have k1440 : wKI H1427 r0 = wKI H1342 r0 := (wKI_fr w1346 g0 f1432 rfl)
        have h1441 : KNN T H1427 r0 e d := (KNN_fr w1346 g0 f1432 rfl a1366)
        exact wp_ireturn e272 c272_46 rfl ⟨rfl, w1431, f1439, z1433, rfl, ⟨b1434.1, b1434.2⟩, (Or.inl ⟨by omega, by omega, by omega, h1441⟩)⟩
/-! StrikeAwakeModel.bars(I)I  -/
abbrev uq_275 (r0 : Nat) (a1 : Int) (e : xD) (d : xD) (T : wq_T) (H : wq_H) : Option Value → wq_T → wq_H → Prop := fun r T' H' => T = T' ∧ WT T H' ∧ wfr [(42, 0), (42, 1), (42, 2), (42, 28), (42, 29), (51, 999), (52, 999)] T H H' ∧ ∃ z : Int, some (vI z) = r ∧ ((-2147483648) ≤ z ∧ z ≤ 2147483647) ∧ (((z = -1) ∧ (wKI H' r0 = 1) ∧ ((a1 < 0 ∨ d 0 6 ≤ a1) ∨ 20000 < xlots d) ∧ KNN T H' r0 e d) ∨ ((wKI H' r0 = 1) ∧ ((0 ≤ a1 ∧ a1 < d 0 6) ∧ xlots d ≤ 20000) ∧ (XBO e d (a1).toNat (xlots d).toNat z) ∧ KNN T H' r0 e d))
set_option maxHeartbeats 4000000 in
theorem u_275 {kt : Nat → Option mc_E} {T : wq_T} {H : wq_H} {r0 : Nat} {a1 : Int} {e : xD} {d : xD} (hW : WT T H) (g0 : T.2.2.2 r0 = some 42) (i1 : (-2147483648) ≤ a1 ∧ a1 ≤ 2147483647) (p0 : wKI H r0 = 1) (p1 : XW d) (p2 : ∀ h : Nat, d 0 0 ≤ (h : Int) → h < 24 → e 13 h = 0) (p3 : XN d) (p4 : ∀ h : Nat, h < 24 → 0 ≤ e 13 h ∧ e 13 h ≤ 100) (hRB_r0 : RB T H r0 e d) (hKNN_r0 : KNN T H r0 e d) : wpc kt 8 275 [.ref r0, vI a1] T H (uq_275 r0 a1 e d T H) := by
  refine wp_enter e275 (Nat.le_of_ble_eq_true rfl) rfl ?_
  have f0 : wfr [(42, 0), (42, 1), (42, 2), (42, 28), (42, 29), (51, 999), (52, 999)] T H H := wfr.rf
  show wp _ _ 275 0 [(0, .ref r0), (1, vI a1)] [] _ H _
  have _b := RB_b hW hRB_r0
  have _nu := RB_n3 hRB_r0
  have _lm := RB_lm hRB_r0
  have _xw := (by assumption : XW d)
  refine wp_of e275 c275_0 (rw_aload_n (pc' := 1) (v := .ref r0) rfl rfl rfl ?_)
  refine wp_of e275 c275_1 (rw_iconst (pc' := 2) rfl ?_)
  refine wp_of e275 c275_2 (xp_I (pc' := 5) lf_9_48 hW g0 sh_42 (by decide) (by decide) ty_42_0 rfl rfl (by decide) (by decide) ⟨by decide, by decide⟩ rfl (fun H1212 e1213 w1214 => ?_))
  have f1215 := f0.put' e1213 g0 rfl
  have k1216 : H1212 r0 0 = 0 := wq_u_s e1213
  refine wp_of e275 c275_5 (rw_aload_n (pc' := 6) (v := .ref r0) rfl rfl rfl ?_)
  refine wp_of e275 c275_6 (rw_aload_n (pc' := 7) (v := .ref r0) rfl rfl rfl ?_)
  refine wp_of e275 c275_7 (rw_iload_n (pc' := 8) (z := a1) rfl rfl ?_)
  have h1217 : RB T H1212 r0 e d := (RB_fr hW g0 ((wfr.rf (l := [(42, 0)])).put' e1213 g0 rfl) rfl hRB_r0)
  refine wp_of e275 c275_8 (xc_V (pc' := 11) (r := r0) (as := [vI a1]) (st := [.ref r0]) (lm_9_473) rfl rfl (Nat.le_of_ble_eq_true rfl) w1214 g0 sh_42 (by decide) rfl (by decide) (u_273 (e := e) (d := d) w1214 g0 ⟨i1.1, i1.2⟩ h1217) (fun R1218 T1219 H1220 p1221 => ?_))
  obtain ⟨e1222, e1224, z1225, e1223, b1226, p1227⟩ := p1221
  subst e1222
  subst e1223
  subst e1224
  rcases p1227 with ⟨a1228, a1229⟩ | ⟨a1230, a1231⟩
  · show wp _ _ 275 11 [(0, .ref r0), (1, vI a1)] [vI z1225, .ref r0] _ H1212 _
    have k1232 : H1212 r0 3 = H r0 3 := (wq_u_j e1213 rfl)
    have k1233 : wKI H1212 r0 = wKI H r0 := (wKI_fr hW g0 ((wfr.rf (l := [(42, 0)])).put' e1213 g0 rfl) rfl)
    have h1234 : KNN T H1212 r0 e d := (KNN_fr hW g0 ((wfr.rf (l := [(42, 0)])).put' e1213 g0 rfl) rfl hKNN_r0)
    refine wp_of e275 c275_11 (xc_V (pc' := 14) (r := r0) (as := [vI z1225]) (st := []) (lm_9_433) rfl rfl (Nat.le_of_ble_eq_true rfl) w1214 g0 sh_42 (by decide) rfl (by decide) (u_241 (e := e) (d := d) w1214 g0 ⟨b1226.1, b1226.2⟩ (by omega) (by omega) (by assumption) (by assumption) (by assumption) (by assumption) h1217 h1234) (fun R1235 T1236 H1237 p1238 => ?_))
    obtain ⟨e1239, w1241, f1242, z1243, e1240, b1244, p1245⟩ := p1238
    subst e1239
    subst e1240
    rcases p1245 with ⟨a1246, a1247, a1248, a1249, a1250, a1251, a1252, a1253, a1254⟩ | ⟨a1255, a1256, a1257, a1258, a1259, a1260, a1261⟩
    · have f1262 := f1215.tr f1242 rfl
      show wp _ _ 275 14 [(0, .ref r0), (1, vI a1)] [vI z1243] _ H1237 _
      refine wp_of e275 c275_14 (rw_istore_n (pc' := 15) (z := z1243) (L' := [(2, vI z1243), (0, .ref r0), (1, vI a1)]) rfl rfl rfl ?_)
      refine wp_of e275 c275_15 (rw_iload_n (pc' := 16) (z := z1243) rfl rfl ?_)
      refine wp_of e275 c275_16 (rw_if_le (p1 := 25) (p2 := 19) (by decide) rfl ⟨Int.le_trans (by decide) b1244.1, Int.le_trans b1244.2 (by decide)⟩ (fun c1263 => ?_) (fun c1263 => ?_))
      · have k1264 : H1237 r0 3 = H1212 r0 3 := (f1242 r0 3 _ g0 rfl)
        obtain ⟨r1265, q1266, g1267⟩ := (w1241.opt g0 (t' := 54) (n := 33) (j := 3) (p := 0) (q := 0) rfl (by decide) rfl).resolve_left (by omega)
        have h1268 : RB T H1237 r0 e d := (RB_fr w1214 g0 f1242 rfl h1217)
        have _kbb := a1254
        have _kb := _kbb.1
        have _n3 : H1237 r0 3 ≠ -1 := by omega
        have _rp := RB_at h1268 q1266
        have _k := RP_k _rp
        have _nb := xcn_b (f := xwf e d) (xlots d).toNat
        have h1269 : KL T H1237 r0 (xwf e d) (xlots d).toNat := _kbb.2
        refine wp_of e275 c275_25 (rw_aload_n (pc' := 26) (v := .ref r0) rfl rfl rfl ?_)
        refine wp_of e275 c275_26 (rw_iload_n (pc' := 27) (z := a1) rfl rfl ?_)
        refine wp_of e275 c275_27 (xc_V (pc' := 30) (r := r0) (as := [vI a1]) (st := []) (lm_9_476) rfl rfl (Nat.le_of_ble_eq_true rfl) w1241 g0 sh_42 (by decide) rfl (by decide) (u_274 (e := e) (d := d) w1241 g0 ⟨by omega, by omega⟩ q1266 g1267 (by assumption) (by assumption) (by assumption) (by assumption) (by omega) (by omega) h1268) (fun R1270 T1271 H1272 p1273 => ?_))
        obtain ⟨e1274, w1276, f1277, z1278, e1275, b1279, p1280⟩ := p1273
        subst e1274
        subst e1275
        have f1282 := f1262.tr f1277 rfl
        show wp _ _ 275 30 [(2, vI z1243), (0, .ref r0), (1, vI a1)] [vI z1278] _ H1272 _
        refine wp_of e275 c275_30 (rw_istore_n (pc' := 31) (z := z1278) (L' := [(3, vI z1278), (2, vI z1243), (0, .ref r0), (1, vI a1)]) rfl rfl rfl ?_)
        refine wp_of e275 c275_31 (rw_aload_n (pc' := 32) (v := .ref r0) rfl rfl rfl ?_)
        refine wp_of e275 c275_32 (rw_iload_n (pc' := 33) (z := z1278) rfl rfl ?_)
        refine wp_of e275 c275_33 (rw_bipush (pc' := 35) (z := 24) rfl (by decide) ?_)
        refine wp_of e275 c275_35 (rw_icmp_ne (p1 := 43) (p2 := 38) (by decide) rfl ⟨Int.le_trans (by decide) b1279.1, Int.le_trans b1279.2 (by decide)⟩ ⟨by decide, by decide⟩ (fun c1283 => ?_) (fun c1283 => ?_))
        · refine wp_of e275 c275_43 (rw_iload_n (pc' := 44) (z := z1278) rfl rfl ?_)
          have _z : XBO e d (a1).toNat (xlots d).toNat z1278 := ⟨z1278, by assumption, by first | exact Or.inl ⟨by omega, rfl⟩ | exact Or.inr ⟨by omega, rfl⟩⟩
          refine wp_of e275 c275_44 (xc_V (pc' := 47) (r := r0) (as := [vI z1278]) (st := []) (lm_9_58) rfl rfl (Nat.le_of_ble_eq_true rfl) w1276 g0 sh_42 (by decide) rfl (by decide) (u_209  w1276 g0 ⟨Int.le_trans (by decide) b1279.1, Int.le_trans b1279.2 (by decide)⟩) (fun R1284 T1285 H1286 p1287 => ?_))
          obtain ⟨e1288, w1290, f1291, z1292, e1289, b1293, p1294⟩ := p1287
          subst e1288
          subst e1289
          obtain ⟨a1295, a1296, a1297⟩ := p1294
          have f1298 := f1282.tr f1291 rfl
          show wp _ _ 275 47 [(3, vI z1278), (2, vI z1243), (0, .ref r0), (1, vI a1)] [vI z1292] _ H1286 _
          have k1299 : wKI H1286 r0 = wKI H1237 r0 := ((wKI_fr w1276 g0 f1291 rfl).trans (wKI_fr w1241 g0 f1277 rfl))
          have h1300 : KNN T H1286 r0 e d := (KNN_fr w1276 g0 f1291 rfl (KNN_fr w1241 g0 f1277 rfl a1253))
          exact wp_ireturn e275 c275_47 rfl ⟨rfl, w1290, f1298, z1292, rfl, ⟨b1293.1, b1293.2⟩, (Or.inr ⟨by omega, by omega, XBO_z _z (by omega), h1300⟩)⟩
        · refine wp_of e275 c275_38 (rw_bipush (pc' := 40) (z := -2) rfl (by decide) ?_)
          refine wp_of e275 c275_40 (rw_goto (p1 := 44) (by decide) ?_)
          have _z : XBO e d (a1).toNat (xlots d).toNat (-2) := ⟨z1278, by assumption, by first | exact Or.inl ⟨by omega, rfl⟩ | exact Or.inr ⟨by omega, rfl⟩⟩
          refine wp_of e275 c275_44 (xc_V (pc' := 47) (r := r0) (as := [vI (-2)]) (st := []) (lm_9_58) rfl rfl (Nat.le_of_ble_eq_true rfl) w1276 g0 sh_42 (by decide) rfl (by decide) (u_209  w1276 g0 ⟨by decide, by decide⟩) (fun R1301 T1302 H1303 p1304 => ?_))
          obtain ⟨e1305, w1307, f1308, z1309, e1306, b1310, p1311⟩ := p1304
          subst e1305
          subst e1306
          obtain ⟨a1312, a1313, a1314⟩ := p1311
          have f1315 := f1282.tr f1308 rfl
          show wp _ _ 275 47 [(3, vI z1278), (2, vI z1243), (0, .ref r0), (1, vI a1)] [vI z1309] _ H1303 _
          have k1316 : wKI H1303 r0 = wKI H1237 r0 := ((wKI_fr w1276 g0 f1308 rfl).trans (wKI_fr w1241 g0 f1277 rfl))
          have h1317 : KNN T H1303 r0 e d := (KNN_fr w1276 g0 f1308 rfl (KNN_fr w1241 g0 f1277 rfl a1253))
          exact wp_ireturn e275 c275_47 rfl ⟨rfl, w1307, f1315, z1309, rfl, ⟨b1310.1, b1310.2⟩, (Or.inr ⟨by omega, by omega, XBO_z _z (by omega), h1317⟩)⟩
      · exfalso
        omega
    · have f1318 := f1215.tr f1242 rfl
      show wp _ _ 275 14 [(0, .ref r0), (1, vI a1)] [vI z1243] _ H1237 _
      refine wp_of e275 c275_14 (rw_istore_n (pc' := 15) (z := z1243) (L' := [(2, vI z1243), (0, .ref r0), (1, vI a1)]) rfl rfl rfl ?_)
      refine wp_of e275 c275_15 (rw_iload_n (pc' := 16) (z := z1243) rfl rfl ?_)
      refine wp_of e275 c275_16 (rw_if_le (p1 := 25) (p2 := 19) (by decide) rfl ⟨Int.le_trans (by decide) b1244.1, Int.le_trans b1244.2 (by decide)⟩ (fun c1319 => ?_) (fun c1319 => ?_))
      · exfalso
        omega
      · refine wp_of e275 c275_19 (rw_aload_n (pc' := 20) (v := .ref r0) rfl rfl rfl ?_)
        refine wp_of e275 c275_20 (rw_iload_n (pc' := 21) (z := z1243) rfl rfl ?_)
        refine wp_of e275 c275_21 (xc_V (pc' := 24) (r := r0) (as := [vI z1243]) (st := []) (lm_9_54) rfl rfl (Nat.le_of_ble_eq_true rfl) w1241 g0 sh_42 (by decide) rfl (by decide) (u_170  w1241 g0 ⟨Int.le_trans (by decide) b1244.1, Int.le_trans b1244.2 (by decide)⟩) (fun R1320 T1321 H1322 p1323 => ?_))
        obtain ⟨e1324, w1326, f1327, z1328, e1325, b1329, p1330⟩ := p1323
        subst e1324
        subst e1325
        obtain ⟨a1331, a1332, a1333⟩ := p1330
        have f1334 := f1318.tr f1327 rfl
        show wp _ _ 275 24 [(2, vI z1243), (0, .ref r0), (1, vI a1)] [vI z1328] _ H1322 _
        have k1335 : wKI H1322 r0 = wKI H1237 r0 := (wKI_fr w1241 g0 f1327 rfl)
        have h1336 : KNN T H1322 r0 e d := (KNN_fr w1241 g0 f1327 rfl a1261)
        exact wp_ireturn e275 c275_24 rfl ⟨rfl, w1326, f1334, z1328, rfl, ⟨b1329.1, b1329.2⟩, (Or.inl ⟨by omega, by omega, by omega, h1336⟩)⟩
  · show wp _ _ 275 11 [(0, .ref r0), (1, vI a1)] [vI z1225, .ref r0] _ H1212 _
    have k1337 : H1212 r0 3 = H r0 3 := (wq_u_j e1213 rfl)
    have k1338 : wKI H1212 r0 = wKI H r0 := (wKI_fr hW g0 ((wfr.rf (l := [(42, 0)])).put' e1213 g0 rfl) rfl)
    have h1339 : KNN T H1212 r0 e d := (KNN_fr hW g0 ((wfr.rf (l := [(42, 0)])).put' e1213 g0 rfl) rfl hKNN_r0)
    refine wp_of e275 c275_11 (xc_V (pc' := 14) (r := r0) (as := [vI z1225]) (st := []) (lm_9_433) rfl rfl (Nat.le_of_ble_eq_true rfl) w1214 g0 sh_42 (by decide) rfl (by decide) (u_241 (e := e) (d := d) w1214 g0 ⟨b1226.1, b1226.2⟩ (by omega) (by omega) (by assumption) (by assumption) (by assumption) (by assumption) h1217 h1339) (fun R1340 T1341 H1342 p1343 => ?_))
    obtain ⟨e1344, w1346, f1347, z1348, e1345, b1349, p1350⟩ := p1343
    subst e1344
    subst e1345
    rcases p1350 with ⟨a1351, a1352, a1353, a1354, a1355, a1356, a1357, a1358, a1359⟩ | ⟨a1360, a1361, a1362, a1363, a1364, a1365, a1366⟩
    · have f1367 := f1215.tr f1347 rfl
      show wp _ _ 275 14 [(0, .ref r0), (1, vI a1)] [vI z1348] _ H1342 _
      refine wp_of e275 c275_14 (rw_istore_n (pc' := 15) (z := z1348) (L' := [(2, vI z1348), (0, .ref r0), (1, vI a1)]) rfl rfl rfl ?_)
      refine wp_of e275 c275_15 (rw_iload_n (pc' := 16) (z := z1348) rfl rfl ?_)
      refine wp_of e275 c275_16 (rw_if_le (p1 := 25) (p2 := 19) (by decide) rfl ⟨Int.le_trans (by decide) b1349.1, Int.le_trans b1349.2 (by decide)⟩ (fun c1368 => ?_) (fun c1368 => ?_))
      · have k1369 : H1342 r0 3 = H1212 r0 3 := (f1347 r0 3 _ g0 rfl)
        obtain ⟨r1370, q1371, g1372⟩ := (w1346.opt g0 (t' := 54) (n := 33) (j := 3) (p := 0) (q := 0) rfl (by decide) rfl).resolve_left (by omega)
        have h1373 : RB T H1342 r0 e d := (RB_fr w1214 g0 f1347 rfl h1217)
        have _kbb := a1359
        have _kb := _kbb.1
        have _n3 : H1342 r0 3 ≠ -1 := by omega
        have _rp := RB_at h1373 q1371
        have _k := RP_k _rp
        have _nb := xcn_b (f := xwf e d) (xlots d).toNat
        have h1374 : KL T H1342 r0 (xwf e d) (xlots d).toNat := _kbb.2
        refine wp_of e275 c275_25 (rw_aload_n (pc' := 26) (v := .ref r0) rfl rfl rfl ?_)
        refine wp_of e275 c275_26 (rw_iload_n (pc' := 27) (z := a1) rfl rfl ?_)
        refine wp_of e275 c275_27 (xc_V (pc' := 30) (r := r0) (as := [vI a1]) (st := []) (lm_9_476) rfl rfl (Nat.le_of_ble_eq_true rfl) w1346 g0 sh_42 (by decide) rfl (by decide) (u_274 (e := e) (d := d) w1346 g0 ⟨by omega, by omega⟩ q1371 g1372 (by assumption) (by assumption) (by assumption) (by assumption) (by omega) (by omega) h1373) (fun R1375 T1376 H1377 p1378 => ?_))
        obtain ⟨e1379, w1381, f1382, z1383, e1380, b1384, p1385⟩ := p1378
        subst e1379
        subst e1380
        have f1387 := f1367.tr f1382 rfl
        show wp _ _ 275 30 [(2, vI z1348), (0, .ref r0), (1, vI a1)] [vI z1383] _ H1377 _
        refine wp_of e275 c275_30 (rw_istore_n (pc' := 31) (z := z1383) (L' := [(3, vI z1383), (2, vI z1348), (0, .ref r0), (1, vI a1)]) rfl rfl rfl ?_)
        refine wp_of e275 c275_31 (rw_aload_n (pc' := 32) (v := .ref r0) rfl rfl rfl ?_)
        refine wp_of e275 c275_32 (rw_iload_n (pc' := 33) (z := z1383) rfl rfl ?_)
        refine wp_of e275 c275_33 (rw_bipush (pc' := 35) (z := 24) rfl (by decide) ?_)
        refine wp_of e275 c275_35 (rw_icmp_ne (p1 := 43) (p2 := 38) (by decide) rfl ⟨Int.le_trans (by decide) b1384.1, Int.le_trans b1384.2 (by decide)⟩ ⟨by decide, by decide⟩ (fun c1388 => ?_) (fun c1388 => ?_))
        · refine wp_of e275 c275_43 (rw_iload_n (pc' := 44) (z := z1383) rfl rfl ?_)
          have _z : XBO e d (a1).toNat (xlots d).toNat z1383 := ⟨z1383, by assumption, by first | exact Or.inl ⟨by omega, rfl⟩ | exact Or.inr ⟨by omega, rfl⟩⟩
          refine wp_of e275 c275_44 (xc_V (pc' := 47) (r := r0) (as := [vI z1383]) (st := []) (lm_9_58) rfl rfl (Nat.le_of_ble_eq_true rfl) w1381 g0 sh_42 (by decide) rfl (by decide) (u_209  w1381 g0 ⟨Int.le_trans (by decide) b1384.1, Int.le_trans b1384.2 (by decide)⟩) (fun R1389 T1390 H1391 p1392 => ?_))
          obtain ⟨e1393, w1395, f1396, z1397, e1394, b1398, p1399⟩ := p1392
          subst e1393
          subst e1394
          obtain ⟨a1400, a1401, a1402⟩ := p1399
          have f1403 := f1387.tr f1396 rfl
          show wp _ _ 275 47 [(3, vI z1383), (2, vI z1348), (0, .ref r0), (1, vI a1)] [vI z1397] _ H1391 _
          have k1404 : wKI H1391 r0 = wKI H1342 r0 := ((wKI_fr w1381 g0 f1396 rfl).trans (wKI_fr w1346 g0 f1382 rfl))
          have h1405 : KNN T H1391 r0 e d := (KNN_fr w1381 g0 f1396 rfl (KNN_fr w1346 g0 f1382 rfl a1358))
          exact wp_ireturn e275 c275_47 rfl ⟨rfl, w1395, f1403, z1397, rfl, ⟨b1398.1, b1398.2⟩, (Or.inr ⟨by omega, by omega, XBO_z _z (by omega), h1405⟩)⟩
        · refine wp_of e275 c275_38 (rw_bipush (pc' := 40) (z := -2) rfl (by decide) ?_)
          refine wp_of e275 c275_40 (rw_goto (p1 := 44) (by decide) ?_)
          have _z : XBO e d (a1).toNat (xlots d).toNat (-2) := ⟨z1383, by assumption, by first | exact Or.inl ⟨by omega, rfl⟩ | exact Or.inr ⟨by omega, rfl⟩⟩
          refine wp_of e275 c275_44 (xc_V (pc' := 47) (r := r0) (as := [vI (-2)]) (st := []) (lm_9_58) rfl rfl (Nat.le_of_ble_eq_true rfl) w1381 g0 sh_42 (by decide) rfl (by decide) (u_209  w1381 g0 ⟨by decide, by decide⟩) (fun R1406 T1407 H1408 p1409 => ?_))
          obtain ⟨e1410, w1412, f1413, z1414, e1411, b1415, p1416⟩ := p1409
          subst e1410
          subst e1411
          obtain ⟨a1417, a1418, a1419⟩ := p1416
          have f1420 := f1387.tr f1413 rfl
          show wp _ _ 275 47 [(3, vI z1383), (2, vI z1348), (0, .ref r0), (1, vI a1)] [vI z1414] _ H1408 _
          have k1421 : wKI H1408 r0 = wKI H1342 r0 := ((wKI_fr w1381 g0 f1413 rfl).trans (wKI_fr w1346 g0 f1382 rfl))
          have h1422 : KNN T H1408 r0 e d := (KNN_fr w1381 g0 f1413 rfl (KNN_fr w1346 g0 f1382 rfl a1358))
          exact wp_ireturn e275 c275_47 rfl ⟨rfl, w1412, f1420, z1414, rfl, ⟨b1415.1, b1415.2⟩, (Or.inr ⟨by omega, by omega, XBO_z _z (by omega), h1422⟩)⟩
      · exfalso
        omega
    · have f1423 := f1215.tr f1347 rfl
      show wp _ _ 275 14 [(0, .ref r0), (1, vI a1)] [vI z1348] _ H1342 _
      refine wp_of e275 c275_14 (rw_istore_n (pc' := 15) (z := z1348) (L' := [(2, vI z1348), (0, .ref r0), (1, vI a1)]) rfl rfl rfl ?_)
      refine wp_of e275 c275_15 (rw_iload_n (pc' := 16) (z := z1348) rfl rfl ?_)
      refine wp_of e275 c275_16 (rw_if_le (p1 := 25) (p2 := 19) (by decide) rfl ⟨Int.le_trans (by decide) b1349.1, Int.le_trans b1349.2 (by decide)⟩ (fun c1424 => ?_) (fun c1424 => ?_))
      · exfalso
        omega
      · refine wp_of e275 c275_19 (rw_aload_n (pc' := 20) (v := .ref r0) rfl rfl rfl ?_)
        refine wp_of e275 c275_20 (rw_iload_n (pc' := 21) (z := z1348) rfl rfl ?_)
        refine wp_of e275 c275_21 (xc_V (pc' := 24) (r := r0) (as := [vI z1348]) (st := []) (lm_9_54) rfl rfl (Nat.le_of_ble_eq_true rfl) w1346 g0 sh_42 (by decide) rfl (by decide) (u_170  w1346 g0 ⟨Int.le_trans (by decide) b1349.1, Int.le_trans b1349.2 (by decide)⟩) (fun R1425 T1426 H1427 p1428 => ?_))
        obtain ⟨e1429, w1431, f1432, z1433, e1430, b1434, p1435⟩ := p1428
        subst e1429
        subst e1430
        obtain ⟨a1436, a1437, a1438⟩ := p1435
        have f1439 := f1423.tr f1432 rfl
        show wp _ _ 275 24 [(2, vI z1348), (0, .ref r0), (1, vI a1)] [vI z1433] _ H1427 _
        have k1440 : wKI H1427 r0 = wKI H1342 r0 := (wKI_fr w1346 g0 f1432 rfl)
        have h1441 : KNN T H1427 r0 e d := (KNN_fr w1346 g0 f1432 rfl a1366)
        exact wp_ireturn e275 c275_24 rfl ⟨rfl, w1431, f1439, z1433, rfl, ⟨b1434.1, b1434.2⟩, (Or.inl ⟨by omega, by omega, by omega, h1441⟩)⟩
/-! StrikeAwakeModel.proof()I  -/
abbrev uq_276 (r0 : Nat) (e : xD) (d : xD) (T : wq_T) (H : wq_H) : Option Value → wq_T → wq_H → Prop := fun r T' H' => T = T' ∧ WT T H' ∧ wfr [(42, 0), (42, 1), (42, 2), (42, 28), (42, 29), (51, 999), (52, 999)] T H H' ∧ ∃ z : Int, some (vI z) = r ∧ ((-2147483648) ≤ z ∧ z ≤ 2147483647) ∧ (((z = -1) ∧ (wKI H' r0 = 1) ∧ (H r0 3 = -1 ∨ 5000 < xlots d ∨ 0 < xcn (xwf e d) (xlots d).toNat) ∧ KNN T H' r0 e d) ∨ ((-2 ≤ z ∧ z ≤ 16777215) ∧ (wKI H' r0 = 1) ∧ (H r0 3 ≠ -1 ∧ xlots d ≤ 5000 ∧ xcn (xwf e d) (xlots d).toNat ≤ 0) ∧ (XPF (e 13) (XPV e d (xlots d).toNat) z) ∧ KNN T H' r0 e d))
set_option maxHeartbeats 4000000 in
theorem u_276 {kt : Nat → Option mc_E} {T : wq_T} {H : wq_H} {r0 : Nat} {e : xD} {d : xD} (hW : WT T H) (g0 : T.2.2.2 r0 = some 42) (p0 : wKI H r0 = 1) (p1 : XW d) (p2 : ∀ h : Nat, d 0 0 ≤ (h : Int) → h < 24 → e 13 h = 0) (p3 : XN d) (p4 : ∀ h : Nat, h < 24 → 0 ≤ e 13 h ∧ e 13 h ≤ 100) (hRB_r0 : RB T H r0 e d) (hKNN_r0 : KNN T H r0 e d) : wpc kt 8 276 [.ref r0] T H (uq_276 r0 e d T H) := by
  refine wp_enter e276 (Nat.le_of_ble_eq_true rfl) rfl ?_
  have f0 : wfr [(42, 0), (42, 1), (42, 2), (42, 28), (42, 29), (51, 999), (52, 999)] T H H := wfr.rf
  show wp _ _ 276 0 [(0, .ref r0)] [] _ H _
  have _b := RB_b hW hRB_r0
  have _nu := RB_n3 hRB_r0
  have _lm := RB_lm hRB_r0
  have _xw := (by assumption : XW d)
  refine wp_of e276 c276_0 (rw_aload_n (pc' := 1) (v := .ref r0) rfl rfl rfl ?_)
  refine wp_of e276 c276_1 (rw_iconst (pc' := 2) rfl ?_)
  refine wp_of e276 c276_2 (xp_I (pc' := 5) lf_9_48 hW g0 sh_42 (by decide) (by decide) ty_42_0 rfl rfl (by decide) (by decide) ⟨by decide, by decide⟩ rfl (fun H1517 e1518 w1519 => ?_))
  have f1520 := f0.put' e1518 g0 rfl
  have k1521 : H1517 r0 0 = 0 := wq_u_s e1518
  refine wp_of e276 c276_5 (rw_aload_n (pc' := 6) (v := .ref r0) rfl rfl rfl ?_)
  refine wp_of e276 c276_6 (rw_aload_n (pc' := 7) (v := .ref r0) rfl rfl rfl ?_)
  have k1522 : H1517 r0 3 = H r0 3 := (wq_u_j e1518 rfl)
  refine wp_of e276 c276_7 (xg_O (pc' := 10) lf_9_337 w1519 g0 sh_42 (by decide) (by decide) ty_42_3 rfl rfl (fun q1524 => ?_) (fun r1523 q1524 g1525 => ?_))
  · refine wp_of e276 c276_10 (rw_ifnull_n (p1 := 17) (p2 := 13) (by decide) rfl ?_)
    refine wp_of e276 c276_17 (rw_iconst (pc' := 18) rfl ?_)
    have k1526 : wKI H1517 r0 = wKI H r0 := (wKI_fr hW g0 ((wfr.rf (l := [(42, 0)])).put' e1518 g0 rfl) rfl)
    have h1527 : RB T H1517 r0 e d := (RB_fr hW g0 ((wfr.rf (l := [(42, 0)])).put' e1518 g0 rfl) rfl hRB_r0)
    have h1528 : KNN T H1517 r0 e d := (KNN_fr hW g0 ((wfr.rf (l := [(42, 0)])).put' e1518 g0 rfl) rfl hKNN_r0)
    refine wp_of e276 c276_18 (xc_V (pc' := 21) (r := r0) (as := [vI 0]) (st := []) (lm_9_433) rfl rfl (Nat.le_of_ble_eq_true rfl) w1519 g0 sh_42 (by decide) rfl (by decide) (u_241 (e := e) (d := d) w1519 g0 ⟨by decide, by decide⟩ (by omega) (by omega) (by assumption) (by assumption) (by assumption) (by assumption) h1527 h1528) (fun R1529 T1530 H1531 p1532 => ?_))
    obtain ⟨e1533, w1535, f1536, z1537, e1534, b1538, p1539⟩ := p1532
    subst e1533
    subst e1534
    rcases p1539 with ⟨a1540, a1541, a1542, a1543, a1544, a1545, a1546, a1547, a1548⟩ | ⟨a1549, a1550, a1551, a1552, a1553, a1554, a1555⟩
    · have f1556 := f1520.tr f1536 rfl
      show wp _ _ 276 21 [(0, .ref r0)] [vI z1537] _ H1531 _
      refine wp_of e276 c276_21 (rw_istore_n (pc' := 22) (z := z1537) (L' := [(1, vI z1537), (0, .ref r0)]) rfl rfl rfl ?_)
      have _kb := (a1548).1
      refine wp_of e276 c276_22 (rw_iload_n (pc' := 23) (z := z1537) rfl rfl ?_)
      refine wp_of e276 c276_23 (rw_if_ne (p1 := 39) (p2 := 26) (by decide) rfl ⟨Int.le_trans (by decide) b1538.1, Int.le_trans b1538.2 (by decide)⟩ (fun c1557 => ?_) (fun c1557 => ?_))
      · exfalso
        omega
      · have k1558 : wLM H1531 r0 = wLM H r0 := ((wLM_fr w1519 g0 f1536 rfl).trans (wLM_fr hW g0 ((wfr.rf (l := [(42, 0)])).put' e1518 g0 rfl) rfl))
        refine wp_of e276 c276_26 (rw_aload_n (pc' := 27) (v := .ref r0) rfl rfl rfl ?_)
        have k1559 : H1531 r0 3 = H1517 r0 3 := (f1536 r0 3 _ g0 rfl)
        have q1560 : H1531 r0 3 = -1 := k1559.trans q1524
        obtain ⟨r1561, q1562, g1563⟩ := (w1535.opt g0 (t' := 54) (n := 33) (j := 3) (p := 0) (q := 0) rfl (by decide) rfl).resolve_left (by omega)
        refine wp_of e276 c276_27 (xc_V (pc' := 30) (r := r0) (as := []) (st := []) (lm_9_376) rfl rfl (Nat.le_of_ble_eq_true rfl) w1535 g0 sh_42 (by decide) rfl (by decide) (s_220 w1535 g0 q1562 g1563) (fun R1564 T1565 H1566 p1567 => ?_))
        obtain ⟨e1568, e1570, z1572, e1569, b1573, p1571⟩ := p1567
        subst e1568
        subst e1569
        subst e1570
        show wp _ _ 276 30 [(1, vI z1537), (0, .ref r0)] [vL z1572] _ H1531 _
        refine wp_of e276 c276_30 (rw_ldc2 (pc' := 33) (z := 5000) rfl rfl rfl ?_)
        refine wp_of e276 c276_33 (rw_lcmp (pc' := 34) rfl ⟨Int.le_trans (by decide) b1573.1, Int.le_trans b1573.2 (by decide)⟩ ⟨by decide, by decide⟩ ?_)
        have b1574 := wq_cmp_b z1572 5000
        refine wp_of e276 c276_34 (rw_if_le (p1 := 39) (p2 := 37) (by decide) rfl ⟨by omega, by omega⟩ (fun c1575 => ?_) (fun c1575 => ?_))
        · refine wp_of e276 c276_39 (rw_iload_n (pc' := 40) (z := z1537) rfl rfl ?_)
          refine wp_of e276 c276_40 (rw_if_ne (p1 := 52) (p2 := 43) (by decide) rfl ⟨Int.le_trans (by decide) b1538.1, Int.le_trans b1538.2 (by decide)⟩ (fun c1576 => ?_) (fun c1576 => ?_))
          · exfalso
            omega
          · refine wp_of e276 c276_43 (rw_aload_n (pc' := 44) (v := .ref r0) rfl rfl rfl ?_)
            refine wp_of e276 c276_44 (xg_I (pc' := 47) lf_9_422 w1535 g0 sh_42 (by decide) (by decide) ty_42_29 rfl rfl (fun b1577 b1578 => ?_))
            refine wp_of e276 c276_47 (rw_if_le (p1 := 52) (p2 := 50) (by decide) rfl ⟨Int.le_trans (by decide) b1577, Int.le_trans b1578 (by decide)⟩ (fun c1579 => ?_) (fun c1579 => ?_))
            · refine wp_of e276 c276_52 (rw_iload_n (pc' := 53) (z := z1537) rfl rfl ?_)
              refine wp_of e276 c276_53 (rw_if_le (p1 := 62) (p2 := 56) (by decide) rfl ⟨Int.le_trans (by decide) b1538.1, Int.le_trans b1538.2 (by decide)⟩ (fun c1580 => ?_) (fun c1580 => ?_))
              · have h1581 : RB T H1531 r0 e d := (RB_fr w1519 g0 f1536 rfl h1527)
                have _kbb := a1548
                have _kb := _kbb.1
                have _n3 : H1531 r0 3 ≠ -1 := by omega
                have _rp := RB_at h1581 q1562
                have _k := RP_k _rp
                have _nb := xcn_b (f := xwf e d) (xlots d).toNat
                have h1582 : KL T H1531 r0 (xwf e d) (xlots d).toNat := _kbb.2
                have _ar := RB_ar h1581 (by omega)
                have _pk := _ar.1
                have h1583 : MN20 T H1531 r0 24 (e 13) := _ar.2.2.1
                refine wp_of e276 c276_62 (rw_aload_n (pc' := 63) (v := .ref r0) rfl rfl rfl ?_)
                refine wp_of e276 c276_63 (xc_V (pc' := 66) (r := r0) (as := []) (st := []) (lm_9_357) rfl rfl (Nat.le_of_ble_eq_true rfl) w1535 g0 sh_42 (by decide) rfl (by decide) (u_207 (f := ((e 13))) w1535 g0 h1583) (fun R1584 T1585 H1586 p1587 => ?_))
                obtain ⟨e1588, e1590, z1591, e1589, b1592, p1593⟩ := p1587
                subst e1588
                subst e1589
                subst e1590
                show wp _ _ 276 66 [(1, vI z1537), (0, .ref r0)] [vI z1591] _ H1531 _
                refine wp_of e276 c276_66 (rw_istore_n (pc' := 67) (z := z1591) (L' := [(2, vI z1591), (1, vI z1537), (0, .ref r0)]) rfl rfl rfl ?_)
                refine wp_of e276 c276_67 (rw_iconst (pc' := 68) rfl ?_)
                refine wp_of e276 c276_68 (rw_istore_n (pc' := 69) (z := 0) (L' := [(3, vI 0), (2, vI z1591), (1, vI z1537), (0, .ref r0)]) rfl rfl rfl ?_)
                have lp1685 : ∀ (n1686 : Nat) (v1688 : Int) (H1689 : wq_H), WT T H1689 → wfr [(51, 999)] T H1531 H1689 → (0 ≤ v1688 ∧ v1688 ≤ 4) → (XPM (e 13) (XPV e d (xlots d).toNat) v1688) → (4 - v1688).toNat = n1686 → wp kt 7 276 69 [(3, vI v1688), (2, vI z1591), (0, .ref r0)] [] T H1689 (uq_276 r0 e d T H) := by
                  intro n1686
                  induction n1686 using Nat.strongRecOn with
                  | _ n1686 ih1687 =>
                    intro v1688 H1689 w1690 f1691 b1692 x1694 m1693
                    have f1695 := f1556.tr f1691 rfl
                    refine wp_of e276 c276_69 (rw_iload_n (pc' := 70) (z := v1688) rfl rfl ?_)
                    refine wp_of e276 c276_70 (rw_iconst (pc' := 71) rfl ?_)
                    refine wp_of e276 c276_71 (rw_icmp_ge (p1 := 101) (p2 := 74) (by decide) rfl ⟨Int.le_trans (by decide) b1692.1, Int.le_trans b1692.2 (by decide)⟩ ⟨by decide, by decide⟩ (fun c1696 => ?_) (fun c1696 => ?_))
                    · have _z : XPF (e 13) (XPV e d (xlots d).toNat) (-2) := XPM_e (by assumption : XPM (e 13) (XPV e d (xlots d).toNat) v1688) (by omega)
                      refine wp_of e276 c276_101 (rw_aload_n (pc' := 102) (v := .ref r0) rfl rfl rfl ?_)
                      refine wp_of e276 c276_102 (rw_bipush (pc' := 104) (z := -2) rfl (by decide) ?_)
                      refine wp_of e276 c276_104 (xc_V (pc' := 107) (r := r0) (as := [vI (-2)]) (st := []) (lm_9_58) rfl rfl (Nat.le_of_ble_eq_true rfl) w1690 g0 sh_42 (by decide) rfl (by decide) (u_209  w1690 g0 ⟨by decide, by decide⟩) (fun R1697 T1698 H1699 p1700 => ?_))
                      obtain ⟨e1701, w1703, f1704, z1705, e1702, b1706, p1707⟩ := p1700
                      subst e1701
                      subst e1702
                      obtain ⟨a1708, a1709, a1710⟩ := p1707
                      have f1711 := f1695.tr f1704 rfl
                      show wp _ _ 276 107 [(3, vI v1688), (2, vI z1591), (0, .ref r0)] [vI z1705] _ H1699 _
                      have k1712 : wKI H1699 r0 = wKI H1531 r0 := ((wKI_fr w1690 g0 f1704 rfl).trans (wKI_fr w1535 g0 f1691 rfl))
                      have h1713 : KNN T H1699 r0 e d := (KNN_fr w1690 g0 f1704 rfl (KNN_fr w1535 g0 f1691 rfl a1547))
                      exact wp_ireturn e276 c276_107 rfl ⟨rfl, w1703, f1711, z1705, rfl, ⟨b1706.1, b1706.2⟩, (Or.inr ⟨by omega, by omega, by omega, XPF_z _z (by omega), h1713⟩)⟩
                    · refine wp_of e276 c276_74 (rw_aload_n (pc' := 75) (v := .ref r0) rfl rfl rfl ?_)
                      have k1714 : wLM H1689 r0 = wLM H1531 r0 := (wLM_fr w1535 g0 f1691 rfl)
                      refine wp_of e276 c276_75 (rw_iload_n (pc' := 76) (z := z1591) rfl rfl ?_)
                      refine wp_of e276 c276_76 (rw_iload_n (pc' := 77) (z := v1688) rfl rfl ?_)
                      have k1715 : H1689 r0 3 = H1531 r0 3 := (f1691 r0 3 _ g0 rfl)
                      have q1716 : H1689 r0 3 = (r1561 : Int) := k1715.trans q1562
                      have h1717 : RB T H1689 r0 e d := (RB_fr w1535 g0 f1691 rfl h1581)
                      refine wp_of e276 c276_77 (xc_V (pc' := 80) (r := r0) (as := [vI z1591, vI v1688]) (st := []) (lm_9_481) rfl rfl (Nat.le_of_ble_eq_true rfl) w1690 g0 sh_42 (by decide) rfl (by decide) (u_277 (e := e) (d := d) w1690 g0 ⟨b1592.1, b1592.2⟩ ⟨b1692.1, by omega⟩ q1716 g1563 (by omega) (by assumption) (by assumption) (by assumption) (by assumption) (by omega) (by omega) h1717) (fun R1718 T1719 H1720 p1721 => ?_))
                      obtain ⟨e1722, w1724, f1725, z1726, e1723, b1727, p1728⟩ := p1721
                      subst e1722
                      subst e1723
                      have f1730 := f1695.tr f1725 rfl
                      have f1731 := f1691.tr f1725 rfl
                      show wp _ _ 276 80 [(3, vI v1688), (2, vI z1591), (0, .ref r0)] [vI z1726] _ H1720 _
                      have _lb := XLP_b (by assumption : XLP (e 13) (XPV e d (xlots d).toNat) v1688 z1726)
                      refine wp_of e276 c276_80 (rw_istore (pc' := 82) (z := z1726) (L' := [(4, vI z1726), (3, vI v1688), (2, vI z1591), (0, .ref r0)]) rfl rfl rfl ?_)
                      refine wp_of e276 c276_82 (rw_iload (pc' := 84) (z := z1726) rfl rfl ?_)
                      refine wp_of e276 c276_84 (rw_iconst (pc' := 85) rfl ?_)
                      refine wp_of e276 c276_85 (rw_icmp_eq (p1 := 95) (p2 := 88) (by decide) rfl ⟨Int.le_trans (by decide) b1727.1, Int.le_trans b1727.2 (by decide)⟩ ⟨by decide, by decide⟩ (fun c1732 => ?_) (fun c1732 => ?_))
                      · have _q : XPM (e 13) (XPV e d (xlots d).toNat) (v1688 + 1) := XPM_n (by assumption : XPM (e 13) (XPV e d (xlots d).toNat) v1688) (by assumption : XLP (e 13) (XPV e d (xlots d).toNat) v1688 z1726) (by omega)
                        refine wp_of e276 c276_95 (rw_iinc (pc' := 98) (z := v1688) (L' := [(3, vI (v1688 + 1)), (4, vI z1726), (2, vI z1591), (0, .ref r0)]) rfl rfl rfl rfl ?_)
                        refine wp_of e276 c276_98 (rw_goto (p1 := 69) (by decide) ?_)
                        exact wp_lc (ks := [3, 4, 2, 0]) (wl_c rfl (wl_c rfl (wl_c rfl wl_n))) rfl (by decide) (ih1687 _ (by omega) (v1688 + 1) H1720 w1724 f1731 ⟨by omega, by omega⟩ (_q) rfl)
                      · have _z : XPF (e 13) (XPV e d (xlots d).toNat) z1726 := XPM_f (by assumption : XPM (e 13) (XPV e d (xlots d).toNat) v1688) (by assumption : XLP (e 13) (XPV e d (xlots d).toNat) v1688 z1726) (by omega)
                        refine wp_of e276 c276_88 (rw_aload_n (pc' := 89) (v := .ref r0) rfl rfl rfl ?_)
                        refine wp_of e276 c276_89 (rw_iload (pc' := 91) (z := z1726) rfl rfl ?_)
                        refine wp_of e276 c276_91 (xc_V (pc' := 94) (r := r0) (as := [vI z1726]) (st := []) (lm_9_58) rfl rfl (Nat.le_of_ble_eq_true rfl) w1724 g0 sh_42 (by decide) rfl (by decide) (u_209  w1724 g0 ⟨Int.le_trans (by decide) b1727.1, Int.le_trans b1727.2 (by decide)⟩) (fun R1733 T1734 H1735 p1736 => ?_))
                        obtain ⟨e1737, w1739, f1740, z1741, e1738, b1742, p1743⟩ := p1736
                        subst e1737
                        subst e1738
                        obtain ⟨a1744, a1745, a1746⟩ := p1743
                        have f1747 := f1730.tr f1740 rfl
                        show wp _ _ 276 94 [(4, vI z1726), (3, vI v1688), (2, vI z1591), (0, .ref r0)] [vI z1741] _ H1735 _
                        have k1748 : wKI H1735 r0 = wKI H1531 r0 := ((wKI_fr w1724 g0 f1740 rfl).trans ((wKI_fr w1690 g0 f1725 rfl).trans (wKI_fr w1535 g0 f1691 rfl)))
                        have h1749 : KNN T H1735 r0 e d := (KNN_fr w1724 g0 f1740 rfl (KNN_fr w1690 g0 f1725 rfl (KNN_fr w1535 g0 f1691 rfl a1547)))
                        exact wp_ireturn e276 c276_94 rfl ⟨rfl, w1739, f1747, z1741, rfl, ⟨b1742.1, b1742.2⟩, (Or.inr ⟨by omega, by omega, by omega, XPF_z _z (by omega), h1749⟩)⟩
                exact wp_lc (ks := [3, 2, 1, 0]) (wl_c rfl (wl_c rfl (wl_c rfl wl_n))) rfl (by decide) (lp1685 _ 0 H1531 w1535 wfr.rf ⟨by decide, by decide⟩ (XPM_0) rfl)
              · exfalso
                omega
            · refine wp_of e276 c276_50 (rw_iconst (pc' := 51) rfl ?_)
              refine wp_of e276 c276_51 (rw_istore_n (pc' := 52) (z := 5) (L' := [(1, vI 5), (0, .ref r0)]) rfl rfl rfl ?_)
              refine wp_of e276 c276_52 (rw_iload_n (pc' := 53) (z := 5) rfl rfl ?_)
              refine wp_of e276 c276_53 (rw_if_le (p1 := 62) (p2 := 56) (by decide) rfl ⟨by decide, by decide⟩ (fun c1750 => ?_) (fun c1750 => ?_))
              · exfalso
                omega
              · refine wp_of e276 c276_56 (rw_aload_n (pc' := 57) (v := .ref r0) rfl rfl rfl ?_)
                refine wp_of e276 c276_57 (rw_iload_n (pc' := 58) (z := 5) rfl rfl ?_)
                refine wp_of e276 c276_58 (xc_V (pc' := 61) (r := r0) (as := [vI 5]) (st := []) (lm_9_54) rfl rfl (Nat.le_of_ble_eq_true rfl) w1535 g0 sh_42 (by decide) rfl (by decide) (u_170  w1535 g0 ⟨by decide, by decide⟩) (fun R1751 T1752 H1753 p1754 => ?_))
                obtain ⟨e1755, w1757, f1758, z1759, e1756, b1760, p1761⟩ := p1754
                subst e1755
                subst e1756
                obtain ⟨a1762, a1763, a1764⟩ := p1761
                have f1765 := f1556.tr f1758 rfl
                show wp _ _ 276 61 [(1, vI 5), (0, .ref r0)] [vI z1759] _ H1753 _
                have k1766 : wKI H1753 r0 = wKI H1531 r0 := (wKI_fr w1535 g0 f1758 rfl)
                have h1767 : KNN T H1753 r0 e d := (KNN_fr w1535 g0 f1758 rfl a1547)
                exact wp_ireturn e276 c276_61 rfl ⟨rfl, w1757, f1765, z1759, rfl, ⟨b1760.1, b1760.2⟩, (Or.inl ⟨by omega, by omega, by omega, h1767⟩)⟩
        · refine wp_of e276 c276_37 (rw_iconst (pc' := 38) rfl ?_)
          refine wp_of e276 c276_38 (rw_istore_n (pc' := 39) (z := 3) (L' := [(1, vI 3), (0, .ref r0)]) rfl rfl rfl ?_)
          refine wp_of e276 c276_39 (rw_iload_n (pc' := 40) (z := 3) rfl rfl ?_)
          refine wp_of e276 c276_40 (rw_if_ne (p1 := 52) (p2 := 43) (by decide) rfl ⟨by decide, by decide⟩ (fun c1768 => ?_) (fun c1768 => ?_))
          · refine wp_of e276 c276_52 (rw_iload_n (pc' := 53) (z := 3) rfl rfl ?_)
            refine wp_of e276 c276_53 (rw_if_le (p1 := 62) (p2 := 56) (by decide) rfl ⟨by decide, by decide⟩ (fun c1769 => ?_) (fun c1769 => ?_))
            · exfalso
              omega
            · refine wp_of e276 c276_56 (rw_aload_n (pc' := 57) (v := .ref r0) rfl rfl rfl ?_)
              refine wp_of e276 c276_57 (rw_iload_n (pc' := 58) (z := 3) rfl rfl ?_)
              refine wp_of e276 c276_58 (xc_V (pc' := 61) (r := r0) (as := [vI 3]) (st := []) (lm_9_54) rfl rfl (Nat.le_of_ble_eq_true rfl) w1535 g0 sh_42 (by decide) rfl (by decide) (u_170  w1535 g0 ⟨by decide, by decide⟩) (fun R1770 T1771 H1772 p1773 => ?_))
              obtain ⟨e1774, w1776, f1777, z1778, e1775, b1779, p1780⟩ := p1773
              subst e1774
              subst e1775
              obtain ⟨a1781, a1782, a1783⟩ := p1780
              have f1784 := f1556.tr f1777 rfl
              show wp _ _ 276 61 [(1, vI 3), (0, .ref r0)] [vI z1778] _ H1772 _
              have k1785 : wKI H1772 r0 = wKI H1531 r0 := (wKI_fr w1535 g0 f1777 rfl)
              have h1786 : KNN T H1772 r0 e d := (KNN_fr w1535 g0 f1777 rfl a1547)
              exact wp_ireturn e276 c276_61 rfl ⟨rfl, w1776, f1784, z1778, rfl, ⟨b1779.1, b1779.2⟩, (Or.inl ⟨by omega, by omega, by omega, h1786⟩)⟩
          · exfalso
            omega
    · have f1787 := f1520.tr f1536 rfl
      show wp _ _ 276 21 [(0, .ref r0)] [vI z1537] _ H1531 _
      refine wp_of e276 c276_21 (rw_istore_n (pc' := 22) (z := z1537) (L' := [(1, vI z1537), (0, .ref r0)]) rfl rfl rfl ?_)
      refine wp_of e276 c276_22 (rw_iload_n (pc' := 23) (z := z1537) rfl rfl ?_)
      refine wp_of e276 c276_23 (rw_if_ne (p1 := 39) (p2 := 26) (by decide) rfl ⟨Int.le_trans (by decide) b1538.1, Int.le_trans b1538.2 (by decide)⟩ (fun c1788 => ?_) (fun c1788 => ?_))
      · refine wp_of e276 c276_39 (rw_iload_n (pc' := 40) (z := z1537) rfl rfl ?_)
        refine wp_of e276 c276_40 (rw_if_ne (p1 := 52) (p2 := 43) (by decide) rfl ⟨Int.le_trans (by decide) b1538.1, Int.le_trans b1538.2 (by decide)⟩ (fun c1789 => ?_) (fun c1789 => ?_))
        · refine wp_of e276 c276_52 (rw_iload_n (pc' := 53) (z := z1537) rfl rfl ?_)
          refine wp_of e276 c276_53 (rw_if_le (p1 := 62) (p2 := 56) (by decide) rfl ⟨Int.le_trans (by decide) b1538.1, Int.le_trans b1538.2 (by decide)⟩ (fun c1790 => ?_) (fun c1790 => ?_))
          · exfalso
            omega
          · refine wp_of e276 c276_56 (rw_aload_n (pc' := 57) (v := .ref r0) rfl rfl rfl ?_)
            refine wp_of e276 c276_57 (rw_iload_n (pc' := 58) (z := z1537) rfl rfl ?_)
            refine wp_of e276 c276_58 (xc_V (pc' := 61) (r := r0) (as := [vI z1537]) (st := []) (lm_9_54) rfl rfl (Nat.le_of_ble_eq_true rfl) w1535 g0 sh_42 (by decide) rfl (by decide) (u_170  w1535 g0 ⟨Int.le_trans (by decide) b1538.1, Int.le_trans b1538.2 (by decide)⟩) (fun R1791 T1792 H1793 p1794 => ?_))
            obtain ⟨e1795, w1797, f1798, z1799, e1796, b1800, p1801⟩ := p1794
            subst e1795
            subst e1796
            obtain ⟨a1802, a1803, a1804⟩ := p1801
            have f1805 := f1787.tr f1798 rfl
            show wp _ _ 276 61 [(1, vI z1537), (0, .ref r0)] [vI z1799] _ H1793 _
            have k1806 : wKI H1793 r0 = wKI H1531 r0 := (wKI_fr w1535 g0 f1798 rfl)
            have h1807 : KNN T H1793 r0 e d := (KNN_fr w1535 g0 f1798 rfl a1555)
            exact wp_ireturn e276 c276_61 rfl ⟨rfl, w1797, f1805, z1799, rfl, ⟨b1800.1, b1800.2⟩, (Or.inl ⟨by omega, by omega, by omega, h1807⟩)⟩
        · exfalso
          omega
      · exfalso
        omega
  · refine wp_of e276 c276_10 (rw_ifnull_r (p1 := 17) (p2 := 13) (by decide) rfl ?_)
    refine wp_of e276 c276_13 (rw_iconst (pc' := 14) rfl ?_)
    refine wp_of e276 c276_14 (rw_goto (p1 := 18) (by decide) ?_)
    have k1808 : wKI H1517 r0 = wKI H r0 := (wKI_fr hW g0 ((wfr.rf (l := [(42, 0)])).put' e1518 g0 rfl) rfl)
    have h1809 : RB T H1517 r0 e d := (RB_fr hW g0 ((wfr.rf (l := [(42, 0)])).put' e1518 g0 rfl) rfl hRB_r0)
    have h1810 : KNN T H1517 r0 e d := (KNN_fr hW g0 ((wfr.rf (l := [(42, 0)])).put' e1518 g0 rfl) rfl hKNN_r0)
    refine wp_of e276 c276_18 (xc_V (pc' := 21) (r := r0) (as := [vI 1]) (st := []) (lm_9_433) rfl rfl (Nat.le_of_ble_eq_true rfl) w1519 g0 sh_42 (by decide) rfl (by decide) (u_241 (e := e) (d := d) w1519 g0 ⟨by decide, by decide⟩ (by omega) (by omega) (by assumption) (by assumption) (by assumption) (by assumption) h1809 h1810) (fun R1811 T1812 H1813 p1814 => ?_))
    obtain ⟨e1815, w1817, f1818, z1819, e1816, b1820, p1821⟩ := p1814
    subst e1815
    subst e1816
    rcases p1821 with ⟨a1822, a1823, a1824, a1825, a1826, a1827, a1828, a1829, a1830⟩ | ⟨a1831, a1832, a1833, a1834, a1835, a1836, a1837⟩
    · have f1838 := f1520.tr f1818 rfl
      show wp _ _ 276 21 [(0, .ref r0)] [vI z1819] _ H1813 _
      refine wp_of e276 c276_21 (rw_istore_n (pc' := 22) (z := z1819) (L' := [(1, vI z1819), (0, .ref r0)]) rfl rfl rfl ?_)
      have _kb := (a1830).1
      refine wp_of e276 c276_22 (rw_iload_n (pc' := 23) (z := z1819) rfl rfl ?_)
      refine wp_of e276 c276_23 (rw_if_ne (p1 := 39) (p2 := 26) (by decide) rfl ⟨Int.le_trans (by decide) b1820.1, Int.le_trans b1820.2 (by decide)⟩ (fun c1839 => ?_) (fun c1839 => ?_))
      · exfalso
        omega
      · have k1840 : wLM H1813 r0 = wLM H r0 := ((wLM_fr w1519 g0 f1818 rfl).trans (wLM_fr hW g0 ((wfr.rf (l := [(42, 0)])).put' e1518 g0 rfl) rfl))
        refine wp_of e276 c276_26 (rw_aload_n (pc' := 27) (v := .ref r0) rfl rfl rfl ?_)
        have k1841 : H1813 r0 3 = H1517 r0 3 := (f1818 r0 3 _ g0 rfl)
        have q1842 : H1813 r0 3 = (r1523 : Int) := k1841.trans q1524
        refine wp_of e276 c276_27 (xc_V (pc' := 30) (r := r0) (as := []) (st := []) (lm_9_376) rfl rfl (Nat.le_of_ble_eq_true rfl) w1817 g0 sh_42 (by decide) rfl (by decide) (s_220 w1817 g0 q1842 g1525) (fun R1843 T1844 H1845 p1846 => ?_))
        obtain ⟨e1847, e1849, z1851, e1848, b1852, p1850⟩ := p1846
        subst e1847
        subst e1848
        subst e1849
        show wp _ _ 276 30 [(1, vI z1819), (0, .ref r0)] [vL z1851] _ H1813 _
        refine wp_of e276 c276_30 (rw_ldc2 (pc' := 33) (z := 5000) rfl rfl rfl ?_)
        refine wp_of e276 c276_33 (rw_lcmp (pc' := 34) rfl ⟨Int.le_trans (by decide) b1852.1, Int.le_trans b1852.2 (by decide)⟩ ⟨by decide, by decide⟩ ?_)
        have b1853 := wq_cmp_b z1851 5000
        refine wp_of e276 c276_34 (rw_if_le (p1 := 39) (p2 := 37) (by decide) rfl ⟨by omega, by omega⟩ (fun c1854 => ?_) (fun c1854 => ?_))
        · refine wp_of e276 c276_39 (rw_iload_n (pc' := 40) (z := z1819) rfl rfl ?_)
          refine wp_of e276 c276_40 (rw_if_ne (p1 := 52) (p2 := 43) (by decide) rfl ⟨Int.le_trans (by decide) b1820.1, Int.le_trans b1820.2 (by decide)⟩ (fun c1855 => ?_) (fun c1855 => ?_))
          · exfalso
            omega
          · refine wp_of e276 c276_43 (rw_aload_n (pc' := 44) (v := .ref r0) rfl rfl rfl ?_)
            refine wp_of e276 c276_44 (xg_I (pc' := 47) lf_9_422 w1817 g0 sh_42 (by decide) (by decide) ty_42_29 rfl rfl (fun b1856 b1857 => ?_))
            refine wp_of e276 c276_47 (rw_if_le (p1 := 52) (p2 := 50) (by decide) rfl ⟨Int.le_trans (by decide) b1856, Int.le_trans b1857 (by decide)⟩ (fun c1858 => ?_) (fun c1858 => ?_))
            · refine wp_of e276 c276_52 (rw_iload_n (pc' := 53) (z := z1819) rfl rfl ?_)
              refine wp_of e276 c276_53 (rw_if_le (p1 := 62) (p2 := 56) (by decide) rfl ⟨Int.le_trans (by decide) b1820.1, Int.le_trans b1820.2 (by decide)⟩ (fun c1859 => ?_) (fun c1859 => ?_))
              · have h1860 : RB T H1813 r0 e d := (RB_fr w1519 g0 f1818 rfl h1809)
                have _kbb := a1830
                have _kb := _kbb.1
                have _n3 : H1813 r0 3 ≠ -1 := by omega
                have _rp := RB_at h1860 q1842
                have _k := RP_k _rp
                have _nb := xcn_b (f := xwf e d) (xlots d).toNat
                have h1861 : KL T H1813 r0 (xwf e d) (xlots d).toNat := _kbb.2
                have _ar := RB_ar h1860 (by omega)
                have _pk := _ar.1
                have h1862 : MN20 T H1813 r0 24 (e 13) := _ar.2.2.1
                refine wp_of e276 c276_62 (rw_aload_n (pc' := 63) (v := .ref r0) rfl rfl rfl ?_)
                refine wp_of e276 c276_63 (xc_V (pc' := 66) (r := r0) (as := []) (st := []) (lm_9_357) rfl rfl (Nat.le_of_ble_eq_true rfl) w1817 g0 sh_42 (by decide) rfl (by decide) (u_207 (f := ((e 13))) w1817 g0 h1862) (fun R1863 T1864 H1865 p1866 => ?_))
                obtain ⟨e1867, e1869, z1870, e1868, b1871, p1872⟩ := p1866
                subst e1867
                subst e1868
                subst e1869
                show wp _ _ 276 66 [(1, vI z1819), (0, .ref r0)] [vI z1870] _ H1813 _
                refine wp_of e276 c276_66 (rw_istore_n (pc' := 67) (z := z1870) (L' := [(2, vI z1870), (1, vI z1819), (0, .ref r0)]) rfl rfl rfl ?_)
                refine wp_of e276 c276_67 (rw_iconst (pc' := 68) rfl ?_)
                refine wp_of e276 c276_68 (rw_istore_n (pc' := 69) (z := 0) (L' := [(3, vI 0), (2, vI z1870), (1, vI z1819), (0, .ref r0)]) rfl rfl rfl ?_)
                have lp1964 : ∀ (n1965 : Nat) (v1967 : Int) (H1968 : wq_H), WT T H1968 → wfr [(51, 999)] T H1813 H1968 → (0 ≤ v1967 ∧ v1967 ≤ 4) → (XPM (e 13) (XPV e d (xlots d).toNat) v1967) → (4 - v1967).toNat = n1965 → wp kt 7 276 69 [(3, vI v1967), (2, vI z1870), (0, .ref r0)] [] T H1968 (uq_276 r0 e d T H) := by
                  intro n1965
                  induction n1965 using Nat.strongRecOn with
                  | _ n1965 ih1966 =>
                    intro v1967 H1968 w1969 f1970 b1971 x1973 m1972
                    have f1974 := f1838.tr f1970 rfl
                    refine wp_of e276 c276_69 (rw_iload_n (pc' := 70) (z := v1967) rfl rfl ?_)
                    refine wp_of e276 c276_70 (rw_iconst (pc' := 71) rfl ?_)
                    refine wp_of e276 c276_71 (rw_icmp_ge (p1 := 101) (p2 := 74) (by decide) rfl ⟨Int.le_trans (by decide) b1971.1, Int.le_trans b1971.2 (by decide)⟩ ⟨by decide, by decide⟩ (fun c1975 => ?_) (fun c1975 => ?_))
                    · have _z : XPF (e 13) (XPV e d (xlots d).toNat) (-2) := XPM_e (by assumption : XPM (e 13) (XPV e d (xlots d).toNat) v1967) (by omega)
                      refine wp_of e276 c276_101 (rw_aload_n (pc' := 102) (v := .ref r0) rfl rfl rfl ?_)
                      refine wp_of e276 c276_102 (rw_bipush (pc' := 104) (z := -2) rfl (by decide) ?_)
                      refine wp_of e276 c276_104 (xc_V (pc' := 107) (r := r0) (as := [vI (-2)]) (st := []) (lm_9_58) rfl rfl (Nat.le_of_ble_eq_true rfl) w1969 g0 sh_42 (by decide) rfl (by decide) (u_209  w1969 g0 ⟨by decide, by decide⟩) (fun R1976 T1977 H1978 p1979 => ?_))
                      obtain ⟨e1980, w1982, f1983, z1984, e1981, b1985, p1986⟩ := p1979
                      subst e1980
                      subst e1981
                      obtain ⟨a1987, a1988, a1989⟩ := p1986
                      have f1990 := f1974.tr f1983 rfl
                      show wp _ _ 276 107 [(3, vI v1967), (2, vI z1870), (0, .ref r0)] [vI z1984] _ H1978 _
                      have k1991 : wKI H1978 r0 = wKI H1813 r0 := ((wKI_fr w1969 g0 f1983 rfl).trans (wKI_fr w1817 g0 f1970 rfl))
                      have h1992 : KNN T H1978 r0 e d := (KNN_fr w1969 g0 f1983 rfl (KNN_fr w1817 g0 f1970 rfl a1829))
                      exact wp_ireturn e276 c276_107 rfl ⟨rfl, w1982, f1990, z1984, rfl, ⟨b1985.1, b1985.2⟩, (Or.inr ⟨by omega, by omega, by omega, XPF_z _z (by omega), h1992⟩)⟩
                    · refine wp_of e276 c276_74 (rw_aload_n (pc' := 75) (v := .ref r0) rfl rfl rfl ?_)
                      have k1993 : wLM H1968 r0 = wLM H1813 r0 := (wLM_fr w1817 g0 f1970 rfl)
                      refine wp_of e276 c276_75 (rw_iload_n (pc' := 76) (z := z1870) rfl rfl ?_)
                      refine wp_of e276 c276_76 (rw_iload_n (pc' := 77) (z := v1967) rfl rfl ?_)
                      have k1994 : H1968 r0 3 = H1813 r0 3 := (f1970 r0 3 _ g0 rfl)
                      have q1995 : H1968 r0 3 = (r1523 : Int) := k1994.trans q1842
                      have h1996 : RB T H1968 r0 e d := (RB_fr w1817 g0 f1970 rfl h1860)
                      refine wp_of e276 c276_77 (xc_V (pc' := 80) (r := r0) (as := [vI z1870, vI v1967]) (st := []) (lm_9_481) rfl rfl (Nat.le_of_ble_eq_true rfl) w1969 g0 sh_42 (by decide) rfl (by decide) (u_277 (e := e) (d := d) w1969 g0 ⟨b1871.1, b1871.2⟩ ⟨b1971.1, by omega⟩ q1995 g1525 (by omega) (by assumption) (by assumption) (by assumption) (by assumption) (by omega) (by omega) h1996) (fun R1997 T1998 H1999 p2000 => ?_))
                      obtain ⟨e2001, w2003, f2004, z2005, e2002, b2006, p2007⟩ := p2000
                      subst e2001
                      subst e2002
                      have f2009 := f1974.tr f2004 rfl
                      have f2010 := f1970.tr f2004 rfl
                      show wp _ _ 276 80 [(3, vI v1967), (2, vI z1870), (0, .ref r0)] [vI z2005] _ H1999 _
                      have _lb := XLP_b (by assumption : XLP (e 13) (XPV e d (xlots d).toNat) v1967 z2005)
                      refine wp_of e276 c276_80 (rw_istore (pc' := 82) (z := z2005) (L' := [(4, vI z2005), (3, vI v1967), (2, vI z1870), (0, .ref r0)]) rfl rfl rfl ?_)
                      refine wp_of e276 c276_82 (rw_iload (pc' := 84) (z := z2005) rfl rfl ?_)
                      refine wp_of e276 c276_84 (rw_iconst (pc' := 85) rfl ?_)
                      refine wp_of e276 c276_85 (rw_icmp_eq (p1 := 95) (p2 := 88) (by decide) rfl ⟨Int.le_trans (by decide) b2006.1, Int.le_trans b2006.2 (by decide)⟩ ⟨by decide, by decide⟩ (fun c2011 => ?_) (fun c2011 => ?_))
                      · have _q : XPM (e 13) (XPV e d (xlots d).toNat) (v1967 + 1) := XPM_n (by assumption : XPM (e 13) (XPV e d (xlots d).toNat) v1967) (by assumption : XLP (e 13) (XPV e d (xlots d).toNat) v1967 z2005) (by omega)
                        refine wp_of e276 c276_95 (rw_iinc (pc' := 98) (z := v1967) (L' := [(3, vI (v1967 + 1)), (4, vI z2005), (2, vI z1870), (0, .ref r0)]) rfl rfl rfl rfl ?_)
                        refine wp_of e276 c276_98 (rw_goto (p1 := 69) (by decide) ?_)
                        exact wp_lc (ks := [3, 4, 2, 0]) (wl_c rfl (wl_c rfl (wl_c rfl wl_n))) rfl (by decide) (ih1966 _ (by omega) (v1967 + 1) H1999 w2003 f2010 ⟨by omega, by omega⟩ (_q) rfl)
                      · have _z : XPF (e 13) (XPV e d (xlots d).toNat) z2005 := XPM_f (by assumption : XPM (e 13) (XPV e d (xlots d).toNat) v1967) (by assumption : XLP (e 13) (XPV e d (xlots d).toNat) v1967 z2005) (by omega)
                        refine wp_of e276 c276_88 (rw_aload_n (pc' := 89) (v := .ref r0) rfl rfl rfl ?_)
                        refine wp_of e276 c276_89 (rw_iload (pc' := 91) (z := z2005) rfl rfl ?_)
                        refine wp_of e276 c276_91 (xc_V (pc' := 94) (r := r0) (as := [vI z2005]) (st := []) (lm_9_58) rfl rfl (Nat.le_of_ble_eq_true rfl) w2003 g0 sh_42 (by decide) rfl (by decide) (u_209  w2003 g0 ⟨Int.le_trans (by decide) b2006.1, Int.le_trans b2006.2 (by decide)⟩) (fun R2012 T2013 H2014 p2015 => ?_))
                        obtain ⟨e2016, w2018, f2019, z2020, e2017, b2021, p2022⟩ := p2015
                        subst e2016
                        subst e2017
                        obtain ⟨a2023, a2024, a2025⟩ := p2022
                        have f2026 := f2009.tr f2019 rfl
                        show wp _ _ 276 94 [(4, vI z2005), (3, vI v1967), (2, vI z1870), (0, .ref r0)] [vI z2020] _ H2014 _
                        have k2027 : wKI H2014 r0 = wKI H1813 r0 := ((wKI_fr w2003 g0 f2019 rfl).trans ((wKI_fr w1969 g0 f2004 rfl).trans (wKI_fr w1817 g0 f1970 rfl)))
                        have h2028 : KNN T H2014 r0 e d := (KNN_fr w2003 g0 f2019 rfl (KNN_fr w1969 g0 f2004 rfl (KNN_fr w1817 g0 f1970 rfl a1829)))
                        exact wp_ireturn e276 c276_94 rfl ⟨rfl, w2018, f2026, z2020, rfl, ⟨b2021.1, b2021.2⟩, (Or.inr ⟨by omega, by omega, by omega, XPF_z _z (by omega), h2028⟩)⟩
                exact wp_lc (ks := [3, 2, 1, 0]) (wl_c rfl (wl_c rfl (wl_c rfl wl_n))) rfl (by decide) (lp1964 _ 0 H1813 w1817 wfr.rf ⟨by decide, by decide⟩ (XPM_0) rfl)
              · exfalso
                omega
            · refine wp_of e276 c276_50 (rw_iconst (pc' := 51) rfl ?_)
              refine wp_of e276 c276_51 (rw_istore_n (pc' := 52) (z := 5) (L' := [(1, vI 5), (0, .ref r0)]) rfl rfl rfl ?_)
              refine wp_of e276 c276_52 (rw_iload_n (pc' := 53) (z := 5) rfl rfl ?_)
              refine wp_of e276 c276_53 (rw_if_le (p1 := 62) (p2 := 56) (by decide) rfl ⟨by decide, by decide⟩ (fun c2029 => ?_) (fun c2029 => ?_))
              · exfalso
                omega
              · refine wp_of e276 c276_56 (rw_aload_n (pc' := 57) (v := .ref r0) rfl rfl rfl ?_)
                refine wp_of e276 c276_57 (rw_iload_n (pc' := 58) (z := 5) rfl rfl ?_)
                refine wp_of e276 c276_58 (xc_V (pc' := 61) (r := r0) (as := [vI 5]) (st := []) (lm_9_54) rfl rfl (Nat.le_of_ble_eq_true rfl) w1817 g0 sh_42 (by decide) rfl (by decide) (u_170  w1817 g0 ⟨by decide, by decide⟩) (fun R2030 T2031 H2032 p2033 => ?_))
                obtain ⟨e2034, w2036, f2037, z2038, e2035, b2039, p2040⟩ := p2033
                subst e2034
                subst e2035
                obtain ⟨a2041, a2042, a2043⟩ := p2040
                have f2044 := f1838.tr f2037 rfl
                show wp _ _ 276 61 [(1, vI 5), (0, .ref r0)] [vI z2038] _ H2032 _
                have k2045 : wKI H2032 r0 = wKI H1813 r0 := (wKI_fr w1817 g0 f2037 rfl)
                have h2046 : KNN T H2032 r0 e d := (KNN_fr w1817 g0 f2037 rfl a1829)
                exact wp_ireturn e276 c276_61 rfl ⟨rfl, w2036, f2044, z2038, rfl, ⟨b2039.1, b2039.2⟩, (Or.inl ⟨by omega, by omega, by omega, h2046⟩)⟩
        · refine wp_of e276 c276_37 (rw_iconst (pc' := 38) rfl ?_)
          refine wp_of e276 c276_38 (rw_istore_n (pc' := 39) (z := 3) (L' := [(1, vI 3), (0, .ref r0)]) rfl rfl rfl ?_)
          refine wp_of e276 c276_39 (rw_iload_n (pc' := 40) (z := 3) rfl rfl ?_)
          refine wp_of e276 c276_40 (rw_if_ne (p1 := 52) (p2 := 43) (by decide) rfl ⟨by decide, by decide⟩ (fun c2047 => ?_) (fun c2047 => ?_))
          · refine wp_of e276 c276_52 (rw_iload_n (pc' := 53) (z := 3) rfl rfl ?_)
            refine wp_of e276 c276_53 (rw_if_le (p1 := 62) (p2 := 56) (by decide) rfl ⟨by decide, by decide⟩ (fun c2048 => ?_) (fun c2048 => ?_))
            · exfalso
              omega
            · refine wp_of e276 c276_56 (rw_aload_n (pc' := 57) (v := .ref r0) rfl rfl rfl ?_)
              refine wp_of e276 c276_57 (rw_iload_n (pc' := 58) (z := 3) rfl rfl ?_)
              refine wp_of e276 c276_58 (xc_V (pc' := 61) (r := r0) (as := [vI 3]) (st := []) (lm_9_54) rfl rfl (Nat.le_of_ble_eq_true rfl) w1817 g0 sh_42 (by decide) rfl (by decide) (u_170  w1817 g0 ⟨by decide, by decide⟩) (fun R2049 T2050 H2051 p2052 => ?_))
              obtain ⟨e2053, w2055, f2056, z2057, e2054, b2058, p2059⟩ := p2052
              subst e2053
              subst e2054
              obtain ⟨a2060, a2061, a2062⟩ := p2059
              have f2063 := f1838.tr f2056 rfl
              show wp _ _ 276 61 [(1, vI 3), (0, .ref r0)] [vI z2057] _ H2051 _
              have k2064 : wKI H2051 r0 = wKI H1813 r0 := (wKI_fr w1817 g0 f2056 rfl)
              have h2065 : KNN T H2051 r0 e d := (KNN_fr w1817 g0 f2056 rfl a1829)
              exact wp_ireturn e276 c276_61 rfl ⟨rfl, w2055, f2063, z2057, rfl, ⟨b2058.1, b2058.2⟩, (Or.inl ⟨by omega, by omega, by omega, h2065⟩)⟩
          · exfalso
            omega
    · have f2066 := f1520.tr f1818 rfl
      show wp _ _ 276 21 [(0, .ref r0)] [vI z1819] _ H1813 _
      refine wp_of e276 c276_21 (rw_istore_n (pc' := 22) (z := z1819) (L' := [(1, vI z1819), (0, .ref r0)]) rfl rfl rfl ?_)
      refine wp_of e276 c276_22 (rw_iload_n (pc' := 23) (z := z1819) rfl rfl ?_)
      refine wp_of e276 c276_23 (rw_if_ne (p1 := 39) (p2 := 26) (by decide) rfl ⟨Int.le_trans (by decide) b1820.1, Int.le_trans b1820.2 (by decide)⟩ (fun c2067 => ?_) (fun c2067 => ?_))
      · refine wp_of e276 c276_39 (rw_iload_n (pc' := 40) (z := z1819) rfl rfl ?_)
        refine wp_of e276 c276_40 (rw_if_ne (p1 := 52) (p2 := 43) (by decide) rfl ⟨Int.le_trans (by decide) b1820.1, Int.le_trans b1820.2 (by decide)⟩ (fun c2068 => ?_) (fun c2068 => ?_))
        · refine wp_of e276 c276_52 (rw_iload_n (pc' := 53) (z := z1819) rfl rfl ?_)
          refine wp_of e276 c276_53 (rw_if_le (p1 := 62) (p2 := 56) (by decide) rfl ⟨Int.le_trans (by decide) b1820.1, Int.le_trans b1820.2 (by decide)⟩ (fun c2069 => ?_) (fun c2069 => ?_))
          · exfalso
            omega
          · refine wp_of e276 c276_56 (rw_aload_n (pc' := 57) (v := .ref r0) rfl rfl rfl ?_)
            refine wp_of e276 c276_57 (rw_iload_n (pc' := 58) (z := z1819) rfl rfl ?_)
            refine wp_of e276 c276_58 (xc_V (pc' := 61) (r := r0) (as := [vI z1819]) (st := []) (lm_9_54) rfl rfl (Nat.le_of_ble_eq_true rfl) w1817 g0 sh_42 (by decide) rfl (by decide) (u_170  w1817 g0 ⟨Int.le_trans (by decide) b1820.1, Int.le_trans b1820.2 (by decide)⟩) (fun R2070 T2071 H2072 p2073 => ?_))
            obtain ⟨e2074, w2076, f2077, z2078, e2075, b2079, p2080⟩ := p2073
            subst e2074
            subst e2075
            obtain ⟨a2081, a2082, a2083⟩ := p2080
            have f2084 := f2066.tr f2077 rfl
            show wp _ _ 276 61 [(1, vI z1819), (0, .ref r0)] [vI z2078] _ H2072 _
            have k2085 : wKI H2072 r0 = wKI H1813 r0 := (wKI_fr w1817 g0 f2077 rfl)
            have h2086 : KNN T H2072 r0 e d := (KNN_fr w1817 g0 f2077 rfl a1837)
            exact wp_ireturn e276 c276_61 rfl ⟨rfl, w2076, f2084, z2078, rfl, ⟨b2079.1, b2079.2⟩, (Or.inl ⟨by omega, by omega, by omega, h2086⟩)⟩
        · exfalso
          omega
      · exfalso
        omega
/-! StrikeAwakeModel.nothing()I  -/
abbrev uq_282 (r0 : Nat) (e : xD) (d : xD) (T : wq_T) (H : wq_H) : Option Value → wq_T → wq_H → Prop := fun r T' H' => T = T' ∧ WT T H' ∧ wfr [(42, 0), (42, 1), (42, 2), (42, 28), (42, 29), (51, 999), (52, 999)] T H H' ∧ ∃ z : Int, some (vI z) = r ∧ ((-2147483648) ≤ z ∧ z ≤ 2147483647) ∧ (((z = -1) ∧ (wKI H' r0 = 1) ∧ (H r0 3 = -1 ∨ 20000 < xlots d) ∧ KNN T H' r0 e d) ∨ ((wKI H' r0 = 1) ∧ (H r0 3 ≠ -1 ∧ xlots d ≤ 20000) ∧ (z = xno d (xlots d).toNat) ∧ KNN T H' r0 e d))
set_option maxHeartbeats 4000000 in
theorem u_282 {kt : Nat → Option mc_E} {T : wq_T} {H : wq_H} {r0 : Nat} {e : xD} {d : xD} (hW : WT T H) (g0 : T.2.2.2 r0 = some 42) (p0 : wKI H r0 = 1) (p1 : XW d) (p2 : ∀ h : Nat, d 0 0 ≤ (h : Int) → h < 24 → e 13 h = 0) (p3 : XN d) (p4 : ∀ h : Nat, h < 24 → 0 ≤ e 13 h ∧ e 13 h ≤ 100) (hRB_r0 : RB T H r0 e d) (hKNN_r0 : KNN T H r0 e d) : wpc kt 8 282 [.ref r0] T H (uq_282 r0 e d T H) := by
  refine wp_enter e282 (Nat.le_of_ble_eq_true rfl) rfl ?_
  have f0 : wfr [(42, 0), (42, 1), (42, 2), (42, 28), (42, 29), (51, 999), (52, 999)] T H H := wfr.rf
  show wp _ _ 282 0 [(0, .ref r0)] [] _ H _
  have _b := RB_b hW hRB_r0
  have _nu := RB_n3 hRB_r0
  have _lm := RB_lm hRB_r0
  have _xw := (by assumption : XW d)
  have _x0 : 0 ≤ xlots d := (xpr_b _xw.1 _ _).1
  refine wp_of e282 c282_0 (rw_aload_n (pc' := 1) (v := .ref r0) rfl rfl rfl ?_)
  refine wp_of e282 c282_1 (rw_iconst (pc' := 2) rfl ?_)
  refine wp_of e282 c282_2 (xp_I (pc' := 5) lf_9_48 hW g0 sh_42 (by decide) (by decide) ty_42_0 rfl rfl (by decide) (by decide) ⟨by decide, by decide⟩ rfl (fun H5913 e5914 w5915 => ?_))
  have f5916 := f0.put' e5914 g0 rfl
  have k5917 : H5913 r0 0 = 0 := wq_u_s e5914
  refine wp_of e282 c282_5 (rw_aload_n (pc' := 6) (v := .ref r0) rfl rfl rfl ?_)
  refine wp_of e282 c282_6 (rw_aload_n (pc' := 7) (v := .ref r0) rfl rfl rfl ?_)
  have k5918 : H5913 r0 3 = H r0 3 := (wq_u_j e5914 rfl)
  refine wp_of e282 c282_7 (xg_O (pc' := 10) lf_9_337 w5915 g0 sh_42 (by decide) (by decide) ty_42_3 rfl rfl (fun q5920 => ?_) (fun r5919 q5920 g5921 => ?_))
  · refine wp_of e282 c282_10 (rw_ifnull_n (p1 := 17) (p2 := 13) (by decide) rfl ?_)
    refine wp_of e282 c282_17 (rw_iconst (pc' := 18) rfl ?_)
    have k5922 : wKI H5913 r0 = wKI H r0 := (wKI_fr hW g0 ((wfr.rf (l := [(42, 0)])).put' e5914 g0 rfl) rfl)
    have h5923 : RB T H5913 r0 e d := (RB_fr hW g0 ((wfr.rf (l := [(42, 0)])).put' e5914 g0 rfl) rfl hRB_r0)
    have h5924 : KNN T H5913 r0 e d := (KNN_fr hW g0 ((wfr.rf (l := [(42, 0)])).put' e5914 g0 rfl) rfl hKNN_r0)
    refine wp_of e282 c282_18 (xc_V (pc' := 21) (r := r0) (as := [vI 0]) (st := []) (lm_9_433) rfl rfl (Nat.le_of_ble_eq_true rfl) w5915 g0 sh_42 (by decide) rfl (by decide) (u_241 (e := e) (d := d) w5915 g0 ⟨by decide, by decide⟩ (by omega) (by omega) (by assumption) (by assumption) (by assumption) (by assumption) h5923 h5924) (fun R5925 T5926 H5927 p5928 => ?_))
    obtain ⟨e5929, w5931, f5932, z5933, e5930, b5934, p5935⟩ := p5928
    subst e5929
    subst e5930
    rcases p5935 with ⟨a5936, a5937, a5938, a5939, a5940, a5941, a5942, a5943, a5944⟩ | ⟨a5945, a5946, a5947, a5948, a5949, a5950, a5951⟩
    · have f5952 := f5916.tr f5932 rfl
      show wp _ _ 282 21 [(0, .ref r0)] [vI z5933] _ H5927 _
      refine wp_of e282 c282_21 (rw_istore_n (pc' := 22) (z := z5933) (L' := [(1, vI z5933), (0, .ref r0)]) rfl rfl rfl ?_)
      refine wp_of e282 c282_22 (rw_iload_n (pc' := 23) (z := z5933) rfl rfl ?_)
      refine wp_of e282 c282_23 (rw_if_le (p1 := 32) (p2 := 26) (by decide) rfl ⟨Int.le_trans (by decide) b5934.1, Int.le_trans b5934.2 (by decide)⟩ (fun c5953 => ?_) (fun c5953 => ?_))
      · have k5954 : H5927 r0 3 = H5913 r0 3 := (f5932 r0 3 _ g0 rfl)
        have q5955 : H5927 r0 3 = -1 := k5954.trans q5920
        obtain ⟨r5956, q5957, g5958⟩ := (w5931.opt g0 (t' := 54) (n := 33) (j := 3) (p := 0) (q := 0) rfl (by decide) rfl).resolve_left (by omega)
        have h5959 : RB T H5927 r0 e d := (RB_fr w5915 g0 f5932 rfl h5923)
        have _kbb := a5944
        have _kb := _kbb.1
        have _n3 : H5927 r0 3 ≠ -1 := by omega
        have _rp := RB_at h5959 q5957
        have _k := RP_k _rp
        have _nb := xcn_b (f := xwf e d) (xlots d).toNat
        have h5960 : KL T H5927 r0 (xwf e d) (xlots d).toNat := _kbb.2
        refine wp_of e282 c282_32 (rw_iconst (pc' := 33) rfl ?_)
        refine wp_of e282 c282_33 (rw_istore_n (pc' := 34) (z := 0) (L' := [(2, vI 0), (1, vI z5933), (0, .ref r0)]) rfl rfl rfl ?_)
        refine wp_of e282 c282_34 (rw_iconst (pc' := 35) rfl ?_)
        refine wp_of e282 c282_35 (rw_istore_n (pc' := 36) (z := 0) (L' := [(3, vI 0), (2, vI 0), (1, vI z5933), (0, .ref r0)]) rfl rfl rfl ?_)
        have lp8081 : ∀ (n8082 : Nat) (v8084 : Int) (v8085 : Int) (H8086 : wq_H), WT T H8086 → wfr [(51, 999)] T H5927 H8086 → (0 ≤ v8084 ∧ v8084 ≤ 20000) → (0 ≤ v8085 ∧ v8085 ≤ 16777215) → (v8084 ≤ xlots d) → (v8085 = xno d (v8084).toNat) → (20000 - v8084).toNat = n8082 → wp kt 7 282 36 [(3, vI v8084), (2, vI v8085), (0, .ref r0)] [] T H8086 (uq_282 r0 e d T H) := by
          intro n8082
          induction n8082 using Nat.strongRecOn with
          | _ n8082 ih8083 =>
            intro v8084 v8085 H8086 w8087 f8088 b8089 b8090 x8092 x8093 m8091
            have f8094 := f5952.tr f8088 rfl
            refine wp_of e282 c282_36 (rw_iload_n (pc' := 37) (z := v8084) rfl rfl ?_)
            refine wp_of e282 c282_37 (rw_i2l (pc' := 38) rfl ⟨Int.le_trans (by decide) b8089.1, Int.le_trans b8089.2 (by decide)⟩ ?_)
            have k8095 : wLM H8086 r0 = wLM H r0 := ((wLM_fr w5931 g0 f8088 rfl).trans ((wLM_fr w5915 g0 f5932 rfl).trans (wLM_fr hW g0 ((wfr.rf (l := [(42, 0)])).put' e5914 g0 rfl) rfl)))
            refine wp_of e282 c282_38 (rw_aload_n (pc' := 39) (v := .ref r0) rfl rfl rfl ?_)
            have k8096 : H8086 r0 3 = H5927 r0 3 := (f8088 r0 3 _ g0 rfl)
            have q8097 : H8086 r0 3 = (r5956 : Int) := k8096.trans q5957
            refine wp_of e282 c282_39 (xc_V (pc' := 42) (r := r0) (as := []) (st := [vL v8084]) (lm_9_376) rfl rfl (Nat.le_of_ble_eq_true rfl) w8087 g0 sh_42 (by decide) rfl (by decide) (s_220 w8087 g0 q8097 g5958) (fun R8098 T8099 H8100 p8101 => ?_))
            obtain ⟨e8102, e8104, z8106, e8103, b8107, p8105⟩ := p8101
            subst e8102
            subst e8103
            subst e8104
            show wp _ _ 282 42 [(3, vI v8084), (2, vI v8085), (0, .ref r0)] [vL z8106, vL v8084] _ H8086 _
            refine wp_of e282 c282_42 (rw_lcmp (pc' := 43) rfl ⟨Int.le_trans (by decide) b8089.1, Int.le_trans b8089.2 (by decide)⟩ ⟨Int.le_trans (by decide) b8107.1, Int.le_trans b8107.2 (by decide)⟩ ?_)
            have b8108 := wq_cmp_b v8084 z8106
            refine wp_of e282 c282_43 (rw_if_ge (p1 := 116) (p2 := 46) (by decide) rfl ⟨by omega, by omega⟩ (fun c8109 => ?_) (fun c8109 => ?_))
            · have _z : v8085 = xno d (xlots d).toNat := by rw [show (xlots d).toNat = (v8084).toNat by omega]; assumption
              refine wp_of e282 c282_116 (rw_aload_n (pc' := 117) (v := .ref r0) rfl rfl rfl ?_)
              refine wp_of e282 c282_117 (rw_iload_n (pc' := 118) (z := v8085) rfl rfl ?_)
              refine wp_of e282 c282_118 (xc_V (pc' := 121) (r := r0) (as := [vI v8085]) (st := []) (lm_9_58) rfl rfl (Nat.le_of_ble_eq_true rfl) w8087 g0 sh_42 (by decide) rfl (by decide) (u_209  w8087 g0 ⟨Int.le_trans (by decide) b8090.1, Int.le_trans b8090.2 (by decide)⟩) (fun R8110 T8111 H8112 p8113 => ?_))
              obtain ⟨e8114, w8116, f8117, z8118, e8115, b8119, p8120⟩ := p8113
              subst e8114
              subst e8115
              obtain ⟨a8121, a8122, a8123⟩ := p8120
              have f8124 := f8094.tr f8117 rfl
              show wp _ _ 282 121 [(3, vI v8084), (2, vI v8085), (0, .ref r0)] [vI z8118] _ H8112 _
              have k8125 : wKI H8112 r0 = wKI H5927 r0 := ((wKI_fr w8087 g0 f8117 rfl).trans (wKI_fr w5931 g0 f8088 rfl))
              have h8126 : KNN T H8112 r0 e d := (KNN_fr w8087 g0 f8117 rfl (KNN_fr w5931 g0 f8088 rfl a5943))
              exact wp_ireturn e282 c282_121 rfl ⟨rfl, w8116, f8124, z8118, rfl, ⟨b8119.1, b8119.2⟩, (Or.inr ⟨by omega, by omega, by omega, h8126⟩)⟩
            · refine wp_of e282 c282_46 (rw_aload_n (pc' := 47) (v := .ref r0) rfl rfl rfl ?_)
              refine wp_of e282 c282_47 (rw_iload_n (pc' := 48) (z := v8084) rfl rfl ?_)
              have h8127 : RB T H8086 r0 e d := (RB_fr w5931 g0 f8088 rfl h5959)
              refine wp_of e282 c282_48 (xc_V (pc' := 51) (r := r0) (as := [vI v8084]) (st := []) (lm_9_425) rfl rfl (Nat.le_of_ble_eq_true rfl) w8087 g0 sh_42 (by decide) rfl (by decide) (u_243 (e := e) (d := d) w8087 g0 ⟨b8089.1, Int.le_trans b8089.2 (by decide)⟩ q8097 g5958 (by omega) h8127) (fun R8128 T8129 H8130 p8131 => ?_))
              obtain ⟨e8132, w8134, f8135, e8133, p8136⟩ := p8131
              subst e8132
              subst e8133
              have f8138 := f8094.tr f8135 rfl
              have f8139 := f8088.tr f8135 rfl
              show wp _ _ 282 51 [(3, vI v8084), (2, vI v8085), (0, .ref r0)] [] _ H8130 _
              have _sl : SL d (xlot d v8084) := SL_lot _xw.1 (by omega) (by omega)
              refine wp_of e282 c282_51 (rw_aload_n (pc' := 52) (v := .ref r0) rfl rfl rfl ?_)
              refine wp_of e282 c282_52 (rw_aload_n (pc' := 53) (v := .ref r0) rfl rfl rfl ?_)
              refine wp_of e282 c282_53 (xg_R (pc' := 56) lf_9_39 w8134 g0 sh_42 (by decide) (by decide) ty_42_27 rfl rfl (fun r8140 q8141 g8142 => ?_))
              have h8143 : RR T H8130 r8140 (d 0 3) (xlot d v8084) := RR_27 p8136 q8141 g8142 (by omega)
              have k8144 : H8130 r0 3 = H8086 r0 3 := (f8135 r0 3 _ g0 rfl)
              have q8145 : H8130 r0 3 = (r5956 : Int) := k8144.trans q8097
              have h8146 : RB T H8130 r0 e d := (RB_fr w8087 g0 f8135 rfl h8127)
              refine wp_of e282 c282_56 (xc_V (pc' := 59) (r := r0) (as := [.ref r8140]) (st := []) (lm_9_393) rfl rfl (Nat.le_of_ble_eq_true rfl) w8134 g0 sh_42 (by decide) rfl (by decide) (u_235_l (e := e) (d := d) (g := ((xlot d v8084))) w8134 g0 g8142 q8145 g5958 (by assumption) (by assumption) (by assumption) h8146 h8143) (fun R8147 T8148 H8149 p8150 => ?_))
              obtain ⟨e8151, e8153, z8154, e8152, b8155, p8156⟩ := p8150
              subst e8151
              subst e8152
              subst e8153
              show wp _ _ 282 59 [(3, vI v8084), (2, vI v8085), (0, .ref r0)] [vI z8154] _ H8130 _
              refine wp_of e282 c282_59 (rw_if_eq (p1 := 65) (p2 := 62) (by decide) rfl ⟨Int.le_trans (by decide) b8155.1, Int.le_trans b8155.2 (by decide)⟩ (fun c8158 => ?_) (fun c8158 => ?_))
              · refine wp_of e282 c282_65 (rw_iconst (pc' := 66) rfl ?_)
                refine wp_of e282 c282_66 (rw_istore (pc' := 68) (z := 0) (L' := [(4, vI 0), (3, vI v8084), (2, vI v8085), (0, .ref r0)]) rfl rfl rfl ?_)
                have lp8359 : ∀ (n8360 : Nat) (v8362 : Int) (v8363 : Int), (0 ≤ v8362 ∧ v8362 ≤ 24) → (0 ≤ v8363 ∧ v8363 ≤ 16777215) → (v8362 ≤ d 0 0) → (v8363 = wq_or v8085 (xob (fun h => decide (xdue d (xlot d v8084) h = 0)) (v8362).toNat)) → (24 - v8362).toNat = n8360 → wp kt 7 282 68 [(4, vI v8362), (2, vI v8363), (3, vI v8084), (0, .ref r0)] [] T H8130 (uq_282 r0 e d T H) := by
                  intro n8360
                  induction n8360 using Nat.strongRecOn with
                  | _ n8360 ih8361 =>
                    intro v8362 v8363 b8366 b8367 x8369 x8370 m8368
                    refine wp_of e282 c282_68 (rw_iload (pc' := 70) (z := v8362) rfl rfl ?_)
                    refine wp_of e282 c282_70 (rw_aload_n (pc' := 71) (v := .ref r0) rfl rfl rfl ?_)
                    refine wp_of e282 c282_71 (xg_K (pc' := 74) lf_9_337 w8134 g0 sh_42 (by decide) (by decide) rfl q8145 rfl ?_)
                    refine wp_of e282 c282_74 (xg_I (pc' := 77) lf_9_185 w8134 g5958 sh_54 (by decide) (by decide) ty_54_0 rfl rfl (fun b8371 b8372 => ?_))
                    have _rp2 := RB_at h8146 q8145
                    have _k2 := RP_k _rp2
                    refine wp_of e282 c282_77 (rw_icmp_ge (p1 := 110) (p2 := 80) (by decide) rfl ⟨Int.le_trans (by decide) b8366.1, Int.le_trans b8366.2 (by decide)⟩ ⟨Int.le_trans (by decide) b8371, Int.le_trans b8372 (by decide)⟩ (fun c8373 => ?_) (fun c8373 => ?_))
                    · have _qq : v8363 = xno d (v8084 + 1).toNat := xno_y (by omega) (by omega) (by
                        rw [← ‹v8085 = xno d (v8084).toNat›, xsi_e ⟨by omega, by omega⟩, show (d 0 0).toNat = (v8362).toNat by omega]
                        assumption)
                      refine wp_of e282 c282_110 (rw_iinc (pc' := 113) (z := v8084) (L' := [(3, vI (v8084 + 1)), (4, vI v8362), (2, vI v8363), (0, .ref r0)]) rfl rfl rfl rfl ?_)
                      refine wp_of e282 c282_113 (rw_goto (p1 := 36) (by decide) ?_)
                      exact wp_lc (ks := [3, 4, 2, 0]) (wl_c rfl (wl_c rfl (wl_c rfl wl_n))) rfl (by decide) (ih8083 _ (by omega) (v8084 + 1) v8363 H8130 w8134 f8139 ⟨by omega, by omega⟩ ⟨b8367.1, b8367.2⟩ (by omega) (_qq) rfl)
                    · refine wp_of e282 c282_80 (rw_iload_n (pc' := 81) (z := v8363) rfl rfl ?_)
                      refine wp_of e282 c282_81 (rw_aload_n (pc' := 82) (v := .ref r0) rfl rfl rfl ?_)
                      refine wp_of e282 c282_82 (rw_aload_n (pc' := 83) (v := .ref r0) rfl rfl rfl ?_)
                      refine wp_of e282 c282_83 (xg_K (pc' := 86) lf_9_39 w8134 g0 sh_42 (by decide) (by decide) rfl q8141 rfl ?_)
                      refine wp_of e282 c282_86 (rw_iload (pc' := 88) (z := v8362) rfl rfl ?_)
                      have h8374 : RR T H8130 r8140 (d 0 3) (xlot d v8084) := RR_27 p8136 q8141 g8142 (by omega)
                      refine wp_of e282 c282_88 (xc_V (pc' := 91) (r := r0) (as := [.ref r8140, vI v8362]) (st := [vI v8363]) (lm_9_386) rfl rfl (Nat.le_of_ble_eq_true rfl) w8134 g0 sh_42 (by decide) rfl (by decide) (u_228_l (e := e) (d := d) (g := ((xlot d v8084))) w8134 g0 g8142 ⟨b8366.1, by omega⟩ q8145 g5958 (by assumption) (by assumption) h8146 h8374) (fun R8375 T8376 H8377 p8378 => ?_))
                      obtain ⟨e8379, e8381, z8382, e8380, b8383, p8384⟩ := p8378
                      subst e8379
                      subst e8380
                      subst e8381
                      show wp _ _ 282 91 [(4, vI v8362), (2, vI v8363), (3, vI v8084), (0, .ref r0)] [vI z8382, vI v8363] _ H8130 _
                      refine wp_of e282 c282_91 (rw_if_ne (p1 := 101) (p2 := 94) (by decide) rfl ⟨Int.le_trans (by decide) b8383.1, Int.le_trans b8383.2 (by decide)⟩ (fun c8386 => ?_) (fun c8386 => ?_))
                      · refine wp_of e282 c282_101 (rw_iconst (pc' := 102) rfl ?_)
                        refine wp_of e282 c282_102 (rw_ior (pc' := 103) rfl ?_)
                        obtain ⟨v8387, e8388⟩ : ∃ x : Int, x = wq_or v8363 0 := ⟨_, rfl⟩
                        rw [← e8388]
                        have b8389 : 0 ≤ v8387 ∧ v8387 ≤ 16777215 := by
                          rw [e8388]
                          exact wq_or_24 ⟨by omega, by omega⟩ ⟨by omega, by omega⟩
                        refine wp_of e282 c282_103 (rw_istore_n (pc' := 104) (z := v8387) (L' := [(2, vI v8387), (4, vI v8362), (3, vI v8084), (0, .ref r0)]) rfl rfl rfl ?_)
                        have _q : v8387 = wq_or v8085 (xob (fun h => decide (xdue d (xlot d v8084) h = 0)) (v8362 + 1).toNat) := by
                          rw [xob_n (by omega) (decide_eq_false (by omega)), ← ‹v8363 = wq_or v8085 (xob (fun h => decide (xdue d (xlot d v8084) h = 0)) (v8362).toNat)›, e8388]
                          exact wq_or_0 ⟨by omega, by omega⟩
                        refine wp_of e282 c282_104 (rw_iinc (pc' := 107) (z := v8362) (L' := [(4, vI (v8362 + 1)), (2, vI v8387), (3, vI v8084), (0, .ref r0)]) rfl rfl rfl rfl ?_)
                        refine wp_of e282 c282_107 (rw_goto (p1 := 68) (by decide) ?_)
                        exact wp_lc (ks := [4, 2, 3, 0]) (wl_c rfl (wl_c rfl (wl_c rfl (wl_c rfl wl_n)))) rfl (by decide) (ih8361 _ (by omega) (v8362 + 1) v8387 ⟨by omega, by omega⟩ ⟨b8389.1, b8389.2⟩ (by omega) (_q) rfl)
                      · refine wp_of e282 c282_94 (rw_iconst (pc' := 95) rfl ?_)
                        refine wp_of e282 c282_95 (rw_iload (pc' := 97) (z := v8362) rfl rfl ?_)
                        refine wp_of e282 c282_97 (rw_ishl (pc' := 98) rfl ?_)
                        obtain ⟨v8390, e8391⟩ : ∃ x : Int, x = wq_shl 1 v8362 := ⟨_, rfl⟩
                        rw [← e8391]
                        have b8392 : 1 ≤ v8390 ∧ v8390 ≤ 8388608 := by
                          rw [e8391]
                          exact wq_shl1_24 ⟨by omega, by omega⟩
                        refine wp_of e282 c282_98 (rw_goto (p1 := 102) (by decide) ?_)
                        refine wp_of e282 c282_102 (rw_ior (pc' := 103) rfl ?_)
                        obtain ⟨v8393, e8394⟩ : ∃ x : Int, x = wq_or v8363 v8390 := ⟨_, rfl⟩
                        rw [← e8394]
                        have b8395 : 0 ≤ v8393 ∧ v8393 ≤ 16777215 := by
                          rw [e8394]
                          exact wq_or_24 ⟨by omega, by omega⟩ ⟨by omega, by omega⟩
                        refine wp_of e282 c282_103 (rw_istore_n (pc' := 104) (z := v8393) (L' := [(2, vI v8393), (4, vI v8362), (3, vI v8084), (0, .ref r0)]) rfl rfl rfl ?_)
                        have _q : v8393 = wq_or v8085 (xob (fun h => decide (xdue d (xlot d v8084) h = 0)) (v8362 + 1).toNat) := by
                          rw [xob_s (by omega) (decide_eq_true (by omega)), ← or_a, ← ‹v8363 = wq_or v8085 (xob (fun h => decide (xdue d (xlot d v8084) h = 0)) (v8362).toNat)›, e8394, e8391]
                        refine wp_of e282 c282_104 (rw_iinc (pc' := 107) (z := v8362) (L' := [(4, vI (v8362 + 1)), (2, vI v8393), (3, vI v8084), (0, .ref r0)]) rfl rfl rfl rfl ?_)
                        refine wp_of e282 c282_107 (rw_goto (p1 := 68) (by decide) ?_)
                        exact wp_lc (ks := [4, 2, 3, 0]) (wl_c rfl (wl_c rfl (wl_c rfl (wl_c rfl wl_n)))) rfl (by decide) (ih8361 _ (by omega) (v8362 + 1) v8393 ⟨by omega, by omega⟩ ⟨b8395.1, b8395.2⟩ (by omega) (_q) rfl)
                exact wp_lc (ks := [4, 3, 2, 0]) (wl_c rfl (wl_c rfl (wl_c rfl (wl_c rfl wl_n)))) rfl (by decide) (lp8359 _ 0 v8085 ⟨by decide, by decide⟩ ⟨b8090.1, b8090.2⟩ (by omega) ((wq_or_0 ⟨by omega, by omega⟩).symm) rfl)
              · refine wp_of e282 c282_62 (rw_goto (p1 := 110) (by decide) ?_)
                have _qq : v8085 = xno d (v8084 + 1).toNat := by
                  rw [xno_n (by omega) (by omega)]
                  assumption
                refine wp_of e282 c282_110 (rw_iinc (pc' := 113) (z := v8084) (L' := [(3, vI (v8084 + 1)), (2, vI v8085), (0, .ref r0)]) rfl rfl rfl rfl ?_)
                refine wp_of e282 c282_113 (rw_goto (p1 := 36) (by decide) ?_)
                exact wp_lc (ks := [3, 2, 0]) (wl_c rfl (wl_c rfl (wl_c rfl wl_n))) rfl (by decide) (ih8083 _ (by omega) (v8084 + 1) v8085 H8130 w8134 f8139 ⟨by omega, by omega⟩ ⟨b8090.1, b8090.2⟩ (by omega) (_qq) rfl)
        exact wp_lc (ks := [3, 2, 1, 0]) (wl_c rfl (wl_c rfl (wl_c rfl wl_n))) rfl (by decide) (lp8081 _ 0 0 H5927 w5931 wfr.rf ⟨by decide, by decide⟩ ⟨by decide, by decide⟩ (by omega) (rfl) rfl)
      · exfalso
        omega
    · have f8396 := f5916.tr f5932 rfl
      show wp _ _ 282 21 [(0, .ref r0)] [vI z5933] _ H5927 _
      refine wp_of e282 c282_21 (rw_istore_n (pc' := 22) (z := z5933) (L' := [(1, vI z5933), (0, .ref r0)]) rfl rfl rfl ?_)
      refine wp_of e282 c282_22 (rw_iload_n (pc' := 23) (z := z5933) rfl rfl ?_)
      refine wp_of e282 c282_23 (rw_if_le (p1 := 32) (p2 := 26) (by decide) rfl ⟨Int.le_trans (by decide) b5934.1, Int.le_trans b5934.2 (by decide)⟩ (fun c8397 => ?_) (fun c8397 => ?_))
      · exfalso
        omega
      · refine wp_of e282 c282_26 (rw_aload_n (pc' := 27) (v := .ref r0) rfl rfl rfl ?_)
        refine wp_of e282 c282_27 (rw_iload_n (pc' := 28) (z := z5933) rfl rfl ?_)
        refine wp_of e282 c282_28 (xc_V (pc' := 31) (r := r0) (as := [vI z5933]) (st := []) (lm_9_54) rfl rfl (Nat.le_of_ble_eq_true rfl) w5931 g0 sh_42 (by decide) rfl (by decide) (u_170  w5931 g0 ⟨Int.le_trans (by decide) b5934.1, Int.le_trans b5934.2 (by decide)⟩) (fun R8398 T8399 H8400 p8401 => ?_))
        obtain ⟨e8402, w8404, f8405, z8406, e8403, b8407, p8408⟩ := p8401
        subst e8402
        subst e8403
        obtain ⟨a8409, a8410, a8411⟩ := p8408
        have f8412 := f8396.tr f8405 rfl
        show wp _ _ 282 31 [(1, vI z5933), (0, .ref r0)] [vI z8406] _ H8400 _
        have k8413 : wKI H8400 r0 = wKI H5927 r0 := (wKI_fr w5931 g0 f8405 rfl)
        have h8414 : KNN T H8400 r0 e d := (KNN_fr w5931 g0 f8405 rfl a5951)
        exact wp_ireturn e282 c282_31 rfl ⟨rfl, w8404, f8412, z8406, rfl, ⟨b8407.1, b8407.2⟩, (Or.inl ⟨by omega, by omega, by omega, h8414⟩)⟩
  · refine wp_of e282 c282_10 (rw_ifnull_r (p1 := 17) (p2 := 13) (by decide) rfl ?_)
    refine wp_of e282 c282_13 (rw_iconst (pc' := 14) rfl ?_)
    refine wp_of e282 c282_14 (rw_goto (p1 := 18) (by decide) ?_)
    have k8415 : wKI H5913 r0 = wKI H r0 := (wKI_fr hW g0 ((wfr.rf (l := [(42, 0)])).put' e5914 g0 rfl) rfl)
    have h8416 : RB T H5913 r0 e d := (RB_fr hW g0 ((wfr.rf (l := [(42, 0)])).put' e5914 g0 rfl) rfl hRB_r0)
    have h8417 : KNN T H5913 r0 e d := (KNN_fr hW g0 ((wfr.rf (l := [(42, 0)])).put' e5914 g0 rfl) rfl hKNN_r0)
    refine wp_of e282 c282_18 (xc_V (pc' := 21) (r := r0) (as := [vI 1]) (st := []) (lm_9_433) rfl rfl (Nat.le_of_ble_eq_true rfl) w5915 g0 sh_42 (by decide) rfl (by decide) (u_241 (e := e) (d := d) w5915 g0 ⟨by decide, by decide⟩ (by omega) (by omega) (by assumption) (by assumption) (by assumption) (by assumption) h8416 h8417) (fun R8418 T8419 H8420 p8421 => ?_))
    obtain ⟨e8422, w8424, f8425, z8426, e8423, b8427, p8428⟩ := p8421
    subst e8422
    subst e8423
    rcases p8428 with ⟨a8429, a8430, a8431, a8432, a8433, a8434, a8435, a8436, a8437⟩ | ⟨a8438, a8439, a8440, a8441, a8442, a8443, a8444⟩
    · have f8445 := f5916.tr f8425 rfl
      show wp _ _ 282 21 [(0, .ref r0)] [vI z8426] _ H8420 _
      refine wp_of e282 c282_21 (rw_istore_n (pc' := 22) (z := z8426) (L' := [(1, vI z8426), (0, .ref r0)]) rfl rfl rfl ?_)
      refine wp_of e282 c282_22 (rw_iload_n (pc' := 23) (z := z8426) rfl rfl ?_)
      refine wp_of e282 c282_23 (rw_if_le (p1 := 32) (p2 := 26) (by decide) rfl ⟨Int.le_trans (by decide) b8427.1, Int.le_trans b8427.2 (by decide)⟩ (fun c8446 => ?_) (fun c8446 => ?_))
      · have k8447 : H8420 r0 3 = H5913 r0 3 := (f8425 r0 3 _ g0 rfl)
        have q8448 : H8420 r0 3 = (r5919 : Int) := k8447.trans q5920
        have h8449 : RB T H8420 r0 e d := (RB_fr w5915 g0 f8425 rfl h8416)
        have _kbb := a8437
        have _kb := _kbb.1
        have _n3 : H8420 r0 3 ≠ -1 := by omega
        have _rp := RB_at h8449 q8448
        have _k := RP_k _rp
        have _nb := xcn_b (f := xwf e d) (xlots d).toNat
        have h8450 : KL T H8420 r0 (xwf e d) (xlots d).toNat := _kbb.2
        refine wp_of e282 c282_32 (rw_iconst (pc' := 33) rfl ?_)
        refine wp_of e282 c282_33 (rw_istore_n (pc' := 34) (z := 0) (L' := [(2, vI 0), (1, vI z8426), (0, .ref r0)]) rfl rfl rfl ?_)
        refine wp_of e282 c282_34 (rw_iconst (pc' := 35) rfl ?_)
        refine wp_of e282 c282_35 (rw_istore_n (pc' := 36) (z := 0) (L' := [(3, vI 0), (2, vI 0), (1, vI z8426), (0, .ref r0)]) rfl rfl rfl ?_)
        have lp10571 : ∀ (n10572 : Nat) (v10574 : Int) (v10575 : Int) (H10576 : wq_H), WT T H10576 → wfr [(51, 999)] T H8420 H10576 → (0 ≤ v10574 ∧ v10574 ≤ 20000) → (0 ≤ v10575 ∧ v10575 ≤ 16777215) → (v10574 ≤ xlots d) → (v10575 = xno d (v10574).toNat) → (20000 - v10574).toNat = n10572 → wp kt 7 282 36 [(3, vI v10574), (2, vI v10575), (0, .ref r0)] [] T H10576 (uq_282 r0 e d T H) := by
          intro n10572
          induction n10572 using Nat.strongRecOn with
          | _ n10572 ih10573 =>
            intro v10574 v10575 H10576 w10577 f10578 b10579 b10580 x10582 x10583 m10581
            have f10584 := f8445.tr f10578 rfl
            refine wp_of e282 c282_36 (rw_iload_n (pc' := 37) (z := v10574) rfl rfl ?_)
            refine wp_of e282 c282_37 (rw_i2l (pc' := 38) rfl ⟨Int.le_trans (by decide) b10579.1, Int.le_trans b10579.2 (by decide)⟩ ?_)
            have k10585 : wLM H10576 r0 = wLM H r0 := ((wLM_fr w8424 g0 f10578 rfl).trans ((wLM_fr w5915 g0 f8425 rfl).trans (wLM_fr hW g0 ((wfr.rf (l := [(42, 0)])).put' e5914 g0 rfl) rfl)))
            refine wp_of e282 c282_38 (rw_aload_n (pc' := 39) (v := .ref r0) rfl rfl rfl ?_)
            have k10586 : H10576 r0 3 = H8420 r0 3 := (f10578 r0 3 _ g0 rfl)
            have q10587 : H10576 r0 3 = (r5919 : Int) := k10586.trans q8448
            refine wp_of e282 c282_39 (xc_V (pc' := 42) (r := r0) (as := []) (st := [vL v10574]) (lm_9_376) rfl rfl (Nat.le_of_ble_eq_true rfl) w10577 g0 sh_42 (by decide) rfl (by decide) (s_220 w10577 g0 q10587 g5921) (fun R10588 T10589 H10590 p10591 => ?_))
            obtain ⟨e10592, e10594, z10596, e10593, b10597, p10595⟩ := p10591
            subst e10592
            subst e10593
            subst e10594
            show wp _ _ 282 42 [(3, vI v10574), (2, vI v10575), (0, .ref r0)] [vL z10596, vL v10574] _ H10576 _
            refine wp_of e282 c282_42 (rw_lcmp (pc' := 43) rfl ⟨Int.le_trans (by decide) b10579.1, Int.le_trans b10579.2 (by decide)⟩ ⟨Int.le_trans (by decide) b10597.1, Int.le_trans b10597.2 (by decide)⟩ ?_)
            have b10598 := wq_cmp_b v10574 z10596
            refine wp_of e282 c282_43 (rw_if_ge (p1 := 116) (p2 := 46) (by decide) rfl ⟨by omega, by omega⟩ (fun c10599 => ?_) (fun c10599 => ?_))
            · have _z : v10575 = xno d (xlots d).toNat := by rw [show (xlots d).toNat = (v10574).toNat by omega]; assumption
              refine wp_of e282 c282_116 (rw_aload_n (pc' := 117) (v := .ref r0) rfl rfl rfl ?_)
              refine wp_of e282 c282_117 (rw_iload_n (pc' := 118) (z := v10575) rfl rfl ?_)
              refine wp_of e282 c282_118 (xc_V (pc' := 121) (r := r0) (as := [vI v10575]) (st := []) (lm_9_58) rfl rfl (Nat.le_of_ble_eq_true rfl) w10577 g0 sh_42 (by decide) rfl (by decide) (u_209  w10577 g0 ⟨Int.le_trans (by decide) b10580.1, Int.le_trans b10580.2 (by decide)⟩) (fun R10600 T10601 H10602 p10603 => ?_))
              obtain ⟨e10604, w10606, f10607, z10608, e10605, b10609, p10610⟩ := p10603
              subst e10604
              subst e10605
              obtain ⟨a10611, a10612, a10613⟩ := p10610
              have f10614 := f10584.tr f10607 rfl
              show wp _ _ 282 121 [(3, vI v10574), (2, vI v10575), (0, .ref r0)] [vI z10608] _ H10602 _
              have k10615 : wKI H10602 r0 = wKI H8420 r0 := ((wKI_fr w10577 g0 f10607 rfl).trans (wKI_fr w8424 g0 f10578 rfl))
              have h10616 : KNN T H10602 r0 e d := (KNN_fr w10577 g0 f10607 rfl (KNN_fr w8424 g0 f10578 rfl a8436))
              exact wp_ireturn e282 c282_121 rfl ⟨rfl, w10606, f10614, z10608, rfl, ⟨b10609.1, b10609.2⟩, (Or.inr ⟨by omega, by omega, by omega, h10616⟩)⟩
            · refine wp_of e282 c282_46 (rw_aload_n (pc' := 47) (v := .ref r0) rfl rfl rfl ?_)
              refine wp_of e282 c282_47 (rw_iload_n (pc' := 48) (z := v10574) rfl rfl ?_)
              have h10617 : RB T H10576 r0 e d := (RB_fr w8424 g0 f10578 rfl h8449)
              refine wp_of e282 c282_48 (xc_V (pc' := 51) (r := r0) (as := [vI v10574]) (st := []) (lm_9_425) rfl rfl (Nat.le_of_ble_eq_true rfl) w10577 g0 sh_42 (by decide) rfl (by decide) (u_243 (e := e) (d := d) w10577 g0 ⟨b10579.1, Int.le_trans b10579.2 (by decide)⟩ q10587 g5921 (by omega) h10617) (fun R10618 T10619 H10620 p10621 => ?_))
              obtain ⟨e10622, w10624, f10625, e10623, p10626⟩ := p10621
              subst e10622
              subst e10623
              have f10628 := f10584.tr f10625 rfl
              have f10629 := f10578.tr f10625 rfl
              show wp _ _ 282 51 [(3, vI v10574), (2, vI v10575), (0, .ref r0)] [] _ H10620 _
              have _sl : SL d (xlot d v10574) := SL_lot _xw.1 (by omega) (by omega)
              refine wp_of e282 c282_51 (rw_aload_n (pc' := 52) (v := .ref r0) rfl rfl rfl ?_)
              refine wp_of e282 c282_52 (rw_aload_n (pc' := 53) (v := .ref r0) rfl rfl rfl ?_)
              refine wp_of e282 c282_53 (xg_R (pc' := 56) lf_9_39 w10624 g0 sh_42 (by decide) (by decide) ty_42_27 rfl rfl (fun r10630 q10631 g10632 => ?_))
              have h10633 : RR T H10620 r10630 (d 0 3) (xlot d v10574) := RR_27 p10626 q10631 g10632 (by omega)
              have k10634 : H10620 r0 3 = H10576 r0 3 := (f10625 r0 3 _ g0 rfl)
              have q10635 : H10620 r0 3 = (r5919 : Int) := k10634.trans q10587
              have h10636 : RB T H10620 r0 e d := (RB_fr w10577 g0 f10625 rfl h10617)
              refine wp_of e282 c282_56 (xc_V (pc' := 59) (r := r0) (as := [.ref r10630]) (st := []) (lm_9_393) rfl rfl (Nat.le_of_ble_eq_true rfl) w10624 g0 sh_42 (by decide) rfl (by decide) (u_235_l (e := e) (d := d) (g := ((xlot d v10574))) w10624 g0 g10632 q10635 g5921 (by assumption) (by assumption) (by assumption) h10636 h10633) (fun R10637 T10638 H10639 p10640 => ?_))
              obtain ⟨e10641, e10643, z10644, e10642, b10645, p10646⟩ := p10640
              subst e10641
              subst e10642
              subst e10643
              show wp _ _ 282 59 [(3, vI v10574), (2, vI v10575), (0, .ref r0)] [vI z10644] _ H10620 _
              refine wp_of e282 c282_59 (rw_if_eq (p1 := 65) (p2 := 62) (by decide) rfl ⟨Int.le_trans (by decide) b10645.1, Int.le_trans b10645.2 (by decide)⟩ (fun c10648 => ?_) (fun c10648 => ?_))
              · refine wp_of e282 c282_65 (rw_iconst (pc' := 66) rfl ?_)
                refine wp_of e282 c282_66 (rw_istore (pc' := 68) (z := 0) (L' := [(4, vI 0), (3, vI v10574), (2, vI v10575), (0, .ref r0)]) rfl rfl rfl ?_)
                have lp10849 : ∀ (n10850 : Nat) (v10852 : Int) (v10853 : Int), (0 ≤ v10852 ∧ v10852 ≤ 24) → (0 ≤ v10853 ∧ v10853 ≤ 16777215) → (v10852 ≤ d 0 0) → (v10853 = wq_or v10575 (xob (fun h => decide (xdue d (xlot d v10574) h = 0)) (v10852).toNat)) → (24 - v10852).toNat = n10850 → wp kt 7 282 68 [(4, vI v10852), (2, vI v10853), (3, vI v10574), (0, .ref r0)] [] T H10620 (uq_282 r0 e d T H) := by
                  intro n10850
                  induction n10850 using Nat.strongRecOn with
                  | _ n10850 ih10851 =>
                    intro v10852 v10853 b10856 b10857 x10859 x10860 m10858
                    refine wp_of e282 c282_68 (rw_iload (pc' := 70) (z := v10852) rfl rfl ?_)
                    refine wp_of e282 c282_70 (rw_aload_n (pc' := 71) (v := .ref r0) rfl rfl rfl ?_)
                    refine wp_of e282 c282_71 (xg_K (pc' := 74) lf_9_337 w10624 g0 sh_42 (by decide) (by decide) rfl q10635 rfl ?_)
                    refine wp_of e282 c282_74 (xg_I (pc' := 77) lf_9_185 w10624 g5921 sh_54 (by decide) (by decide) ty_54_0 rfl rfl (fun b10861 b10862 => ?_))
                    have _rp2 := RB_at h10636 q10635
                    have _k2 := RP_k _rp2
                    refine wp_of e282 c282_77 (rw_icmp_ge (p1 := 110) (p2 := 80) (by decide) rfl ⟨Int.le_trans (by decide) b10856.1, Int.le_trans b10856.2 (by decide)⟩ ⟨Int.le_trans (by decide) b10861, Int.le_trans b10862 (by decide)⟩ (fun c10863 => ?_) (fun c10863 => ?_))
                    · have _qq : v10853 = xno d (v10574 + 1).toNat := xno_y (by omega) (by omega) (by
                        rw [← ‹v10575 = xno d (v10574).toNat›, xsi_e ⟨by omega, by omega⟩, show (d 0 0).toNat = (v10852).toNat by omega]
                        assumption)
                      refine wp_of e282 c282_110 (rw_iinc (pc' := 113) (z := v10574) (L' := [(3, vI (v10574 + 1)), (4, vI v10852), (2, vI v10853), (0, .ref r0)]) rfl rfl rfl rfl ?_)
                      refine wp_of e282 c282_113 (rw_goto (p1 := 36) (by decide) ?_)
                      exact wp_lc (ks := [3, 4, 2, 0]) (wl_c rfl (wl_c rfl (wl_c rfl wl_n))) rfl (by decide) (ih10573 _ (by omega) (v10574 + 1) v10853 H10620 w10624 f10629 ⟨by omega, by omega⟩ ⟨b10857.1, b10857.2⟩ (by omega) (_qq) rfl)
                    · refine wp_of e282 c282_80 (rw_iload_n (pc' := 81) (z := v10853) rfl rfl ?_)
                      refine wp_of e282 c282_81 (rw_aload_n (pc' := 82) (v := .ref r0) rfl rfl rfl ?_)
                      refine wp_of e282 c282_82 (rw_aload_n (pc' := 83) (v := .ref r0) rfl rfl rfl ?_)
                      refine wp_of e282 c282_83 (xg_K (pc' := 86) lf_9_39 w10624 g0 sh_42 (by decide) (by decide) rfl q10631 rfl ?_)
                      refine wp_of e282 c282_86 (rw_iload (pc' := 88) (z := v10852) rfl rfl ?_)
                      have h10864 : RR T H10620 r10630 (d 0 3) (xlot d v10574) := RR_27 p10626 q10631 g10632 (by omega)
                      refine wp_of e282 c282_88 (xc_V (pc' := 91) (r := r0) (as := [.ref r10630, vI v10852]) (st := [vI v10853]) (lm_9_386) rfl rfl (Nat.le_of_ble_eq_true rfl) w10624 g0 sh_42 (by decide) rfl (by decide) (u_228_l (e := e) (d := d) (g := ((xlot d v10574))) w10624 g0 g10632 ⟨b10856.1, by omega⟩ q10635 g5921 (by assumption) (by assumption) h10636 h10864) (fun R10865 T10866 H10867 p10868 => ?_))
                      obtain ⟨e10869, e10871, z10872, e10870, b10873, p10874⟩ := p10868
                      subst e10869
                      subst e10870
                      subst e10871
                      show wp _ _ 282 91 [(4, vI v10852), (2, vI v10853), (3, vI v10574), (0, .ref r0)] [vI z10872, vI v10853] _ H10620 _
                      refine wp_of e282 c282_91 (rw_if_ne (p1 := 101) (p2 := 94) (by decide) rfl ⟨Int.le_trans (by decide) b10873.1, Int.le_trans b10873.2 (by decide)⟩ (fun c10876 => ?_) (fun c10876 => ?_))
                      · refine wp_of e282 c282_101 (rw_iconst (pc' := 102) rfl ?_)
                        refine wp_of e282 c282_102 (rw_ior (pc' := 103) rfl ?_)
                        obtain ⟨v10877, e10878⟩ : ∃ x : Int, x = wq_or v10853 0 := ⟨_, rfl⟩
                        rw [← e10878]
                        have b10879 : 0 ≤ v10877 ∧ v10877 ≤ 16777215 := by
                          rw [e10878]
                          exact wq_or_24 ⟨by omega, by omega⟩ ⟨by omega, by omega⟩
                        refine wp_of e282 c282_103 (rw_istore_n (pc' := 104) (z := v10877) (L' := [(2, vI v10877), (4, vI v10852), (3, vI v10574), (0, .ref r0)]) rfl rfl rfl ?_)
                        have _q : v10877 = wq_or v10575 (xob (fun h => decide (xdue d (xlot d v10574) h = 0)) (v10852 + 1).toNat) := by
                          rw [xob_n (by omega) (decide_eq_false (by omega)), ← ‹v10853 = wq_or v10575 (xob (fun h => decide (xdue d (xlot d v10574) h = 0)) (v10852).toNat)›, e10878]
                          exact wq_or_0 ⟨by omega, by omega⟩
                        refine wp_of e282 c282_104 (rw_iinc (pc' := 107) (z := v10852) (L' := [(4, vI (v10852 + 1)), (2, vI v10877), (3, vI v10574), (0, .ref r0)]) rfl rfl rfl rfl ?_)
                        refine wp_of e282 c282_107 (rw_goto (p1 := 68) (by decide) ?_)
                        exact wp_lc (ks := [4, 2, 3, 0]) (wl_c rfl (wl_c rfl (wl_c rfl (wl_c rfl wl_n)))) rfl (by decide) (ih10851 _ (by omega) (v10852 + 1) v10877 ⟨by omega, by omega⟩ ⟨b10879.1, b10879.2⟩ (by omega) (_q) rfl)
                      · refine wp_of e282 c282_94 (rw_iconst (pc' := 95) rfl ?_)
                        refine wp_of e282 c282_95 (rw_iload (pc' := 97) (z := v10852) rfl rfl ?_)
                        refine wp_of e282 c282_97 (rw_ishl (pc' := 98) rfl ?_)
                        obtain ⟨v10880, e10881⟩ : ∃ x : Int, x = wq_shl 1 v10852 := ⟨_, rfl⟩
                        rw [← e10881]
                        have b10882 : 1 ≤ v10880 ∧ v10880 ≤ 8388608 := by
                          rw [e10881]
                          exact wq_shl1_24 ⟨by omega, by omega⟩
                        refine wp_of e282 c282_98 (rw_goto (p1 := 102) (by decide) ?_)
                        refine wp_of e282 c282_102 (rw_ior (pc' := 103) rfl ?_)
                        obtain ⟨v10883, e10884⟩ : ∃ x : Int, x = wq_or v10853 v10880 := ⟨_, rfl⟩
                        rw [← e10884]
                        have b10885 : 0 ≤ v10883 ∧ v10883 ≤ 16777215 := by
                          rw [e10884]
                          exact wq_or_24 ⟨by omega, by omega⟩ ⟨by omega, by omega⟩
                        refine wp_of e282 c282_103 (rw_istore_n (pc' := 104) (z := v10883) (L' := [(2, vI v10883), (4, vI v10852), (3, vI v10574), (0, .ref r0)]) rfl rfl rfl ?_)
                        have _q : v10883 = wq_or v10575 (xob (fun h => decide (xdue d (xlot d v10574) h = 0)) (v10852 + 1).toNat) := by
                          rw [xob_s (by omega) (decide_eq_true (by omega)), ← or_a, ← ‹v10853 = wq_or v10575 (xob (fun h => decide (xdue d (xlot d v10574) h = 0)) (v10852).toNat)›, e10884, e10881]
                        refine wp_of e282 c282_104 (rw_iinc (pc' := 107) (z := v10852) (L' := [(4, vI (v10852 + 1)), (2, vI v10883), (3, vI v10574), (0, .ref r0)]) rfl rfl rfl rfl ?_)
                        refine wp_of e282 c282_107 (rw_goto (p1 := 68) (by decide) ?_)
                        exact wp_lc (ks := [4, 2, 3, 0]) (wl_c rfl (wl_c rfl (wl_c rfl (wl_c rfl wl_n)))) rfl (by decide) (ih10851 _ (by omega) (v10852 + 1) v10883 ⟨by omega, by omega⟩ ⟨b10885.1, b10885.2⟩ (by omega) (_q) rfl)
                exact wp_lc (ks := [4, 3, 2, 0]) (wl_c rfl (wl_c rfl (wl_c rfl (wl_c rfl wl_n)))) rfl (by decide) (lp10849 _ 0 v10575 ⟨by decide, by decide⟩ ⟨b10580.1, b10580.2⟩ (by omega) ((wq_or_0 ⟨by omega, by omega⟩).symm) rfl)
              · refine wp_of e282 c282_62 (rw_goto (p1 := 110) (by decide) ?_)
                have _qq : v10575 = xno d (v10574 + 1).toNat := by
                  rw [xno_n (by omega) (by omega)]
                  assumption
                refine wp_of e282 c282_110 (rw_iinc (pc' := 113) (z := v10574) (L' := [(3, vI (v10574 + 1)), (2, vI v10575), (0, .ref r0)]) rfl rfl rfl rfl ?_)
                refine wp_of e282 c282_113 (rw_goto (p1 := 36) (by decide) ?_)
                exact wp_lc (ks := [3, 2, 0]) (wl_c rfl (wl_c rfl (wl_c rfl wl_n))) rfl (by decide) (ih10573 _ (by omega) (v10574 + 1) v10575 H10620 w10624 f10629 ⟨by omega, by omega⟩ ⟨b10580.1, b10580.2⟩ (by omega) (_qq) rfl)
        exact wp_lc (ks := [3, 2, 1, 0]) (wl_c rfl (wl_c rfl (wl_c rfl wl_n))) rfl (by decide) (lp10571 _ 0 0 H8420 w8424 wfr.rf ⟨by decide, by decide⟩ ⟨by decide, by decide⟩ (by omega) (rfl) rfl)
      · exfalso
        omega
    · have f10886 := f5916.tr f8425 rfl
      show wp _ _ 282 21 [(0, .ref r0)] [vI z8426] _ H8420 _
      refine wp_of e282 c282_21 (rw_istore_n (pc' := 22) (z := z8426) (L' := [(1, vI z8426), (0, .ref r0)]) rfl rfl rfl ?_)
      refine wp_of e282 c282_22 (rw_iload_n (pc' := 23) (z := z8426) rfl rfl ?_)
      refine wp_of e282 c282_23 (rw_if_le (p1 := 32) (p2 := 26) (by decide) rfl ⟨Int.le_trans (by decide) b8427.1, Int.le_trans b8427.2 (by decide)⟩ (fun c10887 => ?_) (fun c10887 => ?_))
      · exfalso
        omega
      · refine wp_of e282 c282_26 (rw_aload_n (pc' := 27) (v := .ref r0) rfl rfl rfl ?_)
        refine wp_of e282 c282_27 (rw_iload_n (pc' := 28) (z := z8426) rfl rfl ?_)
        refine wp_of e282 c282_28 (xc_V (pc' := 31) (r := r0) (as := [vI z8426]) (st := []) (lm_9_54) rfl rfl (Nat.le_of_ble_eq_true rfl) w8424 g0 sh_42 (by decide) rfl (by decide) (u_170  w8424 g0 ⟨Int.le_trans (by decide) b8427.1, Int.le_trans b8427.2 (by decide)⟩) (fun R10888 T10889 H10890 p10891 => ?_))
        obtain ⟨e10892, w10894, f10895, z10896, e10893, b10897, p10898⟩ := p10891
        subst e10892
        subst e10893
        obtain ⟨a10899, a10900, a10901⟩ := p10898
        have f10902 := f10886.tr f10895 rfl
        show wp _ _ 282 31 [(1, vI z8426), (0, .ref r0)] [vI z10896] _ H10890 _
        have k10903 : wKI H10890 r0 = wKI H8420 r0 := (wKI_fr w8424 g0 f10895 rfl)
        have h10904 : KNN T H10890 r0 e d := (KNN_fr w8424 g0 f10895 rfl a8444)
        exact wp_ireturn e282 c282_31 rfl ⟨rfl, w10894, f10902, z10896, rfl, ⟨b10897.1, b10897.2⟩, (Or.inl ⟨by omega, by omega, by omega, h10904⟩)⟩
