/-! what methods do (own work, written by wip/gen3/sx3.py) -/
/-! StrikeAwakeModel.chance(II)I  -/
abbrev uq_255 (r0 : Nat) (a1 : Int) (a2 : Int) (e : xD) (d : xD) (T : wq_T) (H : wq_H) : Option Value → wq_T → wq_H → Prop := fun r T' H' => T = T' ∧ WT T H' ∧ wfr [(42, 0), (42, 1), (42, 2), (42, 28), (42, 29), (51, 999), (52, 999)] T H H' ∧ ∃ z : Int, some (vI z) = r ∧ ((-2147483648) ≤ z ∧ z ≤ 2147483647) ∧ (((wKI H' r0 = 1) ∧ KNN T H' r0 e d))
set_option maxHeartbeats 4000000 in
theorem u_255 {kt : Nat → Option mc_E} {T : wq_T} {H : wq_H} {r0 : Nat} {a1 : Int} {a2 : Int} {e : xD} {d : xD} (hW : WT T H) (g0 : T.2.2.2 r0 = some 42) (i1 : (-2147483648) ≤ a1 ∧ a1 ≤ 2147483647) (i2 : (-2147483648) ≤ a2 ∧ a2 ≤ 2147483647) (p0 : wKI H r0 = 1) (p1 : XW d) (p2 : ∀ h : Nat, d 0 0 ≤ (h : Int) → h < 24 → e 13 h = 0) (p3 : XN d) (p4 : ∀ h : Nat, h < 24 → 0 ≤ e 13 h ∧ e 13 h ≤ 100) (hRB_r0 : RB T H r0 e d) (hKNN_r0 : KNN T H r0 e d) : wpc kt 9 255 [.ref r0, vI a1, vI a2] T H (uq_255 r0 a1 a2 e d T H) := by
  refine wp_enter e255 (Nat.le_of_ble_eq_true rfl) rfl ?_
  have f0 : wfr [(42, 0), (42, 1), (42, 2), (42, 28), (42, 29), (51, 999), (52, 999)] T H H := wfr.rf
  show wp _ _ 255 0 [(0, .ref r0), (1, vI a1), (2, vI a2)] [] _ H _
  have _b := RB_b hW hRB_r0
  have _nu := RB_n3 hRB_r0
  have _lm := RB_lm hRB_r0
  refine wp_of e255 c255_0 (rw_aload_n (pc' := 1) (v := .ref r0) rfl rfl rfl ?_)
  refine wp_of e255 c255_1 (rw_iconst (pc' := 2) rfl ?_)
  refine wp_of e255 c255_2 (xp_I (pc' := 5) lf_9_48 hW g0 sh_42 (by decide) (by decide) ty_42_0 rfl rfl (by decide) (by decide) ⟨by decide, by decide⟩ rfl (fun H1298 e1299 w1300 => ?_))
  have f1301 := f0.put' e1299 g0 rfl
  have k1302 : H1298 r0 0 = 0 := wq_u_s e1299
  refine wp_of e255 c255_5 (rw_aload_n (pc' := 6) (v := .ref r0) rfl rfl rfl ?_)
  refine wp_of e255 c255_6 (rw_aload_n (pc' := 7) (v := .ref r0) rfl rfl rfl ?_)
  refine wp_of e255 c255_7 (rw_iload_n (pc' := 8) (z := a1) rfl rfl ?_)
  refine wp_of e255 c255_8 (xc_V (pc' := 11) (r := r0) (as := [vI a1]) (st := [.ref r0]) (lm_9_364) rfl rfl (Nat.le_of_ble_eq_true rfl) w1300 g0 sh_42 (by decide) rfl (by decide) (s_213 w1300 g0 ⟨i1.1, i1.2⟩) (fun R1303 T1304 H1305 p1306 => ?_))
  obtain ⟨e1307, e1309, z1311, e1308, b1312, p1310⟩ := p1306
  subst e1307
  subst e1308
  subst e1309
  show wp _ _ 255 11 [(0, .ref r0), (1, vI a1), (2, vI a2)] [vI z1311, .ref r0] _ H1298 _
  refine wp_of e255 c255_11 (rw_if_eq (p1 := 26) (p2 := 14) (by decide) rfl ⟨Int.le_trans (by decide) b1312.1, Int.le_trans b1312.2 (by decide)⟩ (fun c1313 => ?_) (fun c1313 => ?_))
  · refine wp_of e255 c255_26 (rw_iconst (pc' := 27) rfl ?_)
    have k1314 : H1298 r0 3 = H r0 3 := (wq_u_j e1299 rfl)
    have k1315 : wKI H1298 r0 = wKI H r0 := (wKI_fr hW g0 ((wfr.rf (l := [(42, 0)])).put' e1299 g0 rfl) rfl)
    have h1316 : RB T H1298 r0 e d := (RB_fr hW g0 ((wfr.rf (l := [(42, 0)])).put' e1299 g0 rfl) rfl hRB_r0)
    have h1317 : KNN T H1298 r0 e d := (KNN_fr hW g0 ((wfr.rf (l := [(42, 0)])).put' e1299 g0 rfl) rfl hKNN_r0)
    refine wp_of e255 c255_27 (xc_V (pc' := 30) (r := r0) (as := [vI 0]) (st := []) (lm_9_447) rfl rfl (Nat.le_of_ble_eq_true rfl) w1300 g0 sh_42 (by decide) rfl (by decide) (u_253 (e := e) (d := d) w1300 g0 ⟨by decide, by decide⟩ (by omega) (by omega) (by assumption) (by assumption) (by assumption) (by assumption) h1316 h1317) (fun R1318 T1319 H1320 p1321 => ?_))
    obtain ⟨e1322, w1324, f1325, z1326, e1323, b1327, p1328⟩ := p1321
    subst e1322
    subst e1323
    rcases p1328 with ⟨a1329, a1330, a1331, a1332, a1333, a1334, a1335, a1336, a1337, a1338⟩ | ⟨a1339, a1340, a1341, a1342, a1343, a1344, a1345⟩
    · have f1346 := f1301.tr f1325 rfl
      show wp _ _ 255 30 [(0, .ref r0), (1, vI a1), (2, vI a2)] [vI z1326] _ H1320 _
      refine wp_of e255 c255_30 (rw_istore_n (pc' := 31) (z := z1326) (L' := [(3, vI z1326), (0, .ref r0), (1, vI a1), (2, vI a2)]) rfl rfl rfl ?_)
      refine wp_of e255 c255_31 (rw_iload_n (pc' := 32) (z := z1326) rfl rfl ?_)
      refine wp_of e255 c255_32 (rw_if_le (p1 := 43) (p2 := 35) (by decide) rfl ⟨Int.le_trans (by decide) b1327.1, Int.le_trans b1327.2 (by decide)⟩ (fun c1347 => ?_) (fun c1347 => ?_))
      · refine wp_of e255 c255_43 (rw_aload_n (pc' := 44) (v := .ref r0) rfl rfl rfl ?_)
        refine wp_of e255 c255_44 (rw_ldc2 (pc' := 47) (z := 100) rfl rfl rfl ?_)
        refine wp_of e255 c255_47 (rw_aload_n (pc' := 48) (v := .ref r0) rfl rfl rfl ?_)
        refine wp_of e255 c255_48 (rw_iload_n (pc' := 49) (z := a1) rfl rfl ?_)
        refine wp_of e255 c255_49 (rw_iload_n (pc' := 50) (z := a2) rfl rfl ?_)
        have k1348 : H1320 r0 3 = H1298 r0 3 := (f1325 r0 3 _ g0 rfl)
        obtain ⟨r1349, q1350, g1351⟩ := (w1324.opt g0 (t' := 54) (n := 33) (j := 3) (p := 0) (q := 0) rfl (by decide) rfl).resolve_left (by omega)
        refine wp_of e255 c255_50 (xc_V (pc' := 53) (r := r0) (as := [vI a1, vI a2]) (st := [vL 100, .ref r0]) (lm_9_440) rfl rfl (Nat.le_of_ble_eq_true rfl) w1324 g0 sh_42 (by decide) rfl (by decide) (s_247 w1324 g0 ⟨by omega, by omega⟩ ⟨i2.1, i2.2⟩ q1350 g1351 (by omega)) (fun R1352 T1353 H1354 p1355 => ?_))
        obtain ⟨e1356, w1358, f1359, z1361, e1357, b1362, p1360⟩ := p1355
        subst e1356
        subst e1357
        have f1363 := f1346.tr f1359 rfl
        show wp _ _ 255 53 [(3, vI z1326), (0, .ref r0), (1, vI a1), (2, vI a2)] [vL z1361, vL 100, .ref r0] _ H1354 _
        refine wp_of e255 c255_53 (rw_lmul (pc' := 54) rfl ?_)
        refine wp_of e255 c255_54 (rw_aload_n (pc' := 55) (v := .ref r0) rfl rfl rfl ?_)
        refine wp_of e255 c255_55 (rw_iconst (pc' := 56) rfl ?_)
        refine wp_of e255 c255_56 (rw_iconst (pc' := 57) rfl ?_)
        have k1364 : H1354 r0 3 = H1320 r0 3 := (f1359 r0 3 _ g0 rfl)
        have q1365 : H1354 r0 3 = (r1349 : Int) := k1364.trans q1350
        refine wp_of e255 c255_57 (xc_V (pc' := 60) (r := r0) (as := [vI (-1), vI 0]) (st := [vL (100 * z1361), .ref r0]) (lm_9_440) rfl rfl (Nat.le_of_ble_eq_true rfl) w1358 g0 sh_42 (by decide) rfl (by decide) (s_247 w1358 g0 ⟨by decide, by decide⟩ ⟨by decide, by decide⟩ q1365 g1351 (by omega)) (fun R1366 T1367 H1368 p1369 => ?_))
        obtain ⟨e1370, w1372, f1373, z1375, e1371, b1376, p1374⟩ := p1369
        subst e1370
        subst e1371
        have f1377 := f1363.tr f1373 rfl
        show wp _ _ 255 60 [(3, vI z1326), (0, .ref r0), (1, vI a1), (2, vI a2)] [vL z1375, vL (100 * z1361), .ref r0] _ H1368 _
        refine wp_of e255 c255_60 (rw_ldiv (pc' := 61) rfl ⟨by omega, by omega⟩ (by omega) ?_)
        obtain ⟨v1378, e1379⟩ : ∃ x : Int, x = wl_div (100 * z1361) z1375 := ⟨_, rfl⟩
        rw [← e1379]
        have b1380 : -9223372036854775808 ≤ v1378 ∧ v1378 ≤ 9223372036854775807 := by
          rw [e1379]
          exact wL_div _ _
        refine wp_of e255 c255_61 (rw_l2i (pc' := 62) rfl ?_)
        obtain ⟨v1381, e1382⟩ : ∃ x : Int, x = wq_w v1378 := ⟨_, rfl⟩
        rw [← e1382]
        have b1383 : -2147483648 ≤ v1381 ∧ v1381 ≤ 2147483647 := by
          rw [e1382]
          exact wI_w _
        have b1384 : (-2147483648 ≤ v1378 ∧ v1378 ≤ 2147483647) → v1381 = v1378 := by
          rw [e1382]
          exact fun h => wq_w_id h
        refine wp_of e255 c255_62 (xc_V (pc' := 65) (r := r0) (as := [vI v1381]) (st := []) (lm_9_58) rfl rfl (Nat.le_of_ble_eq_true rfl) w1372 g0 sh_42 (by decide) rfl (by decide) (s_209 w1372 g0 ⟨b1383.1, b1383.2⟩) (fun R1385 T1386 H1387 p1388 => ?_))
        obtain ⟨e1389, w1391, f1392, z1393, e1390, b1394⟩ := p1388
        subst e1389
        subst e1390
        have f1395 := f1377.tr f1392 rfl
        show wp _ _ 255 65 [(3, vI z1326), (0, .ref r0), (1, vI a1), (2, vI a2)] [vI z1393] _ H1387 _
        have k1396 : wKI H1387 r0 = wKI H1320 r0 := ((wKI_fr w1372 g0 f1392 rfl).trans ((wKI_fr w1358 g0 f1373 rfl).trans (wKI_fr w1324 g0 f1359 rfl)))
        have h1397 : KNN T H1387 r0 e d := (KNN_fr w1372 g0 f1392 rfl (KNN_fr w1358 g0 f1373 rfl (KNN_fr w1324 g0 f1359 rfl a1337)))
        exact wp_ireturn e255 c255_65 rfl ⟨rfl, w1391, f1395, z1393, rfl, ⟨b1394.1, b1394.2⟩, ⟨by omega, h1397⟩⟩
      · exfalso
        omega
    · have f1398 := f1301.tr f1325 rfl
      show wp _ _ 255 30 [(0, .ref r0), (1, vI a1), (2, vI a2)] [vI z1326] _ H1320 _
      refine wp_of e255 c255_30 (rw_istore_n (pc' := 31) (z := z1326) (L' := [(3, vI z1326), (0, .ref r0), (1, vI a1), (2, vI a2)]) rfl rfl rfl ?_)
      refine wp_of e255 c255_31 (rw_iload_n (pc' := 32) (z := z1326) rfl rfl ?_)
      refine wp_of e255 c255_32 (rw_if_le (p1 := 43) (p2 := 35) (by decide) rfl ⟨Int.le_trans (by decide) b1327.1, Int.le_trans b1327.2 (by decide)⟩ (fun c1399 => ?_) (fun c1399 => ?_))
      · exfalso
        omega
      · refine wp_of e255 c255_35 (rw_aload_n (pc' := 36) (v := .ref r0) rfl rfl rfl ?_)
        refine wp_of e255 c255_36 (rw_iload_n (pc' := 37) (z := z1326) rfl rfl ?_)
        refine wp_of e255 c255_37 (xc_V (pc' := 40) (r := r0) (as := [vI z1326]) (st := []) (lm_9_54) rfl rfl (Nat.le_of_ble_eq_true rfl) w1324 g0 sh_42 (by decide) rfl (by decide) (s_170 w1324 g0 ⟨Int.le_trans (by decide) b1327.1, Int.le_trans b1327.2 (by decide)⟩) (fun R1400 T1401 H1402 p1403 => ?_))
        obtain ⟨e1404, w1406, f1407, z1408, e1405, b1409⟩ := p1403
        subst e1404
        subst e1405
        have f1410 := f1398.tr f1407 rfl
        show wp _ _ 255 40 [(3, vI z1326), (0, .ref r0), (1, vI a1), (2, vI a2)] [vI z1408] _ H1402 _
        refine wp_of e255 c255_40 (rw_goto (p1 := 65) (by decide) ?_)
        have k1411 : wKI H1402 r0 = wKI H1320 r0 := (wKI_fr w1324 g0 f1407 rfl)
        have h1412 : KNN T H1402 r0 e d := (KNN_fr w1324 g0 f1407 rfl a1345)
        exact wp_ireturn e255 c255_65 rfl ⟨rfl, w1406, f1410, z1408, rfl, ⟨b1409.1, b1409.2⟩, ⟨by omega, h1412⟩⟩
  · refine wp_of e255 c255_14 (rw_aload_n (pc' := 15) (v := .ref r0) rfl rfl rfl ?_)
    refine wp_of e255 c255_15 (rw_iload_n (pc' := 16) (z := a2) rfl rfl ?_)
    refine wp_of e255 c255_16 (xc_V (pc' := 19) (r := r0) (as := [vI a2]) (st := [.ref r0]) (lm_9_373) rfl rfl (Nat.le_of_ble_eq_true rfl) w1300 g0 sh_42 (by decide) rfl (by decide) (s_218 w1300 g0 ⟨i2.1, i2.2⟩) (fun R1413 T1414 H1415 p1416 => ?_))
    obtain ⟨e1417, e1419, z1421, e1418, b1422, p1420⟩ := p1416
    subst e1417
    subst e1418
    subst e1419
    show wp _ _ 255 19 [(0, .ref r0), (1, vI a1), (2, vI a2)] [vI z1421, .ref r0] _ H1298 _
    refine wp_of e255 c255_19 (rw_if_eq (p1 := 26) (p2 := 22) (by decide) rfl ⟨Int.le_trans (by decide) b1422.1, Int.le_trans b1422.2 (by decide)⟩ (fun c1423 => ?_) (fun c1423 => ?_))
    · refine wp_of e255 c255_26 (rw_iconst (pc' := 27) rfl ?_)
      have k1424 : H1298 r0 3 = H r0 3 := (wq_u_j e1299 rfl)
      have k1425 : wKI H1298 r0 = wKI H r0 := (wKI_fr hW g0 ((wfr.rf (l := [(42, 0)])).put' e1299 g0 rfl) rfl)
      have h1426 : RB T H1298 r0 e d := (RB_fr hW g0 ((wfr.rf (l := [(42, 0)])).put' e1299 g0 rfl) rfl hRB_r0)
      have h1427 : KNN T H1298 r0 e d := (KNN_fr hW g0 ((wfr.rf (l := [(42, 0)])).put' e1299 g0 rfl) rfl hKNN_r0)
      refine wp_of e255 c255_27 (xc_V (pc' := 30) (r := r0) (as := [vI 0]) (st := []) (lm_9_447) rfl rfl (Nat.le_of_ble_eq_true rfl) w1300 g0 sh_42 (by decide) rfl (by decide) (u_253 (e := e) (d := d) w1300 g0 ⟨by decide, by decide⟩ (by omega) (by omega) (by assumption) (by assumption) (by assumption) (by assumption) h1426 h1427) (fun R1428 T1429 H1430 p1431 => ?_))
      obtain ⟨e1432, w1434, f1435, z1436, e1433, b1437, p1438⟩ := p1431
      subst e1432
      subst e1433
      rcases p1438 with ⟨a1439, a1440, a1441, a1442, a1443, a1444, a1445, a1446, a1447, a1448⟩ | ⟨a1449, a1450, a1451, a1452, a1453, a1454, a1455⟩
      · have f1456 := f1301.tr f1435 rfl
        show wp _ _ 255 30 [(0, .ref r0), (1, vI a1), (2, vI a2)] [vI z1436] _ H1430 _
        refine wp_of e255 c255_30 (rw_istore_n (pc' := 31) (z := z1436) (L' := [(3, vI z1436), (0, .ref r0), (1, vI a1), (2, vI a2)]) rfl rfl rfl ?_)
        refine wp_of e255 c255_31 (rw_iload_n (pc' := 32) (z := z1436) rfl rfl ?_)
        refine wp_of e255 c255_32 (rw_if_le (p1 := 43) (p2 := 35) (by decide) rfl ⟨Int.le_trans (by decide) b1437.1, Int.le_trans b1437.2 (by decide)⟩ (fun c1457 => ?_) (fun c1457 => ?_))
        · refine wp_of e255 c255_43 (rw_aload_n (pc' := 44) (v := .ref r0) rfl rfl rfl ?_)
          refine wp_of e255 c255_44 (rw_ldc2 (pc' := 47) (z := 100) rfl rfl rfl ?_)
          refine wp_of e255 c255_47 (rw_aload_n (pc' := 48) (v := .ref r0) rfl rfl rfl ?_)
          refine wp_of e255 c255_48 (rw_iload_n (pc' := 49) (z := a1) rfl rfl ?_)
          refine wp_of e255 c255_49 (rw_iload_n (pc' := 50) (z := a2) rfl rfl ?_)
          have k1458 : H1430 r0 3 = H1298 r0 3 := (f1435 r0 3 _ g0 rfl)
          obtain ⟨r1459, q1460, g1461⟩ := (w1434.opt g0 (t' := 54) (n := 33) (j := 3) (p := 0) (q := 0) rfl (by decide) rfl).resolve_left (by omega)
          refine wp_of e255 c255_50 (xc_V (pc' := 53) (r := r0) (as := [vI a1, vI a2]) (st := [vL 100, .ref r0]) (lm_9_440) rfl rfl (Nat.le_of_ble_eq_true rfl) w1434 g0 sh_42 (by decide) rfl (by decide) (s_247 w1434 g0 ⟨by omega, by omega⟩ ⟨i2.1, i2.2⟩ q1460 g1461 (by omega)) (fun R1462 T1463 H1464 p1465 => ?_))
          obtain ⟨e1466, w1468, f1469, z1471, e1467, b1472, p1470⟩ := p1465
          subst e1466
          subst e1467
          have f1473 := f1456.tr f1469 rfl
          show wp _ _ 255 53 [(3, vI z1436), (0, .ref r0), (1, vI a1), (2, vI a2)] [vL z1471, vL 100, .ref r0] _ H1464 _
          refine wp_of e255 c255_53 (rw_lmul (pc' := 54) rfl ?_)
          refine wp_of e255 c255_54 (rw_aload_n (pc' := 55) (v := .ref r0) rfl rfl rfl ?_)
          refine wp_of e255 c255_55 (rw_iconst (pc' := 56) rfl ?_)
          refine wp_of e255 c255_56 (rw_iconst (pc' := 57) rfl ?_)
          have k1474 : H1464 r0 3 = H1430 r0 3 := (f1469 r0 3 _ g0 rfl)
          have q1475 : H1464 r0 3 = (r1459 : Int) := k1474.trans q1460
          refine wp_of e255 c255_57 (xc_V (pc' := 60) (r := r0) (as := [vI (-1), vI 0]) (st := [vL (100 * z1471), .ref r0]) (lm_9_440) rfl rfl (Nat.le_of_ble_eq_true rfl) w1468 g0 sh_42 (by decide) rfl (by decide) (s_247 w1468 g0 ⟨by decide, by decide⟩ ⟨by decide, by decide⟩ q1475 g1461 (by omega)) (fun R1476 T1477 H1478 p1479 => ?_))
          obtain ⟨e1480, w1482, f1483, z1485, e1481, b1486, p1484⟩ := p1479
          subst e1480
          subst e1481
          have f1487 := f1473.tr f1483 rfl
          show wp _ _ 255 60 [(3, vI z1436), (0, .ref r0), (1, vI a1), (2, vI a2)] [vL z1485, vL (100 * z1471), .ref r0] _ H1478 _
          refine wp_of e255 c255_60 (rw_ldiv (pc' := 61) rfl ⟨by omega, by omega⟩ (by omega) ?_)
          obtain ⟨v1488, e1489⟩ : ∃ x : Int, x = wl_div (100 * z1471) z1485 := ⟨_, rfl⟩
          rw [← e1489]
          have b1490 : -9223372036854775808 ≤ v1488 ∧ v1488 ≤ 9223372036854775807 := by
            rw [e1489]
            exact wL_div _ _
          refine wp_of e255 c255_61 (rw_l2i (pc' := 62) rfl ?_)
          obtain ⟨v1491, e1492⟩ : ∃ x : Int, x = wq_w v1488 := ⟨_, rfl⟩
          rw [← e1492]
          have b1493 : -2147483648 ≤ v1491 ∧ v1491 ≤ 2147483647 := by
            rw [e1492]
            exact wI_w _
          have b1494 : (-2147483648 ≤ v1488 ∧ v1488 ≤ 2147483647) → v1491 = v1488 := by
            rw [e1492]
            exact fun h => wq_w_id h
          refine wp_of e255 c255_62 (xc_V (pc' := 65) (r := r0) (as := [vI v1491]) (st := []) (lm_9_58) rfl rfl (Nat.le_of_ble_eq_true rfl) w1482 g0 sh_42 (by decide) rfl (by decide) (s_209 w1482 g0 ⟨b1493.1, b1493.2⟩) (fun R1495 T1496 H1497 p1498 => ?_))
          obtain ⟨e1499, w1501, f1502, z1503, e1500, b1504⟩ := p1498
          subst e1499
          subst e1500
          have f1505 := f1487.tr f1502 rfl
          show wp _ _ 255 65 [(3, vI z1436), (0, .ref r0), (1, vI a1), (2, vI a2)] [vI z1503] _ H1497 _
          have k1506 : wKI H1497 r0 = wKI H1430 r0 := ((wKI_fr w1482 g0 f1502 rfl).trans ((wKI_fr w1468 g0 f1483 rfl).trans (wKI_fr w1434 g0 f1469 rfl)))
          have h1507 : KNN T H1497 r0 e d := (KNN_fr w1482 g0 f1502 rfl (KNN_fr w1468 g0 f1483 rfl (KNN_fr w1434 g0 f1469 rfl a1447)))
          exact wp_ireturn e255 c255_65 rfl ⟨rfl, w1501, f1505, z1503, rfl, ⟨b1504.1, b1504.2⟩, ⟨by omega, h1507⟩⟩
        · exfalso
          omega
      · have f1508 := f1301.tr f1435 rfl
        show wp _ _ 255 30 [(0, .ref r0), (1, vI a1), (2, vI a2)] [vI z1436] _ H1430 _
        refine wp_of e255 c255_30 (rw_istore_n (pc' := 31) (z := z1436) (L' := [(3, vI z1436), (0, .ref r0), (1, vI a1), (2, vI a2)]) rfl rfl rfl ?_)
        refine wp_of e255 c255_31 (rw_iload_n (pc' := 32) (z := z1436) rfl rfl ?_)
        refine wp_of e255 c255_32 (rw_if_le (p1 := 43) (p2 := 35) (by decide) rfl ⟨Int.le_trans (by decide) b1437.1, Int.le_trans b1437.2 (by decide)⟩ (fun c1509 => ?_) (fun c1509 => ?_))
        · exfalso
          omega
        · refine wp_of e255 c255_35 (rw_aload_n (pc' := 36) (v := .ref r0) rfl rfl rfl ?_)
          refine wp_of e255 c255_36 (rw_iload_n (pc' := 37) (z := z1436) rfl rfl ?_)
          refine wp_of e255 c255_37 (xc_V (pc' := 40) (r := r0) (as := [vI z1436]) (st := []) (lm_9_54) rfl rfl (Nat.le_of_ble_eq_true rfl) w1434 g0 sh_42 (by decide) rfl (by decide) (s_170 w1434 g0 ⟨Int.le_trans (by decide) b1437.1, Int.le_trans b1437.2 (by decide)⟩) (fun R1510 T1511 H1512 p1513 => ?_))
          obtain ⟨e1514, w1516, f1517, z1518, e1515, b1519⟩ := p1513
          subst e1514
          subst e1515
          have f1520 := f1508.tr f1517 rfl
          show wp _ _ 255 40 [(3, vI z1436), (0, .ref r0), (1, vI a1), (2, vI a2)] [vI z1518] _ H1512 _
          refine wp_of e255 c255_40 (rw_goto (p1 := 65) (by decide) ?_)
          have k1521 : wKI H1512 r0 = wKI H1430 r0 := (wKI_fr w1434 g0 f1517 rfl)
          have h1522 : KNN T H1512 r0 e d := (KNN_fr w1434 g0 f1517 rfl a1455)
          exact wp_ireturn e255 c255_65 rfl ⟨rfl, w1516, f1520, z1518, rfl, ⟨b1519.1, b1519.2⟩, ⟨by omega, h1522⟩⟩
    · refine wp_of e255 c255_22 (rw_iconst (pc' := 23) rfl ?_)
      refine wp_of e255 c255_23 (rw_goto (p1 := 27) (by decide) ?_)
      have k1523 : H1298 r0 3 = H r0 3 := (wq_u_j e1299 rfl)
      have k1524 : wKI H1298 r0 = wKI H r0 := (wKI_fr hW g0 ((wfr.rf (l := [(42, 0)])).put' e1299 g0 rfl) rfl)
      have h1525 : RB T H1298 r0 e d := (RB_fr hW g0 ((wfr.rf (l := [(42, 0)])).put' e1299 g0 rfl) rfl hRB_r0)
      have h1526 : KNN T H1298 r0 e d := (KNN_fr hW g0 ((wfr.rf (l := [(42, 0)])).put' e1299 g0 rfl) rfl hKNN_r0)
      refine wp_of e255 c255_27 (xc_V (pc' := 30) (r := r0) (as := [vI 1]) (st := []) (lm_9_447) rfl rfl (Nat.le_of_ble_eq_true rfl) w1300 g0 sh_42 (by decide) rfl (by decide) (u_253 (e := e) (d := d) w1300 g0 ⟨by decide, by decide⟩ (by omega) (by omega) (by assumption) (by assumption) (by assumption) (by assumption) h1525 h1526) (fun R1527 T1528 H1529 p1530 => ?_))
      obtain ⟨e1531, w1533, f1534, z1535, e1532, b1536, p1537⟩ := p1530
      subst e1531
      subst e1532
      rcases p1537 with ⟨a1538, a1539, a1540, a1541, a1542, a1543, a1544, a1545, a1546, a1547⟩ | ⟨a1548, a1549, a1550, a1551, a1552, a1553, a1554⟩
      · have f1555 := f1301.tr f1534 rfl
        show wp _ _ 255 30 [(0, .ref r0), (1, vI a1), (2, vI a2)] [vI z1535] _ H1529 _
        refine wp_of e255 c255_30 (rw_istore_n (pc' := 31) (z := z1535) (L' := [(3, vI z1535), (0, .ref r0), (1, vI a1), (2, vI a2)]) rfl rfl rfl ?_)
        refine wp_of e255 c255_31 (rw_iload_n (pc' := 32) (z := z1535) rfl rfl ?_)
        refine wp_of e255 c255_32 (rw_if_le (p1 := 43) (p2 := 35) (by decide) rfl ⟨Int.le_trans (by decide) b1536.1, Int.le_trans b1536.2 (by decide)⟩ (fun c1556 => ?_) (fun c1556 => ?_))
        · refine wp_of e255 c255_43 (rw_aload_n (pc' := 44) (v := .ref r0) rfl rfl rfl ?_)
          refine wp_of e255 c255_44 (rw_ldc2 (pc' := 47) (z := 100) rfl rfl rfl ?_)
          refine wp_of e255 c255_47 (rw_aload_n (pc' := 48) (v := .ref r0) rfl rfl rfl ?_)
          refine wp_of e255 c255_48 (rw_iload_n (pc' := 49) (z := a1) rfl rfl ?_)
          refine wp_of e255 c255_49 (rw_iload_n (pc' := 50) (z := a2) rfl rfl ?_)
          have k1557 : H1529 r0 3 = H1298 r0 3 := (f1534 r0 3 _ g0 rfl)
          obtain ⟨r1558, q1559, g1560⟩ := (w1533.opt g0 (t' := 54) (n := 33) (j := 3) (p := 0) (q := 0) rfl (by decide) rfl).resolve_left (by omega)
          refine wp_of e255 c255_50 (xc_V (pc' := 53) (r := r0) (as := [vI a1, vI a2]) (st := [vL 100, .ref r0]) (lm_9_440) rfl rfl (Nat.le_of_ble_eq_true rfl) w1533 g0 sh_42 (by decide) rfl (by decide) (s_247 w1533 g0 ⟨by omega, by omega⟩ ⟨i2.1, i2.2⟩ q1559 g1560 (by omega)) (fun R1561 T1562 H1563 p1564 => ?_))
          obtain ⟨e1565, w1567, f1568, z1570, e1566, b1571, p1569⟩ := p1564
          subst e1565
          subst e1566
          have f1572 := f1555.tr f1568 rfl
          show wp _ _ 255 53 [(3, vI z1535), (0, .ref r0), (1, vI a1), (2, vI a2)] [vL z1570, vL 100, .ref r0] _ H1563 _
          refine wp_of e255 c255_53 (rw_lmul (pc' := 54) rfl ?_)
          refine wp_of e255 c255_54 (rw_aload_n (pc' := 55) (v := .ref r0) rfl rfl rfl ?_)
          refine wp_of e255 c255_55 (rw_iconst (pc' := 56) rfl ?_)
          refine wp_of e255 c255_56 (rw_iconst (pc' := 57) rfl ?_)
          have k1573 : H1563 r0 3 = H1529 r0 3 := (f1568 r0 3 _ g0 rfl)
          have q1574 : H1563 r0 3 = (r1558 : Int) := k1573.trans q1559
          refine wp_of e255 c255_57 (xc_V (pc' := 60) (r := r0) (as := [vI (-1), vI 0]) (st := [vL (100 * z1570), .ref r0]) (lm_9_440) rfl rfl (Nat.le_of_ble_eq_true rfl) w1567 g0 sh_42 (by decide) rfl (by decide) (s_247 w1567 g0 ⟨by decide, by decide⟩ ⟨by decide, by decide⟩ q1574 g1560 (by omega)) (fun R1575 T1576 H1577 p1578 => ?_))
          obtain ⟨e1579, w1581, f1582, z1584, e1580, b1585, p1583⟩ := p1578
          subst e1579
          subst e1580
          have f1586 := f1572.tr f1582 rfl
          show wp _ _ 255 60 [(3, vI z1535), (0, .ref r0), (1, vI a1), (2, vI a2)] [vL z1584, vL (100 * z1570), .ref r0] _ H1577 _
          refine wp_of e255 c255_60 (rw_ldiv (pc' := 61) rfl ⟨by omega, by omega⟩ (by omega) ?_)
          obtain ⟨v1587, e1588⟩ : ∃ x : Int, x = wl_div (100 * z1570) z1584 := ⟨_, rfl⟩
          rw [← e1588]
          have b1589 : -9223372036854775808 ≤ v1587 ∧ v1587 ≤ 9223372036854775807 := by
            rw [e1588]
            exact wL_div _ _
          refine wp_of e255 c255_61 (rw_l2i (pc' := 62) rfl ?_)
          obtain ⟨v1590, e1591⟩ : ∃ x : Int, x = wq_w v1587 := ⟨_, rfl⟩
          rw [← e1591]
          have b1592 : -2147483648 ≤ v1590 ∧ v1590 ≤ 2147483647 := by
            rw [e1591]
            exact wI_w _
          have b1593 : (-2147483648 ≤ v1587 ∧ v1587 ≤ 2147483647) → v1590 = v1587 := by
            rw [e1591]
            exact fun h => wq_w_id h
          refine wp_of e255 c255_62 (xc_V (pc' := 65) (r := r0) (as := [vI v1590]) (st := []) (lm_9_58) rfl rfl (Nat.le_of_ble_eq_true rfl) w1581 g0 sh_42 (by decide) rfl (by decide) (s_209 w1581 g0 ⟨b1592.1, b1592.2⟩) (fun R1594 T1595 H1596 p1597 => ?_))
          obtain ⟨e1598, w1600, f1601, z1602, e1599, b1603⟩ := p1597
          subst e1598
          subst e1599
          have f1604 := f1586.tr f1601 rfl
          show wp _ _ 255 65 [(3, vI z1535), (0, .ref r0), (1, vI a1), (2, vI a2)] [vI z1602] _ H1596 _
          have k1605 : wKI H1596 r0 = wKI H1529 r0 := ((wKI_fr w1581 g0 f1601 rfl).trans ((wKI_fr w1567 g0 f1582 rfl).trans (wKI_fr w1533 g0 f1568 rfl)))
          have h1606 : KNN T H1596 r0 e d := (KNN_fr w1581 g0 f1601 rfl (KNN_fr w1567 g0 f1582 rfl (KNN_fr w1533 g0 f1568 rfl a1546)))
          exact wp_ireturn e255 c255_65 rfl ⟨rfl, w1600, f1604, z1602, rfl, ⟨b1603.1, b1603.2⟩, ⟨by omega, h1606⟩⟩
        · exfalso
          omega
      · have f1607 := f1301.tr f1534 rfl
        show wp _ _ 255 30 [(0, .ref r0), (1, vI a1), (2, vI a2)] [vI z1535] _ H1529 _
        refine wp_of e255 c255_30 (rw_istore_n (pc' := 31) (z := z1535) (L' := [(3, vI z1535), (0, .ref r0), (1, vI a1), (2, vI a2)]) rfl rfl rfl ?_)
        refine wp_of e255 c255_31 (rw_iload_n (pc' := 32) (z := z1535) rfl rfl ?_)
        refine wp_of e255 c255_32 (rw_if_le (p1 := 43) (p2 := 35) (by decide) rfl ⟨Int.le_trans (by decide) b1536.1, Int.le_trans b1536.2 (by decide)⟩ (fun c1608 => ?_) (fun c1608 => ?_))
        · exfalso
          omega
        · refine wp_of e255 c255_35 (rw_aload_n (pc' := 36) (v := .ref r0) rfl rfl rfl ?_)
          refine wp_of e255 c255_36 (rw_iload_n (pc' := 37) (z := z1535) rfl rfl ?_)
          refine wp_of e255 c255_37 (xc_V (pc' := 40) (r := r0) (as := [vI z1535]) (st := []) (lm_9_54) rfl rfl (Nat.le_of_ble_eq_true rfl) w1533 g0 sh_42 (by decide) rfl (by decide) (s_170 w1533 g0 ⟨Int.le_trans (by decide) b1536.1, Int.le_trans b1536.2 (by decide)⟩) (fun R1609 T1610 H1611 p1612 => ?_))
          obtain ⟨e1613, w1615, f1616, z1617, e1614, b1618⟩ := p1612
          subst e1613
          subst e1614
          have f1619 := f1607.tr f1616 rfl
          show wp _ _ 255 40 [(3, vI z1535), (0, .ref r0), (1, vI a1), (2, vI a2)] [vI z1617] _ H1611 _
          refine wp_of e255 c255_40 (rw_goto (p1 := 65) (by decide) ?_)
          have k1620 : wKI H1611 r0 = wKI H1529 r0 := (wKI_fr w1533 g0 f1616 rfl)
          have h1621 : KNN T H1611 r0 e d := (KNN_fr w1533 g0 f1616 rfl a1554)
          exact wp_ireturn e255 c255_65 rfl ⟨rfl, w1615, f1619, z1617, rfl, ⟨b1618.1, b1618.2⟩, ⟨by omega, h1621⟩⟩
/-! StrikeAwakeModel.likeliest(I)I  -/
abbrev uq_256 (r0 : Nat) (a1 : Int) (e : xD) (d : xD) (T : wq_T) (H : wq_H) : Option Value → wq_T → wq_H → Prop := fun r T' H' => T = T' ∧ WT T H' ∧ wfr [(42, 0), (42, 1), (42, 2), (42, 28), (42, 29), (51, 999), (52, 999)] T H H' ∧ ∃ z : Int, some (vI z) = r ∧ ((-2147483648) ≤ z ∧ z ≤ 2147483647) ∧ (((wKI H' r0 = 1) ∧ KNN T H' r0 e d))
set_option maxHeartbeats 4000000 in
theorem u_256 {kt : Nat → Option mc_E} {T : wq_T} {H : wq_H} {r0 : Nat} {a1 : Int} {e : xD} {d : xD} (hW : WT T H) (g0 : T.2.2.2 r0 = some 42) (i1 : (-2147483648) ≤ a1 ∧ a1 ≤ 2147483647) (p0 : wKI H r0 = 1) (p1 : XW d) (p2 : ∀ h : Nat, d 0 0 ≤ (h : Int) → h < 24 → e 13 h = 0) (p3 : XN d) (p4 : ∀ h : Nat, h < 24 → 0 ≤ e 13 h ∧ e 13 h ≤ 100) (hRB_r0 : RB T H r0 e d) (hKNN_r0 : KNN T H r0 e d) : wpc kt 9 256 [.ref r0, vI a1] T H (uq_256 r0 a1 e d T H) := by
  refine wp_enter e256 (Nat.le_of_ble_eq_true rfl) rfl ?_
  have f0 : wfr [(42, 0), (42, 1), (42, 2), (42, 28), (42, 29), (51, 999), (52, 999)] T H H := wfr.rf
  show wp _ _ 256 0 [(0, .ref r0), (1, vI a1)] [] _ H _
  have _b := RB_b hW hRB_r0
  have _nu := RB_n3 hRB_r0
  have _lm := RB_lm hRB_r0
  refine wp_of e256 c256_0 (rw_aload_n (pc' := 1) (v := .ref r0) rfl rfl rfl ?_)
  refine wp_of e256 c256_1 (rw_iconst (pc' := 2) rfl ?_)
  refine wp_of e256 c256_2 (xp_I (pc' := 5) lf_9_48 hW g0 sh_42 (by decide) (by decide) ty_42_0 rfl rfl (by decide) (by decide) ⟨by decide, by decide⟩ rfl (fun H1092 e1093 w1094 => ?_))
  have f1095 := f0.put' e1093 g0 rfl
  have k1096 : H1092 r0 0 = 0 := wq_u_s e1093
  refine wp_of e256 c256_5 (rw_aload_n (pc' := 6) (v := .ref r0) rfl rfl rfl ?_)
  refine wp_of e256 c256_6 (rw_aload_n (pc' := 7) (v := .ref r0) rfl rfl rfl ?_)
  refine wp_of e256 c256_7 (rw_iload_n (pc' := 8) (z := a1) rfl rfl ?_)
  refine wp_of e256 c256_8 (xc_V (pc' := 11) (r := r0) (as := [vI a1]) (st := [.ref r0]) (lm_9_364) rfl rfl (Nat.le_of_ble_eq_true rfl) w1094 g0 sh_42 (by decide) rfl (by decide) (s_213 w1094 g0 ⟨i1.1, i1.2⟩) (fun R1097 T1098 H1099 p1100 => ?_))
  obtain ⟨e1101, e1103, z1105, e1102, b1106, p1104⟩ := p1100
  subst e1101
  subst e1102
  subst e1103
  show wp _ _ 256 11 [(0, .ref r0), (1, vI a1)] [vI z1105, .ref r0] _ H1092 _
  have k1107 : H1092 r0 3 = H r0 3 := (wq_u_j e1093 rfl)
  have k1108 : wKI H1092 r0 = wKI H r0 := (wKI_fr hW g0 ((wfr.rf (l := [(42, 0)])).put' e1093 g0 rfl) rfl)
  have h1109 : RB T H1092 r0 e d := (RB_fr hW g0 ((wfr.rf (l := [(42, 0)])).put' e1093 g0 rfl) rfl hRB_r0)
  have h1110 : KNN T H1092 r0 e d := (KNN_fr hW g0 ((wfr.rf (l := [(42, 0)])).put' e1093 g0 rfl) rfl hKNN_r0)
  refine wp_of e256 c256_11 (xc_V (pc' := 14) (r := r0) (as := [vI z1105]) (st := []) (lm_9_447) rfl rfl (Nat.le_of_ble_eq_true rfl) w1094 g0 sh_42 (by decide) rfl (by decide) (u_253 (e := e) (d := d) w1094 g0 ⟨b1106.1, b1106.2⟩ (by omega) (by omega) (by assumption) (by assumption) (by assumption) (by assumption) h1109 h1110) (fun R1111 T1112 H1113 p1114 => ?_))
  obtain ⟨e1115, w1117, f1118, z1119, e1116, b1120, p1121⟩ := p1114
  subst e1115
  subst e1116
  rcases p1121 with ⟨a1122, a1123, a1124, a1125, a1126, a1127, a1128, a1129, a1130, a1131⟩ | ⟨a1132, a1133, a1134, a1135, a1136, a1137, a1138⟩
  · have f1139 := f1095.tr f1118 rfl
    show wp _ _ 256 14 [(0, .ref r0), (1, vI a1)] [vI z1119] _ H1113 _
    refine wp_of e256 c256_14 (rw_istore_n (pc' := 15) (z := z1119) (L' := [(2, vI z1119), (0, .ref r0), (1, vI a1)]) rfl rfl rfl ?_)
    refine wp_of e256 c256_15 (rw_iload_n (pc' := 16) (z := z1119) rfl rfl ?_)
    refine wp_of e256 c256_16 (rw_if_le (p1 := 25) (p2 := 19) (by decide) rfl ⟨Int.le_trans (by decide) b1120.1, Int.le_trans b1120.2 (by decide)⟩ (fun c1140 => ?_) (fun c1140 => ?_))
    · refine wp_of e256 c256_25 (rw_aload_n (pc' := 26) (v := .ref r0) rfl rfl rfl ?_)
      have k1141 : H1113 r0 3 = H1092 r0 3 := (f1118 r0 3 _ g0 rfl)
      obtain ⟨r1142, q1143, g1144⟩ := (w1117.opt g0 (t' := 54) (n := 33) (j := 3) (p := 0) (q := 0) rfl (by decide) rfl).resolve_left (by omega)
      refine wp_of e256 c256_26 (xc_V (pc' := 29) (r := r0) (as := []) (st := []) (lm_9_452) rfl rfl (Nat.le_of_ble_eq_true rfl) w1117 g0 sh_42 (by decide) rfl (by decide) (s_257 w1117 g0 q1143 g1144 (by omega) (by omega)) (fun R1145 T1146 H1147 p1148 => ?_))
      obtain ⟨e1149, w1151, f1152, z1153, e1150, b1154⟩ := p1148
      subst e1149
      subst e1150
      have f1155 := f1139.tr f1152 rfl
      show wp _ _ 256 29 [(2, vI z1119), (0, .ref r0), (1, vI a1)] [vL z1153] _ H1147 _
      refine wp_of e256 c256_29 (rw_pop2 (pc' := 30) rfl rfl ?_)
      refine wp_of e256 c256_30 (rw_aload_n (pc' := 31) (v := .ref r0) rfl rfl rfl ?_)
      refine wp_of e256 c256_31 (rw_aload_n (pc' := 32) (v := .ref r0) rfl rfl rfl ?_)
      refine wp_of e256 c256_32 (xg_R (pc' := 35) lf_9_39 w1151 g0 sh_42 (by decide) (by decide) ty_42_27 rfl rfl (fun r1156 q1157 g1158 => ?_))
      refine wp_of e256 c256_35 (rw_iload_n (pc' := 36) (z := a1) rfl rfl ?_)
      refine wp_of e256 c256_36 (xa_I (so := 0) (pc' := 37) w1151 g1158 sh_51 (by decide) (ty_51 _) (by omega) (by omega) rfl (fun b1159 b1160 => ?_))
      refine wp_of e256 c256_37 (xc_V (pc' := 40) (r := r0) (as := [vI (H1147 r1156 (a1.toNat))]) (st := []) (lm_9_58) rfl rfl (Nat.le_of_ble_eq_true rfl) w1151 g0 sh_42 (by decide) rfl (by decide) (s_209 w1151 g0 ⟨Int.le_trans (by decide) b1159, Int.le_trans b1160 (by decide)⟩) (fun R1161 T1162 H1163 p1164 => ?_))
      obtain ⟨e1165, w1167, f1168, z1169, e1166, b1170⟩ := p1164
      subst e1165
      subst e1166
      have f1171 := f1155.tr f1168 rfl
      show wp _ _ 256 40 [(2, vI z1119), (0, .ref r0), (1, vI a1)] [vI z1169] _ H1163 _
      have k1172 : wKI H1163 r0 = wKI H1113 r0 := ((wKI_fr w1151 g0 f1168 rfl).trans (wKI_fr w1117 g0 f1152 rfl))
      have h1173 : KNN T H1163 r0 e d := (KNN_fr w1151 g0 f1168 rfl (KNN_fr w1117 g0 f1152 rfl a1130))
      exact wp_ireturn e256 c256_40 rfl ⟨rfl, w1167, f1171, z1169, rfl, ⟨b1170.1, b1170.2⟩, ⟨by omega, h1173⟩⟩
    · exfalso
      omega
  · have f1174 := f1095.tr f1118 rfl
    show wp _ _ 256 14 [(0, .ref r0), (1, vI a1)] [vI z1119] _ H1113 _
    refine wp_of e256 c256_14 (rw_istore_n (pc' := 15) (z := z1119) (L' := [(2, vI z1119), (0, .ref r0), (1, vI a1)]) rfl rfl rfl ?_)
    refine wp_of e256 c256_15 (rw_iload_n (pc' := 16) (z := z1119) rfl rfl ?_)
    refine wp_of e256 c256_16 (rw_if_le (p1 := 25) (p2 := 19) (by decide) rfl ⟨Int.le_trans (by decide) b1120.1, Int.le_trans b1120.2 (by decide)⟩ (fun c1175 => ?_) (fun c1175 => ?_))
    · exfalso
      omega
    · refine wp_of e256 c256_19 (rw_aload_n (pc' := 20) (v := .ref r0) rfl rfl rfl ?_)
      refine wp_of e256 c256_20 (rw_iload_n (pc' := 21) (z := z1119) rfl rfl ?_)
      refine wp_of e256 c256_21 (xc_V (pc' := 24) (r := r0) (as := [vI z1119]) (st := []) (lm_9_54) rfl rfl (Nat.le_of_ble_eq_true rfl) w1117 g0 sh_42 (by decide) rfl (by decide) (s_170 w1117 g0 ⟨Int.le_trans (by decide) b1120.1, Int.le_trans b1120.2 (by decide)⟩) (fun R1176 T1177 H1178 p1179 => ?_))
      obtain ⟨e1180, w1182, f1183, z1184, e1181, b1185⟩ := p1179
      subst e1180
      subst e1181
      have f1186 := f1174.tr f1183 rfl
      show wp _ _ 256 24 [(2, vI z1119), (0, .ref r0), (1, vI a1)] [vI z1184] _ H1178 _
      have k1187 : wKI H1178 r0 = wKI H1113 r0 := (wKI_fr w1117 g0 f1183 rfl)
      have h1188 : KNN T H1178 r0 e d := (KNN_fr w1117 g0 f1183 rfl a1138)
      exact wp_ireturn e256 c256_24 rfl ⟨rfl, w1182, f1186, z1184, rfl, ⟨b1185.1, b1185.2⟩, ⟨by omega, h1188⟩⟩
/-! StrikeAwakeModel.greatest()J  -/
abbrev uq_258 (r0 : Nat) (e : xD) (d : xD) (T : wq_T) (H : wq_H) : Option Value → wq_T → wq_H → Prop := fun r T' H' => T = T' ∧ WT T H' ∧ wfr [(42, 0), (42, 1), (42, 2), (42, 28), (42, 29), (51, 999), (52, 999)] T H H' ∧ ∃ z : Int, some (vL z) = r ∧ ((-9223372036854775808) ≤ z ∧ z ≤ 9223372036854775807) ∧ (((wKI H' r0 = 1) ∧ KNN T H' r0 e d))
set_option maxHeartbeats 4000000 in
theorem u_258 {kt : Nat → Option mc_E} {T : wq_T} {H : wq_H} {r0 : Nat} {e : xD} {d : xD} (hW : WT T H) (g0 : T.2.2.2 r0 = some 42) (p0 : wKI H r0 = 1) (p1 : XW d) (p2 : ∀ h : Nat, d 0 0 ≤ (h : Int) → h < 24 → e 13 h = 0) (p3 : XN d) (p4 : ∀ h : Nat, h < 24 → 0 ≤ e 13 h ∧ e 13 h ≤ 100) (hRB_r0 : RB T H r0 e d) (hKNN_r0 : KNN T H r0 e d) : wpc kt 9 258 [.ref r0] T H (uq_258 r0 e d T H) := by
  refine wp_enter e258 (Nat.le_of_ble_eq_true rfl) rfl ?_
  have f0 : wfr [(42, 0), (42, 1), (42, 2), (42, 28), (42, 29), (51, 999), (52, 999)] T H H := wfr.rf
  show wp _ _ 258 0 [(0, .ref r0)] [] _ H _
  have _b := RB_b hW hRB_r0
  have _nu := RB_n3 hRB_r0
  have _lm := RB_lm hRB_r0
  refine wp_of e258 c258_0 (rw_aload_n (pc' := 1) (v := .ref r0) rfl rfl rfl ?_)
  refine wp_of e258 c258_1 (rw_iconst (pc' := 2) rfl ?_)
  refine wp_of e258 c258_2 (xp_I (pc' := 5) lf_9_48 hW g0 sh_42 (by decide) (by decide) ty_42_0 rfl rfl (by decide) (by decide) ⟨by decide, by decide⟩ rfl (fun H1149 e1150 w1151 => ?_))
  have f1152 := f0.put' e1150 g0 rfl
  have k1153 : H1149 r0 0 = 0 := wq_u_s e1150
  refine wp_of e258 c258_5 (rw_aload_n (pc' := 6) (v := .ref r0) rfl rfl rfl ?_)
  refine wp_of e258 c258_6 (rw_aload_n (pc' := 7) (v := .ref r0) rfl rfl rfl ?_)
  have k1154 : H1149 r0 3 = H r0 3 := (wq_u_j e1150 rfl)
  refine wp_of e258 c258_7 (xg_O (pc' := 10) lf_9_337 w1151 g0 sh_42 (by decide) (by decide) ty_42_3 rfl rfl (fun q1156 => ?_) (fun r1155 q1156 g1157 => ?_))
  · refine wp_of e258 c258_10 (rw_ifnull_n (p1 := 17) (p2 := 13) (by decide) rfl ?_)
    refine wp_of e258 c258_17 (rw_iconst (pc' := 18) rfl ?_)
    have k1158 : wKI H1149 r0 = wKI H r0 := (wKI_fr hW g0 ((wfr.rf (l := [(42, 0)])).put' e1150 g0 rfl) rfl)
    have h1159 : RB T H1149 r0 e d := (RB_fr hW g0 ((wfr.rf (l := [(42, 0)])).put' e1150 g0 rfl) rfl hRB_r0)
    have h1160 : KNN T H1149 r0 e d := (KNN_fr hW g0 ((wfr.rf (l := [(42, 0)])).put' e1150 g0 rfl) rfl hKNN_r0)
    refine wp_of e258 c258_18 (xc_V (pc' := 21) (r := r0) (as := [vI 0]) (st := []) (lm_9_447) rfl rfl (Nat.le_of_ble_eq_true rfl) w1151 g0 sh_42 (by decide) rfl (by decide) (u_253 (e := e) (d := d) w1151 g0 ⟨by decide, by decide⟩ (by omega) (by omega) (by assumption) (by assumption) (by assumption) (by assumption) h1159 h1160) (fun R1161 T1162 H1163 p1164 => ?_))
    obtain ⟨e1165, w1167, f1168, z1169, e1166, b1170, p1171⟩ := p1164
    subst e1165
    subst e1166
    rcases p1171 with ⟨a1172, a1173, a1174, a1175, a1176, a1177, a1178, a1179, a1180, a1181⟩ | ⟨a1182, a1183, a1184, a1185, a1186, a1187, a1188⟩
    · have f1189 := f1152.tr f1168 rfl
      show wp _ _ 258 21 [(0, .ref r0)] [vI z1169] _ H1163 _
      refine wp_of e258 c258_21 (rw_istore_n (pc' := 22) (z := z1169) (L' := [(1, vI z1169), (0, .ref r0)]) rfl rfl rfl ?_)
      refine wp_of e258 c258_22 (rw_iload_n (pc' := 23) (z := z1169) rfl rfl ?_)
      refine wp_of e258 c258_23 (rw_if_le (p1 := 35) (p2 := 26) (by decide) rfl ⟨Int.le_trans (by decide) b1170.1, Int.le_trans b1170.2 (by decide)⟩ (fun c1190 => ?_) (fun c1190 => ?_))
      · refine wp_of e258 c258_35 (rw_aload_n (pc' := 36) (v := .ref r0) rfl rfl rfl ?_)
        refine wp_of e258 c258_36 (rw_aload_n (pc' := 37) (v := .ref r0) rfl rfl rfl ?_)
        have k1191 : H1163 r0 3 = H1149 r0 3 := (f1168 r0 3 _ g0 rfl)
        have q1192 : H1163 r0 3 = -1 := k1191.trans q1156
        obtain ⟨r1193, q1194, g1195⟩ := (w1167.opt g0 (t' := 54) (n := 33) (j := 3) (p := 0) (q := 0) rfl (by decide) rfl).resolve_left (by omega)
        refine wp_of e258 c258_37 (xc_V (pc' := 40) (r := r0) (as := []) (st := [.ref r0]) (lm_9_452) rfl rfl (Nat.le_of_ble_eq_true rfl) w1167 g0 sh_42 (by decide) rfl (by decide) (s_257 w1167 g0 q1194 g1195 (by omega) (by omega)) (fun R1196 T1197 H1198 p1199 => ?_))
        obtain ⟨e1200, w1202, f1203, z1204, e1201, b1205⟩ := p1199
        subst e1200
        subst e1201
        have f1206 := f1189.tr f1203 rfl
        show wp _ _ 258 40 [(1, vI z1169), (0, .ref r0)] [vL z1204, .ref r0] _ H1198 _
        refine wp_of e258 c258_40 (xc_V (pc' := 43) (r := r0) (as := [vL z1204]) (st := []) (lm_9_380) rfl rfl (Nat.le_of_ble_eq_true rfl) w1202 g0 sh_42 (by decide) rfl (by decide) (s_221 w1202 g0 ⟨Int.le_trans (by decide) b1205.1, Int.le_trans b1205.2 (by decide)⟩) (fun R1207 T1208 H1209 p1210 => ?_))
        obtain ⟨e1211, w1213, f1214, z1215, e1212, b1216⟩ := p1210
        subst e1211
        subst e1212
        have f1217 := f1206.tr f1214 rfl
        show wp _ _ 258 43 [(1, vI z1169), (0, .ref r0)] [vL z1215] _ H1209 _
        have k1218 : wKI H1209 r0 = wKI H1163 r0 := ((wKI_fr w1202 g0 f1214 rfl).trans (wKI_fr w1167 g0 f1203 rfl))
        have h1219 : KNN T H1209 r0 e d := (KNN_fr w1202 g0 f1214 rfl (KNN_fr w1167 g0 f1203 rfl a1180))
        exact wp_lreturn e258 c258_43 rfl ⟨rfl, w1213, f1217, z1215, rfl, ⟨b1216.1, b1216.2⟩, ⟨by omega, h1219⟩⟩
      · exfalso
        omega
    · have f1220 := f1152.tr f1168 rfl
      show wp _ _ 258 21 [(0, .ref r0)] [vI z1169] _ H1163 _
      refine wp_of e258 c258_21 (rw_istore_n (pc' := 22) (z := z1169) (L' := [(1, vI z1169), (0, .ref r0)]) rfl rfl rfl ?_)
      refine wp_of e258 c258_22 (rw_iload_n (pc' := 23) (z := z1169) rfl rfl ?_)
      refine wp_of e258 c258_23 (rw_if_le (p1 := 35) (p2 := 26) (by decide) rfl ⟨Int.le_trans (by decide) b1170.1, Int.le_trans b1170.2 (by decide)⟩ (fun c1221 => ?_) (fun c1221 => ?_))
      · exfalso
        omega
      · refine wp_of e258 c258_26 (rw_aload_n (pc' := 27) (v := .ref r0) rfl rfl rfl ?_)
        refine wp_of e258 c258_27 (rw_iload_n (pc' := 28) (z := z1169) rfl rfl ?_)
        refine wp_of e258 c258_28 (xc_V (pc' := 31) (r := r0) (as := [vI z1169]) (st := []) (lm_9_54) rfl rfl (Nat.le_of_ble_eq_true rfl) w1167 g0 sh_42 (by decide) rfl (by decide) (s_170 w1167 g0 ⟨Int.le_trans (by decide) b1170.1, Int.le_trans b1170.2 (by decide)⟩) (fun R1222 T1223 H1224 p1225 => ?_))
        obtain ⟨e1226, w1228, f1229, z1230, e1227, b1231⟩ := p1225
        subst e1226
        subst e1227
        have f1232 := f1220.tr f1229 rfl
        show wp _ _ 258 31 [(1, vI z1169), (0, .ref r0)] [vI z1230] _ H1224 _
        refine wp_of e258 c258_31 (rw_i2l (pc' := 32) rfl ⟨b1231.1, b1231.2⟩ ?_)
        refine wp_of e258 c258_32 (rw_goto (p1 := 43) (by decide) ?_)
        have k1233 : wKI H1224 r0 = wKI H1163 r0 := (wKI_fr w1167 g0 f1229 rfl)
        have h1234 : KNN T H1224 r0 e d := (KNN_fr w1167 g0 f1229 rfl a1188)
        exact wp_lreturn e258 c258_43 rfl ⟨rfl, w1228, f1232, z1230, rfl, ⟨Int.le_trans (by decide) b1231.1, Int.le_trans b1231.2 (by decide)⟩, ⟨by omega, h1234⟩⟩
  · refine wp_of e258 c258_10 (rw_ifnull_r (p1 := 17) (p2 := 13) (by decide) rfl ?_)
    refine wp_of e258 c258_13 (rw_iconst (pc' := 14) rfl ?_)
    refine wp_of e258 c258_14 (rw_goto (p1 := 18) (by decide) ?_)
    have k1235 : wKI H1149 r0 = wKI H r0 := (wKI_fr hW g0 ((wfr.rf (l := [(42, 0)])).put' e1150 g0 rfl) rfl)
    have h1236 : RB T H1149 r0 e d := (RB_fr hW g0 ((wfr.rf (l := [(42, 0)])).put' e1150 g0 rfl) rfl hRB_r0)
    have h1237 : KNN T H1149 r0 e d := (KNN_fr hW g0 ((wfr.rf (l := [(42, 0)])).put' e1150 g0 rfl) rfl hKNN_r0)
    refine wp_of e258 c258_18 (xc_V (pc' := 21) (r := r0) (as := [vI 1]) (st := []) (lm_9_447) rfl rfl (Nat.le_of_ble_eq_true rfl) w1151 g0 sh_42 (by decide) rfl (by decide) (u_253 (e := e) (d := d) w1151 g0 ⟨by decide, by decide⟩ (by omega) (by omega) (by assumption) (by assumption) (by assumption) (by assumption) h1236 h1237) (fun R1238 T1239 H1240 p1241 => ?_))
    obtain ⟨e1242, w1244, f1245, z1246, e1243, b1247, p1248⟩ := p1241
    subst e1242
    subst e1243
    rcases p1248 with ⟨a1249, a1250, a1251, a1252, a1253, a1254, a1255, a1256, a1257, a1258⟩ | ⟨a1259, a1260, a1261, a1262, a1263, a1264, a1265⟩
    · have f1266 := f1152.tr f1245 rfl
      show wp _ _ 258 21 [(0, .ref r0)] [vI z1246] _ H1240 _
      refine wp_of e258 c258_21 (rw_istore_n (pc' := 22) (z := z1246) (L' := [(1, vI z1246), (0, .ref r0)]) rfl rfl rfl ?_)
      refine wp_of e258 c258_22 (rw_iload_n (pc' := 23) (z := z1246) rfl rfl ?_)
      refine wp_of e258 c258_23 (rw_if_le (p1 := 35) (p2 := 26) (by decide) rfl ⟨Int.le_trans (by decide) b1247.1, Int.le_trans b1247.2 (by decide)⟩ (fun c1267 => ?_) (fun c1267 => ?_))
      · refine wp_of e258 c258_35 (rw_aload_n (pc' := 36) (v := .ref r0) rfl rfl rfl ?_)
        refine wp_of e258 c258_36 (rw_aload_n (pc' := 37) (v := .ref r0) rfl rfl rfl ?_)
        have k1268 : H1240 r0 3 = H1149 r0 3 := (f1245 r0 3 _ g0 rfl)
        have q1269 : H1240 r0 3 = (r1155 : Int) := k1268.trans q1156
        refine wp_of e258 c258_37 (xc_V (pc' := 40) (r := r0) (as := []) (st := [.ref r0]) (lm_9_452) rfl rfl (Nat.le_of_ble_eq_true rfl) w1244 g0 sh_42 (by decide) rfl (by decide) (s_257 w1244 g0 q1269 g1157 (by omega) (by omega)) (fun R1270 T1271 H1272 p1273 => ?_))
        obtain ⟨e1274, w1276, f1277, z1278, e1275, b1279⟩ := p1273
        subst e1274
        subst e1275
        have f1280 := f1266.tr f1277 rfl
        show wp _ _ 258 40 [(1, vI z1246), (0, .ref r0)] [vL z1278, .ref r0] _ H1272 _
        refine wp_of e258 c258_40 (xc_V (pc' := 43) (r := r0) (as := [vL z1278]) (st := []) (lm_9_380) rfl rfl (Nat.le_of_ble_eq_true rfl) w1276 g0 sh_42 (by decide) rfl (by decide) (s_221 w1276 g0 ⟨Int.le_trans (by decide) b1279.1, Int.le_trans b1279.2 (by decide)⟩) (fun R1281 T1282 H1283 p1284 => ?_))
        obtain ⟨e1285, w1287, f1288, z1289, e1286, b1290⟩ := p1284
        subst e1285
        subst e1286
        have f1291 := f1280.tr f1288 rfl
        show wp _ _ 258 43 [(1, vI z1246), (0, .ref r0)] [vL z1289] _ H1283 _
        have k1292 : wKI H1283 r0 = wKI H1240 r0 := ((wKI_fr w1276 g0 f1288 rfl).trans (wKI_fr w1244 g0 f1277 rfl))
        have h1293 : KNN T H1283 r0 e d := (KNN_fr w1276 g0 f1288 rfl (KNN_fr w1244 g0 f1277 rfl a1257))
        exact wp_lreturn e258 c258_43 rfl ⟨rfl, w1287, f1291, z1289, rfl, ⟨b1290.1, b1290.2⟩, ⟨by omega, h1293⟩⟩
      · exfalso
        omega
    · have f1294 := f1152.tr f1245 rfl
      show wp _ _ 258 21 [(0, .ref r0)] [vI z1246] _ H1240 _
      refine wp_of e258 c258_21 (rw_istore_n (pc' := 22) (z := z1246) (L' := [(1, vI z1246), (0, .ref r0)]) rfl rfl rfl ?_)
      refine wp_of e258 c258_22 (rw_iload_n (pc' := 23) (z := z1246) rfl rfl ?_)
      refine wp_of e258 c258_23 (rw_if_le (p1 := 35) (p2 := 26) (by decide) rfl ⟨Int.le_trans (by decide) b1247.1, Int.le_trans b1247.2 (by decide)⟩ (fun c1295 => ?_) (fun c1295 => ?_))
      · exfalso
        omega
      · refine wp_of e258 c258_26 (rw_aload_n (pc' := 27) (v := .ref r0) rfl rfl rfl ?_)
        refine wp_of e258 c258_27 (rw_iload_n (pc' := 28) (z := z1246) rfl rfl ?_)
        refine wp_of e258 c258_28 (xc_V (pc' := 31) (r := r0) (as := [vI z1246]) (st := []) (lm_9_54) rfl rfl (Nat.le_of_ble_eq_true rfl) w1244 g0 sh_42 (by decide) rfl (by decide) (s_170 w1244 g0 ⟨Int.le_trans (by decide) b1247.1, Int.le_trans b1247.2 (by decide)⟩) (fun R1296 T1297 H1298 p1299 => ?_))
        obtain ⟨e1300, w1302, f1303, z1304, e1301, b1305⟩ := p1299
        subst e1300
        subst e1301
        have f1306 := f1294.tr f1303 rfl
        show wp _ _ 258 31 [(1, vI z1246), (0, .ref r0)] [vI z1304] _ H1298 _
        refine wp_of e258 c258_31 (rw_i2l (pc' := 32) rfl ⟨b1305.1, b1305.2⟩ ?_)
        refine wp_of e258 c258_32 (rw_goto (p1 := 43) (by decide) ?_)
        have k1307 : wKI H1298 r0 = wKI H1240 r0 := (wKI_fr w1244 g0 f1303 rfl)
        have h1308 : KNN T H1298 r0 e d := (KNN_fr w1244 g0 f1303 rfl a1265)
        exact wp_lreturn e258 c258_43 rfl ⟨rfl, w1302, f1306, z1304, rfl, ⟨Int.le_trans (by decide) b1305.1, Int.le_trans b1305.2 (by decide)⟩, ⟨by omega, h1308⟩⟩
/-! StrikeAwakeModel.together(II)I  -/
abbrev uq_259 (r0 : Nat) (a1 : Int) (a2 : Int) (e : xD) (d : xD) (T : wq_T) (H : wq_H) : Option Value → wq_T → wq_H → Prop := fun r T' H' => T = T' ∧ WT T H' ∧ wfr [(42, 0), (42, 1), (42, 2), (42, 28), (42, 29), (51, 999), (52, 999)] T H H' ∧ ∃ z : Int, some (vI z) = r ∧ ((-2147483648) ≤ z ∧ z ≤ 2147483647) ∧ (((wKI H' r0 = 1) ∧ KNN T H' r0 e d))
set_option maxHeartbeats 4000000 in
theorem u_259 {kt : Nat → Option mc_E} {T : wq_T} {H : wq_H} {r0 : Nat} {a1 : Int} {a2 : Int} {e : xD} {d : xD} (hW : WT T H) (g0 : T.2.2.2 r0 = some 42) (i1 : (-2147483648) ≤ a1 ∧ a1 ≤ 2147483647) (i2 : (-2147483648) ≤ a2 ∧ a2 ≤ 2147483647) (p0 : wKI H r0 = 1) (p1 : XW d) (p2 : ∀ h : Nat, d 0 0 ≤ (h : Int) → h < 24 → e 13 h = 0) (p3 : XN d) (p4 : ∀ h : Nat, h < 24 → 0 ≤ e 13 h ∧ e 13 h ≤ 100) (hRB_r0 : RB T H r0 e d) (hKNN_r0 : KNN T H r0 e d) : wpc kt 8 259 [.ref r0, vI a1, vI a2] T H (uq_259 r0 a1 a2 e d T H) := by
  refine wp_enter e259 (Nat.le_of_ble_eq_true rfl) rfl ?_
  have f0 : wfr [(42, 0), (42, 1), (42, 2), (42, 28), (42, 29), (51, 999), (52, 999)] T H H := wfr.rf
  show wp _ _ 259 0 [(0, .ref r0), (1, vI a1), (2, vI a2)] [] _ H _
  have _b := RB_b hW hRB_r0
  have _nu := RB_n3 hRB_r0
  have _lm := RB_lm hRB_r0
  refine wp_of e259 c259_0 (rw_aload_n (pc' := 1) (v := .ref r0) rfl rfl rfl ?_)
  refine wp_of e259 c259_1 (rw_iconst (pc' := 2) rfl ?_)
  refine wp_of e259 c259_2 (xp_I (pc' := 5) lf_9_48 hW g0 sh_42 (by decide) (by decide) ty_42_0 rfl rfl (by decide) (by decide) ⟨by decide, by decide⟩ rfl (fun H2765 e2766 w2767 => ?_))
  have f2768 := f0.put' e2766 g0 rfl
  have k2769 : H2765 r0 0 = 0 := wq_u_s e2766
  refine wp_of e259 c259_5 (rw_aload_n (pc' := 6) (v := .ref r0) rfl rfl rfl ?_)
  refine wp_of e259 c259_6 (rw_aload_n (pc' := 7) (v := .ref r0) rfl rfl rfl ?_)
  refine wp_of e259 c259_7 (rw_iload_n (pc' := 8) (z := a1) rfl rfl ?_)
  refine wp_of e259 c259_8 (xc_V (pc' := 11) (r := r0) (as := [vI a1]) (st := [.ref r0]) (lm_9_364) rfl rfl (Nat.le_of_ble_eq_true rfl) w2767 g0 sh_42 (by decide) rfl (by decide) (s_213 w2767 g0 ⟨i1.1, i1.2⟩) (fun R2770 T2771 H2772 p2773 => ?_))
  obtain ⟨e2774, e2776, z2778, e2775, b2779, p2777⟩ := p2773
  subst e2774
  subst e2775
  subst e2776
  show wp _ _ 259 11 [(0, .ref r0), (1, vI a1), (2, vI a2)] [vI z2778, .ref r0] _ H2765 _
  refine wp_of e259 c259_11 (rw_if_eq (p1 := 31) (p2 := 14) (by decide) rfl ⟨Int.le_trans (by decide) b2779.1, Int.le_trans b2779.2 (by decide)⟩ (fun c2780 => ?_) (fun c2780 => ?_))
  · refine wp_of e259 c259_31 (rw_iconst (pc' := 32) rfl ?_)
    have k2781 : H2765 r0 3 = H r0 3 := (wq_u_j e2766 rfl)
    have k2782 : wKI H2765 r0 = wKI H r0 := (wKI_fr hW g0 ((wfr.rf (l := [(42, 0)])).put' e2766 g0 rfl) rfl)
    have h2783 : RB T H2765 r0 e d := (RB_fr hW g0 ((wfr.rf (l := [(42, 0)])).put' e2766 g0 rfl) rfl hRB_r0)
    have h2784 : KNN T H2765 r0 e d := (KNN_fr hW g0 ((wfr.rf (l := [(42, 0)])).put' e2766 g0 rfl) rfl hKNN_r0)
    refine wp_of e259 c259_32 (xc_V (pc' := 35) (r := r0) (as := [vI 0]) (st := []) (lm_9_433) rfl rfl (Nat.le_of_ble_eq_true rfl) w2767 g0 sh_42 (by decide) rfl (by decide) (u_241 (e := e) (d := d) w2767 g0 ⟨by decide, by decide⟩ (by omega) (by omega) (by assumption) (by assumption) (by assumption) (by assumption) h2783 h2784) (fun R2785 T2786 H2787 p2788 => ?_))
    obtain ⟨e2789, w2791, f2792, z2793, e2790, b2794, p2795⟩ := p2788
    subst e2789
    subst e2790
    rcases p2795 with ⟨a2796, a2797, a2798, a2799, a2800, a2801, a2802, a2803, a2804⟩ | ⟨a2805, a2806, a2807, a2808, a2809, a2810, a2811⟩
    · have f2812 := f2768.tr f2792 rfl
      show wp _ _ 259 35 [(0, .ref r0), (1, vI a1), (2, vI a2)] [vI z2793] _ H2787 _
      refine wp_of e259 c259_35 (rw_istore_n (pc' := 36) (z := z2793) (L' := [(3, vI z2793), (0, .ref r0), (1, vI a1), (2, vI a2)]) rfl rfl rfl ?_)
      refine wp_of e259 c259_36 (rw_iload_n (pc' := 37) (z := z2793) rfl rfl ?_)
      refine wp_of e259 c259_37 (rw_if_le (p1 := 46) (p2 := 40) (by decide) rfl ⟨Int.le_trans (by decide) b2794.1, Int.le_trans b2794.2 (by decide)⟩ (fun c2813 => ?_) (fun c2813 => ?_))
      · refine wp_of e259 c259_46 (rw_iconst (pc' := 47) rfl ?_)
        refine wp_of e259 c259_47 (rw_istore (pc' := 49) (z := 0) (L' := [(4, vI 0), (3, vI z2793), (0, .ref r0), (1, vI a1), (2, vI a2)]) rfl rfl rfl ?_)
        refine wp_of e259 c259_49 (rw_iconst (pc' := 50) rfl ?_)
        refine wp_of e259 c259_50 (rw_istore (pc' := 52) (z := 0) (L' := [(5, vI 0), (4, vI 0), (3, vI z2793), (0, .ref r0), (1, vI a1), (2, vI a2)]) rfl rfl rfl ?_)
        have lp3190 : ∀ (n3191 : Nat) (v3193 : Int) (v3194 : Int) (H3195 : wq_H), WT T H3195 → wfr [(51, 999)] T H2787 H3195 → (0 ≤ v3193 ∧ v3193 ≤ 20000) → ((-2147483648) ≤ v3194 ∧ v3194 ≤ 2147483647) → (20000 - v3193).toNat = n3191 → wp kt 7 259 52 [(5, vI v3193), (4, vI v3194), (0, .ref r0), (1, vI a1), (2, vI a2)] [] T H3195 (uq_259 r0 a1 a2 e d T H) := by
          intro n3191
          induction n3191 using Nat.strongRecOn with
          | _ n3191 ih3192 =>
            intro v3193 v3194 H3195 w3196 f3197 b3198 b3199 m3200
            have f3201 := f2812.tr f3197 rfl
            refine wp_of e259 c259_52 (rw_iload (pc' := 54) (z := v3193) rfl rfl ?_)
            refine wp_of e259 c259_54 (rw_aload_n (pc' := 55) (v := .ref r0) rfl rfl rfl ?_)
            refine wp_of e259 c259_55 (xg_I (pc' := 58) lf_9_422 w3196 g0 sh_42 (by decide) (by decide) ty_42_29 rfl rfl (fun b3202 b3203 => ?_))
            refine wp_of e259 c259_58 (rw_icmp_ge (p1 := 116) (p2 := 61) (by decide) rfl ⟨Int.le_trans (by decide) b3198.1, Int.le_trans b3198.2 (by decide)⟩ ⟨Int.le_trans (by decide) b3202, Int.le_trans b3203 (by decide)⟩ (fun c3204 => ?_) (fun c3204 => ?_))
            · refine wp_of e259 c259_116 (rw_aload_n (pc' := 117) (v := .ref r0) rfl rfl rfl ?_)
              refine wp_of e259 c259_117 (rw_iload (pc' := 119) (z := v3194) rfl rfl ?_)
              refine wp_of e259 c259_119 (xc_V (pc' := 122) (r := r0) (as := [vI v3194]) (st := []) (lm_9_58) rfl rfl (Nat.le_of_ble_eq_true rfl) w3196 g0 sh_42 (by decide) rfl (by decide) (s_209 w3196 g0 ⟨b3199.1, b3199.2⟩) (fun R3205 T3206 H3207 p3208 => ?_))
              obtain ⟨e3209, w3211, f3212, z3213, e3210, b3214⟩ := p3208
              subst e3209
              subst e3210
              have f3215 := f3201.tr f3212 rfl
              show wp _ _ 259 122 [(5, vI v3193), (4, vI v3194), (0, .ref r0), (1, vI a1), (2, vI a2)] [vI z3213] _ H3207 _
              have k3216 : wKI H3207 r0 = wKI H2787 r0 := ((wKI_fr w3196 g0 f3212 rfl).trans (wKI_fr w2791 g0 f3197 rfl))
              have h3217 : KNN T H3207 r0 e d := (KNN_fr w3196 g0 f3212 rfl (KNN_fr w2791 g0 f3197 rfl a2803))
              exact wp_ireturn e259 c259_122 rfl ⟨rfl, w3211, f3215, z3213, rfl, ⟨b3214.1, b3214.2⟩, ⟨by omega, h3217⟩⟩
            · refine wp_of e259 c259_61 (rw_aload_n (pc' := 62) (v := .ref r0) rfl rfl rfl ?_)
              refine wp_of e259 c259_62 (rw_aload_n (pc' := 63) (v := .ref r0) rfl rfl rfl ?_)
              refine wp_of e259 c259_63 (xg_R (pc' := 66) lf_9_42 w3196 g0 sh_42 (by decide) (by decide) ty_42_30 rfl rfl (fun r3218 q3219 g3220 => ?_))
              refine wp_of e259 c259_66 (rw_iload (pc' := 68) (z := v3193) rfl rfl ?_)
              refine wp_of e259 c259_68 (xa_I (so := 0) (pc' := 69) w3196 g3220 sh_52 (by decide) (ty_52 _) (b3198.1) (by omega) rfl (fun b3221 b3222 => ?_))
              have k3223 : H3195 r0 3 = H2765 r0 3 := ((f3197 r0 3 _ g0 rfl).trans (f2792 r0 3 _ g0 rfl))
              obtain ⟨r3224, q3225, g3226⟩ := (w3196.opt g0 (t' := 54) (n := 33) (j := 3) (p := 0) (q := 0) rfl (by decide) rfl).resolve_left (by omega)
              refine wp_of e259 c259_69 (xc_V (pc' := 72) (r := r0) (as := [vI (H3195 r3218 (v3193.toNat))]) (st := []) (lm_9_425) rfl rfl (Nat.le_of_ble_eq_true rfl) w3196 g0 sh_42 (by decide) rfl (by decide) (s_243 w3196 g0 ⟨b3221, Int.le_trans b3222 (by decide)⟩ q3225 g3226 (by omega)) (fun R3227 T3228 H3229 p3230 => ?_))
              obtain ⟨e3231, w3233, f3234, e3232⟩ := p3230
              subst e3231
              subst e3232
              have f3235 := f3201.tr f3234 rfl
              have f3236 := f3197.tr f3234 rfl
              show wp _ _ 259 72 [(5, vI v3193), (4, vI v3194), (0, .ref r0), (1, vI a1), (2, vI a2)] [] _ H3229 _
              refine wp_of e259 c259_72 (rw_iload (pc' := 74) (z := v3194) rfl rfl ?_)
              refine wp_of e259 c259_74 (rw_aload_n (pc' := 75) (v := .ref r0) rfl rfl rfl ?_)
              refine wp_of e259 c259_75 (xg_R (pc' := 78) lf_9_33 w3233 g0 sh_42 (by decide) (by decide) ty_42_25 rfl rfl (fun r3237 q3238 g3239 => ?_))
              refine wp_of e259 c259_78 (rw_bipush (pc' := 80) (z := 40) rfl (by decide) ?_)
              refine wp_of e259 c259_80 (rw_iload_n (pc' := 81) (z := a1) rfl rfl ?_)
              refine wp_of e259 c259_81 (rw_imulw (pc' := 82) rfl ?_)
              obtain ⟨v3240, e3241⟩ : ∃ x : Int, x = wq_w (40 * a1) := ⟨_, rfl⟩
              rw [← e3241]
              have b3242 : -2147483648 ≤ v3240 ∧ v3240 ≤ 2147483647 := by
                rw [e3241]
                exact wI_w _
              have b3243 : (-2147483648 ≤ 40 * a1 ∧ 40 * a1 ≤ 2147483647) → v3240 = 40 * a1 := fun h => by rw [e3241]; exact wq_w_id h
              refine wp_of e259 c259_82 (rw_aload_n (pc' := 83) (v := .ref r0) rfl rfl rfl ?_)
              refine wp_of e259 c259_83 (xg_R (pc' := 86) lf_9_39 w3233 g0 sh_42 (by decide) (by decide) ty_42_27 rfl rfl (fun r3244 q3245 g3246 => ?_))
              refine wp_of e259 c259_86 (rw_iload_n (pc' := 87) (z := a1) rfl rfl ?_)
              refine wp_of e259 c259_87 (xa_I (so := 0) (pc' := 88) w3233 g3246 sh_51 (by decide) (ty_51 _) (by omega) (by omega) rfl (fun b3247 b3248 => ?_))
              refine wp_of e259 c259_88 (rw_iaddw (pc' := 89) rfl ?_)
              obtain ⟨v3249, e3250⟩ : ∃ x : Int, x = wq_w (v3240 + (H3229 r3244 (a1.toNat))) := ⟨_, rfl⟩
              rw [← e3250]
              have b3251 : -2147483648 ≤ v3249 ∧ v3249 ≤ 2147483647 := by
                rw [e3250]
                exact wI_w _
              have b3252 : (-2147483648 ≤ v3240 + (H3229 r3244 (a1.toNat)) ∧ v3240 + (H3229 r3244 (a1.toNat)) ≤ 2147483647) → v3249 = v3240 + (H3229 r3244 (a1.toNat)) := fun h => by rw [e3250]; exact wq_w_id h
              refine wp_of e259 c259_89 (xa_I (so := 0) (pc' := 90) w3233 g3239 sh_49 (by decide) (ty_49 _) (by omega) (by omega) rfl (fun b3253 b3254 => ?_))
              refine wp_of e259 c259_90 (rw_aload_n (pc' := 91) (v := .ref r0) rfl rfl rfl ?_)
              refine wp_of e259 c259_91 (xg_K (pc' := 94) lf_9_33 w3233 g0 sh_42 (by decide) (by decide) rfl q3238 rfl ?_)
              refine wp_of e259 c259_94 (rw_bipush (pc' := 96) (z := 40) rfl (by decide) ?_)
              refine wp_of e259 c259_96 (rw_iload_n (pc' := 97) (z := a2) rfl rfl ?_)
              refine wp_of e259 c259_97 (rw_imulw (pc' := 98) rfl ?_)
              obtain ⟨v3255, e3256⟩ : ∃ x : Int, x = wq_w (40 * a2) := ⟨_, rfl⟩
              rw [← e3256]
              have b3257 : -2147483648 ≤ v3255 ∧ v3255 ≤ 2147483647 := by
                rw [e3256]
                exact wI_w _
              have b3258 : (-2147483648 ≤ 40 * a2 ∧ 40 * a2 ≤ 2147483647) → v3255 = 40 * a2 := fun h => by rw [e3256]; exact wq_w_id h
              refine wp_of e259 c259_98 (rw_aload_n (pc' := 99) (v := .ref r0) rfl rfl rfl ?_)
              refine wp_of e259 c259_99 (xg_K (pc' := 102) lf_9_39 w3233 g0 sh_42 (by decide) (by decide) rfl q3245 rfl ?_)
              refine wp_of e259 c259_102 (rw_iload_n (pc' := 103) (z := a2) rfl rfl ?_)
              refine wp_of e259 c259_103 (xa_I (so := 0) (pc' := 104) w3233 g3246 sh_51 (by decide) (ty_51 _) (by omega) (by omega) rfl (fun b3259 b3260 => ?_))
              refine wp_of e259 c259_104 (rw_iaddw (pc' := 105) rfl ?_)
              obtain ⟨v3261, e3262⟩ : ∃ x : Int, x = wq_w (v3255 + (H3229 r3244 (a2.toNat))) := ⟨_, rfl⟩
              rw [← e3262]
              have b3263 : -2147483648 ≤ v3261 ∧ v3261 ≤ 2147483647 := by
                rw [e3262]
                exact wI_w _
              have b3264 : (-2147483648 ≤ v3255 + (H3229 r3244 (a2.toNat)) ∧ v3255 + (H3229 r3244 (a2.toNat)) ≤ 2147483647) → v3261 = v3255 + (H3229 r3244 (a2.toNat)) := fun h => by rw [e3262]; exact wq_w_id h
              refine wp_of e259 c259_105 (xa_I (so := 0) (pc' := 106) w3233 g3239 sh_49 (by decide) (ty_49 _) (by omega) (by omega) rfl (fun b3265 b3266 => ?_))
              refine wp_of e259 c259_106 (rw_iand (pc' := 107) rfl ?_)
              obtain ⟨v3267, e3268⟩ : ∃ x : Int, x = wq_and (H3229 r3237 (v3249.toNat)) (H3229 r3237 (v3261.toNat)) := ⟨_, rfl⟩
              rw [← e3268]
              have b3269 : -2147483648 ≤ v3267 ∧ v3267 ≤ 2147483647 := by
                rw [e3268]
                exact wI_and _ _
              refine wp_of e259 c259_107 (rw_ior (pc' := 108) rfl ?_)
              obtain ⟨v3270, e3271⟩ : ∃ x : Int, x = wq_or v3194 v3267 := ⟨_, rfl⟩
              rw [← e3271]
              have b3272 : -2147483648 ≤ v3270 ∧ v3270 ≤ 2147483647 := by
                rw [e3271]
                exact wI_or _ _
              refine wp_of e259 c259_108 (rw_istore (pc' := 110) (z := v3270) (L' := [(4, vI v3270), (5, vI v3193), (0, .ref r0), (1, vI a1), (2, vI a2)]) rfl rfl rfl ?_)
              refine wp_of e259 c259_110 (rw_iinc (pc' := 113) (z := v3193) (L' := [(5, vI (v3193 + 1)), (4, vI v3270), (0, .ref r0), (1, vI a1), (2, vI a2)]) rfl rfl rfl rfl ?_)
              refine wp_of e259 c259_113 (rw_goto (p1 := 52) (by decide) ?_)
              exact wp_lc (ks := [5, 4, 0, 1, 2]) (wl_c rfl (wl_c rfl (wl_c rfl (wl_c rfl (wl_c rfl wl_n))))) rfl (by decide) (ih3192 _ (by omega) (v3193 + 1) v3270 H3229 w3233 f3236 ⟨by omega, by omega⟩ ⟨b3272.1, b3272.2⟩ rfl)
        exact wp_lc (ks := [5, 4, 3, 0, 1, 2]) (wl_c rfl (wl_c rfl (wl_c rfl (wl_c rfl (wl_c rfl wl_n))))) rfl (by decide) (lp3190 _ 0 0 H2787 w2791 wfr.rf ⟨by decide, by decide⟩ ⟨by decide, by decide⟩ rfl)
      · exfalso
        omega
    · have f3273 := f2768.tr f2792 rfl
      show wp _ _ 259 35 [(0, .ref r0), (1, vI a1), (2, vI a2)] [vI z2793] _ H2787 _
      refine wp_of e259 c259_35 (rw_istore_n (pc' := 36) (z := z2793) (L' := [(3, vI z2793), (0, .ref r0), (1, vI a1), (2, vI a2)]) rfl rfl rfl ?_)
      refine wp_of e259 c259_36 (rw_iload_n (pc' := 37) (z := z2793) rfl rfl ?_)
      refine wp_of e259 c259_37 (rw_if_le (p1 := 46) (p2 := 40) (by decide) rfl ⟨Int.le_trans (by decide) b2794.1, Int.le_trans b2794.2 (by decide)⟩ (fun c3274 => ?_) (fun c3274 => ?_))
      · exfalso
        omega
      · refine wp_of e259 c259_40 (rw_aload_n (pc' := 41) (v := .ref r0) rfl rfl rfl ?_)
        refine wp_of e259 c259_41 (rw_iload_n (pc' := 42) (z := z2793) rfl rfl ?_)
        refine wp_of e259 c259_42 (xc_V (pc' := 45) (r := r0) (as := [vI z2793]) (st := []) (lm_9_54) rfl rfl (Nat.le_of_ble_eq_true rfl) w2791 g0 sh_42 (by decide) rfl (by decide) (s_170 w2791 g0 ⟨Int.le_trans (by decide) b2794.1, Int.le_trans b2794.2 (by decide)⟩) (fun R3275 T3276 H3277 p3278 => ?_))
        obtain ⟨e3279, w3281, f3282, z3283, e3280, b3284⟩ := p3278
        subst e3279
        subst e3280
        have f3285 := f3273.tr f3282 rfl
        show wp _ _ 259 45 [(3, vI z2793), (0, .ref r0), (1, vI a1), (2, vI a2)] [vI z3283] _ H3277 _
        have k3286 : wKI H3277 r0 = wKI H2787 r0 := (wKI_fr w2791 g0 f3282 rfl)
        have h3287 : KNN T H3277 r0 e d := (KNN_fr w2791 g0 f3282 rfl a2811)
        exact wp_ireturn e259 c259_45 rfl ⟨rfl, w3281, f3285, z3283, rfl, ⟨b3284.1, b3284.2⟩, ⟨by omega, h3287⟩⟩
  · refine wp_of e259 c259_14 (rw_aload_n (pc' := 15) (v := .ref r0) rfl rfl rfl ?_)
    refine wp_of e259 c259_15 (rw_iload_n (pc' := 16) (z := a2) rfl rfl ?_)
    refine wp_of e259 c259_16 (xc_V (pc' := 19) (r := r0) (as := [vI a2]) (st := [.ref r0]) (lm_9_364) rfl rfl (Nat.le_of_ble_eq_true rfl) w2767 g0 sh_42 (by decide) rfl (by decide) (s_213 w2767 g0 ⟨i2.1, i2.2⟩) (fun R3288 T3289 H3290 p3291 => ?_))
    obtain ⟨e3292, e3294, z3296, e3293, b3297, p3295⟩ := p3291
    subst e3292
    subst e3293
    subst e3294
    show wp _ _ 259 19 [(0, .ref r0), (1, vI a1), (2, vI a2)] [vI z3296, .ref r0] _ H2765 _
    refine wp_of e259 c259_19 (rw_if_eq (p1 := 31) (p2 := 22) (by decide) rfl ⟨Int.le_trans (by decide) b3297.1, Int.le_trans b3297.2 (by decide)⟩ (fun c3298 => ?_) (fun c3298 => ?_))
    · refine wp_of e259 c259_31 (rw_iconst (pc' := 32) rfl ?_)
      have k3299 : H2765 r0 3 = H r0 3 := (wq_u_j e2766 rfl)
      have k3300 : wKI H2765 r0 = wKI H r0 := (wKI_fr hW g0 ((wfr.rf (l := [(42, 0)])).put' e2766 g0 rfl) rfl)
      have h3301 : RB T H2765 r0 e d := (RB_fr hW g0 ((wfr.rf (l := [(42, 0)])).put' e2766 g0 rfl) rfl hRB_r0)
      have h3302 : KNN T H2765 r0 e d := (KNN_fr hW g0 ((wfr.rf (l := [(42, 0)])).put' e2766 g0 rfl) rfl hKNN_r0)
      refine wp_of e259 c259_32 (xc_V (pc' := 35) (r := r0) (as := [vI 0]) (st := []) (lm_9_433) rfl rfl (Nat.le_of_ble_eq_true rfl) w2767 g0 sh_42 (by decide) rfl (by decide) (u_241 (e := e) (d := d) w2767 g0 ⟨by decide, by decide⟩ (by omega) (by omega) (by assumption) (by assumption) (by assumption) (by assumption) h3301 h3302) (fun R3303 T3304 H3305 p3306 => ?_))
      obtain ⟨e3307, w3309, f3310, z3311, e3308, b3312, p3313⟩ := p3306
      subst e3307
      subst e3308
      rcases p3313 with ⟨a3314, a3315, a3316, a3317, a3318, a3319, a3320, a3321, a3322⟩ | ⟨a3323, a3324, a3325, a3326, a3327, a3328, a3329⟩
      · have f3330 := f2768.tr f3310 rfl
        show wp _ _ 259 35 [(0, .ref r0), (1, vI a1), (2, vI a2)] [vI z3311] _ H3305 _
        refine wp_of e259 c259_35 (rw_istore_n (pc' := 36) (z := z3311) (L' := [(3, vI z3311), (0, .ref r0), (1, vI a1), (2, vI a2)]) rfl rfl rfl ?_)
        refine wp_of e259 c259_36 (rw_iload_n (pc' := 37) (z := z3311) rfl rfl ?_)
        refine wp_of e259 c259_37 (rw_if_le (p1 := 46) (p2 := 40) (by decide) rfl ⟨Int.le_trans (by decide) b3312.1, Int.le_trans b3312.2 (by decide)⟩ (fun c3331 => ?_) (fun c3331 => ?_))
        · refine wp_of e259 c259_46 (rw_iconst (pc' := 47) rfl ?_)
          refine wp_of e259 c259_47 (rw_istore (pc' := 49) (z := 0) (L' := [(4, vI 0), (3, vI z3311), (0, .ref r0), (1, vI a1), (2, vI a2)]) rfl rfl rfl ?_)
          refine wp_of e259 c259_49 (rw_iconst (pc' := 50) rfl ?_)
          refine wp_of e259 c259_50 (rw_istore (pc' := 52) (z := 0) (L' := [(5, vI 0), (4, vI 0), (3, vI z3311), (0, .ref r0), (1, vI a1), (2, vI a2)]) rfl rfl rfl ?_)
          have lp3676 : ∀ (n3677 : Nat) (v3679 : Int) (v3680 : Int) (H3681 : wq_H), WT T H3681 → wfr [(51, 999)] T H3305 H3681 → (0 ≤ v3679 ∧ v3679 ≤ 20000) → ((-2147483648) ≤ v3680 ∧ v3680 ≤ 2147483647) → (20000 - v3679).toNat = n3677 → wp kt 7 259 52 [(5, vI v3679), (4, vI v3680), (0, .ref r0), (1, vI a1), (2, vI a2)] [] T H3681 (uq_259 r0 a1 a2 e d T H) := by
            intro n3677
            induction n3677 using Nat.strongRecOn with
            | _ n3677 ih3678 =>
              intro v3679 v3680 H3681 w3682 f3683 b3684 b3685 m3686
              have f3687 := f3330.tr f3683 rfl
              refine wp_of e259 c259_52 (rw_iload (pc' := 54) (z := v3679) rfl rfl ?_)
              refine wp_of e259 c259_54 (rw_aload_n (pc' := 55) (v := .ref r0) rfl rfl rfl ?_)
              refine wp_of e259 c259_55 (xg_I (pc' := 58) lf_9_422 w3682 g0 sh_42 (by decide) (by decide) ty_42_29 rfl rfl (fun b3688 b3689 => ?_))
              refine wp_of e259 c259_58 (rw_icmp_ge (p1 := 116) (p2 := 61) (by decide) rfl ⟨Int.le_trans (by decide) b3684.1, Int.le_trans b3684.2 (by decide)⟩ ⟨Int.le_trans (by decide) b3688, Int.le_trans b3689 (by decide)⟩ (fun c3690 => ?_) (fun c3690 => ?_))
              · refine wp_of e259 c259_116 (rw_aload_n (pc' := 117) (v := .ref r0) rfl rfl rfl ?_)
                refine wp_of e259 c259_117 (rw_iload (pc' := 119) (z := v3680) rfl rfl ?_)
                refine wp_of e259 c259_119 (xc_V (pc' := 122) (r := r0) (as := [vI v3680]) (st := []) (lm_9_58) rfl rfl (Nat.le_of_ble_eq_true rfl) w3682 g0 sh_42 (by decide) rfl (by decide) (s_209 w3682 g0 ⟨b3685.1, b3685.2⟩) (fun R3691 T3692 H3693 p3694 => ?_))
                obtain ⟨e3695, w3697, f3698, z3699, e3696, b3700⟩ := p3694
                subst e3695
                subst e3696
                have f3701 := f3687.tr f3698 rfl
                show wp _ _ 259 122 [(5, vI v3679), (4, vI v3680), (0, .ref r0), (1, vI a1), (2, vI a2)] [vI z3699] _ H3693 _
                have k3702 : wKI H3693 r0 = wKI H3305 r0 := ((wKI_fr w3682 g0 f3698 rfl).trans (wKI_fr w3309 g0 f3683 rfl))
                have h3703 : KNN T H3693 r0 e d := (KNN_fr w3682 g0 f3698 rfl (KNN_fr w3309 g0 f3683 rfl a3321))
                exact wp_ireturn e259 c259_122 rfl ⟨rfl, w3697, f3701, z3699, rfl, ⟨b3700.1, b3700.2⟩, ⟨by omega, h3703⟩⟩
              · refine wp_of e259 c259_61 (rw_aload_n (pc' := 62) (v := .ref r0) rfl rfl rfl ?_)
                refine wp_of e259 c259_62 (rw_aload_n (pc' := 63) (v := .ref r0) rfl rfl rfl ?_)
                refine wp_of e259 c259_63 (xg_R (pc' := 66) lf_9_42 w3682 g0 sh_42 (by decide) (by decide) ty_42_30 rfl rfl (fun r3704 q3705 g3706 => ?_))
                refine wp_of e259 c259_66 (rw_iload (pc' := 68) (z := v3679) rfl rfl ?_)
                refine wp_of e259 c259_68 (xa_I (so := 0) (pc' := 69) w3682 g3706 sh_52 (by decide) (ty_52 _) (b3684.1) (by omega) rfl (fun b3707 b3708 => ?_))
                have k3709 : H3681 r0 3 = H2765 r0 3 := ((f3683 r0 3 _ g0 rfl).trans (f3310 r0 3 _ g0 rfl))
                obtain ⟨r3710, q3711, g3712⟩ := (w3682.opt g0 (t' := 54) (n := 33) (j := 3) (p := 0) (q := 0) rfl (by decide) rfl).resolve_left (by omega)
                refine wp_of e259 c259_69 (xc_V (pc' := 72) (r := r0) (as := [vI (H3681 r3704 (v3679.toNat))]) (st := []) (lm_9_425) rfl rfl (Nat.le_of_ble_eq_true rfl) w3682 g0 sh_42 (by decide) rfl (by decide) (s_243 w3682 g0 ⟨b3707, Int.le_trans b3708 (by decide)⟩ q3711 g3712 (by omega)) (fun R3713 T3714 H3715 p3716 => ?_))
                obtain ⟨e3717, w3719, f3720, e3718⟩ := p3716
                subst e3717
                subst e3718
                have f3721 := f3687.tr f3720 rfl
                have f3722 := f3683.tr f3720 rfl
                show wp _ _ 259 72 [(5, vI v3679), (4, vI v3680), (0, .ref r0), (1, vI a1), (2, vI a2)] [] _ H3715 _
                refine wp_of e259 c259_72 (rw_iload (pc' := 74) (z := v3680) rfl rfl ?_)
                refine wp_of e259 c259_74 (rw_aload_n (pc' := 75) (v := .ref r0) rfl rfl rfl ?_)
                refine wp_of e259 c259_75 (xg_R (pc' := 78) lf_9_33 w3719 g0 sh_42 (by decide) (by decide) ty_42_25 rfl rfl (fun r3723 q3724 g3725 => ?_))
                refine wp_of e259 c259_78 (rw_bipush (pc' := 80) (z := 40) rfl (by decide) ?_)
                refine wp_of e259 c259_80 (rw_iload_n (pc' := 81) (z := a1) rfl rfl ?_)
                refine wp_of e259 c259_81 (rw_imul (pc' := 82) rfl ?_)
                refine wp_of e259 c259_82 (rw_aload_n (pc' := 83) (v := .ref r0) rfl rfl rfl ?_)
                refine wp_of e259 c259_83 (xg_R (pc' := 86) lf_9_39 w3719 g0 sh_42 (by decide) (by decide) ty_42_27 rfl rfl (fun r3726 q3727 g3728 => ?_))
                refine wp_of e259 c259_86 (rw_iload_n (pc' := 87) (z := a1) rfl rfl ?_)
                refine wp_of e259 c259_87 (xa_I (so := 0) (pc' := 88) w3719 g3728 sh_51 (by decide) (ty_51 _) (by omega) (by omega) rfl (fun b3729 b3730 => ?_))
                refine wp_of e259 c259_88 (rw_iadd (pc' := 89) rfl ?_)
                refine wp_of e259 c259_89 (xa_I (so := 0) (pc' := 90) w3719 g3725 sh_49 (by decide) (ty_49 _) (by omega) (by omega) rfl (fun b3731 b3732 => ?_))
                refine wp_of e259 c259_90 (rw_aload_n (pc' := 91) (v := .ref r0) rfl rfl rfl ?_)
                refine wp_of e259 c259_91 (xg_K (pc' := 94) lf_9_33 w3719 g0 sh_42 (by decide) (by decide) rfl q3724 rfl ?_)
                refine wp_of e259 c259_94 (rw_bipush (pc' := 96) (z := 40) rfl (by decide) ?_)
                refine wp_of e259 c259_96 (rw_iload_n (pc' := 97) (z := a2) rfl rfl ?_)
                refine wp_of e259 c259_97 (rw_imulw (pc' := 98) rfl ?_)
                obtain ⟨v3733, e3734⟩ : ∃ x : Int, x = wq_w (40 * a2) := ⟨_, rfl⟩
                rw [← e3734]
                have b3735 : -2147483648 ≤ v3733 ∧ v3733 ≤ 2147483647 := by
                  rw [e3734]
                  exact wI_w _
                have b3736 : (-2147483648 ≤ 40 * a2 ∧ 40 * a2 ≤ 2147483647) → v3733 = 40 * a2 := fun h => by rw [e3734]; exact wq_w_id h
                refine wp_of e259 c259_98 (rw_aload_n (pc' := 99) (v := .ref r0) rfl rfl rfl ?_)
                refine wp_of e259 c259_99 (xg_K (pc' := 102) lf_9_39 w3719 g0 sh_42 (by decide) (by decide) rfl q3727 rfl ?_)
                refine wp_of e259 c259_102 (rw_iload_n (pc' := 103) (z := a2) rfl rfl ?_)
                refine wp_of e259 c259_103 (xa_I (so := 0) (pc' := 104) w3719 g3728 sh_51 (by decide) (ty_51 _) (by omega) (by omega) rfl (fun b3737 b3738 => ?_))
                refine wp_of e259 c259_104 (rw_iaddw (pc' := 105) rfl ?_)
                obtain ⟨v3739, e3740⟩ : ∃ x : Int, x = wq_w (v3733 + (H3715 r3726 (a2.toNat))) := ⟨_, rfl⟩
                rw [← e3740]
                have b3741 : -2147483648 ≤ v3739 ∧ v3739 ≤ 2147483647 := by
                  rw [e3740]
                  exact wI_w _
                have b3742 : (-2147483648 ≤ v3733 + (H3715 r3726 (a2.toNat)) ∧ v3733 + (H3715 r3726 (a2.toNat)) ≤ 2147483647) → v3739 = v3733 + (H3715 r3726 (a2.toNat)) := fun h => by rw [e3740]; exact wq_w_id h
                refine wp_of e259 c259_105 (xa_I (so := 0) (pc' := 106) w3719 g3725 sh_49 (by decide) (ty_49 _) (by omega) (by omega) rfl (fun b3743 b3744 => ?_))
                refine wp_of e259 c259_106 (rw_iand (pc' := 107) rfl ?_)
                obtain ⟨v3745, e3746⟩ : ∃ x : Int, x = wq_and (H3715 r3723 (((40 * a1) + (H3715 r3726 (a1.toNat))).toNat)) (H3715 r3723 (v3739.toNat)) := ⟨_, rfl⟩
                rw [← e3746]
                have b3747 : -2147483648 ≤ v3745 ∧ v3745 ≤ 2147483647 := by
                  rw [e3746]
                  exact wI_and _ _
                refine wp_of e259 c259_107 (rw_ior (pc' := 108) rfl ?_)
                obtain ⟨v3748, e3749⟩ : ∃ x : Int, x = wq_or v3680 v3745 := ⟨_, rfl⟩
                rw [← e3749]
                have b3750 : -2147483648 ≤ v3748 ∧ v3748 ≤ 2147483647 := by
                  rw [e3749]
                  exact wI_or _ _
                refine wp_of e259 c259_108 (rw_istore (pc' := 110) (z := v3748) (L' := [(4, vI v3748), (5, vI v3679), (0, .ref r0), (1, vI a1), (2, vI a2)]) rfl rfl rfl ?_)
                refine wp_of e259 c259_110 (rw_iinc (pc' := 113) (z := v3679) (L' := [(5, vI (v3679 + 1)), (4, vI v3748), (0, .ref r0), (1, vI a1), (2, vI a2)]) rfl rfl rfl rfl ?_)
                refine wp_of e259 c259_113 (rw_goto (p1 := 52) (by decide) ?_)
                exact wp_lc (ks := [5, 4, 0, 1, 2]) (wl_c rfl (wl_c rfl (wl_c rfl (wl_c rfl (wl_c rfl wl_n))))) rfl (by decide) (ih3678 _ (by omega) (v3679 + 1) v3748 H3715 w3719 f3722 ⟨by omega, by omega⟩ ⟨b3750.1, b3750.2⟩ rfl)
          exact wp_lc (ks := [5, 4, 3, 0, 1, 2]) (wl_c rfl (wl_c rfl (wl_c rfl (wl_c rfl (wl_c rfl wl_n))))) rfl (by decide) (lp3676 _ 0 0 H3305 w3309 wfr.rf ⟨by decide, by decide⟩ ⟨by decide, by decide⟩ rfl)
        · exfalso
          omega
      · have f3751 := f2768.tr f3310 rfl
        show wp _ _ 259 35 [(0, .ref r0), (1, vI a1), (2, vI a2)] [vI z3311] _ H3305 _
        refine wp_of e259 c259_35 (rw_istore_n (pc' := 36) (z := z3311) (L' := [(3, vI z3311), (0, .ref r0), (1, vI a1), (2, vI a2)]) rfl rfl rfl ?_)
        refine wp_of e259 c259_36 (rw_iload_n (pc' := 37) (z := z3311) rfl rfl ?_)
        refine wp_of e259 c259_37 (rw_if_le (p1 := 46) (p2 := 40) (by decide) rfl ⟨Int.le_trans (by decide) b3312.1, Int.le_trans b3312.2 (by decide)⟩ (fun c3752 => ?_) (fun c3752 => ?_))
        · exfalso
          omega
        · refine wp_of e259 c259_40 (rw_aload_n (pc' := 41) (v := .ref r0) rfl rfl rfl ?_)
          refine wp_of e259 c259_41 (rw_iload_n (pc' := 42) (z := z3311) rfl rfl ?_)
          refine wp_of e259 c259_42 (xc_V (pc' := 45) (r := r0) (as := [vI z3311]) (st := []) (lm_9_54) rfl rfl (Nat.le_of_ble_eq_true rfl) w3309 g0 sh_42 (by decide) rfl (by decide) (s_170 w3309 g0 ⟨Int.le_trans (by decide) b3312.1, Int.le_trans b3312.2 (by decide)⟩) (fun R3753 T3754 H3755 p3756 => ?_))
          obtain ⟨e3757, w3759, f3760, z3761, e3758, b3762⟩ := p3756
          subst e3757
          subst e3758
          have f3763 := f3751.tr f3760 rfl
          show wp _ _ 259 45 [(3, vI z3311), (0, .ref r0), (1, vI a1), (2, vI a2)] [vI z3761] _ H3755 _
          have k3764 : wKI H3755 r0 = wKI H3305 r0 := (wKI_fr w3309 g0 f3760 rfl)
          have h3765 : KNN T H3755 r0 e d := (KNN_fr w3309 g0 f3760 rfl a3329)
          exact wp_ireturn e259 c259_45 rfl ⟨rfl, w3759, f3763, z3761, rfl, ⟨b3762.1, b3762.2⟩, ⟨by omega, h3765⟩⟩
    · refine wp_of e259 c259_22 (rw_iload_n (pc' := 23) (z := a1) rfl rfl ?_)
      refine wp_of e259 c259_23 (rw_iload_n (pc' := 24) (z := a2) rfl rfl ?_)
      refine wp_of e259 c259_24 (rw_icmp_eq (p1 := 31) (p2 := 27) (by decide) rfl ⟨i1.1, i1.2⟩ ⟨i2.1, i2.2⟩ (fun c3766 => ?_) (fun c3766 => ?_))
      · refine wp_of e259 c259_31 (rw_iconst (pc' := 32) rfl ?_)
        have k3767 : H2765 r0 3 = H r0 3 := (wq_u_j e2766 rfl)
        have k3768 : wKI H2765 r0 = wKI H r0 := (wKI_fr hW g0 ((wfr.rf (l := [(42, 0)])).put' e2766 g0 rfl) rfl)
        have h3769 : RB T H2765 r0 e d := (RB_fr hW g0 ((wfr.rf (l := [(42, 0)])).put' e2766 g0 rfl) rfl hRB_r0)
        have h3770 : KNN T H2765 r0 e d := (KNN_fr hW g0 ((wfr.rf (l := [(42, 0)])).put' e2766 g0 rfl) rfl hKNN_r0)
        refine wp_of e259 c259_32 (xc_V (pc' := 35) (r := r0) (as := [vI 0]) (st := []) (lm_9_433) rfl rfl (Nat.le_of_ble_eq_true rfl) w2767 g0 sh_42 (by decide) rfl (by decide) (u_241 (e := e) (d := d) w2767 g0 ⟨by decide, by decide⟩ (by omega) (by omega) (by assumption) (by assumption) (by assumption) (by assumption) h3769 h3770) (fun R3771 T3772 H3773 p3774 => ?_))
        obtain ⟨e3775, w3777, f3778, z3779, e3776, b3780, p3781⟩ := p3774
        subst e3775
        subst e3776
        rcases p3781 with ⟨a3782, a3783, a3784, a3785, a3786, a3787, a3788, a3789, a3790⟩ | ⟨a3791, a3792, a3793, a3794, a3795, a3796, a3797⟩
        · have f3798 := f2768.tr f3778 rfl
          show wp _ _ 259 35 [(0, .ref r0), (1, vI a1), (2, vI a2)] [vI z3779] _ H3773 _
          refine wp_of e259 c259_35 (rw_istore_n (pc' := 36) (z := z3779) (L' := [(3, vI z3779), (0, .ref r0), (1, vI a1), (2, vI a2)]) rfl rfl rfl ?_)
          refine wp_of e259 c259_36 (rw_iload_n (pc' := 37) (z := z3779) rfl rfl ?_)
          refine wp_of e259 c259_37 (rw_if_le (p1 := 46) (p2 := 40) (by decide) rfl ⟨Int.le_trans (by decide) b3780.1, Int.le_trans b3780.2 (by decide)⟩ (fun c3799 => ?_) (fun c3799 => ?_))
          · refine wp_of e259 c259_46 (rw_iconst (pc' := 47) rfl ?_)
            refine wp_of e259 c259_47 (rw_istore (pc' := 49) (z := 0) (L' := [(4, vI 0), (3, vI z3779), (0, .ref r0), (1, vI a1), (2, vI a2)]) rfl rfl rfl ?_)
            refine wp_of e259 c259_49 (rw_iconst (pc' := 50) rfl ?_)
            refine wp_of e259 c259_50 (rw_istore (pc' := 52) (z := 0) (L' := [(5, vI 0), (4, vI 0), (3, vI z3779), (0, .ref r0), (1, vI a1), (2, vI a2)]) rfl rfl rfl ?_)
            have lp4112 : ∀ (n4113 : Nat) (v4115 : Int) (v4116 : Int) (H4117 : wq_H), WT T H4117 → wfr [(51, 999)] T H3773 H4117 → (0 ≤ v4115 ∧ v4115 ≤ 20000) → ((-2147483648) ≤ v4116 ∧ v4116 ≤ 2147483647) → (20000 - v4115).toNat = n4113 → wp kt 7 259 52 [(5, vI v4115), (4, vI v4116), (0, .ref r0), (1, vI a1), (2, vI a2)] [] T H4117 (uq_259 r0 a1 a2 e d T H) := by
              intro n4113
              induction n4113 using Nat.strongRecOn with
              | _ n4113 ih4114 =>
                intro v4115 v4116 H4117 w4118 f4119 b4120 b4121 m4122
                have f4123 := f3798.tr f4119 rfl
                refine wp_of e259 c259_52 (rw_iload (pc' := 54) (z := v4115) rfl rfl ?_)
                refine wp_of e259 c259_54 (rw_aload_n (pc' := 55) (v := .ref r0) rfl rfl rfl ?_)
                refine wp_of e259 c259_55 (xg_I (pc' := 58) lf_9_422 w4118 g0 sh_42 (by decide) (by decide) ty_42_29 rfl rfl (fun b4124 b4125 => ?_))
                refine wp_of e259 c259_58 (rw_icmp_ge (p1 := 116) (p2 := 61) (by decide) rfl ⟨Int.le_trans (by decide) b4120.1, Int.le_trans b4120.2 (by decide)⟩ ⟨Int.le_trans (by decide) b4124, Int.le_trans b4125 (by decide)⟩ (fun c4126 => ?_) (fun c4126 => ?_))
                · refine wp_of e259 c259_116 (rw_aload_n (pc' := 117) (v := .ref r0) rfl rfl rfl ?_)
                  refine wp_of e259 c259_117 (rw_iload (pc' := 119) (z := v4116) rfl rfl ?_)
                  refine wp_of e259 c259_119 (xc_V (pc' := 122) (r := r0) (as := [vI v4116]) (st := []) (lm_9_58) rfl rfl (Nat.le_of_ble_eq_true rfl) w4118 g0 sh_42 (by decide) rfl (by decide) (s_209 w4118 g0 ⟨b4121.1, b4121.2⟩) (fun R4127 T4128 H4129 p4130 => ?_))
                  obtain ⟨e4131, w4133, f4134, z4135, e4132, b4136⟩ := p4130
                  subst e4131
                  subst e4132
                  have f4137 := f4123.tr f4134 rfl
                  show wp _ _ 259 122 [(5, vI v4115), (4, vI v4116), (0, .ref r0), (1, vI a1), (2, vI a2)] [vI z4135] _ H4129 _
                  have k4138 : wKI H4129 r0 = wKI H3773 r0 := ((wKI_fr w4118 g0 f4134 rfl).trans (wKI_fr w3777 g0 f4119 rfl))
                  have h4139 : KNN T H4129 r0 e d := (KNN_fr w4118 g0 f4134 rfl (KNN_fr w3777 g0 f4119 rfl a3789))
                  exact wp_ireturn e259 c259_122 rfl ⟨rfl, w4133, f4137, z4135, rfl, ⟨b4136.1, b4136.2⟩, ⟨by omega, h4139⟩⟩
                · refine wp_of e259 c259_61 (rw_aload_n (pc' := 62) (v := .ref r0) rfl rfl rfl ?_)
                  refine wp_of e259 c259_62 (rw_aload_n (pc' := 63) (v := .ref r0) rfl rfl rfl ?_)
                  refine wp_of e259 c259_63 (xg_R (pc' := 66) lf_9_42 w4118 g0 sh_42 (by decide) (by decide) ty_42_30 rfl rfl (fun r4140 q4141 g4142 => ?_))
                  refine wp_of e259 c259_66 (rw_iload (pc' := 68) (z := v4115) rfl rfl ?_)
                  refine wp_of e259 c259_68 (xa_I (so := 0) (pc' := 69) w4118 g4142 sh_52 (by decide) (ty_52 _) (b4120.1) (by omega) rfl (fun b4143 b4144 => ?_))
                  have k4145 : H4117 r0 3 = H2765 r0 3 := ((f4119 r0 3 _ g0 rfl).trans (f3778 r0 3 _ g0 rfl))
                  obtain ⟨r4146, q4147, g4148⟩ := (w4118.opt g0 (t' := 54) (n := 33) (j := 3) (p := 0) (q := 0) rfl (by decide) rfl).resolve_left (by omega)
                  refine wp_of e259 c259_69 (xc_V (pc' := 72) (r := r0) (as := [vI (H4117 r4140 (v4115.toNat))]) (st := []) (lm_9_425) rfl rfl (Nat.le_of_ble_eq_true rfl) w4118 g0 sh_42 (by decide) rfl (by decide) (s_243 w4118 g0 ⟨b4143, Int.le_trans b4144 (by decide)⟩ q4147 g4148 (by omega)) (fun R4149 T4150 H4151 p4152 => ?_))
                  obtain ⟨e4153, w4155, f4156, e4154⟩ := p4152
                  subst e4153
                  subst e4154
                  have f4157 := f4123.tr f4156 rfl
                  have f4158 := f4119.tr f4156 rfl
                  show wp _ _ 259 72 [(5, vI v4115), (4, vI v4116), (0, .ref r0), (1, vI a1), (2, vI a2)] [] _ H4151 _
                  refine wp_of e259 c259_72 (rw_iload (pc' := 74) (z := v4116) rfl rfl ?_)
                  refine wp_of e259 c259_74 (rw_aload_n (pc' := 75) (v := .ref r0) rfl rfl rfl ?_)
                  refine wp_of e259 c259_75 (xg_R (pc' := 78) lf_9_33 w4155 g0 sh_42 (by decide) (by decide) ty_42_25 rfl rfl (fun r4159 q4160 g4161 => ?_))
                  refine wp_of e259 c259_78 (rw_bipush (pc' := 80) (z := 40) rfl (by decide) ?_)
                  refine wp_of e259 c259_80 (rw_iload_n (pc' := 81) (z := a1) rfl rfl ?_)
                  refine wp_of e259 c259_81 (rw_imul (pc' := 82) rfl ?_)
                  refine wp_of e259 c259_82 (rw_aload_n (pc' := 83) (v := .ref r0) rfl rfl rfl ?_)
                  refine wp_of e259 c259_83 (xg_R (pc' := 86) lf_9_39 w4155 g0 sh_42 (by decide) (by decide) ty_42_27 rfl rfl (fun r4162 q4163 g4164 => ?_))
                  refine wp_of e259 c259_86 (rw_iload_n (pc' := 87) (z := a1) rfl rfl ?_)
                  refine wp_of e259 c259_87 (xa_I (so := 0) (pc' := 88) w4155 g4164 sh_51 (by decide) (ty_51 _) (by omega) (by omega) rfl (fun b4165 b4166 => ?_))
                  refine wp_of e259 c259_88 (rw_iadd (pc' := 89) rfl ?_)
                  refine wp_of e259 c259_89 (xa_I (so := 0) (pc' := 90) w4155 g4161 sh_49 (by decide) (ty_49 _) (by omega) (by omega) rfl (fun b4167 b4168 => ?_))
                  refine wp_of e259 c259_90 (rw_aload_n (pc' := 91) (v := .ref r0) rfl rfl rfl ?_)
                  refine wp_of e259 c259_91 (xg_K (pc' := 94) lf_9_33 w4155 g0 sh_42 (by decide) (by decide) rfl q4160 rfl ?_)
                  refine wp_of e259 c259_94 (rw_bipush (pc' := 96) (z := 40) rfl (by decide) ?_)
                  refine wp_of e259 c259_96 (rw_iload_n (pc' := 97) (z := a2) rfl rfl ?_)
                  refine wp_of e259 c259_97 (rw_imul (pc' := 98) rfl ?_)
                  refine wp_of e259 c259_98 (rw_aload_n (pc' := 99) (v := .ref r0) rfl rfl rfl ?_)
                  refine wp_of e259 c259_99 (xg_K (pc' := 102) lf_9_39 w4155 g0 sh_42 (by decide) (by decide) rfl q4163 rfl ?_)
                  refine wp_of e259 c259_102 (rw_iload_n (pc' := 103) (z := a2) rfl rfl ?_)
                  refine wp_of e259 c259_103 (xa_I (so := 0) (pc' := 104) w4155 g4164 sh_51 (by decide) (ty_51 _) (by omega) (by omega) rfl (fun b4169 b4170 => ?_))
                  refine wp_of e259 c259_104 (rw_iadd (pc' := 105) rfl ?_)
                  refine wp_of e259 c259_105 (xa_I (so := 0) (pc' := 106) w4155 g4161 sh_49 (by decide) (ty_49 _) (by omega) (by omega) rfl (fun b4171 b4172 => ?_))
                  refine wp_of e259 c259_106 (rw_iand (pc' := 107) rfl ?_)
                  obtain ⟨v4173, e4174⟩ : ∃ x : Int, x = wq_and (H4151 r4159 (((40 * a1) + (H4151 r4162 (a1.toNat))).toNat)) (H4151 r4159 (((40 * a2) + (H4151 r4162 (a2.toNat))).toNat)) := ⟨_, rfl⟩
                  rw [← e4174]
                  have b4175 : -2147483648 ≤ v4173 ∧ v4173 ≤ 2147483647 := by
                    rw [e4174]
                    exact wI_and _ _
                  refine wp_of e259 c259_107 (rw_ior (pc' := 108) rfl ?_)
                  obtain ⟨v4176, e4177⟩ : ∃ x : Int, x = wq_or v4116 v4173 := ⟨_, rfl⟩
                  rw [← e4177]
                  have b4178 : -2147483648 ≤ v4176 ∧ v4176 ≤ 2147483647 := by
                    rw [e4177]
                    exact wI_or _ _
                  refine wp_of e259 c259_108 (rw_istore (pc' := 110) (z := v4176) (L' := [(4, vI v4176), (5, vI v4115), (0, .ref r0), (1, vI a1), (2, vI a2)]) rfl rfl rfl ?_)
                  refine wp_of e259 c259_110 (rw_iinc (pc' := 113) (z := v4115) (L' := [(5, vI (v4115 + 1)), (4, vI v4176), (0, .ref r0), (1, vI a1), (2, vI a2)]) rfl rfl rfl rfl ?_)
                  refine wp_of e259 c259_113 (rw_goto (p1 := 52) (by decide) ?_)
                  exact wp_lc (ks := [5, 4, 0, 1, 2]) (wl_c rfl (wl_c rfl (wl_c rfl (wl_c rfl (wl_c rfl wl_n))))) rfl (by decide) (ih4114 _ (by omega) (v4115 + 1) v4176 H4151 w4155 f4158 ⟨by omega, by omega⟩ ⟨b4178.1, b4178.2⟩ rfl)
            exact wp_lc (ks := [5, 4, 3, 0, 1, 2]) (wl_c rfl (wl_c rfl (wl_c rfl (wl_c rfl (wl_c rfl wl_n))))) rfl (by decide) (lp4112 _ 0 0 H3773 w3777 wfr.rf ⟨by decide, by decide⟩ ⟨by decide, by decide⟩ rfl)
          · exfalso
            omega
        · have f4179 := f2768.tr f3778 rfl
          show wp _ _ 259 35 [(0, .ref r0), (1, vI a1), (2, vI a2)] [vI z3779] _ H3773 _
          refine wp_of e259 c259_35 (rw_istore_n (pc' := 36) (z := z3779) (L' := [(3, vI z3779), (0, .ref r0), (1, vI a1), (2, vI a2)]) rfl rfl rfl ?_)
          refine wp_of e259 c259_36 (rw_iload_n (pc' := 37) (z := z3779) rfl rfl ?_)
          refine wp_of e259 c259_37 (rw_if_le (p1 := 46) (p2 := 40) (by decide) rfl ⟨Int.le_trans (by decide) b3780.1, Int.le_trans b3780.2 (by decide)⟩ (fun c4180 => ?_) (fun c4180 => ?_))
          · exfalso
            omega
          · refine wp_of e259 c259_40 (rw_aload_n (pc' := 41) (v := .ref r0) rfl rfl rfl ?_)
            refine wp_of e259 c259_41 (rw_iload_n (pc' := 42) (z := z3779) rfl rfl ?_)
            refine wp_of e259 c259_42 (xc_V (pc' := 45) (r := r0) (as := [vI z3779]) (st := []) (lm_9_54) rfl rfl (Nat.le_of_ble_eq_true rfl) w3777 g0 sh_42 (by decide) rfl (by decide) (s_170 w3777 g0 ⟨Int.le_trans (by decide) b3780.1, Int.le_trans b3780.2 (by decide)⟩) (fun R4181 T4182 H4183 p4184 => ?_))
            obtain ⟨e4185, w4187, f4188, z4189, e4186, b4190⟩ := p4184
            subst e4185
            subst e4186
            have f4191 := f4179.tr f4188 rfl
            show wp _ _ 259 45 [(3, vI z3779), (0, .ref r0), (1, vI a1), (2, vI a2)] [vI z4189] _ H4183 _
            have k4192 : wKI H4183 r0 = wKI H3773 r0 := (wKI_fr w3777 g0 f4188 rfl)
            have h4193 : KNN T H4183 r0 e d := (KNN_fr w3777 g0 f4188 rfl a3797)
            exact wp_ireturn e259 c259_45 rfl ⟨rfl, w4187, f4191, z4189, rfl, ⟨b4190.1, b4190.2⟩, ⟨by omega, h4193⟩⟩
      · refine wp_of e259 c259_27 (rw_iconst (pc' := 28) rfl ?_)
        refine wp_of e259 c259_28 (rw_goto (p1 := 32) (by decide) ?_)
        have k4194 : H2765 r0 3 = H r0 3 := (wq_u_j e2766 rfl)
        have k4195 : wKI H2765 r0 = wKI H r0 := (wKI_fr hW g0 ((wfr.rf (l := [(42, 0)])).put' e2766 g0 rfl) rfl)
        have h4196 : RB T H2765 r0 e d := (RB_fr hW g0 ((wfr.rf (l := [(42, 0)])).put' e2766 g0 rfl) rfl hRB_r0)
        have h4197 : KNN T H2765 r0 e d := (KNN_fr hW g0 ((wfr.rf (l := [(42, 0)])).put' e2766 g0 rfl) rfl hKNN_r0)
        refine wp_of e259 c259_32 (xc_V (pc' := 35) (r := r0) (as := [vI 1]) (st := []) (lm_9_433) rfl rfl (Nat.le_of_ble_eq_true rfl) w2767 g0 sh_42 (by decide) rfl (by decide) (u_241 (e := e) (d := d) w2767 g0 ⟨by decide, by decide⟩ (by omega) (by omega) (by assumption) (by assumption) (by assumption) (by assumption) h4196 h4197) (fun R4198 T4199 H4200 p4201 => ?_))
        obtain ⟨e4202, w4204, f4205, z4206, e4203, b4207, p4208⟩ := p4201
        subst e4202
        subst e4203
        rcases p4208 with ⟨a4209, a4210, a4211, a4212, a4213, a4214, a4215, a4216, a4217⟩ | ⟨a4218, a4219, a4220, a4221, a4222, a4223, a4224⟩
        · have f4225 := f2768.tr f4205 rfl
          show wp _ _ 259 35 [(0, .ref r0), (1, vI a1), (2, vI a2)] [vI z4206] _ H4200 _
          refine wp_of e259 c259_35 (rw_istore_n (pc' := 36) (z := z4206) (L' := [(3, vI z4206), (0, .ref r0), (1, vI a1), (2, vI a2)]) rfl rfl rfl ?_)
          refine wp_of e259 c259_36 (rw_iload_n (pc' := 37) (z := z4206) rfl rfl ?_)
          refine wp_of e259 c259_37 (rw_if_le (p1 := 46) (p2 := 40) (by decide) rfl ⟨Int.le_trans (by decide) b4207.1, Int.le_trans b4207.2 (by decide)⟩ (fun c4226 => ?_) (fun c4226 => ?_))
          · refine wp_of e259 c259_46 (rw_iconst (pc' := 47) rfl ?_)
            refine wp_of e259 c259_47 (rw_istore (pc' := 49) (z := 0) (L' := [(4, vI 0), (3, vI z4206), (0, .ref r0), (1, vI a1), (2, vI a2)]) rfl rfl rfl ?_)
            refine wp_of e259 c259_49 (rw_iconst (pc' := 50) rfl ?_)
            refine wp_of e259 c259_50 (rw_istore (pc' := 52) (z := 0) (L' := [(5, vI 0), (4, vI 0), (3, vI z4206), (0, .ref r0), (1, vI a1), (2, vI a2)]) rfl rfl rfl ?_)
            have lp4539 : ∀ (n4540 : Nat) (v4542 : Int) (v4543 : Int) (H4544 : wq_H), WT T H4544 → wfr [(51, 999)] T H4200 H4544 → (0 ≤ v4542 ∧ v4542 ≤ 20000) → ((-2147483648) ≤ v4543 ∧ v4543 ≤ 2147483647) → (20000 - v4542).toNat = n4540 → wp kt 7 259 52 [(5, vI v4542), (4, vI v4543), (0, .ref r0), (1, vI a1), (2, vI a2)] [] T H4544 (uq_259 r0 a1 a2 e d T H) := by
              intro n4540
              induction n4540 using Nat.strongRecOn with
              | _ n4540 ih4541 =>
                intro v4542 v4543 H4544 w4545 f4546 b4547 b4548 m4549
                have f4550 := f4225.tr f4546 rfl
                refine wp_of e259 c259_52 (rw_iload (pc' := 54) (z := v4542) rfl rfl ?_)
                refine wp_of e259 c259_54 (rw_aload_n (pc' := 55) (v := .ref r0) rfl rfl rfl ?_)
                refine wp_of e259 c259_55 (xg_I (pc' := 58) lf_9_422 w4545 g0 sh_42 (by decide) (by decide) ty_42_29 rfl rfl (fun b4551 b4552 => ?_))
                refine wp_of e259 c259_58 (rw_icmp_ge (p1 := 116) (p2 := 61) (by decide) rfl ⟨Int.le_trans (by decide) b4547.1, Int.le_trans b4547.2 (by decide)⟩ ⟨Int.le_trans (by decide) b4551, Int.le_trans b4552 (by decide)⟩ (fun c4553 => ?_) (fun c4553 => ?_))
                · refine wp_of e259 c259_116 (rw_aload_n (pc' := 117) (v := .ref r0) rfl rfl rfl ?_)
                  refine wp_of e259 c259_117 (rw_iload (pc' := 119) (z := v4543) rfl rfl ?_)
                  refine wp_of e259 c259_119 (xc_V (pc' := 122) (r := r0) (as := [vI v4543]) (st := []) (lm_9_58) rfl rfl (Nat.le_of_ble_eq_true rfl) w4545 g0 sh_42 (by decide) rfl (by decide) (s_209 w4545 g0 ⟨b4548.1, b4548.2⟩) (fun R4554 T4555 H4556 p4557 => ?_))
                  obtain ⟨e4558, w4560, f4561, z4562, e4559, b4563⟩ := p4557
                  subst e4558
                  subst e4559
                  have f4564 := f4550.tr f4561 rfl
                  show wp _ _ 259 122 [(5, vI v4542), (4, vI v4543), (0, .ref r0), (1, vI a1), (2, vI a2)] [vI z4562] _ H4556 _
                  have k4565 : wKI H4556 r0 = wKI H4200 r0 := ((wKI_fr w4545 g0 f4561 rfl).trans (wKI_fr w4204 g0 f4546 rfl))
                  have h4566 : KNN T H4556 r0 e d := (KNN_fr w4545 g0 f4561 rfl (KNN_fr w4204 g0 f4546 rfl a4216))
                  exact wp_ireturn e259 c259_122 rfl ⟨rfl, w4560, f4564, z4562, rfl, ⟨b4563.1, b4563.2⟩, ⟨by omega, h4566⟩⟩
                · refine wp_of e259 c259_61 (rw_aload_n (pc' := 62) (v := .ref r0) rfl rfl rfl ?_)
                  refine wp_of e259 c259_62 (rw_aload_n (pc' := 63) (v := .ref r0) rfl rfl rfl ?_)
                  refine wp_of e259 c259_63 (xg_R (pc' := 66) lf_9_42 w4545 g0 sh_42 (by decide) (by decide) ty_42_30 rfl rfl (fun r4567 q4568 g4569 => ?_))
                  refine wp_of e259 c259_66 (rw_iload (pc' := 68) (z := v4542) rfl rfl ?_)
                  refine wp_of e259 c259_68 (xa_I (so := 0) (pc' := 69) w4545 g4569 sh_52 (by decide) (ty_52 _) (b4547.1) (by omega) rfl (fun b4570 b4571 => ?_))
                  have k4572 : H4544 r0 3 = H2765 r0 3 := ((f4546 r0 3 _ g0 rfl).trans (f4205 r0 3 _ g0 rfl))
                  obtain ⟨r4573, q4574, g4575⟩ := (w4545.opt g0 (t' := 54) (n := 33) (j := 3) (p := 0) (q := 0) rfl (by decide) rfl).resolve_left (by omega)
                  refine wp_of e259 c259_69 (xc_V (pc' := 72) (r := r0) (as := [vI (H4544 r4567 (v4542.toNat))]) (st := []) (lm_9_425) rfl rfl (Nat.le_of_ble_eq_true rfl) w4545 g0 sh_42 (by decide) rfl (by decide) (s_243 w4545 g0 ⟨b4570, Int.le_trans b4571 (by decide)⟩ q4574 g4575 (by omega)) (fun R4576 T4577 H4578 p4579 => ?_))
                  obtain ⟨e4580, w4582, f4583, e4581⟩ := p4579
                  subst e4580
                  subst e4581
                  have f4584 := f4550.tr f4583 rfl
                  have f4585 := f4546.tr f4583 rfl
                  show wp _ _ 259 72 [(5, vI v4542), (4, vI v4543), (0, .ref r0), (1, vI a1), (2, vI a2)] [] _ H4578 _
                  refine wp_of e259 c259_72 (rw_iload (pc' := 74) (z := v4543) rfl rfl ?_)
                  refine wp_of e259 c259_74 (rw_aload_n (pc' := 75) (v := .ref r0) rfl rfl rfl ?_)
                  refine wp_of e259 c259_75 (xg_R (pc' := 78) lf_9_33 w4582 g0 sh_42 (by decide) (by decide) ty_42_25 rfl rfl (fun r4586 q4587 g4588 => ?_))
                  refine wp_of e259 c259_78 (rw_bipush (pc' := 80) (z := 40) rfl (by decide) ?_)
                  refine wp_of e259 c259_80 (rw_iload_n (pc' := 81) (z := a1) rfl rfl ?_)
                  refine wp_of e259 c259_81 (rw_imul (pc' := 82) rfl ?_)
                  refine wp_of e259 c259_82 (rw_aload_n (pc' := 83) (v := .ref r0) rfl rfl rfl ?_)
                  refine wp_of e259 c259_83 (xg_R (pc' := 86) lf_9_39 w4582 g0 sh_42 (by decide) (by decide) ty_42_27 rfl rfl (fun r4589 q4590 g4591 => ?_))
                  refine wp_of e259 c259_86 (rw_iload_n (pc' := 87) (z := a1) rfl rfl ?_)
                  refine wp_of e259 c259_87 (xa_I (so := 0) (pc' := 88) w4582 g4591 sh_51 (by decide) (ty_51 _) (by omega) (by omega) rfl (fun b4592 b4593 => ?_))
                  refine wp_of e259 c259_88 (rw_iadd (pc' := 89) rfl ?_)
                  refine wp_of e259 c259_89 (xa_I (so := 0) (pc' := 90) w4582 g4588 sh_49 (by decide) (ty_49 _) (by omega) (by omega) rfl (fun b4594 b4595 => ?_))
                  refine wp_of e259 c259_90 (rw_aload_n (pc' := 91) (v := .ref r0) rfl rfl rfl ?_)
                  refine wp_of e259 c259_91 (xg_K (pc' := 94) lf_9_33 w4582 g0 sh_42 (by decide) (by decide) rfl q4587 rfl ?_)
                  refine wp_of e259 c259_94 (rw_bipush (pc' := 96) (z := 40) rfl (by decide) ?_)
                  refine wp_of e259 c259_96 (rw_iload_n (pc' := 97) (z := a2) rfl rfl ?_)
                  refine wp_of e259 c259_97 (rw_imul (pc' := 98) rfl ?_)
                  refine wp_of e259 c259_98 (rw_aload_n (pc' := 99) (v := .ref r0) rfl rfl rfl ?_)
                  refine wp_of e259 c259_99 (xg_K (pc' := 102) lf_9_39 w4582 g0 sh_42 (by decide) (by decide) rfl q4590 rfl ?_)
                  refine wp_of e259 c259_102 (rw_iload_n (pc' := 103) (z := a2) rfl rfl ?_)
                  refine wp_of e259 c259_103 (xa_I (so := 0) (pc' := 104) w4582 g4591 sh_51 (by decide) (ty_51 _) (by omega) (by omega) rfl (fun b4596 b4597 => ?_))
                  refine wp_of e259 c259_104 (rw_iadd (pc' := 105) rfl ?_)
                  refine wp_of e259 c259_105 (xa_I (so := 0) (pc' := 106) w4582 g4588 sh_49 (by decide) (ty_49 _) (by omega) (by omega) rfl (fun b4598 b4599 => ?_))
                  refine wp_of e259 c259_106 (rw_iand (pc' := 107) rfl ?_)
                  obtain ⟨v4600, e4601⟩ : ∃ x : Int, x = wq_and (H4578 r4586 (((40 * a1) + (H4578 r4589 (a1.toNat))).toNat)) (H4578 r4586 (((40 * a2) + (H4578 r4589 (a2.toNat))).toNat)) := ⟨_, rfl⟩
                  rw [← e4601]
                  have b4602 : -2147483648 ≤ v4600 ∧ v4600 ≤ 2147483647 := by
                    rw [e4601]
                    exact wI_and _ _
                  refine wp_of e259 c259_107 (rw_ior (pc' := 108) rfl ?_)
                  obtain ⟨v4603, e4604⟩ : ∃ x : Int, x = wq_or v4543 v4600 := ⟨_, rfl⟩
                  rw [← e4604]
                  have b4605 : -2147483648 ≤ v4603 ∧ v4603 ≤ 2147483647 := by
                    rw [e4604]
                    exact wI_or _ _
                  refine wp_of e259 c259_108 (rw_istore (pc' := 110) (z := v4603) (L' := [(4, vI v4603), (5, vI v4542), (0, .ref r0), (1, vI a1), (2, vI a2)]) rfl rfl rfl ?_)
                  refine wp_of e259 c259_110 (rw_iinc (pc' := 113) (z := v4542) (L' := [(5, vI (v4542 + 1)), (4, vI v4603), (0, .ref r0), (1, vI a1), (2, vI a2)]) rfl rfl rfl rfl ?_)
                  refine wp_of e259 c259_113 (rw_goto (p1 := 52) (by decide) ?_)
                  exact wp_lc (ks := [5, 4, 0, 1, 2]) (wl_c rfl (wl_c rfl (wl_c rfl (wl_c rfl (wl_c rfl wl_n))))) rfl (by decide) (ih4541 _ (by omega) (v4542 + 1) v4603 H4578 w4582 f4585 ⟨by omega, by omega⟩ ⟨b4605.1, b4605.2⟩ rfl)
            exact wp_lc (ks := [5, 4, 3, 0, 1, 2]) (wl_c rfl (wl_c rfl (wl_c rfl (wl_c rfl (wl_c rfl wl_n))))) rfl (by decide) (lp4539 _ 0 0 H4200 w4204 wfr.rf ⟨by decide, by decide⟩ ⟨by decide, by decide⟩ rfl)
          · exfalso
            omega
        · have f4606 := f2768.tr f4205 rfl
          show wp _ _ 259 35 [(0, .ref r0), (1, vI a1), (2, vI a2)] [vI z4206] _ H4200 _
          refine wp_of e259 c259_35 (rw_istore_n (pc' := 36) (z := z4206) (L' := [(3, vI z4206), (0, .ref r0), (1, vI a1), (2, vI a2)]) rfl rfl rfl ?_)
          refine wp_of e259 c259_36 (rw_iload_n (pc' := 37) (z := z4206) rfl rfl ?_)
          refine wp_of e259 c259_37 (rw_if_le (p1 := 46) (p2 := 40) (by decide) rfl ⟨Int.le_trans (by decide) b4207.1, Int.le_trans b4207.2 (by decide)⟩ (fun c4607 => ?_) (fun c4607 => ?_))
          · exfalso
            omega
          · refine wp_of e259 c259_40 (rw_aload_n (pc' := 41) (v := .ref r0) rfl rfl rfl ?_)
            refine wp_of e259 c259_41 (rw_iload_n (pc' := 42) (z := z4206) rfl rfl ?_)
            refine wp_of e259 c259_42 (xc_V (pc' := 45) (r := r0) (as := [vI z4206]) (st := []) (lm_9_54) rfl rfl (Nat.le_of_ble_eq_true rfl) w4204 g0 sh_42 (by decide) rfl (by decide) (s_170 w4204 g0 ⟨Int.le_trans (by decide) b4207.1, Int.le_trans b4207.2 (by decide)⟩) (fun R4608 T4609 H4610 p4611 => ?_))
            obtain ⟨e4612, w4614, f4615, z4616, e4613, b4617⟩ := p4611
            subst e4612
            subst e4613
            have f4618 := f4606.tr f4615 rfl
            show wp _ _ 259 45 [(3, vI z4206), (0, .ref r0), (1, vI a1), (2, vI a2)] [vI z4616] _ H4610 _
            have k4619 : wKI H4610 r0 = wKI H4200 r0 := (wKI_fr w4204 g0 f4615 rfl)
            have h4620 : KNN T H4610 r0 e d := (KNN_fr w4204 g0 f4615 rfl a4224)
            exact wp_ireturn e259 c259_45 rfl ⟨rfl, w4614, f4618, z4616, rfl, ⟨b4617.1, b4617.2⟩, ⟨by omega, h4620⟩⟩
/-! StrikeAwakeModel.possible(I)J  -/
abbrev uq_260 (r0 : Nat) (a1 : Int) (e : xD) (d : xD) (T : wq_T) (H : wq_H) : Option Value → wq_T → wq_H → Prop := fun r T' H' => T = T' ∧ WT T H' ∧ wfr [(42, 0), (42, 1), (42, 2), (42, 28), (42, 29), (51, 999), (52, 999)] T H H' ∧ ∃ z : Int, some (vL z) = r ∧ ((-9223372036854775808) ≤ z ∧ z ≤ 9223372036854775807) ∧ (((wKI H' r0 = 1) ∧ KNN T H' r0 e d))
set_option maxHeartbeats 4000000 in
theorem u_260 {kt : Nat → Option mc_E} {T : wq_T} {H : wq_H} {r0 : Nat} {a1 : Int} {e : xD} {d : xD} (hW : WT T H) (g0 : T.2.2.2 r0 = some 42) (i1 : (-2147483648) ≤ a1 ∧ a1 ≤ 2147483647) (p0 : wKI H r0 = 1) (p1 : XW d) (p2 : ∀ h : Nat, d 0 0 ≤ (h : Int) → h < 24 → e 13 h = 0) (p3 : XN d) (p4 : ∀ h : Nat, h < 24 → 0 ≤ e 13 h ∧ e 13 h ≤ 100) (hRB_r0 : RB T H r0 e d) (hKNN_r0 : KNN T H r0 e d) : wpc kt 8 260 [.ref r0, vI a1] T H (uq_260 r0 a1 e d T H) := by
  refine wp_enter e260 (Nat.le_of_ble_eq_true rfl) rfl ?_
  have f0 : wfr [(42, 0), (42, 1), (42, 2), (42, 28), (42, 29), (51, 999), (52, 999)] T H H := wfr.rf
  show wp _ _ 260 0 [(0, .ref r0), (1, vI a1)] [] _ H _
  have _b := RB_b hW hRB_r0
  have _nu := RB_n3 hRB_r0
  have _lm := RB_lm hRB_r0
  refine wp_of e260 c260_0 (rw_aload_n (pc' := 1) (v := .ref r0) rfl rfl rfl ?_)
  refine wp_of e260 c260_1 (rw_iconst (pc' := 2) rfl ?_)
  refine wp_of e260 c260_2 (xp_I (pc' := 5) lf_9_48 hW g0 sh_42 (by decide) (by decide) ty_42_0 rfl rfl (by decide) (by decide) ⟨by decide, by decide⟩ rfl (fun H1342 e1343 w1344 => ?_))
  have f1345 := f0.put' e1343 g0 rfl
  have k1346 : H1342 r0 0 = 0 := wq_u_s e1343
  refine wp_of e260 c260_5 (rw_aload_n (pc' := 6) (v := .ref r0) rfl rfl rfl ?_)
  refine wp_of e260 c260_6 (rw_aload_n (pc' := 7) (v := .ref r0) rfl rfl rfl ?_)
  refine wp_of e260 c260_7 (rw_iload_n (pc' := 8) (z := a1) rfl rfl ?_)
  refine wp_of e260 c260_8 (xc_V (pc' := 11) (r := r0) (as := [vI a1]) (st := [.ref r0]) (lm_9_364) rfl rfl (Nat.le_of_ble_eq_true rfl) w1344 g0 sh_42 (by decide) rfl (by decide) (s_213 w1344 g0 ⟨i1.1, i1.2⟩) (fun R1347 T1348 H1349 p1350 => ?_))
  obtain ⟨e1351, e1353, z1355, e1352, b1356, p1354⟩ := p1350
  subst e1351
  subst e1352
  subst e1353
  show wp _ _ 260 11 [(0, .ref r0), (1, vI a1)] [vI z1355, .ref r0] _ H1342 _
  have k1357 : H1342 r0 3 = H r0 3 := (wq_u_j e1343 rfl)
  have k1358 : wKI H1342 r0 = wKI H r0 := (wKI_fr hW g0 ((wfr.rf (l := [(42, 0)])).put' e1343 g0 rfl) rfl)
  have h1359 : RB T H1342 r0 e d := (RB_fr hW g0 ((wfr.rf (l := [(42, 0)])).put' e1343 g0 rfl) rfl hRB_r0)
  have h1360 : KNN T H1342 r0 e d := (KNN_fr hW g0 ((wfr.rf (l := [(42, 0)])).put' e1343 g0 rfl) rfl hKNN_r0)
  refine wp_of e260 c260_11 (xc_V (pc' := 14) (r := r0) (as := [vI z1355]) (st := []) (lm_9_433) rfl rfl (Nat.le_of_ble_eq_true rfl) w1344 g0 sh_42 (by decide) rfl (by decide) (u_241 (e := e) (d := d) w1344 g0 ⟨b1356.1, b1356.2⟩ (by omega) (by omega) (by assumption) (by assumption) (by assumption) (by assumption) h1359 h1360) (fun R1361 T1362 H1363 p1364 => ?_))
  obtain ⟨e1365, w1367, f1368, z1369, e1366, b1370, p1371⟩ := p1364
  subst e1365
  subst e1366
  rcases p1371 with ⟨a1372, a1373, a1374, a1375, a1376, a1377, a1378, a1379, a1380⟩ | ⟨a1381, a1382, a1383, a1384, a1385, a1386, a1387⟩
  · have f1388 := f1345.tr f1368 rfl
    show wp _ _ 260 14 [(0, .ref r0), (1, vI a1)] [vI z1369] _ H1363 _
    refine wp_of e260 c260_14 (rw_istore_n (pc' := 15) (z := z1369) (L' := [(2, vI z1369), (0, .ref r0), (1, vI a1)]) rfl rfl rfl ?_)
    refine wp_of e260 c260_15 (rw_iload_n (pc' := 16) (z := z1369) rfl rfl ?_)
    refine wp_of e260 c260_16 (rw_if_le (p1 := 26) (p2 := 19) (by decide) rfl ⟨Int.le_trans (by decide) b1370.1, Int.le_trans b1370.2 (by decide)⟩ (fun c1389 => ?_) (fun c1389 => ?_))
    · refine wp_of e260 c260_26 (rw_lconst (pc' := 27) (z := 0) rfl rfl ?_)
      refine wp_of e260 c260_27 (rw_lstore_n (pc' := 28) (z := 0) (L' := [(3, vL 0), (2, vI z1369), (0, .ref r0), (1, vI a1)]) rfl rfl rfl ?_)
      refine wp_of e260 c260_28 (rw_iconst (pc' := 29) rfl ?_)
      refine wp_of e260 c260_29 (rw_istore (pc' := 31) (z := 0) (L' := [(5, vI 0), (3, vL 0), (2, vI z1369), (0, .ref r0), (1, vI a1)]) rfl rfl rfl ?_)
      have lp1630 : ∀ (n1631 : Nat) (v1633 : Int) (v1634 : Int) (H1635 : wq_H), WT T H1635 → wfr [(51, 999)] T H1363 H1635 → (0 ≤ v1633 ∧ v1633 ≤ 20000) → ((-9223372036854775808) ≤ v1634 ∧ v1634 ≤ 9223372036854775807) → (20000 - v1633).toNat = n1631 → wp kt 7 260 31 [(5, vI v1633), (3, vL v1634), (0, .ref r0), (1, vI a1)] [] T H1635 (uq_260 r0 a1 e d T H) := by
        intro n1631
        induction n1631 using Nat.strongRecOn with
        | _ n1631 ih1632 =>
          intro v1633 v1634 H1635 w1636 f1637 b1638 b1639 m1640
          have f1641 := f1388.tr f1637 rfl
          refine wp_of e260 c260_31 (rw_iload (pc' := 33) (z := v1633) rfl rfl ?_)
          refine wp_of e260 c260_33 (rw_aload_n (pc' := 34) (v := .ref r0) rfl rfl rfl ?_)
          refine wp_of e260 c260_34 (xg_I (pc' := 37) lf_9_422 w1636 g0 sh_42 (by decide) (by decide) ty_42_29 rfl rfl (fun b1642 b1643 => ?_))
          refine wp_of e260 c260_37 (rw_icmp_ge (p1 := 68) (p2 := 40) (by decide) rfl ⟨Int.le_trans (by decide) b1638.1, Int.le_trans b1638.2 (by decide)⟩ ⟨Int.le_trans (by decide) b1642, Int.le_trans b1643 (by decide)⟩ (fun c1644 => ?_) (fun c1644 => ?_))
          · refine wp_of e260 c260_68 (rw_aload_n (pc' := 69) (v := .ref r0) rfl rfl rfl ?_)
            refine wp_of e260 c260_69 (rw_lload_n (pc' := 70) (z := v1634) rfl rfl ?_)
            refine wp_of e260 c260_70 (xc_V (pc' := 73) (r := r0) (as := [vL v1634]) (st := []) (lm_9_380) rfl rfl (Nat.le_of_ble_eq_true rfl) w1636 g0 sh_42 (by decide) rfl (by decide) (s_221 w1636 g0 ⟨b1639.1, b1639.2⟩) (fun R1645 T1646 H1647 p1648 => ?_))
            obtain ⟨e1649, w1651, f1652, z1653, e1650, b1654⟩ := p1648
            subst e1649
            subst e1650
            have f1655 := f1641.tr f1652 rfl
            show wp _ _ 260 73 [(5, vI v1633), (3, vL v1634), (0, .ref r0), (1, vI a1)] [vL z1653] _ H1647 _
            have k1656 : wKI H1647 r0 = wKI H1363 r0 := ((wKI_fr w1636 g0 f1652 rfl).trans (wKI_fr w1367 g0 f1637 rfl))
            have h1657 : KNN T H1647 r0 e d := (KNN_fr w1636 g0 f1652 rfl (KNN_fr w1367 g0 f1637 rfl a1379))
            exact wp_lreturn e260 c260_73 rfl ⟨rfl, w1651, f1655, z1653, rfl, ⟨b1654.1, b1654.2⟩, ⟨by omega, h1657⟩⟩
          · refine wp_of e260 c260_40 (rw_aload_n (pc' := 41) (v := .ref r0) rfl rfl rfl ?_)
            refine wp_of e260 c260_41 (rw_aload_n (pc' := 42) (v := .ref r0) rfl rfl rfl ?_)
            refine wp_of e260 c260_42 (xg_R (pc' := 45) lf_9_42 w1636 g0 sh_42 (by decide) (by decide) ty_42_30 rfl rfl (fun r1658 q1659 g1660 => ?_))
            refine wp_of e260 c260_45 (rw_iload (pc' := 47) (z := v1633) rfl rfl ?_)
            refine wp_of e260 c260_47 (xa_I (so := 0) (pc' := 48) w1636 g1660 sh_52 (by decide) (ty_52 _) (b1638.1) (by omega) rfl (fun b1661 b1662 => ?_))
            have k1663 : H1635 r0 3 = H1342 r0 3 := ((f1637 r0 3 _ g0 rfl).trans (f1368 r0 3 _ g0 rfl))
            obtain ⟨r1664, q1665, g1666⟩ := (w1636.opt g0 (t' := 54) (n := 33) (j := 3) (p := 0) (q := 0) rfl (by decide) rfl).resolve_left (by omega)
            refine wp_of e260 c260_48 (xc_V (pc' := 51) (r := r0) (as := [vI (H1635 r1658 (v1633.toNat))]) (st := []) (lm_9_425) rfl rfl (Nat.le_of_ble_eq_true rfl) w1636 g0 sh_42 (by decide) rfl (by decide) (s_243 w1636 g0 ⟨b1661, Int.le_trans b1662 (by decide)⟩ q1665 g1666 (by omega)) (fun R1667 T1668 H1669 p1670 => ?_))
            obtain ⟨e1671, w1673, f1674, e1672⟩ := p1670
            subst e1671
            subst e1672
            have f1675 := f1641.tr f1674 rfl
            have f1676 := f1637.tr f1674 rfl
            show wp _ _ 260 51 [(5, vI v1633), (3, vL v1634), (0, .ref r0), (1, vI a1)] [] _ H1669 _
            refine wp_of e260 c260_51 (rw_lload_n (pc' := 52) (z := v1634) rfl rfl ?_)
            refine wp_of e260 c260_52 (rw_lconst (pc' := 53) (z := 1) rfl rfl ?_)
            refine wp_of e260 c260_53 (rw_aload_n (pc' := 54) (v := .ref r0) rfl rfl rfl ?_)
            refine wp_of e260 c260_54 (xg_R (pc' := 57) lf_9_39 w1673 g0 sh_42 (by decide) (by decide) ty_42_27 rfl rfl (fun r1677 q1678 g1679 => ?_))
            refine wp_of e260 c260_57 (rw_iload_n (pc' := 58) (z := a1) rfl rfl ?_)
            refine wp_of e260 c260_58 (xa_I (so := 0) (pc' := 59) w1673 g1679 sh_51 (by decide) (ty_51 _) (by omega) (by omega) rfl (fun b1680 b1681 => ?_))
            refine wp_of e260 c260_59 (rw_lshl (pc' := 60) rfl ?_)
            obtain ⟨v1682, e1683⟩ : ∃ x : Int, x = wl_shl 1 (H1669 r1677 (a1.toNat)) := ⟨_, rfl⟩
            rw [← e1683]
            have b1684 : -9223372036854775808 ≤ v1682 ∧ v1682 ≤ 9223372036854775807 := by
              rw [e1683]
              exact wL_shl _ _
            refine wp_of e260 c260_60 (rw_lor (pc' := 61) rfl ?_)
            obtain ⟨v1685, e1686⟩ : ∃ x : Int, x = wl_or v1634 v1682 := ⟨_, rfl⟩
            rw [← e1686]
            have b1687 : -9223372036854775808 ≤ v1685 ∧ v1685 ≤ 9223372036854775807 := by
              rw [e1686]
              exact wL_or _ _
            refine wp_of e260 c260_61 (rw_lstore_n (pc' := 62) (z := v1685) (L' := [(3, vL v1685), (5, vI v1633), (0, .ref r0), (1, vI a1)]) rfl rfl rfl ?_)
            refine wp_of e260 c260_62 (rw_iinc (pc' := 65) (z := v1633) (L' := [(5, vI (v1633 + 1)), (3, vL v1685), (0, .ref r0), (1, vI a1)]) rfl rfl rfl rfl ?_)
            refine wp_of e260 c260_65 (rw_goto (p1 := 31) (by decide) ?_)
            exact wp_lc (ks := [5, 3, 0, 1]) (wl_c rfl (wl_c rfl (wl_c rfl (wl_c rfl wl_n)))) rfl (by decide) (ih1632 _ (by omega) (v1633 + 1) v1685 H1669 w1673 f1676 ⟨by omega, by omega⟩ ⟨b1687.1, b1687.2⟩ rfl)
      exact wp_lc (ks := [5, 3, 2, 0, 1]) (wl_c rfl (wl_c rfl (wl_c rfl (wl_c rfl wl_n)))) rfl (by decide) (lp1630 _ 0 0 H1363 w1367 wfr.rf ⟨by decide, by decide⟩ ⟨by decide, by decide⟩ rfl)
    · exfalso
      omega
  · have f1688 := f1345.tr f1368 rfl
    show wp _ _ 260 14 [(0, .ref r0), (1, vI a1)] [vI z1369] _ H1363 _
    refine wp_of e260 c260_14 (rw_istore_n (pc' := 15) (z := z1369) (L' := [(2, vI z1369), (0, .ref r0), (1, vI a1)]) rfl rfl rfl ?_)
    refine wp_of e260 c260_15 (rw_iload_n (pc' := 16) (z := z1369) rfl rfl ?_)
    refine wp_of e260 c260_16 (rw_if_le (p1 := 26) (p2 := 19) (by decide) rfl ⟨Int.le_trans (by decide) b1370.1, Int.le_trans b1370.2 (by decide)⟩ (fun c1689 => ?_) (fun c1689 => ?_))
    · exfalso
      omega
    · refine wp_of e260 c260_19 (rw_aload_n (pc' := 20) (v := .ref r0) rfl rfl rfl ?_)
      refine wp_of e260 c260_20 (rw_iload_n (pc' := 21) (z := z1369) rfl rfl ?_)
      refine wp_of e260 c260_21 (xc_V (pc' := 24) (r := r0) (as := [vI z1369]) (st := []) (lm_9_54) rfl rfl (Nat.le_of_ble_eq_true rfl) w1367 g0 sh_42 (by decide) rfl (by decide) (s_170 w1367 g0 ⟨Int.le_trans (by decide) b1370.1, Int.le_trans b1370.2 (by decide)⟩) (fun R1690 T1691 H1692 p1693 => ?_))
      obtain ⟨e1694, w1696, f1697, z1698, e1695, b1699⟩ := p1693
      subst e1694
      subst e1695
      have f1700 := f1688.tr f1697 rfl
      show wp _ _ 260 24 [(2, vI z1369), (0, .ref r0), (1, vI a1)] [vI z1698] _ H1692 _
      refine wp_of e260 c260_24 (rw_i2l (pc' := 25) rfl ⟨b1699.1, b1699.2⟩ ?_)
      have k1701 : wKI H1692 r0 = wKI H1363 r0 := (wKI_fr w1367 g0 f1697 rfl)
      have h1702 : KNN T H1692 r0 e d := (KNN_fr w1367 g0 f1697 rfl a1387)
      exact wp_lreturn e260 c260_25 rfl ⟨rfl, w1696, f1700, z1698, rfl, ⟨Int.le_trans (by decide) b1699.1, Int.le_trans b1699.2 (by decide)⟩, ⟨by omega, h1702⟩⟩
